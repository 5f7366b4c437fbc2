/-- the number of pages, as the model counts them -/
def pgI (f : Nat → Int32) (ev pg : Nat) : Prop := (ev = 0 → pg = 0) ∧ (0 < ev → cl f 5 (ev - 1) + 1 = pg)
abbrev rX6_readAll : Room := { frames := 4, cells := 0, slots := 0, locals := 94 }
theorem flX6_readAll_124 : FL wsX6_readAll RX6 124 6 29 := ⟨RX6, TX6, 45, rfl, by decide, by decide +kernel, by decide +kernel⟩
theorem flX6_readAll_147 : FL wsX6_readAll RX6 147 6 6 := ⟨RX6, TX6, 45, rfl, by decide, by decide +kernel, by decide +kernel⟩
theorem fsX6_readAll_147 : FS wsX6_readAll RX6 147 6 6 false (.int) := ⟨RX6, TX6, 45, tyX6, rfl, by decide, by decide +kernel, by decide +kernel, tyX6_ok, nmX6, rfl, rfl, rfl⟩
theorem fsX6_readAll_150 : FS wsX6_readAll RX6 150 6 7 false (.int) := ⟨RX6, TX6, 45, tyX6, rfl, by decide, by decide +kernel, by decide +kernel, tyX6_ok, nmX6, rfl, rfl, rfl⟩
theorem flX6_readAll_38 : FL wsX6_readAll RX6 38 6 17 := ⟨RX6, TX6, 45, rfl, by decide, by decide +kernel, by decide +kernel⟩
theorem flX6_readAll_144 : FL wsX6_readAll RX6 144 6 5 := ⟨RX6, TX6, 45, rfl, by decide, by decide +kernel, by decide +kernel⟩
theorem flX6_readAll_162 : FL wsX6_readAll RX6 162 6 33 := ⟨RX6, TX6, 45, rfl, by decide, by decide +kernel, by decide +kernel⟩
theorem fsX6_readAll_162 : FS wsX6_readAll RX6 162 6 33 false (.int) := ⟨RX6, TX6, 45, tyX6, rfl, by decide, by decide +kernel, by decide +kernel, tyX6_ok, nmX6, rfl, rfl, rfl⟩
set_option maxHeartbeats 4000000 in
set_option maxRecDepth 100000 in
theorem l_a107 {t : Nat → Nat} {ln : Nat} {w0 : pW} {fs0 : List Value} {A : Nat → Nat} {mm : Nat} {R : Nat × Nat × RSt} (hAD : AD A mm) (ht : ∀ j, t j < 256) (hln : ln ≤ 2400) {rep me pa aS m8 : Nat} (hout : ∀ (w : pW) (fs : List Value) (a : Nat) (tkn : Nat) (sg : Nat) (nu : Int32) (sd : Nat) (mr : Nat) (cu : Nat) (rep : Nat) (np : Nat) (oc : Nat) (f : Nat → Int32) (ev : Nat) (be : Nat) (cq : Nat) (st : Nat) (me : Nat) (pa : Nat) (pg : Nat) (xk : Nat → Nat) (xm : Nat → Nat) (xp : Nat → Int32) (xb : Nat → Nat) (xs : Nat → Nat) (xe : Nat → Nat) (xg : Nat → Nat) (xl : Nat → Int32) (xi : Nat → Int32) (xc : Nat → Int32), ln + 2 - a < m8 → (w mm = some (.inr (6, fs))) → (RA A fs) → (FrI A [mm] [10, 11, 12, 13, 14, 15, 16, 17, 18, 19] w0 w) → (FF [5, 6, 7, 8, 9, 22, 24, 25, 26, 27, 28, 29, 30, 31, 32, 33] fs0 fs) → (fs[5]? = some (.int (nI ev))) → (fs[6]? = some (.int (nI me))) → (fs[8]? = some (.int (nI be))) → (fs[9]? = some (.int (nI cu))) → (fs[23]? = some (.int (nI ln))) → (fs[29]? = some (.int (nI 0))) → (fs[31]? = some (.int (nI mr))) → (fs[33]? = some (.int (nI rep))) → (fs[22]? = some (.int (nI ((tk t ln a).1)))) → (fs[24]? = some (.int (nI tkn))) → (fs[25]? = some (.int (nI sg))) → (fs[26]? = some (.int nu)) → (fs[27]? = some (.int (nI a))) → (fs[28]? = some (.int (nI ((tk t ln a).1)))) → (fs[7]? = some (.int (nI pg))) → (w (A 1) = some (.inl (0, 2400, .inl (fun j9 => nI (t j9))))) → (w (A 10) = some (.inl (0, 100, .inl (fun j9 => nI (xk j9))))) → (w (A 11) = some (.inl (0, 100, .inl (fun j9 => nI (xm j9))))) → (w (A 12) = some (.inl (0, 400, .inl xp))) → (w (A 13) = some (.inl (0, 100, .inl (fun j9 => nI (xb j9))))) → (w (A 14) = some (.inl (0, 100, .inl (fun j9 => nI (xs j9))))) → (w (A 15) = some (.inl (0, 100, .inl (fun j9 => nI (xe j9))))) → (w (A 16) = some (.inl (0, 100, .inl (fun j9 => nI (xg j9))))) → (w (A 17) = some (.inl (0, 100, .inl xl))) → (w (A 18) = some (.inl (2, 100, .inl xi))) → (w (A 19) = some (.inl (2, 100, .inl xc))) → (TS tkn sg (tkK t ln a)) → (NS nu (tkK t ln a) (tkV t ln a) ((tk t ln a).1 - a)) → (R = rR t ln a (sd, mr, cu, false, false, rep, np, oc, f, ev, be, cq, st, me, pa)) → (RJ (sd, mr, cu, false, false, rep, np, oc, f, ev, be, cq, st, me, pa)) → (a ≤ ln + 1) → (TBL xk xm xp xb xs xe xg xl xi xc f ev) → (sd = 1 ∨ (sd = 2 ∧ tkK t ln a ≠ 37)) → (pgI f ev pg) → J ((cX6_readAll, RX6, 2, wsX6_readAll), (rX6_readAll, none, "readAll", []), fun o w9 => o = .inl none ∧ ∃ fs9 : List Value, MU A mm [10, 11, 12, 13, 14, 15, 16, 17, 18, 19] [5, 6, 7, 8, 9, 22, 24, 25, 26, 27, 28, 29, 30, 31, 32, 33] w0 w9 fs0 fs9 ∧ ∃ (xk xm : Nat → Nat) (xp : Nat → Int32) (xb xs xe xg : Nat → Nat) (xl xi xc : Nat → Int32), TA A w9 xk xm xp xb xs xe xg xl xi xc ∧ (RFl fs9 R ∨ ∃ (a9 sd9 mr9 cu9 rep9 np9 oc9 : Nat) (f9 : Nat → Int32) (ev9 be9 cq9 st9 me9 pa9 pg9 : Nat), R = (0, a9, (sd9, mr9, cu9, false, false, rep9, np9, oc9, f9, ev9, be9, cq9, st9, me9, pa9)) ∧ RJ (sd9, mr9, cu9, false, false, rep9, np9, oc9, f9, ev9, be9, cq9, st9, me9, pa9) ∧ (sd9 = 1 ∨ sd9 = 2) ∧ fs9[5]? = some (.int (nI ev9)) ∧ fs9[6]? = some (.int (nI me9)) ∧ fs9[7]? = some (.int (nI pg9)) ∧ fs9[8]? = some (.int (nI be9)) ∧ fs9[9]? = some (.int (nI cu9)) ∧ fs9[29]? = some (.int (nI 0)) ∧ pgI f9 ev9 pg9 ∧ TBL xk xm xp xb xs xe xg xl xi xc f9 ev9), fun _ _ _ => True) 51 [(0, .ref mm), (1, .int (nI pa))] [] w 0 0) (hm8 : ln + 2 - aS ≤ m8) : ∀ (m9 : Nat) (w : pW) (fs : List Value) (a : Nat) (tkn : Nat) (sg : Nat) (nu : Int32) (sd : Nat) (mr : Nat) (cu : Nat) (np : Nat) (oc : Nat) (f : Nat → Int32) (ev : Nat) (be : Nat) (cq : Nat) (st : Nat) (xk : Nat → Nat) (xm : Nat → Nat) (xp : Nat → Int32) (xb : Nat → Nat) (xs : Nat → Nat) (xe : Nat → Nat) (xg : Nat → Nat) (xl : Nat → Int32) (xi : Nat → Int32) (xc : Nat → Int32), ln + 2 - a < m9 → (w mm = some (.inr (6, fs))) → (RA A fs) → (FrI A [mm] [10, 11, 12, 13, 14, 15, 16, 17, 18, 19] w0 w) → (FF [5, 6, 7, 8, 9, 22, 24, 25, 26, 27, 28, 29, 30, 31, 32, 33] fs0 fs) → (fs[5]? = some (.int (nI ev))) → (fs[6]? = some (.int (nI me))) → (fs[8]? = some (.int (nI be))) → (fs[9]? = some (.int (nI cu))) → (fs[23]? = some (.int (nI ln))) → (fs[29]? = some (.int (nI 0))) → (fs[31]? = some (.int (nI mr))) → (fs[33]? = some (.int (nI rep))) → (fs[22]? = some (.int (nI ((tk t ln a).1)))) → (fs[24]? = some (.int (nI tkn))) → (fs[25]? = some (.int (nI sg))) → (fs[26]? = some (.int nu)) → (fs[27]? = some (.int (nI a))) → (fs[28]? = some (.int (nI ((tk t ln a).1)))) → (w (A 1) = some (.inl (0, 2400, .inl (fun j9 => nI (t j9))))) → (w (A 10) = some (.inl (0, 100, .inl (fun j9 => nI (xk j9))))) → (w (A 11) = some (.inl (0, 100, .inl (fun j9 => nI (xm j9))))) → (w (A 12) = some (.inl (0, 400, .inl xp))) → (w (A 13) = some (.inl (0, 100, .inl (fun j9 => nI (xb j9))))) → (w (A 14) = some (.inl (0, 100, .inl (fun j9 => nI (xs j9))))) → (w (A 15) = some (.inl (0, 100, .inl (fun j9 => nI (xe j9))))) → (w (A 16) = some (.inl (0, 100, .inl (fun j9 => nI (xg j9))))) → (w (A 17) = some (.inl (0, 100, .inl xl))) → (w (A 18) = some (.inl (2, 100, .inl xi))) → (w (A 19) = some (.inl (2, 100, .inl xc))) → (TS tkn sg (tkK t ln a)) → (NS nu (tkK t ln a) (tkV t ln a) ((tk t ln a).1 - a)) → (R = rR t ln a (sd, mr, cu, false, false, rep, np, oc, f, ev, be, cq, st, me, pa)) → (RJ (sd, mr, cu, false, false, rep, np, oc, f, ev, be, cq, st, me, pa)) → (a ≤ ln + 1) → (TBL xk xm xp xb xs xe xg xl xi xc f ev) → (aS ≤ a) → (sd = 8 ∨ ((sd = 1 ∨ sd = 2 ∨ sd = 4) ∧ bM (tkK t ln a) = true)) → J ((cX6_readAll, RX6, 2, wsX6_readAll), (rX6_readAll, none, "readAll", []), fun o w9 => o = .inl none ∧ ∃ fs9 : List Value, MU A mm [10, 11, 12, 13, 14, 15, 16, 17, 18, 19] [5, 6, 7, 8, 9, 22, 24, 25, 26, 27, 28, 29, 30, 31, 32, 33] w0 w9 fs0 fs9 ∧ ∃ (xk xm : Nat → Nat) (xp : Nat → Int32) (xb xs xe xg : Nat → Nat) (xl xi xc : Nat → Int32), TA A w9 xk xm xp xb xs xe xg xl xi xc ∧ (RFl fs9 R ∨ ∃ (a9 sd9 mr9 cu9 rep9 np9 oc9 : Nat) (f9 : Nat → Int32) (ev9 be9 cq9 st9 me9 pa9 pg9 : Nat), R = (0, a9, (sd9, mr9, cu9, false, false, rep9, np9, oc9, f9, ev9, be9, cq9, st9, me9, pa9)) ∧ RJ (sd9, mr9, cu9, false, false, rep9, np9, oc9, f9, ev9, be9, cq9, st9, me9, pa9) ∧ (sd9 = 1 ∨ sd9 = 2) ∧ fs9[5]? = some (.int (nI ev9)) ∧ fs9[6]? = some (.int (nI me9)) ∧ fs9[7]? = some (.int (nI pg9)) ∧ fs9[8]? = some (.int (nI be9)) ∧ fs9[9]? = some (.int (nI cu9)) ∧ fs9[29]? = some (.int (nI 0)) ∧ pgI f9 ev9 pg9 ∧ TBL xk xm xp xb xs xe xg xl xi xc f9 ev9), fun _ _ _ => True) 107 [(0, .ref mm), (1, .int (nI pa))] [] w 0 0 := by
  intro m9
  induction m9 with
  | zero => intro w fs a tkn sg nu sd mr cu np oc f ev be cq st xk xm xp xb xs xe xg xl xi xc h9; omega
  | succ m9 ih =>
    intro w fs a tkn sg nu sd mr cu np oc f ev be cq st xk xm xp xb xs xe xg xl xi xc hm9 hmm hA hfr hff h5 h6 h8 h9 h23 h29 h31 h33 h22 h24 h25 h26 h27 h28 a1 a10 a11 a12 a13 a14 a15 a16 a17 a18 a19 hT hN hR hI ha hTB haS hsd
    have hTb := hT.1
    obtain ⟨i1, i2, i3, i4, i5, i6, i7⟩ := id hI.1
    refine j_aload_n dX6_readAll_107 0 rfl ?_
    refine j_get (v := .int (nI 0)) flX6_readAll_124 hmm h29 dX6_readAll_108 ?_
    refine j_if_neN 129 (by decide) dX6_readAll_111 (by decide) (fun h9 => absurd rfl h9) (fun _ => ?_)
    refine j_aload_n dX6_readAll_114 0 rfl ?_
    refine j_callV (rm := rX6_beginsMarked) (As := []) (st := []) (b0 := mm) (ci := 6) (na := 0) (m_beginsMarked hAD hmm hA h24 h25 hT) (by intro E w9 h9; first | exact nomatch h9.1 | (obtain ⟨_, h9, _⟩ := h9; exact nomatch h9) | (obtain ⟨_, _, _, h9, _⟩ := h9; exact nomatch h9)) gX6_readAll_X6_beginsMarked rfl rfl hmm (by decide +kernel) rfl ⟨Nat.le_of_ble_eq_true rfl, Nat.le_of_ble_eq_true rfl⟩ rfl (Nat.le_of_ble_eq_true rfl) dX6_readAll_115 ⟨(show 0 + 0 ≤ 0 by omega), (show 0 + 0 ≤ 0 by omega)⟩ (fun v1 w2 h3 => ?_)
    obtain ⟨h3, h4⟩ := h3
    cases h3
    subst w2
    refine j_after (st' := [.int (zb (bM (tkK t ln a)))]) (k' := 0) (n' := 0) rfl rfl rfl ?_
    by_cases hbm : bM (tkK t ln a) = true
    · skip
      refine j_eqi (y := nI 1) (by rw [hbm]; rfl) ?_
      refine j_if_eqN 129 (by decide) dX6_readAll_118 (by decide) (fun h9 => absurd h9 (by decide)) (fun _ => ?_)
      refine j_aload_n dX6_readAll_121 0 rfl ?_
      refine j_iload_n dX6_readAll_122 1 rfl ?_
      refine j_callV (rm := rX6_readMarked) (As := [.int (nI pa)]) (st := []) (b0 := mm) (ci := 6) (na := 1) (m_readMarked hAD hmm hA h5 h6 h8 h9 h23 h29 h31 h22 h24 h25 h26 h27 h28 a1 a10 a11 a12 a13 a14 a15 a16 a17 a18 a19 ht hln hT hN hR hI ha hTB (by omega) hbm) (by intro E w9 h9; first | exact nomatch h9.1 | (obtain ⟨_, h9, _⟩ := h9; exact nomatch h9) | (obtain ⟨_, _, _, h9, _⟩ := h9; exact nomatch h9)) gX6_readAll_X6_readMarked rfl rfl hmm (by decide +kernel) rfl ⟨Nat.le_of_ble_eq_true rfl, Nat.le_of_ble_eq_true rfl⟩ rfl (Nat.le_of_ble_eq_true rfl) dX6_readAll_123 ⟨(show 0 + 0 ≤ 0 by omega), (show 0 + 0 ≤ 0 by omega)⟩ (fun v31 w32 h33 => ?_)
      obtain ⟨h30, fs26, ⟨hfr27, hm28, hff29⟩, xk5, xm6, xp7, xb8, xs9, xe10, xg11, xl12, xi13, xc14, ⟨f15, f16, f17, f18, f19, f20, f21, f22, f23, f24⟩, hcase25⟩ := h33
      cases h30
      refine j_after (st' := []) (k' := 0) (n' := 0) rfl rfl rfl ?_
      have r34 : RA A fs26 := RA.ff hA hff29 rfl
      rcases hcase25 with ⟨hF1, hF2, hF3, hF4⟩ | ⟨a9, mr9, cu9, np9, oc9, f9, ev9, be9, cq9, st9, hl9, ha9, hR9, hI9, v35, v36, v37, v38, v39, ⟨tkn9, sg9, nu9, v40, v41, v42, v43, v44, v45, hT9, hN9⟩, hTB9⟩
      · skip
        refine j_goto 107 dX6_readAll_126 (by decide) ?_
        refine j_aload_n dX6_readAll_107 0 rfl ?_
        refine j_get (v := .int (nI R.1)) flX6_readAll_124 hm28 hF3 dX6_readAll_108 ?_
        refine j_if_neN 129 (by omega) dX6_readAll_111 (by decide) (fun c111 => ?_) (fun c111 => ?_)
        · skip
          refine j_aload_n dX6_readAll_129 0 rfl ?_
          refine j_get (v := .int (nI R.1)) flX6_readAll_124 hm28 hF3 dX6_readAll_130 ?_
          refine j_if_eqN 137 (by omega) dX6_readAll_133 (by decide) (fun c133 => ?_) (fun c133 => ?_)
          · skip
            exfalso; omega
          · skip
            exact j_vret rfl ⟨rfl, _, ⟨((FrI.mono hfr (by simp) rfl : FrI A [mm] [10, 11, 12, 13, 14, 15, 16, 17, 18, 19] w0 _).trans (FrI.sub hfr27 rfl)), hm28, ((FF.mono hff rfl : FF [5, 6, 7, 8, 9, 22, 24, 25, 26, 27, 28, 29, 30, 31, 32, 33] fs0 _).trans (FF.mono hff29 rfl))⟩, _, _, _, _, _, _, _, _, _, _, ⟨f15, f16, f17, f18, f19, f20, f21, f22, f23, f24⟩, Or.inl ⟨hF1, hF2, hF3, hF4⟩⟩ (show 0 ≤ 0 by omega) (show 0 ≤ 0 by omega) dX6_readAll_136
        · skip
          exfalso; omega
      · skip
        refine j_goto 107 dX6_readAll_126 (by decide) ?_
        have v46 := (FF.at hff29 rfl h6)
        have v47 := (FF.at hff29 rfl h23)
        have v48 := (FF.at hff29 rfl h33)
        have f49 := (FrI.a1 hfr27 hAD rfl rfl rfl a1)
        exact ih _ _ _ _ _ _ _ _ _ _ _ _ _ _ _ _ _ _ _ _ _ _ _ _ _ _ (by omega) hm28 r34 ((FrI.mono hfr (by simp) rfl : FrI A [mm] [10, 11, 12, 13, 14, 15, 16, 17, 18, 19] w0 _).trans (FrI.sub hfr27 rfl)) ((FF.mono hff rfl : FF [5, 6, 7, 8, 9, 22, 24, 25, 26, 27, 28, 29, 30, 31, 32, 33] fs0 _).trans (FF.mono hff29 rfl)) v35 v46 v36 v37 v47 v38 v39 v48 v40 v41 v42 v43 v44 v45 f49 f15 f16 f17 f18 f19 f20 f21 f22 f23 f24 hT9 hN9 hR9 hI9 ha9 hTB9 (by omega) (Or.inl rfl)
    · skip
      have hbm0 : bM (tkK t ln a) = false := by simpa using hbm
      refine j_eqi (y := nI 0) (by rw [hbm0]; rfl) ?_
      refine j_if_eqN 129 (by decide) dX6_readAll_118 (by decide) (fun _ => ?_) (fun h9 => absurd rfl h9)
      refine j_aload_n dX6_readAll_129 0 rfl ?_
      refine j_get (v := .int (nI 0)) flX6_readAll_124 hmm h29 dX6_readAll_130 ?_
      refine j_if_eqN 137 (by decide) dX6_readAll_133 (by decide) (fun _ => ?_) (fun h9 => absurd rfl h9)
      have hs8 : sd = 8 := hsd.elim id (fun q => absurd q.2 hbm)
      subst hs8
      obtain ⟨e81, e82, e83⟩ := hI.2.2.2.2.1 rfl
      refine j_aload_n dX6_readAll_137 0 rfl ?_
      refine j_bipush (v := nI 124) dX6_readAll_138 (by decide) ?_
      refine j_callV (rm := rX6_isSign) (As := [.int (nI 124)]) (st := []) (b0 := mm) (ci := 6) (na := 1) (m_isSign (c := 124) hAD hmm hA h24 h25 hT rfl (by decide)) (by intro E w9 h9; first | exact nomatch h9.1 | (obtain ⟨_, h9, _⟩ := h9; exact nomatch h9) | (obtain ⟨_, _, _, h9, _⟩ := h9; exact nomatch h9)) gX6_readAll_X6_isSign rfl rfl hmm (by decide +kernel) rfl ⟨Nat.le_of_ble_eq_true rfl, Nat.le_of_ble_eq_true rfl⟩ rfl (Nat.le_of_ble_eq_true rfl) dX6_readAll_140 ⟨(show 0 + 0 ≤ 0 by omega), (show 0 + 0 ≤ 0 by omega)⟩ (fun v50 w51 h52 => ?_)
      obtain ⟨h52, h53⟩ := h52
      cases h52
      subst w51
      refine j_after (st' := [.int (zb (decide (tkK t ln a = 124)))]) (k' := 0) (n' := 0) rfl rfl rfl ?_
      by_cases hk124 : tkK t ln a = 124
      · skip
        refine j_eqi (y := nI 1) (by rw [decide_eq_true hk124]; rfl) ?_
        refine j_if_neN 162 (by decide) dX6_readAll_143 (by decide) (fun _ => ?_) (fun h9 => absurd h9 (by decide))
        have hk5 : ¬ tkK t ln a = 5 := by omega
        refine j_aload_n dX6_readAll_162 0 rfl ?_
        refine j_sipush (v := nI 257) dX6_readAll_163 (by decide) ?_
        refine j_callV (rm := rX6_isSign) (As := [.int (nI 257)]) (st := []) (b0 := mm) (ci := 6) (na := 1) (m_isSign (c := 257) hAD hmm hA h24 h25 hT rfl (by decide)) (by intro E w9 h9; first | exact nomatch h9.1 | (obtain ⟨_, h9, _⟩ := h9; exact nomatch h9) | (obtain ⟨_, _, _, h9, _⟩ := h9; exact nomatch h9)) gX6_readAll_X6_isSign rfl rfl hmm (by decide +kernel) rfl ⟨Nat.le_of_ble_eq_true rfl, Nat.le_of_ble_eq_true rfl⟩ rfl (Nat.le_of_ble_eq_true rfl) dX6_readAll_166 ⟨(show 0 + 0 ≤ 0 by omega), (show 0 + 0 ≤ 0 by omega)⟩ (fun v54 w55 h56 => ?_)
        obtain ⟨h56, h57⟩ := h56
        cases h56
        subst w55
        refine j_after (st' := [.int (zb (decide (tkK t ln a = 5)))]) (k' := 0) (n' := 0) rfl rfl rfl ?_
        refine j_eqi (y := nI 0) (by rw [decide_eq_false hk5]; rfl) ?_
        refine j_if_eqN 195 (by decide) dX6_readAll_169 (by decide) (fun _ => ?_) (fun h9 => absurd rfl h9)
        refine j_aload_n dX6_readAll_195 0 rfl ?_
        refine j_dup dX6_readAll_196 rfl ?_
        refine j_get (v := .int (nI me)) flX6_readAll_147 hmm h6 dX6_readAll_197 ?_
        refine j_iconst (v := nI 1) dX6_readAll_200 (by decide) ?_
        refine j_iaddN dX6_readAll_201 ?_
        refine j_putM fsX6_readAll_147 hmm rfl rfl (RA.lt hA (by decide)) dX6_readAll_202 (fun w58 fs59 sfs59 hw58 => ?_)
        have f60 : w58 mm = some (.inr (6, fs59)) := up_at hw58
        have rfs59 : RA A fs59 := RA.set hA sfs59 rfl
        have v61 := st_at sfs59 hA (by decide : 6 < 45)
        refine j_aload_n dX6_readAll_205 0 rfl ?_
        refine j_iload_n dX6_readAll_206 1 rfl ?_
        refine j_iconst (v := nI 1) dX6_readAll_207 (by decide) ?_
        refine j_iaddN dX6_readAll_208 ?_
        refine j_putM fsX6_readAll_150 f60 rfl rfl (RA.lt rfs59 (by decide)) dX6_readAll_209 (fun w62 fs63 sfs63 hw62 => ?_)
        have f64 : w62 mm = some (.inr (6, fs63)) := up_at hw62
        have rfs63 : RA A fs63 := RA.set rfs59 sfs63 rfl
        have v65 := st_at sfs63 rfs59 (by decide : 7 < 45)
        obtain ⟨hR66, hI67, hb68, hl69⟩ := rR_go (s1 := (2, mr, cu, false, false, rep, np, oc, f, ev, be, cq, st, me + 1, pa)) ht hR (f0 hk124 (by decide) (by decide)) (by omega) (by rw [hk124]; rfl) hI ha
        have hpg8 : pgI f ev (pa + 1) := ⟨fun q => by omega, fun _ => by omega⟩
        refine j_aload_n dX6_readAll_212 0 rfl ?_
        obtain ⟨az70, haz70⟩ : ∃ z, tkN t ln a = z := ⟨_, rfl⟩
        have v82 := (st_ne sfs63 rfl (st_ne sfs59 rfl h22))
        have v83 := (st_ne sfs63 rfl (st_ne sfs59 rfl h23))
        have v84 := (st_ne sfs63 rfl (st_ne sfs59 rfl h26))
        have f85 := (up_ne hw62 (AD.nm hAD 1 rfl) (up_ne hw58 (AD.nm hAD 1 rfl) a1))
        refine j_callV (rm := rX6_next) (As := []) (st := []) (b0 := mm) (ci := 6) (na := 0) (m_next1 (a := az70) hAD f64 rfs63 v82 v83 v84 f85 ht hln (tkN_bd ha).2.1 haz70) (by intro E w9 h9; first | exact nomatch h9.1 | (obtain ⟨_, h9, _⟩ := h9; exact nomatch h9) | (obtain ⟨_, _, _, h9, _⟩ := h9; exact nomatch h9)) gX6_readAll_X6_next rfl rfl f64 (by decide +kernel) rfl ⟨Nat.le_of_ble_eq_true rfl, Nat.le_of_ble_eq_true rfl⟩ rfl (Nat.le_of_ble_eq_true rfl) dX6_readAll_213 ⟨(show 0 + 0 ≤ 0 by omega), (show 0 + 0 ≤ 0 by omega)⟩ (fun v91 w92 h93 => ?_)
        obtain ⟨h90, fs86, ⟨hfr87, hm88, hff89⟩, ⟨tkn71, sg72, nu73, v76, v77, v78, v79, v80, v81, hT74, hN75⟩⟩ := h93
        cases h90
        refine j_after (st' := []) (k' := 0) (n' := 0) rfl rfl rfl ?_
        have r94 : RA A fs86 := RA.ff rfs63 hff89 rfl
        have hT74b := hT74.1
        rw [haz70] at hR66 hb68 hl69
        refine j_aload_n dX6_readAll_216 0 rfl ?_
        refine j_bipush (v := nI 37) dX6_readAll_217 (by decide) ?_
        refine j_callV (rm := rX6_isSign) (As := [.int (nI 37)]) (st := []) (b0 := mm) (ci := 6) (na := 1) (m_isSign (c := 37) hAD hm88 r94 v77 v78 hT74 rfl (by decide)) (by intro E w9 h9; first | exact nomatch h9.1 | (obtain ⟨_, h9, _⟩ := h9; exact nomatch h9) | (obtain ⟨_, _, _, h9, _⟩ := h9; exact nomatch h9)) gX6_readAll_X6_isSign rfl rfl hm88 (by decide +kernel) rfl ⟨Nat.le_of_ble_eq_true rfl, Nat.le_of_ble_eq_true rfl⟩ rfl (Nat.le_of_ble_eq_true rfl) dX6_readAll_219 ⟨(show 0 + 0 ≤ 0 by omega), (show 0 + 0 ≤ 0 by omega)⟩ (fun v95 w96 h97 => ?_)
        obtain ⟨h97, h98⟩ := h97
        cases h97
        subst w96
        refine j_after (st' := [.int (zb (decide (tkK t ln az70 = 37)))]) (k' := 0) (n' := 0) rfl rfl rfl ?_
        by_cases hk37 : tkK t ln az70 = 37
        · skip
          refine j_eqi (y := nI 1) (by rw [decide_eq_true hk37]; rfl) ?_
          refine j_if_eqN 51 (by decide) dX6_readAll_222 (by decide) (fun h9 => absurd h9 (by decide)) (fun _ => ?_)
          refine j_iinc (q := 1) (v := nI (pa + 1)) (lv' := [(1, .int (nI (pa + 1))), (0, .ref mm)]) dX6_readAll_225 rfl (by first | exact nI_1 _ | exact nI_add _ _) (Nat.le_of_ble_eq_true rfl) rfl ?_
          obtain ⟨hR99, hI100, hb101, hl102⟩ := rR_go (s1 := (1, mr, cu, false, false, rep, np, oc, f, ev, be, cq, st, me + 1, pa + 1)) ht hR66 (f0 hk37 (by decide) (by decide)) (by omega) (by rw [hk37]; rfl) hI67 hb68
          refine j_aload_n dX6_readAll_228 1 rfl ?_
          obtain ⟨az103, haz103⟩ : ∃ z, tkN t ln az70 = z := ⟨_, rfl⟩
          have v115 := (FF.at hff89 rfl v83)
          have f116 := (FrI.a1 hfr87 hAD rfl rfl rfl f85)
          refine j_callV (rm := rX6_next) (As := []) (st := []) (b0 := mm) (ci := 6) (na := 0) (m_next1 (a := az103) hAD hm88 r94 v76 v115 v79 f116 ht hln (tkN_bd hb68).2.1 haz103) (by intro E w9 h9; first | exact nomatch h9.1 | (obtain ⟨_, h9, _⟩ := h9; exact nomatch h9) | (obtain ⟨_, _, _, h9, _⟩ := h9; exact nomatch h9)) gX6_readAll_X6_next rfl rfl hm88 (by decide +kernel) rfl ⟨Nat.le_of_ble_eq_true rfl, Nat.le_of_ble_eq_true rfl⟩ rfl (Nat.le_of_ble_eq_true rfl) dX6_readAll_229 ⟨(show 0 + 0 ≤ 0 by omega), (show 0 + 0 ≤ 0 by omega)⟩ (fun v122 w123 h124 => ?_)
          obtain ⟨h121, fs117, ⟨hfr118, hm119, hff120⟩, ⟨tkn104, sg105, nu106, v109, v110, v111, v112, v113, v114, hT107, hN108⟩⟩ := h124
          cases h121
          refine j_after (st' := []) (k' := 0) (n' := 0) rfl rfl rfl ?_
          have r125 : RA A fs117 := RA.ff r94 hff120 rfl
          have hT107b := hT107.1
          rw [haz103] at hR99 hb101 hl102
          refine j_goto 51 dX6_readAll_232 (by decide) ?_
          refine j_lv (lv' := [(0, .ref mm), (1, .int (nI (pa + 1)))]) [1, 0] rfl ?_
          have v126 := (FF.at hff120 rfl (FF.at hff89 rfl (st_ne sfs63 rfl (st_ne sfs59 rfl h5))))
          have v127 := (FF.at hff120 rfl (FF.at hff89 rfl (st_ne sfs63 rfl v61)))
          have v128 := (FF.at hff120 rfl (FF.at hff89 rfl (st_ne sfs63 rfl (st_ne sfs59 rfl h8))))
          have v129 := (FF.at hff120 rfl (FF.at hff89 rfl (st_ne sfs63 rfl (st_ne sfs59 rfl h9))))
          have v130 := (FF.at hff120 rfl v115)
          have v131 := (FF.at hff120 rfl (FF.at hff89 rfl (st_ne sfs63 rfl (st_ne sfs59 rfl h29))))
          have v132 := (FF.at hff120 rfl (FF.at hff89 rfl (st_ne sfs63 rfl (st_ne sfs59 rfl h31))))
          have v133 := (FF.at hff120 rfl (FF.at hff89 rfl (st_ne sfs63 rfl (st_ne sfs59 rfl h33))))
          have v134 := (FF.at hff120 rfl (FF.at hff89 rfl v65))
          have f135 := (FrI.a1 hfr118 hAD rfl rfl rfl f116)
          have f136 := (FrI.a1 hfr118 hAD rfl rfl rfl (FrI.a1 hfr87 hAD rfl rfl rfl (up_ne hw62 (AD.nm hAD 10 rfl) (up_ne hw58 (AD.nm hAD 10 rfl) a10))))
          have f137 := (FrI.a1 hfr118 hAD rfl rfl rfl (FrI.a1 hfr87 hAD rfl rfl rfl (up_ne hw62 (AD.nm hAD 11 rfl) (up_ne hw58 (AD.nm hAD 11 rfl) a11))))
          have f138 := (FrI.a1 hfr118 hAD rfl rfl rfl (FrI.a1 hfr87 hAD rfl rfl rfl (up_ne hw62 (AD.nm hAD 12 rfl) (up_ne hw58 (AD.nm hAD 12 rfl) a12))))
          have f139 := (FrI.a1 hfr118 hAD rfl rfl rfl (FrI.a1 hfr87 hAD rfl rfl rfl (up_ne hw62 (AD.nm hAD 13 rfl) (up_ne hw58 (AD.nm hAD 13 rfl) a13))))
          have f140 := (FrI.a1 hfr118 hAD rfl rfl rfl (FrI.a1 hfr87 hAD rfl rfl rfl (up_ne hw62 (AD.nm hAD 14 rfl) (up_ne hw58 (AD.nm hAD 14 rfl) a14))))
          have f141 := (FrI.a1 hfr118 hAD rfl rfl rfl (FrI.a1 hfr87 hAD rfl rfl rfl (up_ne hw62 (AD.nm hAD 15 rfl) (up_ne hw58 (AD.nm hAD 15 rfl) a15))))
          have f142 := (FrI.a1 hfr118 hAD rfl rfl rfl (FrI.a1 hfr87 hAD rfl rfl rfl (up_ne hw62 (AD.nm hAD 16 rfl) (up_ne hw58 (AD.nm hAD 16 rfl) a16))))
          have f143 := (FrI.a1 hfr118 hAD rfl rfl rfl (FrI.a1 hfr87 hAD rfl rfl rfl (up_ne hw62 (AD.nm hAD 17 rfl) (up_ne hw58 (AD.nm hAD 17 rfl) a17))))
          have f144 := (FrI.a1 hfr118 hAD rfl rfl rfl (FrI.a1 hfr87 hAD rfl rfl rfl (up_ne hw62 (AD.nm hAD 18 rfl) (up_ne hw58 (AD.nm hAD 18 rfl) a18))))
          have f145 := (FrI.a1 hfr118 hAD rfl rfl rfl (FrI.a1 hfr87 hAD rfl rfl rfl (up_ne hw62 (AD.nm hAD 19 rfl) (up_ne hw58 (AD.nm hAD 19 rfl) a19))))
          exact hout _ _ _ _ _ _ _ _ _ _ _ _ _ _ _ _ _ _ _ _ _ _ _ _ _ _ _ _ _ _ (by omega) hm119 r125 (((((FrI.mono hfr (by simp) rfl : FrI A [mm] [10, 11, 12, 13, 14, 15, 16, 17, 18, 19] w0 _).trans (FrI.ux hw58 (by simp))).trans (FrI.ux hw62 (by simp))).trans (FrI.sub hfr87 rfl)).trans (FrI.sub hfr118 rfl)) (((((FF.mono hff rfl : FF [5, 6, 7, 8, 9, 22, 24, 25, 26, 27, 28, 29, 30, 31, 32, 33] fs0 _).trans (FF.set sfs59 rfl)).trans (FF.set sfs63 rfl)).trans (FF.mono hff89 rfl)).trans (FF.mono hff120 rfl)) v126 v127 v128 v129 v130 v131 v132 v133 v109 v110 v111 v112 v113 v114 v134 f135 f136 f137 f138 f139 f140 f141 f142 f143 f144 f145 hT107 hN108 hR99 hI100 hb101 hTB (Or.inl rfl) hpg8
        · skip
          refine j_eqi (y := nI 0) (by rw [decide_eq_false hk37]; rfl) ?_
          refine j_if_eqN 51 (by decide) dX6_readAll_222 (by decide) (fun _ => ?_) (fun h9 => absurd rfl h9)
          refine j_lv (lv' := [(0, .ref mm), (1, .int (nI pa))]) [0, 1] rfl ?_
          have v146 := (FF.at hff89 rfl (st_ne sfs63 rfl (st_ne sfs59 rfl h5)))
          have v147 := (FF.at hff89 rfl (st_ne sfs63 rfl v61))
          have v148 := (FF.at hff89 rfl (st_ne sfs63 rfl (st_ne sfs59 rfl h8)))
          have v149 := (FF.at hff89 rfl (st_ne sfs63 rfl (st_ne sfs59 rfl h9)))
          have v150 := (FF.at hff89 rfl v83)
          have v151 := (FF.at hff89 rfl (st_ne sfs63 rfl (st_ne sfs59 rfl h29)))
          have v152 := (FF.at hff89 rfl (st_ne sfs63 rfl (st_ne sfs59 rfl h31)))
          have v153 := (FF.at hff89 rfl (st_ne sfs63 rfl (st_ne sfs59 rfl h33)))
          have v154 := (FF.at hff89 rfl v65)
          have f155 := (FrI.a1 hfr87 hAD rfl rfl rfl f85)
          have f156 := (FrI.a1 hfr87 hAD rfl rfl rfl (up_ne hw62 (AD.nm hAD 10 rfl) (up_ne hw58 (AD.nm hAD 10 rfl) a10)))
          have f157 := (FrI.a1 hfr87 hAD rfl rfl rfl (up_ne hw62 (AD.nm hAD 11 rfl) (up_ne hw58 (AD.nm hAD 11 rfl) a11)))
          have f158 := (FrI.a1 hfr87 hAD rfl rfl rfl (up_ne hw62 (AD.nm hAD 12 rfl) (up_ne hw58 (AD.nm hAD 12 rfl) a12)))
          have f159 := (FrI.a1 hfr87 hAD rfl rfl rfl (up_ne hw62 (AD.nm hAD 13 rfl) (up_ne hw58 (AD.nm hAD 13 rfl) a13)))
          have f160 := (FrI.a1 hfr87 hAD rfl rfl rfl (up_ne hw62 (AD.nm hAD 14 rfl) (up_ne hw58 (AD.nm hAD 14 rfl) a14)))
          have f161 := (FrI.a1 hfr87 hAD rfl rfl rfl (up_ne hw62 (AD.nm hAD 15 rfl) (up_ne hw58 (AD.nm hAD 15 rfl) a15)))
          have f162 := (FrI.a1 hfr87 hAD rfl rfl rfl (up_ne hw62 (AD.nm hAD 16 rfl) (up_ne hw58 (AD.nm hAD 16 rfl) a16)))
          have f163 := (FrI.a1 hfr87 hAD rfl rfl rfl (up_ne hw62 (AD.nm hAD 17 rfl) (up_ne hw58 (AD.nm hAD 17 rfl) a17)))
          have f164 := (FrI.a1 hfr87 hAD rfl rfl rfl (up_ne hw62 (AD.nm hAD 18 rfl) (up_ne hw58 (AD.nm hAD 18 rfl) a18)))
          have f165 := (FrI.a1 hfr87 hAD rfl rfl rfl (up_ne hw62 (AD.nm hAD 19 rfl) (up_ne hw58 (AD.nm hAD 19 rfl) a19)))
          exact hout _ _ _ _ _ _ _ _ _ _ _ _ _ _ _ _ _ _ _ _ _ _ _ _ _ _ _ _ _ _ (by omega) hm88 r94 ((((FrI.mono hfr (by simp) rfl : FrI A [mm] [10, 11, 12, 13, 14, 15, 16, 17, 18, 19] w0 _).trans (FrI.ux hw58 (by simp))).trans (FrI.ux hw62 (by simp))).trans (FrI.sub hfr87 rfl)) ((((FF.mono hff rfl : FF [5, 6, 7, 8, 9, 22, 24, 25, 26, 27, 28, 29, 30, 31, 32, 33] fs0 _).trans (FF.set sfs59 rfl)).trans (FF.set sfs63 rfl)).trans (FF.mono hff89 rfl)) v146 v147 v148 v149 v150 v151 v152 v153 v76 v77 v78 v79 v80 v81 v154 f155 f156 f157 f158 f159 f160 f161 f162 f163 f164 f165 hT74 hN75 hR66 hI67 hb68 hTB (Or.inr ⟨rfl, hk37⟩) hpg8
      · skip
        refine j_eqi (y := nI 0) (by rw [decide_eq_false hk124]; rfl) ?_
        refine j_if_neN 162 (by decide) dX6_readAll_143 (by decide) (fun h9 => absurd rfl h9) (fun _ => ?_)
        refine j_aload_n dX6_readAll_146 0 rfl ?_
        refine j_sipush (v := nI 257) dX6_readAll_147 (by decide) ?_
        refine j_callV (rm := rX6_isSign) (As := [.int (nI 257)]) (st := []) (b0 := mm) (ci := 6) (na := 1) (m_isSign (c := 257) hAD hmm hA h24 h25 hT rfl (by decide)) (by intro E w9 h9; first | exact nomatch h9.1 | (obtain ⟨_, h9, _⟩ := h9; exact nomatch h9) | (obtain ⟨_, _, _, h9, _⟩ := h9; exact nomatch h9)) gX6_readAll_X6_isSign rfl rfl hmm (by decide +kernel) rfl ⟨Nat.le_of_ble_eq_true rfl, Nat.le_of_ble_eq_true rfl⟩ rfl (Nat.le_of_ble_eq_true rfl) dX6_readAll_150 ⟨(show 0 + 0 ≤ 0 by omega), (show 0 + 0 ≤ 0 by omega)⟩ (fun v166 w167 h168 => ?_)
        obtain ⟨h168, h169⟩ := h168
        cases h168
        subst w167
        refine j_after (st' := [.int (zb (decide (tkK t ln a = 5)))]) (k' := 0) (n' := 0) rfl rfl rfl ?_
        by_cases hk5 : tkK t ln a = 5
        · skip
          refine j_eqi (y := nI 1) (by rw [decide_eq_true hk5]; rfl) ?_
          refine j_if_neN 162 (by decide) dX6_readAll_153 (by decide) (fun _ => ?_) (fun h9 => absurd h9 (by decide))
          refine j_aload_n dX6_readAll_162 0 rfl ?_
          refine j_sipush (v := nI 257) dX6_readAll_163 (by decide) ?_
          refine j_callV (rm := rX6_isSign) (As := [.int (nI 257)]) (st := []) (b0 := mm) (ci := 6) (na := 1) (m_isSign (c := 257) hAD hmm hA h24 h25 hT rfl (by decide)) (by intro E w9 h9; first | exact nomatch h9.1 | (obtain ⟨_, h9, _⟩ := h9; exact nomatch h9) | (obtain ⟨_, _, _, h9, _⟩ := h9; exact nomatch h9)) gX6_readAll_X6_isSign rfl rfl hmm (by decide +kernel) rfl ⟨Nat.le_of_ble_eq_true rfl, Nat.le_of_ble_eq_true rfl⟩ rfl (Nat.le_of_ble_eq_true rfl) dX6_readAll_166 ⟨(show 0 + 0 ≤ 0 by omega), (show 0 + 0 ≤ 0 by omega)⟩ (fun v170 w171 h172 => ?_)
          obtain ⟨h172, h173⟩ := h172
          cases h172
          subst w171
          refine j_after (st' := [.int (zb (decide (tkK t ln a = 5)))]) (k' := 0) (n' := 0) rfl rfl rfl ?_
          refine j_eqi (y := nI 1) (by rw [decide_eq_true hk5]; rfl) ?_
          refine j_if_eqN 195 (by decide) dX6_readAll_169 (by decide) (fun h9 => absurd h9 (by decide)) (fun _ => ?_)
          refine j_aload_n dX6_readAll_172 0 rfl ?_
          refine j_get (v := .ref (A 17)) flX6_readAll_38 hmm (hA.2 17 rfl) dX6_readAll_173 ?_
          refine j_aload_n dX6_readAll_176 0 rfl ?_
          refine j_get (v := .int (nI ev)) flX6_readAll_144 hmm h5 dX6_readAll_177 ?_
          refine j_iconst (v := nI 1) dX6_readAll_180 (by decide) ?_
          refine j_isubN (by omega) dX6_readAll_181 ?_
          refine j_aload_n dX6_readAll_182 0 rfl ?_
          refine j_get (v := .int (nI rep)) flX6_readAll_162 hmm h33 dX6_readAll_183 ?_
          refine j_iastN (j := ev - 1) a17 rfl (by omega) (by omega) dX6_readAll_186 ?_
          refine j_w (fun w174 hw174 => ?_)
          have f175 : w174 (A 17) = some (.inl (0, 100, .inl (upd xl (ev - 1) (nI rep)))) := up_at hw174
          refine j_aload_n dX6_readAll_187 0 rfl ?_
          refine j_aload_n dX6_readAll_188 0 rfl ?_
          have f176 := (up_ne hw174 (AD.mn hAD 17 rfl) hmm)
          refine j_get (v := .int (nI ev)) flX6_readAll_144 f176 h5 dX6_readAll_189 ?_
          refine j_putM fsX6_readAll_162 f176 rfl rfl (RA.lt hA (by decide)) dX6_readAll_192 (fun w177 fs178 sfs178 hw177 => ?_)
          have f179 : w177 mm = some (.inr (6, fs178)) := up_at hw177
          have rfs178 : RA A fs178 := RA.set hA sfs178 rfl
          have v180 := st_at sfs178 hA (by decide : 33 < 45)
          refine j_aload_n dX6_readAll_195 0 rfl ?_
          refine j_dup dX6_readAll_196 rfl ?_
          have v181 := (st_ne sfs178 rfl h6)
          refine j_get (v := .int (nI me)) flX6_readAll_147 f179 v181 dX6_readAll_197 ?_
          refine j_iconst (v := nI 1) dX6_readAll_200 (by decide) ?_
          refine j_iaddN dX6_readAll_201 ?_
          refine j_putM fsX6_readAll_147 f179 rfl rfl (RA.lt rfs178 (by decide)) dX6_readAll_202 (fun w182 fs183 sfs183 hw182 => ?_)
          have f184 : w182 mm = some (.inr (6, fs183)) := up_at hw182
          have rfs183 : RA A fs183 := RA.set rfs178 sfs183 rfl
          have v185 := st_at sfs183 rfs178 (by decide : 6 < 45)
          refine j_aload_n dX6_readAll_205 0 rfl ?_
          refine j_iload_n dX6_readAll_206 1 rfl ?_
          refine j_iconst (v := nI 1) dX6_readAll_207 (by decide) ?_
          refine j_iaddN dX6_readAll_208 ?_
          refine j_putM fsX6_readAll_150 f184 rfl rfl (RA.lt rfs183 (by decide)) dX6_readAll_209 (fun w186 fs187 sfs187 hw186 => ?_)
          have f188 : w186 mm = some (.inr (6, fs187)) := up_at hw186
          have rfs187 : RA A fs187 := RA.set rfs183 sfs187 rfl
          have v189 := st_at sfs187 rfs183 (by decide : 7 < 45)
          obtain ⟨hR190, hI191, hb192, hl193⟩ := rR_go (s1 := (2, mr, cu, false, false, ev, np, oc, upd f ((ev - 1) * 14 + 8) (nI rep), ev, be, cq, st, me + 1, pa)) ht hR (f0 hk5 (by decide) (by decide)) (by omega) (by rw [hk5]; rfl) hI ha
          have htb8 := tb_rep (rep := rep) hTB
          have hpg8 : pgI (upd f ((ev - 1) * 14 + 8) (nI rep)) ev (pa + 1) := ⟨fun q => by omega, fun _ => by rw [cl_cg (pk_un (by omega))]; omega⟩
          refine j_aload_n dX6_readAll_212 0 rfl ?_
          obtain ⟨az194, haz194⟩ : ∃ z, tkN t ln a = z := ⟨_, rfl⟩
          have v206 := (st_ne sfs187 rfl (st_ne sfs183 rfl (st_ne sfs178 rfl h22)))
          have v207 := (st_ne sfs187 rfl (st_ne sfs183 rfl (st_ne sfs178 rfl h23)))
          have v208 := (st_ne sfs187 rfl (st_ne sfs183 rfl (st_ne sfs178 rfl h26)))
          have f209 := (up_ne hw186 (AD.nm hAD 1 rfl) (up_ne hw182 (AD.nm hAD 1 rfl) (up_ne hw177 (AD.nm hAD 1 rfl) (up_ne hw174 (AD.ne hAD 1 17 rfl rfl rfl) a1))))
          refine j_callV (rm := rX6_next) (As := []) (st := []) (b0 := mm) (ci := 6) (na := 0) (m_next1 (a := az194) hAD f188 rfs187 v206 v207 v208 f209 ht hln (tkN_bd ha).2.1 haz194) (by intro E w9 h9; first | exact nomatch h9.1 | (obtain ⟨_, h9, _⟩ := h9; exact nomatch h9) | (obtain ⟨_, _, _, h9, _⟩ := h9; exact nomatch h9)) gX6_readAll_X6_next rfl rfl f188 (by decide +kernel) rfl ⟨Nat.le_of_ble_eq_true rfl, Nat.le_of_ble_eq_true rfl⟩ rfl (Nat.le_of_ble_eq_true rfl) dX6_readAll_213 ⟨(show 0 + 0 ≤ 0 by omega), (show 0 + 0 ≤ 0 by omega)⟩ (fun v215 w216 h217 => ?_)
          obtain ⟨h214, fs210, ⟨hfr211, hm212, hff213⟩, ⟨tkn195, sg196, nu197, v200, v201, v202, v203, v204, v205, hT198, hN199⟩⟩ := h217
          cases h214
          refine j_after (st' := []) (k' := 0) (n' := 0) rfl rfl rfl ?_
          have r218 : RA A fs210 := RA.ff rfs187 hff213 rfl
          have hT198b := hT198.1
          rw [haz194] at hR190 hb192 hl193
          refine j_aload_n dX6_readAll_216 0 rfl ?_
          refine j_bipush (v := nI 37) dX6_readAll_217 (by decide) ?_
          refine j_callV (rm := rX6_isSign) (As := [.int (nI 37)]) (st := []) (b0 := mm) (ci := 6) (na := 1) (m_isSign (c := 37) hAD hm212 r218 v201 v202 hT198 rfl (by decide)) (by intro E w9 h9; first | exact nomatch h9.1 | (obtain ⟨_, h9, _⟩ := h9; exact nomatch h9) | (obtain ⟨_, _, _, h9, _⟩ := h9; exact nomatch h9)) gX6_readAll_X6_isSign rfl rfl hm212 (by decide +kernel) rfl ⟨Nat.le_of_ble_eq_true rfl, Nat.le_of_ble_eq_true rfl⟩ rfl (Nat.le_of_ble_eq_true rfl) dX6_readAll_219 ⟨(show 0 + 0 ≤ 0 by omega), (show 0 + 0 ≤ 0 by omega)⟩ (fun v219 w220 h221 => ?_)
          obtain ⟨h221, h222⟩ := h221
          cases h221
          subst w220
          refine j_after (st' := [.int (zb (decide (tkK t ln az194 = 37)))]) (k' := 0) (n' := 0) rfl rfl rfl ?_
          by_cases hk37 : tkK t ln az194 = 37
          · skip
            refine j_eqi (y := nI 1) (by rw [decide_eq_true hk37]; rfl) ?_
            refine j_if_eqN 51 (by decide) dX6_readAll_222 (by decide) (fun h9 => absurd h9 (by decide)) (fun _ => ?_)
            refine j_iinc (q := 1) (v := nI (pa + 1)) (lv' := [(1, .int (nI (pa + 1))), (0, .ref mm)]) dX6_readAll_225 rfl (by first | exact nI_1 _ | exact nI_add _ _) (Nat.le_of_ble_eq_true rfl) rfl ?_
            obtain ⟨hR223, hI224, hb225, hl226⟩ := rR_go (s1 := (1, mr, cu, false, false, ev, np, oc, upd f ((ev - 1) * 14 + 8) (nI rep), ev, be, cq, st, me + 1, pa + 1)) ht hR190 (f0 hk37 (by decide) (by decide)) (by omega) (by rw [hk37]; rfl) hI191 hb192
            refine j_aload_n dX6_readAll_228 1 rfl ?_
            obtain ⟨az227, haz227⟩ : ∃ z, tkN t ln az194 = z := ⟨_, rfl⟩
            have v239 := (FF.at hff213 rfl v207)
            have f240 := (FrI.a1 hfr211 hAD rfl rfl rfl f209)
            refine j_callV (rm := rX6_next) (As := []) (st := []) (b0 := mm) (ci := 6) (na := 0) (m_next1 (a := az227) hAD hm212 r218 v200 v239 v203 f240 ht hln (tkN_bd hb192).2.1 haz227) (by intro E w9 h9; first | exact nomatch h9.1 | (obtain ⟨_, h9, _⟩ := h9; exact nomatch h9) | (obtain ⟨_, _, _, h9, _⟩ := h9; exact nomatch h9)) gX6_readAll_X6_next rfl rfl hm212 (by decide +kernel) rfl ⟨Nat.le_of_ble_eq_true rfl, Nat.le_of_ble_eq_true rfl⟩ rfl (Nat.le_of_ble_eq_true rfl) dX6_readAll_229 ⟨(show 0 + 0 ≤ 0 by omega), (show 0 + 0 ≤ 0 by omega)⟩ (fun v246 w247 h248 => ?_)
            obtain ⟨h245, fs241, ⟨hfr242, hm243, hff244⟩, ⟨tkn228, sg229, nu230, v233, v234, v235, v236, v237, v238, hT231, hN232⟩⟩ := h248
            cases h245
            refine j_after (st' := []) (k' := 0) (n' := 0) rfl rfl rfl ?_
            have r249 : RA A fs241 := RA.ff r218 hff244 rfl
            have hT231b := hT231.1
            rw [haz227] at hR223 hb225 hl226
            refine j_goto 51 dX6_readAll_232 (by decide) ?_
            refine j_lv (lv' := [(0, .ref mm), (1, .int (nI (pa + 1)))]) [1, 0] rfl ?_
            have v250 := (FF.at hff244 rfl (FF.at hff213 rfl (st_ne sfs187 rfl (st_ne sfs183 rfl (st_ne sfs178 rfl h5)))))
            have v251 := (FF.at hff244 rfl (FF.at hff213 rfl (st_ne sfs187 rfl v185)))
            have v252 := (FF.at hff244 rfl (FF.at hff213 rfl (st_ne sfs187 rfl (st_ne sfs183 rfl (st_ne sfs178 rfl h8)))))
            have v253 := (FF.at hff244 rfl (FF.at hff213 rfl (st_ne sfs187 rfl (st_ne sfs183 rfl (st_ne sfs178 rfl h9)))))
            have v254 := (FF.at hff244 rfl v239)
            have v255 := (FF.at hff244 rfl (FF.at hff213 rfl (st_ne sfs187 rfl (st_ne sfs183 rfl (st_ne sfs178 rfl h29)))))
            have v256 := (FF.at hff244 rfl (FF.at hff213 rfl (st_ne sfs187 rfl (st_ne sfs183 rfl (st_ne sfs178 rfl h31)))))
            have v257 := (FF.at hff244 rfl (FF.at hff213 rfl (st_ne sfs187 rfl (st_ne sfs183 rfl v180))))
            have v258 := (FF.at hff244 rfl (FF.at hff213 rfl v189))
            have f259 := (FrI.a1 hfr242 hAD rfl rfl rfl f240)
            have f260 := (FrI.a1 hfr242 hAD rfl rfl rfl (FrI.a1 hfr211 hAD rfl rfl rfl (up_ne hw186 (AD.nm hAD 10 rfl) (up_ne hw182 (AD.nm hAD 10 rfl) (up_ne hw177 (AD.nm hAD 10 rfl) (up_ne hw174 (AD.ne hAD 10 17 rfl rfl rfl) a10))))))
            have f261 := (FrI.a1 hfr242 hAD rfl rfl rfl (FrI.a1 hfr211 hAD rfl rfl rfl (up_ne hw186 (AD.nm hAD 11 rfl) (up_ne hw182 (AD.nm hAD 11 rfl) (up_ne hw177 (AD.nm hAD 11 rfl) (up_ne hw174 (AD.ne hAD 11 17 rfl rfl rfl) a11))))))
            have f262 := (FrI.a1 hfr242 hAD rfl rfl rfl (FrI.a1 hfr211 hAD rfl rfl rfl (up_ne hw186 (AD.nm hAD 12 rfl) (up_ne hw182 (AD.nm hAD 12 rfl) (up_ne hw177 (AD.nm hAD 12 rfl) (up_ne hw174 (AD.ne hAD 12 17 rfl rfl rfl) a12))))))
            have f263 := (FrI.a1 hfr242 hAD rfl rfl rfl (FrI.a1 hfr211 hAD rfl rfl rfl (up_ne hw186 (AD.nm hAD 13 rfl) (up_ne hw182 (AD.nm hAD 13 rfl) (up_ne hw177 (AD.nm hAD 13 rfl) (up_ne hw174 (AD.ne hAD 13 17 rfl rfl rfl) a13))))))
            have f264 := (FrI.a1 hfr242 hAD rfl rfl rfl (FrI.a1 hfr211 hAD rfl rfl rfl (up_ne hw186 (AD.nm hAD 14 rfl) (up_ne hw182 (AD.nm hAD 14 rfl) (up_ne hw177 (AD.nm hAD 14 rfl) (up_ne hw174 (AD.ne hAD 14 17 rfl rfl rfl) a14))))))
            have f265 := (FrI.a1 hfr242 hAD rfl rfl rfl (FrI.a1 hfr211 hAD rfl rfl rfl (up_ne hw186 (AD.nm hAD 15 rfl) (up_ne hw182 (AD.nm hAD 15 rfl) (up_ne hw177 (AD.nm hAD 15 rfl) (up_ne hw174 (AD.ne hAD 15 17 rfl rfl rfl) a15))))))
            have f266 := (FrI.a1 hfr242 hAD rfl rfl rfl (FrI.a1 hfr211 hAD rfl rfl rfl (up_ne hw186 (AD.nm hAD 16 rfl) (up_ne hw182 (AD.nm hAD 16 rfl) (up_ne hw177 (AD.nm hAD 16 rfl) (up_ne hw174 (AD.ne hAD 16 17 rfl rfl rfl) a16))))))
            have f267 := (FrI.a1 hfr242 hAD rfl rfl rfl (FrI.a1 hfr211 hAD rfl rfl rfl (up_ne hw186 (AD.nm hAD 17 rfl) (up_ne hw182 (AD.nm hAD 17 rfl) (up_ne hw177 (AD.nm hAD 17 rfl) f175)))))
            have f268 := (FrI.a1 hfr242 hAD rfl rfl rfl (FrI.a1 hfr211 hAD rfl rfl rfl (up_ne hw186 (AD.nm hAD 18 rfl) (up_ne hw182 (AD.nm hAD 18 rfl) (up_ne hw177 (AD.nm hAD 18 rfl) (up_ne hw174 (AD.ne hAD 18 17 rfl rfl rfl) a18))))))
            have f269 := (FrI.a1 hfr242 hAD rfl rfl rfl (FrI.a1 hfr211 hAD rfl rfl rfl (up_ne hw186 (AD.nm hAD 19 rfl) (up_ne hw182 (AD.nm hAD 19 rfl) (up_ne hw177 (AD.nm hAD 19 rfl) (up_ne hw174 (AD.ne hAD 19 17 rfl rfl rfl) a19))))))
            exact hout _ _ _ _ _ _ _ _ _ _ _ _ _ _ _ _ _ _ _ _ _ _ _ _ _ _ _ _ _ _ (by omega) hm243 r249 (((((((FrI.mono hfr (by simp) rfl : FrI A [mm] [10, 11, 12, 13, 14, 15, 16, 17, 18, 19] w0 _).trans (FrI.ua hw174 rfl)).trans (FrI.ux hw177 (by simp))).trans (FrI.ux hw182 (by simp))).trans (FrI.ux hw186 (by simp))).trans (FrI.sub hfr211 rfl)).trans (FrI.sub hfr242 rfl)) ((((((FF.mono hff rfl : FF [5, 6, 7, 8, 9, 22, 24, 25, 26, 27, 28, 29, 30, 31, 32, 33] fs0 _).trans (FF.set sfs178 rfl)).trans (FF.set sfs183 rfl)).trans (FF.set sfs187 rfl)).trans (FF.mono hff213 rfl)).trans (FF.mono hff244 rfl)) v250 v251 v252 v253 v254 v255 v256 v257 v233 v234 v235 v236 v237 v238 v258 f259 f260 f261 f262 f263 f264 f265 f266 f267 f268 f269 hT231 hN232 hR223 hI224 hb225 htb8 (Or.inl rfl) hpg8
          · skip
            refine j_eqi (y := nI 0) (by rw [decide_eq_false hk37]; rfl) ?_
            refine j_if_eqN 51 (by decide) dX6_readAll_222 (by decide) (fun _ => ?_) (fun h9 => absurd rfl h9)
            refine j_lv (lv' := [(0, .ref mm), (1, .int (nI pa))]) [0, 1] rfl ?_
            have v270 := (FF.at hff213 rfl (st_ne sfs187 rfl (st_ne sfs183 rfl (st_ne sfs178 rfl h5))))
            have v271 := (FF.at hff213 rfl (st_ne sfs187 rfl v185))
            have v272 := (FF.at hff213 rfl (st_ne sfs187 rfl (st_ne sfs183 rfl (st_ne sfs178 rfl h8))))
            have v273 := (FF.at hff213 rfl (st_ne sfs187 rfl (st_ne sfs183 rfl (st_ne sfs178 rfl h9))))
            have v274 := (FF.at hff213 rfl v207)
            have v275 := (FF.at hff213 rfl (st_ne sfs187 rfl (st_ne sfs183 rfl (st_ne sfs178 rfl h29))))
            have v276 := (FF.at hff213 rfl (st_ne sfs187 rfl (st_ne sfs183 rfl (st_ne sfs178 rfl h31))))
            have v277 := (FF.at hff213 rfl (st_ne sfs187 rfl (st_ne sfs183 rfl v180)))
            have v278 := (FF.at hff213 rfl v189)
            have f279 := (FrI.a1 hfr211 hAD rfl rfl rfl f209)
            have f280 := (FrI.a1 hfr211 hAD rfl rfl rfl (up_ne hw186 (AD.nm hAD 10 rfl) (up_ne hw182 (AD.nm hAD 10 rfl) (up_ne hw177 (AD.nm hAD 10 rfl) (up_ne hw174 (AD.ne hAD 10 17 rfl rfl rfl) a10)))))
            have f281 := (FrI.a1 hfr211 hAD rfl rfl rfl (up_ne hw186 (AD.nm hAD 11 rfl) (up_ne hw182 (AD.nm hAD 11 rfl) (up_ne hw177 (AD.nm hAD 11 rfl) (up_ne hw174 (AD.ne hAD 11 17 rfl rfl rfl) a11)))))
            have f282 := (FrI.a1 hfr211 hAD rfl rfl rfl (up_ne hw186 (AD.nm hAD 12 rfl) (up_ne hw182 (AD.nm hAD 12 rfl) (up_ne hw177 (AD.nm hAD 12 rfl) (up_ne hw174 (AD.ne hAD 12 17 rfl rfl rfl) a12)))))
            have f283 := (FrI.a1 hfr211 hAD rfl rfl rfl (up_ne hw186 (AD.nm hAD 13 rfl) (up_ne hw182 (AD.nm hAD 13 rfl) (up_ne hw177 (AD.nm hAD 13 rfl) (up_ne hw174 (AD.ne hAD 13 17 rfl rfl rfl) a13)))))
            have f284 := (FrI.a1 hfr211 hAD rfl rfl rfl (up_ne hw186 (AD.nm hAD 14 rfl) (up_ne hw182 (AD.nm hAD 14 rfl) (up_ne hw177 (AD.nm hAD 14 rfl) (up_ne hw174 (AD.ne hAD 14 17 rfl rfl rfl) a14)))))
            have f285 := (FrI.a1 hfr211 hAD rfl rfl rfl (up_ne hw186 (AD.nm hAD 15 rfl) (up_ne hw182 (AD.nm hAD 15 rfl) (up_ne hw177 (AD.nm hAD 15 rfl) (up_ne hw174 (AD.ne hAD 15 17 rfl rfl rfl) a15)))))
            have f286 := (FrI.a1 hfr211 hAD rfl rfl rfl (up_ne hw186 (AD.nm hAD 16 rfl) (up_ne hw182 (AD.nm hAD 16 rfl) (up_ne hw177 (AD.nm hAD 16 rfl) (up_ne hw174 (AD.ne hAD 16 17 rfl rfl rfl) a16)))))
            have f287 := (FrI.a1 hfr211 hAD rfl rfl rfl (up_ne hw186 (AD.nm hAD 17 rfl) (up_ne hw182 (AD.nm hAD 17 rfl) (up_ne hw177 (AD.nm hAD 17 rfl) f175))))
            have f288 := (FrI.a1 hfr211 hAD rfl rfl rfl (up_ne hw186 (AD.nm hAD 18 rfl) (up_ne hw182 (AD.nm hAD 18 rfl) (up_ne hw177 (AD.nm hAD 18 rfl) (up_ne hw174 (AD.ne hAD 18 17 rfl rfl rfl) a18)))))
            have f289 := (FrI.a1 hfr211 hAD rfl rfl rfl (up_ne hw186 (AD.nm hAD 19 rfl) (up_ne hw182 (AD.nm hAD 19 rfl) (up_ne hw177 (AD.nm hAD 19 rfl) (up_ne hw174 (AD.ne hAD 19 17 rfl rfl rfl) a19)))))
            exact hout _ _ _ _ _ _ _ _ _ _ _ _ _ _ _ _ _ _ _ _ _ _ _ _ _ _ _ _ _ _ (by omega) hm212 r218 ((((((FrI.mono hfr (by simp) rfl : FrI A [mm] [10, 11, 12, 13, 14, 15, 16, 17, 18, 19] w0 _).trans (FrI.ua hw174 rfl)).trans (FrI.ux hw177 (by simp))).trans (FrI.ux hw182 (by simp))).trans (FrI.ux hw186 (by simp))).trans (FrI.sub hfr211 rfl)) (((((FF.mono hff rfl : FF [5, 6, 7, 8, 9, 22, 24, 25, 26, 27, 28, 29, 30, 31, 32, 33] fs0 _).trans (FF.set sfs178 rfl)).trans (FF.set sfs183 rfl)).trans (FF.set sfs187 rfl)).trans (FF.mono hff213 rfl)) v270 v271 v272 v273 v274 v275 v276 v277 v200 v201 v202 v203 v204 v205 v278 f279 f280 f281 f282 f283 f284 f285 f286 f287 f288 f289 hT198 hN199 hR190 hI191 hb192 htb8 (Or.inr ⟨rfl, hk37⟩) hpg8
        · skip
          refine j_eqi (y := nI 0) (by rw [decide_eq_false hk5]; rfl) ?_
          refine j_if_neN 162 (by decide) dX6_readAll_153 (by decide) (fun h9 => absurd rfl h9) (fun _ => ?_)
          have hbd290 := rR_bad (b := 1) hR (rf_1 (f1_8 (tk_k ht) ⟨hbm0, hk124, hk5⟩)) (by decide)
          refine j_aload_n dX6_readAll_156 0 rfl ?_
          refine j_iconst (v := nI 1) dX6_readAll_157 (by decide) ?_
          refine j_callV (rm := rX6_wrong) (As := [.int (nI 1)]) (st := []) (b0 := mm) (ci := 6) (na := 1) (m_wrong0 (k := 1) hAD hmm hA h29 h27) (by intro E w9 h9; first | exact nomatch h9.1 | (obtain ⟨_, h9, _⟩ := h9; exact nomatch h9) | (obtain ⟨_, _, _, h9, _⟩ := h9; exact nomatch h9)) gX6_readAll_X6_wrong rfl rfl hmm (by decide +kernel) rfl ⟨Nat.le_of_ble_eq_true rfl, Nat.le_of_ble_eq_true rfl⟩ rfl (Nat.le_of_ble_eq_true rfl) dX6_readAll_158 ⟨(show 0 + 0 ≤ 0 by omega), (show 0 + 0 ≤ 0 by omega)⟩ (fun v298 w299 h300 => ?_)
          obtain ⟨h297, fs293, ⟨hfr294, hm295, hff296⟩, v291, v292⟩ := h300
          cases h297
          refine j_after (st' := []) (k' := 0) (n' := 0) rfl rfl rfl ?_
          have r301 : RA A fs293 := RA.ff hA hff296 rfl
          have f302 := (FrI.a1 hfr294 hAD rfl rfl rfl a10)
          have f303 := (FrI.a1 hfr294 hAD rfl rfl rfl a11)
          have f304 := (FrI.a1 hfr294 hAD rfl rfl rfl a12)
          have f305 := (FrI.a1 hfr294 hAD rfl rfl rfl a13)
          have f306 := (FrI.a1 hfr294 hAD rfl rfl rfl a14)
          have f307 := (FrI.a1 hfr294 hAD rfl rfl rfl a15)
          have f308 := (FrI.a1 hfr294 hAD rfl rfl rfl a16)
          have f309 := (FrI.a1 hfr294 hAD rfl rfl rfl a17)
          have f310 := (FrI.a1 hfr294 hAD rfl rfl rfl a18)
          have f311 := (FrI.a1 hfr294 hAD rfl rfl rfl a19)
          exact j_vret rfl ⟨rfl, _, ⟨((FrI.mono hfr (by simp) rfl : FrI A [mm] [10, 11, 12, 13, 14, 15, 16, 17, 18, 19] w0 _).trans (FrI.sub hfr294 rfl)), hm295, ((FF.mono hff rfl : FF [5, 6, 7, 8, 9, 22, 24, 25, 26, 27, 28, 29, 30, 31, 32, 33] fs0 _).trans (FF.mono hff296 rfl))⟩, _, _, _, _, _, _, _, _, _, _, ⟨f302, f303, f304, f305, f306, f307, f308, f309, f310, f311⟩, Or.inl (RFl.mk hbd290 ⟨by decide, by decide⟩ v291 v292)⟩ (show 0 ≤ 0 by omega) (show 0 ≤ 0 by omega) dX6_readAll_161
theorem flX6_readAll_102 : FL wsX6_readAll RX6 102 6 24 := ⟨RX6, TX6, 45, rfl, by decide, by decide +kernel, by decide +kernel⟩
theorem fsX6_readAll_165 : FS wsX6_readAll RX6 165 6 32 false (.int) := ⟨RX6, TX6, 45, tyX6, rfl, by decide, by decide +kernel, by decide +kernel, tyX6_ok, nmX6, rfl, rfl, rfl⟩
set_option maxHeartbeats 4000000 in
set_option maxRecDepth 100000 in
theorem l_a51 {t : Nat → Nat} {ln : Nat} {w0 : pW} {fs0 : List Value} {A : Nat → Nat} {mm : Nat} {R : Nat × Nat × RSt} (hAD : AD A mm) (ht : ∀ j, t j < 256) (hln : ln ≤ 2400) : ∀ (m9 : Nat) (w : pW) (fs : List Value) (a : Nat) (tkn : Nat) (sg : Nat) (nu : Int32) (sd : Nat) (mr : Nat) (cu : Nat) (rep : Nat) (np : Nat) (oc : Nat) (f : Nat → Int32) (ev : Nat) (be : Nat) (cq : Nat) (st : Nat) (me : Nat) (pa : Nat) (pg : Nat) (xk : Nat → Nat) (xm : Nat → Nat) (xp : Nat → Int32) (xb : Nat → Nat) (xs : Nat → Nat) (xe : Nat → Nat) (xg : Nat → Nat) (xl : Nat → Int32) (xi : Nat → Int32) (xc : Nat → Int32), ln + 2 - a < m9 → (w mm = some (.inr (6, fs))) → (RA A fs) → (FrI A [mm] [10, 11, 12, 13, 14, 15, 16, 17, 18, 19] w0 w) → (FF [5, 6, 7, 8, 9, 22, 24, 25, 26, 27, 28, 29, 30, 31, 32, 33] fs0 fs) → (fs[5]? = some (.int (nI ev))) → (fs[6]? = some (.int (nI me))) → (fs[8]? = some (.int (nI be))) → (fs[9]? = some (.int (nI cu))) → (fs[23]? = some (.int (nI ln))) → (fs[29]? = some (.int (nI 0))) → (fs[31]? = some (.int (nI mr))) → (fs[33]? = some (.int (nI rep))) → (fs[22]? = some (.int (nI ((tk t ln a).1)))) → (fs[24]? = some (.int (nI tkn))) → (fs[25]? = some (.int (nI sg))) → (fs[26]? = some (.int nu)) → (fs[27]? = some (.int (nI a))) → (fs[28]? = some (.int (nI ((tk t ln a).1)))) → (fs[7]? = some (.int (nI pg))) → (w (A 1) = some (.inl (0, 2400, .inl (fun j9 => nI (t j9))))) → (w (A 10) = some (.inl (0, 100, .inl (fun j9 => nI (xk j9))))) → (w (A 11) = some (.inl (0, 100, .inl (fun j9 => nI (xm j9))))) → (w (A 12) = some (.inl (0, 400, .inl xp))) → (w (A 13) = some (.inl (0, 100, .inl (fun j9 => nI (xb j9))))) → (w (A 14) = some (.inl (0, 100, .inl (fun j9 => nI (xs j9))))) → (w (A 15) = some (.inl (0, 100, .inl (fun j9 => nI (xe j9))))) → (w (A 16) = some (.inl (0, 100, .inl (fun j9 => nI (xg j9))))) → (w (A 17) = some (.inl (0, 100, .inl xl))) → (w (A 18) = some (.inl (2, 100, .inl xi))) → (w (A 19) = some (.inl (2, 100, .inl xc))) → (TS tkn sg (tkK t ln a)) → (NS nu (tkK t ln a) (tkV t ln a) ((tk t ln a).1 - a)) → (R = rR t ln a (sd, mr, cu, false, false, rep, np, oc, f, ev, be, cq, st, me, pa)) → (RJ (sd, mr, cu, false, false, rep, np, oc, f, ev, be, cq, st, me, pa)) → (a ≤ ln + 1) → (TBL xk xm xp xb xs xe xg xl xi xc f ev) → (sd = 1 ∨ (sd = 2 ∧ tkK t ln a ≠ 37)) → (pgI f ev pg) → J ((cX6_readAll, RX6, 2, wsX6_readAll), (rX6_readAll, none, "readAll", []), fun o w9 => o = .inl none ∧ ∃ fs9 : List Value, MU A mm [10, 11, 12, 13, 14, 15, 16, 17, 18, 19] [5, 6, 7, 8, 9, 22, 24, 25, 26, 27, 28, 29, 30, 31, 32, 33] w0 w9 fs0 fs9 ∧ ∃ (xk xm : Nat → Nat) (xp : Nat → Int32) (xb xs xe xg : Nat → Nat) (xl xi xc : Nat → Int32), TA A w9 xk xm xp xb xs xe xg xl xi xc ∧ (RFl fs9 R ∨ ∃ (a9 sd9 mr9 cu9 rep9 np9 oc9 : Nat) (f9 : Nat → Int32) (ev9 be9 cq9 st9 me9 pa9 pg9 : Nat), R = (0, a9, (sd9, mr9, cu9, false, false, rep9, np9, oc9, f9, ev9, be9, cq9, st9, me9, pa9)) ∧ RJ (sd9, mr9, cu9, false, false, rep9, np9, oc9, f9, ev9, be9, cq9, st9, me9, pa9) ∧ (sd9 = 1 ∨ sd9 = 2) ∧ fs9[5]? = some (.int (nI ev9)) ∧ fs9[6]? = some (.int (nI me9)) ∧ fs9[7]? = some (.int (nI pg9)) ∧ fs9[8]? = some (.int (nI be9)) ∧ fs9[9]? = some (.int (nI cu9)) ∧ fs9[29]? = some (.int (nI 0)) ∧ pgI f9 ev9 pg9 ∧ TBL xk xm xp xb xs xe xg xl xi xc f9 ev9), fun _ _ _ => True) 51 [(0, .ref mm), (1, .int (nI pa))] [] w 0 0 := by
  intro m9
  induction m9 with
  | zero => intro w fs a tkn sg nu sd mr cu rep np oc f ev be cq st me pa pg xk xm xp xb xs xe xg xl xi xc h9; omega
  | succ m9 ih =>
    intro w fs a tkn sg nu sd mr cu rep np oc f ev be cq st me pa pg xk xm xp xb xs xe xg xl xi xc hm9 hmm hA hfr hff h5 h6 h8 h9 h23 h29 h31 h33 h22 h24 h25 h26 h27 h28 h7 a1 a10 a11 a12 a13 a14 a15 a16 a17 a18 a19 hT hN hR hI ha hTB hsd hpg
    have hTb := hT.1
    obtain ⟨i1, i2, i3, i4, i5, i6, i7⟩ := id hI.1
    refine j_aload_n dX6_readAll_51 0 rfl ?_
    refine j_get (v := .int (nI 0)) flX6_readAll_124 hmm h29 dX6_readAll_52 ?_
    refine j_if_neN 235 (by decide) dX6_readAll_55 (by decide) (fun h9 => absurd rfl h9) (fun _ => ?_)
    refine j_aload_n dX6_readAll_58 0 rfl ?_
    refine j_get (v := .int (nI tkn)) flX6_readAll_102 hmm h24 dX6_readAll_59 ?_
    refine j_if_eqN 235 (by omega) dX6_readAll_62 (by decide) (fun c62 => ?_) (fun c62 => ?_)
    · skip
      have hk0 : tkK t ln a = 0 := hT.2.2.2.2.1.mp c62
      have hend : R = (0, a, (sd, mr, cu, false, false, rep, np, oc, f, ev, be, cq, st, me, pa)) := by rw [hR, rR_end hk0, fEnd hk0 (by omega)]
      exact j_vret rfl ⟨rfl, _, ⟨(FrI.mono hfr (by simp) rfl : FrI A [mm] [10, 11, 12, 13, 14, 15, 16, 17, 18, 19] w0 _), hmm, (FF.mono hff rfl : FF [5, 6, 7, 8, 9, 22, 24, 25, 26, 27, 28, 29, 30, 31, 32, 33] fs0 _)⟩, _, _, _, _, _, _, _, _, _, _, ⟨a10, a11, a12, a13, a14, a15, a16, a17, a18, a19⟩, Or.inr ⟨_, _, _, _, _, _, _, _, _, _, _, _, _, _, _, hend, hI, by omega, h5, h6, h7, h8, h9, h29, hpg, hTB⟩⟩ (show 0 ≤ 0 by omega) (show 0 ≤ 0 by omega) dX6_readAll_235
    · skip
      refine j_aload_n dX6_readAll_65 0 rfl ?_
      refine j_aload_n dX6_readAll_66 0 rfl ?_
      refine j_get (v := .int (nI ev)) flX6_readAll_144 hmm h5 dX6_readAll_67 ?_
      refine j_putM fsX6_readAll_165 hmm rfl rfl (RA.lt hA (by decide)) dX6_readAll_70 (fun w1 fs2 sfs2 hw1 => ?_)
      have f3 : w1 mm = some (.inr (6, fs2)) := up_at hw1
      have rfs2 : RA A fs2 := RA.set hA sfs2 rfl
      have v4 := st_at sfs2 hA (by decide : 32 < 45)
      refine j_aload_n dX6_readAll_73 0 rfl ?_
      refine j_sipush (v := nI 256) dX6_readAll_74 (by decide) ?_
      have v5 := (st_ne sfs2 rfl h24)
      have v6 := (st_ne sfs2 rfl h25)
      refine j_callV (rm := rX6_isSign) (As := [.int (nI 256)]) (st := []) (b0 := mm) (ci := 6) (na := 1) (m_isSign (c := 256) hAD f3 rfs2 v5 v6 hT rfl (by decide)) (by intro E w9 h9; first | exact nomatch h9.1 | (obtain ⟨_, h9, _⟩ := h9; exact nomatch h9) | (obtain ⟨_, _, _, h9, _⟩ := h9; exact nomatch h9)) gX6_readAll_X6_isSign rfl rfl f3 (by decide +kernel) rfl ⟨Nat.le_of_ble_eq_true rfl, Nat.le_of_ble_eq_true rfl⟩ rfl (Nat.le_of_ble_eq_true rfl) dX6_readAll_77 ⟨(show 0 + 0 ≤ 0 by omega), (show 0 + 0 ≤ 0 by omega)⟩ (fun v7 w8 h9 => ?_)
      obtain ⟨h9, h10⟩ := h9
      cases h9
      subst w8
      refine j_after (st' := [.int (zb (decide (tkK t ln a = 4)))]) (k' := 0) (n' := 0) rfl rfl rfl ?_
      by_cases hk4 : tkK t ln a = 4
      · skip
        refine j_eqi (y := nI 1) (by rw [decide_eq_true hk4]; rfl) ?_
        refine j_if_eqN 95 (by decide) dX6_readAll_80 (by decide) (fun h9 => absurd h9 (by decide)) (fun _ => ?_)
        refine j_aload_n dX6_readAll_83 0 rfl ?_
        refine j_aload_n dX6_readAll_84 0 rfl ?_
        have v11 := (st_ne sfs2 rfl h5)
        refine j_get (v := .int (nI ev)) flX6_readAll_144 f3 v11 dX6_readAll_85 ?_
        refine j_putM fsX6_readAll_162 f3 rfl rfl (RA.lt rfs2 (by decide)) dX6_readAll_88 (fun w12 fs13 sfs13 hw12 => ?_)
        have f14 : w12 mm = some (.inr (6, fs13)) := up_at hw12
        have rfs13 : RA A fs13 := RA.set rfs2 sfs13 rfl
        have v15 := st_at sfs13 rfs2 (by decide : 33 < 45)
        obtain ⟨hR16, hI17, hb18, hl19⟩ := rR_go (s1 := (4, mr, cu, false, false, ev, np, oc, f, ev, be, cq, st, me, pa)) ht hR (f0 hk4 (by rcases hsd with rfl | ⟨rfl, -⟩ <;> decide) (by decide)) (by omega) (by rw [hk4]; rfl) hI ha
        refine j_aload_n dX6_readAll_91 0 rfl ?_
        obtain ⟨az20, haz20⟩ : ∃ z, tkN t ln a = z := ⟨_, rfl⟩
        have v32 := (st_ne sfs13 rfl (st_ne sfs2 rfl h22))
        have v33 := (st_ne sfs13 rfl (st_ne sfs2 rfl h23))
        have v34 := (st_ne sfs13 rfl (st_ne sfs2 rfl h26))
        have f35 := (up_ne hw12 (AD.nm hAD 1 rfl) (up_ne hw1 (AD.nm hAD 1 rfl) a1))
        refine j_callV (rm := rX6_next) (As := []) (st := []) (b0 := mm) (ci := 6) (na := 0) (m_next1 (a := az20) hAD f14 rfs13 v32 v33 v34 f35 ht hln (tkN_bd ha).2.1 haz20) (by intro E w9 h9; first | exact nomatch h9.1 | (obtain ⟨_, h9, _⟩ := h9; exact nomatch h9) | (obtain ⟨_, _, _, h9, _⟩ := h9; exact nomatch h9)) gX6_readAll_X6_next rfl rfl f14 (by decide +kernel) rfl ⟨Nat.le_of_ble_eq_true rfl, Nat.le_of_ble_eq_true rfl⟩ rfl (Nat.le_of_ble_eq_true rfl) dX6_readAll_92 ⟨(show 0 + 0 ≤ 0 by omega), (show 0 + 0 ≤ 0 by omega)⟩ (fun v41 w42 h43 => ?_)
        obtain ⟨h40, fs36, ⟨hfr37, hm38, hff39⟩, ⟨tkn21, sg22, nu23, v26, v27, v28, v29, v30, v31, hT24, hN25⟩⟩ := h43
        cases h40
        refine j_after (st' := []) (k' := 0) (n' := 0) rfl rfl rfl ?_
        have r44 : RA A fs36 := RA.ff rfs13 hff39 rfl
        have hT24b := hT24.1
        rw [haz20] at hR16 hb18 hl19
        refine j_aload_n dX6_readAll_95 0 rfl ?_
        refine j_callV (rm := rX6_beginsMarked) (As := []) (st := []) (b0 := mm) (ci := 6) (na := 0) (m_beginsMarked hAD hm38 r44 v27 v28 hT24) (by intro E w9 h9; first | exact nomatch h9.1 | (obtain ⟨_, h9, _⟩ := h9; exact nomatch h9) | (obtain ⟨_, _, _, h9, _⟩ := h9; exact nomatch h9)) gX6_readAll_X6_beginsMarked rfl rfl hm38 (by decide +kernel) rfl ⟨Nat.le_of_ble_eq_true rfl, Nat.le_of_ble_eq_true rfl⟩ rfl (Nat.le_of_ble_eq_true rfl) dX6_readAll_96 ⟨(show 0 + 0 ≤ 0 by omega), (show 0 + 0 ≤ 0 by omega)⟩ (fun v45 w46 h47 => ?_)
        obtain ⟨h47, h48⟩ := h47
        cases h47
        subst w46
        refine j_after (st' := [.int (zb (bM (tkK t ln az20)))]) (k' := 0) (n' := 0) rfl rfl rfl ?_
        by_cases hbm : bM (tkK t ln az20) = true
        · skip
          refine j_eqi (y := nI 1) (by rw [hbm]; rfl) ?_
          refine j_if_neN 107 (by decide) dX6_readAll_99 (by decide) (fun _ => ?_) (fun h9 => absurd h9 (by decide))
          refine j_lv (lv' := [(0, .ref mm), (1, .int (nI pa))]) [0, 1] rfl ?_
          have v49 := (FF.at hff39 rfl (st_ne sfs13 rfl v11))
          have v50 := (FF.at hff39 rfl (st_ne sfs13 rfl (st_ne sfs2 rfl h6)))
          have v51 := (FF.at hff39 rfl (st_ne sfs13 rfl (st_ne sfs2 rfl h8)))
          have v52 := (FF.at hff39 rfl (st_ne sfs13 rfl (st_ne sfs2 rfl h9)))
          have v53 := (FF.at hff39 rfl v33)
          have v54 := (FF.at hff39 rfl (st_ne sfs13 rfl (st_ne sfs2 rfl h29)))
          have v55 := (FF.at hff39 rfl (st_ne sfs13 rfl (st_ne sfs2 rfl h31)))
          have v56 := (FF.at hff39 rfl v15)
          have f57 := (FrI.a1 hfr37 hAD rfl rfl rfl f35)
          have f58 := (FrI.a1 hfr37 hAD rfl rfl rfl (up_ne hw12 (AD.nm hAD 10 rfl) (up_ne hw1 (AD.nm hAD 10 rfl) a10)))
          have f59 := (FrI.a1 hfr37 hAD rfl rfl rfl (up_ne hw12 (AD.nm hAD 11 rfl) (up_ne hw1 (AD.nm hAD 11 rfl) a11)))
          have f60 := (FrI.a1 hfr37 hAD rfl rfl rfl (up_ne hw12 (AD.nm hAD 12 rfl) (up_ne hw1 (AD.nm hAD 12 rfl) a12)))
          have f61 := (FrI.a1 hfr37 hAD rfl rfl rfl (up_ne hw12 (AD.nm hAD 13 rfl) (up_ne hw1 (AD.nm hAD 13 rfl) a13)))
          have f62 := (FrI.a1 hfr37 hAD rfl rfl rfl (up_ne hw12 (AD.nm hAD 14 rfl) (up_ne hw1 (AD.nm hAD 14 rfl) a14)))
          have f63 := (FrI.a1 hfr37 hAD rfl rfl rfl (up_ne hw12 (AD.nm hAD 15 rfl) (up_ne hw1 (AD.nm hAD 15 rfl) a15)))
          have f64 := (FrI.a1 hfr37 hAD rfl rfl rfl (up_ne hw12 (AD.nm hAD 16 rfl) (up_ne hw1 (AD.nm hAD 16 rfl) a16)))
          have f65 := (FrI.a1 hfr37 hAD rfl rfl rfl (up_ne hw12 (AD.nm hAD 17 rfl) (up_ne hw1 (AD.nm hAD 17 rfl) a17)))
          have f66 := (FrI.a1 hfr37 hAD rfl rfl rfl (up_ne hw12 (AD.nm hAD 18 rfl) (up_ne hw1 (AD.nm hAD 18 rfl) a18)))
          have f67 := (FrI.a1 hfr37 hAD rfl rfl rfl (up_ne hw12 (AD.nm hAD 19 rfl) (up_ne hw1 (AD.nm hAD 19 rfl) a19)))
          exact l_a107 hAD ht hln (aS := a) (m8 := m9) ih (by omega) _ _ _ _ _ _ _ _ _ _ _ _ _ _ _ _ _ _ _ _ _ _ _ _ _ _ _ (Nat.lt_succ_self _) hm38 r44 ((((FrI.mono hfr (by simp) rfl : FrI A [mm] [10, 11, 12, 13, 14, 15, 16, 17, 18, 19] w0 _).trans (FrI.ux hw1 (by simp))).trans (FrI.ux hw12 (by simp))).trans (FrI.sub hfr37 rfl)) ((((FF.mono hff rfl : FF [5, 6, 7, 8, 9, 22, 24, 25, 26, 27, 28, 29, 30, 31, 32, 33] fs0 _).trans (FF.set sfs2 rfl)).trans (FF.set sfs13 rfl)).trans (FF.mono hff39 rfl)) v49 v50 v51 v52 v53 v54 v55 v56 v26 v27 v28 v29 v30 v31 f57 f58 f59 f60 f61 f62 f63 f64 f65 f66 f67 hT24 hN25 hR16 hI17 hb18 hTB (by omega) (Or.inr ⟨by omega, hbm⟩)
        · skip
          have hbm0 : bM (tkK t ln az20) = false := by simpa using hbm
          refine j_eqi (y := nI 0) (by rw [hbm0]; rfl) ?_
          refine j_if_neN 107 (by decide) dX6_readAll_99 (by decide) (fun h9 => absurd rfl h9) (fun _ => ?_)
          have hbd68 := rR_bad (b := 1) hR16 (rf_1 (f1_4 (tk_k ht) hbm0)) (by decide)
          refine j_aload_n dX6_readAll_102 0 rfl ?_
          refine j_iconst (v := nI 1) dX6_readAll_103 (by decide) ?_
          have v69 := (FF.at hff39 rfl (st_ne sfs13 rfl (st_ne sfs2 rfl h29)))
          refine j_callV (rm := rX6_wrong) (As := [.int (nI 1)]) (st := []) (b0 := mm) (ci := 6) (na := 1) (m_wrong0 (k := 1) hAD hm38 r44 v69 v30) (by intro E w9 h9; first | exact nomatch h9.1 | (obtain ⟨_, h9, _⟩ := h9; exact nomatch h9) | (obtain ⟨_, _, _, h9, _⟩ := h9; exact nomatch h9)) gX6_readAll_X6_wrong rfl rfl hm38 (by decide +kernel) rfl ⟨Nat.le_of_ble_eq_true rfl, Nat.le_of_ble_eq_true rfl⟩ rfl (Nat.le_of_ble_eq_true rfl) dX6_readAll_104 ⟨(show 0 + 0 ≤ 0 by omega), (show 0 + 0 ≤ 0 by omega)⟩ (fun v77 w78 h79 => ?_)
          obtain ⟨h76, fs72, ⟨hfr73, hm74, hff75⟩, v70, v71⟩ := h79
          cases h76
          refine j_after (st' := []) (k' := 0) (n' := 0) rfl rfl rfl ?_
          have r80 : RA A fs72 := RA.ff r44 hff75 rfl
          refine j_aload_n dX6_readAll_107 0 rfl ?_
          refine j_get (v := .int (nI 1)) flX6_readAll_124 hm74 v70 dX6_readAll_108 ?_
          refine j_if_neN 129 (by decide) dX6_readAll_111 (by decide) (fun _ => ?_) (fun h9 => absurd h9 (by decide))
          refine j_aload_n dX6_readAll_129 0 rfl ?_
          refine j_get (v := .int (nI 1)) flX6_readAll_124 hm74 v70 dX6_readAll_130 ?_
          refine j_if_eqN 137 (by decide) dX6_readAll_133 (by decide) (fun h9 => absurd h9 (by decide)) (fun _ => ?_)
          have f81 := (FrI.a1 hfr73 hAD rfl rfl rfl (FrI.a1 hfr37 hAD rfl rfl rfl (up_ne hw12 (AD.nm hAD 10 rfl) (up_ne hw1 (AD.nm hAD 10 rfl) a10))))
          have f82 := (FrI.a1 hfr73 hAD rfl rfl rfl (FrI.a1 hfr37 hAD rfl rfl rfl (up_ne hw12 (AD.nm hAD 11 rfl) (up_ne hw1 (AD.nm hAD 11 rfl) a11))))
          have f83 := (FrI.a1 hfr73 hAD rfl rfl rfl (FrI.a1 hfr37 hAD rfl rfl rfl (up_ne hw12 (AD.nm hAD 12 rfl) (up_ne hw1 (AD.nm hAD 12 rfl) a12))))
          have f84 := (FrI.a1 hfr73 hAD rfl rfl rfl (FrI.a1 hfr37 hAD rfl rfl rfl (up_ne hw12 (AD.nm hAD 13 rfl) (up_ne hw1 (AD.nm hAD 13 rfl) a13))))
          have f85 := (FrI.a1 hfr73 hAD rfl rfl rfl (FrI.a1 hfr37 hAD rfl rfl rfl (up_ne hw12 (AD.nm hAD 14 rfl) (up_ne hw1 (AD.nm hAD 14 rfl) a14))))
          have f86 := (FrI.a1 hfr73 hAD rfl rfl rfl (FrI.a1 hfr37 hAD rfl rfl rfl (up_ne hw12 (AD.nm hAD 15 rfl) (up_ne hw1 (AD.nm hAD 15 rfl) a15))))
          have f87 := (FrI.a1 hfr73 hAD rfl rfl rfl (FrI.a1 hfr37 hAD rfl rfl rfl (up_ne hw12 (AD.nm hAD 16 rfl) (up_ne hw1 (AD.nm hAD 16 rfl) a16))))
          have f88 := (FrI.a1 hfr73 hAD rfl rfl rfl (FrI.a1 hfr37 hAD rfl rfl rfl (up_ne hw12 (AD.nm hAD 17 rfl) (up_ne hw1 (AD.nm hAD 17 rfl) a17))))
          have f89 := (FrI.a1 hfr73 hAD rfl rfl rfl (FrI.a1 hfr37 hAD rfl rfl rfl (up_ne hw12 (AD.nm hAD 18 rfl) (up_ne hw1 (AD.nm hAD 18 rfl) a18))))
          have f90 := (FrI.a1 hfr73 hAD rfl rfl rfl (FrI.a1 hfr37 hAD rfl rfl rfl (up_ne hw12 (AD.nm hAD 19 rfl) (up_ne hw1 (AD.nm hAD 19 rfl) a19))))
          exact j_vret rfl ⟨rfl, _, ⟨(((((FrI.mono hfr (by simp) rfl : FrI A [mm] [10, 11, 12, 13, 14, 15, 16, 17, 18, 19] w0 _).trans (FrI.ux hw1 (by simp))).trans (FrI.ux hw12 (by simp))).trans (FrI.sub hfr37 rfl)).trans (FrI.sub hfr73 rfl)), hm74, (((((FF.mono hff rfl : FF [5, 6, 7, 8, 9, 22, 24, 25, 26, 27, 28, 29, 30, 31, 32, 33] fs0 _).trans (FF.set sfs2 rfl)).trans (FF.set sfs13 rfl)).trans (FF.mono hff39 rfl)).trans (FF.mono hff75 rfl))⟩, _, _, _, _, _, _, _, _, _, _, ⟨f81, f82, f83, f84, f85, f86, f87, f88, f89, f90⟩, Or.inl (RFl.mk hbd68 ⟨by decide, by decide⟩ v70 v71)⟩ (show 0 ≤ 0 by omega) (show 0 ≤ 0 by omega) dX6_readAll_136
      · skip
        refine j_eqi (y := nI 0) (by rw [decide_eq_false hk4]; rfl) ?_
        refine j_if_eqN 95 (by decide) dX6_readAll_80 (by decide) (fun _ => ?_) (fun h9 => absurd rfl h9)
        refine j_aload_n dX6_readAll_95 0 rfl ?_
        refine j_callV (rm := rX6_beginsMarked) (As := []) (st := []) (b0 := mm) (ci := 6) (na := 0) (m_beginsMarked hAD f3 rfs2 v5 v6 hT) (by intro E w9 h9; first | exact nomatch h9.1 | (obtain ⟨_, h9, _⟩ := h9; exact nomatch h9) | (obtain ⟨_, _, _, h9, _⟩ := h9; exact nomatch h9)) gX6_readAll_X6_beginsMarked rfl rfl f3 (by decide +kernel) rfl ⟨Nat.le_of_ble_eq_true rfl, Nat.le_of_ble_eq_true rfl⟩ rfl (Nat.le_of_ble_eq_true rfl) dX6_readAll_96 ⟨(show 0 + 0 ≤ 0 by omega), (show 0 + 0 ≤ 0 by omega)⟩ (fun v91 w92 h93 => ?_)
        obtain ⟨h93, h94⟩ := h93
        cases h93
        subst w92
        refine j_after (st' := [.int (zb (bM (tkK t ln a)))]) (k' := 0) (n' := 0) rfl rfl rfl ?_
        by_cases hbm : bM (tkK t ln a) = true
        · skip
          refine j_eqi (y := nI 1) (by rw [hbm]; rfl) ?_
          refine j_if_neN 107 (by decide) dX6_readAll_99 (by decide) (fun _ => ?_) (fun h9 => absurd h9 (by decide))
          refine j_lv (lv' := [(0, .ref mm), (1, .int (nI pa))]) [0, 1] rfl ?_
          have v95 := (st_ne sfs2 rfl h5)
          have v96 := (st_ne sfs2 rfl h6)
          have v97 := (st_ne sfs2 rfl h8)
          have v98 := (st_ne sfs2 rfl h9)
          have v99 := (st_ne sfs2 rfl h23)
          have v100 := (st_ne sfs2 rfl h29)
          have v101 := (st_ne sfs2 rfl h31)
          have v102 := (st_ne sfs2 rfl h33)
          have v103 := (st_ne sfs2 rfl h22)
          have v104 := (st_ne sfs2 rfl h26)
          have v105 := (st_ne sfs2 rfl h27)
          have v106 := (st_ne sfs2 rfl h28)
          have f107 := (up_ne hw1 (AD.nm hAD 1 rfl) a1)
          have f108 := (up_ne hw1 (AD.nm hAD 10 rfl) a10)
          have f109 := (up_ne hw1 (AD.nm hAD 11 rfl) a11)
          have f110 := (up_ne hw1 (AD.nm hAD 12 rfl) a12)
          have f111 := (up_ne hw1 (AD.nm hAD 13 rfl) a13)
          have f112 := (up_ne hw1 (AD.nm hAD 14 rfl) a14)
          have f113 := (up_ne hw1 (AD.nm hAD 15 rfl) a15)
          have f114 := (up_ne hw1 (AD.nm hAD 16 rfl) a16)
          have f115 := (up_ne hw1 (AD.nm hAD 17 rfl) a17)
          have f116 := (up_ne hw1 (AD.nm hAD 18 rfl) a18)
          have f117 := (up_ne hw1 (AD.nm hAD 19 rfl) a19)
          exact l_a107 hAD ht hln (aS := a) (m8 := m9) ih (by omega) _ _ _ _ _ _ _ _ _ _ _ _ _ _ _ _ _ _ _ _ _ _ _ _ _ _ _ (Nat.lt_succ_self _) f3 rfs2 ((FrI.mono hfr (by simp) rfl : FrI A [mm] [10, 11, 12, 13, 14, 15, 16, 17, 18, 19] w0 _).trans (FrI.ux hw1 (by simp))) ((FF.mono hff rfl : FF [5, 6, 7, 8, 9, 22, 24, 25, 26, 27, 28, 29, 30, 31, 32, 33] fs0 _).trans (FF.set sfs2 rfl)) v95 v96 v97 v98 v99 v100 v101 v102 v103 v5 v6 v104 v105 v106 f107 f108 f109 f110 f111 f112 f113 f114 f115 f116 f117 hT hN hR hI ha hTB (by omega) (Or.inr ⟨by omega, hbm⟩)
        · skip
          have hbm0 : bM (tkK t ln a) = false := by simpa using hbm
          refine j_eqi (y := nI 0) (by rw [hbm0]; rfl) ?_
          refine j_if_neN 107 (by decide) dX6_readAll_99 (by decide) (fun h9 => absurd rfl h9) (fun _ => ?_)
          have hk0 : ¬ tkK t ln a = 0 := fun q => c62 (hT.2.2.2.2.1.mpr q)
          have hf : rFault (tkK t ln a) (tkV t ln a) (sd, mr, cu, false, false, rep, np, oc, f, ev, be, cq, st, me, pa) = 1 := by
            rcases hsd with rfl | ⟨rfl, h37⟩
            · exact rf_1 (f1_1 (tk_k ht) ⟨hbm0, hk0, hk4⟩)
            · exact rf_1 (f1_2 (tk_k ht) ⟨hbm0, hk0, hk4, h37⟩)
          have hbd118 := rR_bad (b := 1) hR hf (by decide)
          refine j_aload_n dX6_readAll_102 0 rfl ?_
          refine j_iconst (v := nI 1) dX6_readAll_103 (by decide) ?_
          have v119 := (st_ne sfs2 rfl h29)
          have v122 := (st_ne sfs2 rfl h27)
          refine j_callV (rm := rX6_wrong) (As := [.int (nI 1)]) (st := []) (b0 := mm) (ci := 6) (na := 1) (m_wrong0 (k := 1) hAD f3 rfs2 v119 v122) (by intro E w9 h9; first | exact nomatch h9.1 | (obtain ⟨_, h9, _⟩ := h9; exact nomatch h9) | (obtain ⟨_, _, _, h9, _⟩ := h9; exact nomatch h9)) gX6_readAll_X6_wrong rfl rfl f3 (by decide +kernel) rfl ⟨Nat.le_of_ble_eq_true rfl, Nat.le_of_ble_eq_true rfl⟩ rfl (Nat.le_of_ble_eq_true rfl) dX6_readAll_104 ⟨(show 0 + 0 ≤ 0 by omega), (show 0 + 0 ≤ 0 by omega)⟩ (fun v128 w129 h130 => ?_)
          obtain ⟨h127, fs123, ⟨hfr124, hm125, hff126⟩, v120, v121⟩ := h130
          cases h127
          refine j_after (st' := []) (k' := 0) (n' := 0) rfl rfl rfl ?_
          have r131 : RA A fs123 := RA.ff rfs2 hff126 rfl
          refine j_aload_n dX6_readAll_107 0 rfl ?_
          refine j_get (v := .int (nI 1)) flX6_readAll_124 hm125 v120 dX6_readAll_108 ?_
          refine j_if_neN 129 (by decide) dX6_readAll_111 (by decide) (fun _ => ?_) (fun h9 => absurd h9 (by decide))
          refine j_aload_n dX6_readAll_129 0 rfl ?_
          refine j_get (v := .int (nI 1)) flX6_readAll_124 hm125 v120 dX6_readAll_130 ?_
          refine j_if_eqN 137 (by decide) dX6_readAll_133 (by decide) (fun h9 => absurd h9 (by decide)) (fun _ => ?_)
          have f132 := (FrI.a1 hfr124 hAD rfl rfl rfl (up_ne hw1 (AD.nm hAD 10 rfl) a10))
          have f133 := (FrI.a1 hfr124 hAD rfl rfl rfl (up_ne hw1 (AD.nm hAD 11 rfl) a11))
          have f134 := (FrI.a1 hfr124 hAD rfl rfl rfl (up_ne hw1 (AD.nm hAD 12 rfl) a12))
          have f135 := (FrI.a1 hfr124 hAD rfl rfl rfl (up_ne hw1 (AD.nm hAD 13 rfl) a13))
          have f136 := (FrI.a1 hfr124 hAD rfl rfl rfl (up_ne hw1 (AD.nm hAD 14 rfl) a14))
          have f137 := (FrI.a1 hfr124 hAD rfl rfl rfl (up_ne hw1 (AD.nm hAD 15 rfl) a15))
          have f138 := (FrI.a1 hfr124 hAD rfl rfl rfl (up_ne hw1 (AD.nm hAD 16 rfl) a16))
          have f139 := (FrI.a1 hfr124 hAD rfl rfl rfl (up_ne hw1 (AD.nm hAD 17 rfl) a17))
          have f140 := (FrI.a1 hfr124 hAD rfl rfl rfl (up_ne hw1 (AD.nm hAD 18 rfl) a18))
          have f141 := (FrI.a1 hfr124 hAD rfl rfl rfl (up_ne hw1 (AD.nm hAD 19 rfl) a19))
          exact j_vret rfl ⟨rfl, _, ⟨(((FrI.mono hfr (by simp) rfl : FrI A [mm] [10, 11, 12, 13, 14, 15, 16, 17, 18, 19] w0 _).trans (FrI.ux hw1 (by simp))).trans (FrI.sub hfr124 rfl)), hm125, (((FF.mono hff rfl : FF [5, 6, 7, 8, 9, 22, 24, 25, 26, 27, 28, 29, 30, 31, 32, 33] fs0 _).trans (FF.set sfs2 rfl)).trans (FF.mono hff126 rfl))⟩, _, _, _, _, _, _, _, _, _, _, ⟨f132, f133, f134, f135, f136, f137, f138, f139, f140, f141⟩, Or.inl (RFl.mk hbd118 ⟨by decide, by decide⟩ v120 v121)⟩ (show 0 ≤ 0 by omega) (show 0 ≤ 0 by omega) dX6_readAll_136
theorem fsX6_readAll_144 : FS wsX6_readAll RX6 144 6 5 false (.int) := ⟨RX6, TX6, 45, tyX6, rfl, by decide, by decide +kernel, by decide +kernel, tyX6_ok, nmX6, rfl, rfl, rfl⟩
theorem fsX6_readAll_153 : FS wsX6_readAll RX6 153 6 8 false (.int) := ⟨RX6, TX6, 45, tyX6, rfl, by decide, by decide +kernel, by decide +kernel, tyX6_ok, nmX6, rfl, rfl, rfl⟩
theorem fsX6_readAll_156 : FS wsX6_readAll RX6 156 6 9 false (.int) := ⟨RX6, TX6, 45, tyX6, rfl, by decide, by decide +kernel, by decide +kernel, tyX6_ok, nmX6, rfl, rfl, rfl⟩
theorem fsX6_readAll_159 : FS wsX6_readAll RX6 159 6 31 false (.int) := ⟨RX6, TX6, 45, tyX6, rfl, by decide, by decide +kernel, by decide +kernel, tyX6_ok, nmX6, rfl, rfl, rfl⟩
theorem fsX6_readAll_124 : FS wsX6_readAll RX6 124 6 29 false (.int) := ⟨RX6, TX6, 45, tyX6, rfl, by decide, by decide +kernel, by decide +kernel, tyX6_ok, nmX6, rfl, rfl, rfl⟩
theorem fsX6_readAll_89 : FS wsX6_readAll RX6 89 6 22 false (.int) := ⟨RX6, TX6, 45, tyX6, rfl, by decide, by decide +kernel, by decide +kernel, tyX6_ok, nmX6, rfl, rfl, rfl⟩
set_option maxHeartbeats 4000000 in
set_option maxRecDepth 100000 in
theorem m_readAll {t : Nat → Nat} {ln : Nat} {nu : Int32} {R : Nat × Nat × RSt} {f : Nat → Int32} {xk xm : Nat → Nat} {xp : Nat → Int32} {xb xs xe xg : Nat → Nat} {xl xi xc : Nat → Int32} {w : pW} {A : Nat → Nat} {mm : Nat} {fs : List Value} (hAD : AD A mm) (hmm : w mm = some (.inr (6, fs))) (hA : RA A fs) (h23 : fs[23]? = some (.int (nI ln))) (h26 : fs[26]? = some (.int nu)) (a1 : w (A 1) = some (.inl (0, 2400, .inl (fun j9 => nI (t j9))))) (a10 : w (A 10) = some (.inl (0, 100, .inl (fun j9 => nI (xk j9))))) (a11 : w (A 11) = some (.inl (0, 100, .inl (fun j9 => nI (xm j9))))) (a12 : w (A 12) = some (.inl (0, 400, .inl xp))) (a13 : w (A 13) = some (.inl (0, 100, .inl (fun j9 => nI (xb j9))))) (a14 : w (A 14) = some (.inl (0, 100, .inl (fun j9 => nI (xs j9))))) (a15 : w (A 15) = some (.inl (0, 100, .inl (fun j9 => nI (xe j9))))) (a16 : w (A 16) = some (.inl (0, 100, .inl (fun j9 => nI (xg j9))))) (a17 : w (A 17) = some (.inl (0, 100, .inl xl))) (a18 : w (A 18) = some (.inl (2, 100, .inl xi))) (a19 : w (A 19) = some (.inl (2, 100, .inl xc))) (ht : ∀ j, t j < 256) (hln : ln ≤ 2400) (hR : R = rRead t ln f) : Ct yX6_readAll wsX6_readAll rX6_readAll [.ref mm] w (fun o w9 => o = .inl none ∧ ∃ fs9 : List Value, MU A mm [10, 11, 12, 13, 14, 15, 16, 17, 18, 19] [5, 6, 7, 8, 9, 22, 24, 25, 26, 27, 28, 29, 30, 31, 32, 33] w w9 fs fs9 ∧ ∃ (xk xm : Nat → Nat) (xp : Nat → Int32) (xb xs xe xg : Nat → Nat) (xl xi xc : Nat → Int32), TA A w9 xk xm xp xb xs xe xg xl xi xc ∧ (RFl fs9 R ∨ ∃ (a9 sd9 mr9 cu9 rep9 np9 oc9 : Nat) (f9 : Nat → Int32) (ev9 be9 cq9 st9 me9 pa9 pg9 : Nat), R = (0, a9, (sd9, mr9, cu9, false, false, rep9, np9, oc9, f9, ev9, be9, cq9, st9, me9, pa9)) ∧ RJ (sd9, mr9, cu9, false, false, rep9, np9, oc9, f9, ev9, be9, cq9, st9, me9, pa9) ∧ (sd9 = 1 ∨ sd9 = 2) ∧ fs9[5]? = some (.int (nI ev9)) ∧ fs9[6]? = some (.int (nI me9)) ∧ fs9[7]? = some (.int (nI pg9)) ∧ fs9[8]? = some (.int (nI be9)) ∧ fs9[9]? = some (.int (nI cu9)) ∧ fs9[29]? = some (.int (nI 0)) ∧ pgI f9 ev9 pg9 ∧ TBL xk xm xp xb xs xe xg xl xi xc f9 ev9)) := by
  refine Ct.of (cc := cX6_readAll) (own := RX6) (nm := "readAll") (nL := 2) (ret := none) (by decide +kernel) rfl rfl rfl (Nat.le_of_ble_eq_true rfl) ?_
  refine j_lvE (lv' := [(0, .ref mm)]) rfl ?_
  refine j_aload_n dX6_readAll_0 0 rfl ?_
  refine j_iconst (v := nI 0) dX6_readAll_1 (by decide) ?_
  refine j_putM fsX6_readAll_144 hmm rfl rfl (RA.lt hA (by decide)) dX6_readAll_2 (fun w1 fs2 sfs2 hw1 => ?_)
  have f3 : w1 mm = some (.inr (6, fs2)) := up_at hw1
  have rfs2 : RA A fs2 := RA.set hA sfs2 rfl
  have v4 := st_at sfs2 hA (by decide : 5 < 45)
  refine j_aload_n dX6_readAll_5 0 rfl ?_
  refine j_iconst (v := nI 0) dX6_readAll_6 (by decide) ?_
  refine j_putM fsX6_readAll_147 f3 rfl rfl (RA.lt rfs2 (by decide)) dX6_readAll_7 (fun w5 fs6 sfs6 hw5 => ?_)
  have f7 : w5 mm = some (.inr (6, fs6)) := up_at hw5
  have rfs6 : RA A fs6 := RA.set rfs2 sfs6 rfl
  have v8 := st_at sfs6 rfs2 (by decide : 6 < 45)
  refine j_aload_n dX6_readAll_10 0 rfl ?_
  refine j_iconst (v := nI 0) dX6_readAll_11 (by decide) ?_
  refine j_putM fsX6_readAll_150 f7 rfl rfl (RA.lt rfs6 (by decide)) dX6_readAll_12 (fun w9 fs10 sfs10 hw9 => ?_)
  have f11 : w9 mm = some (.inr (6, fs10)) := up_at hw9
  have rfs10 : RA A fs10 := RA.set rfs6 sfs10 rfl
  have v12 := st_at sfs10 rfs6 (by decide : 7 < 45)
  refine j_aload_n dX6_readAll_15 0 rfl ?_
  refine j_iconst (v := nI 0) dX6_readAll_16 (by decide) ?_
  refine j_putM fsX6_readAll_153 f11 rfl rfl (RA.lt rfs10 (by decide)) dX6_readAll_17 (fun w13 fs14 sfs14 hw13 => ?_)
  have f15 : w13 mm = some (.inr (6, fs14)) := up_at hw13
  have rfs14 : RA A fs14 := RA.set rfs10 sfs14 rfl
  have v16 := st_at sfs14 rfs10 (by decide : 8 < 45)
  refine j_aload_n dX6_readAll_20 0 rfl ?_
  refine j_iconst (v := nI 0) dX6_readAll_21 (by decide) ?_
  refine j_putM fsX6_readAll_156 f15 rfl rfl (RA.lt rfs14 (by decide)) dX6_readAll_22 (fun w17 fs18 sfs18 hw17 => ?_)
  have f19 : w17 mm = some (.inr (6, fs18)) := up_at hw17
  have rfs18 : RA A fs18 := RA.set rfs14 sfs18 rfl
  have v20 := st_at sfs18 rfs14 (by decide : 9 < 45)
  refine j_aload_n dX6_readAll_25 0 rfl ?_
  refine j_iconst (v := nI 0) dX6_readAll_26 (by decide) ?_
  refine j_putM fsX6_readAll_159 f19 rfl rfl (RA.lt rfs18 (by decide)) dX6_readAll_27 (fun w21 fs22 sfs22 hw21 => ?_)
  have f23 : w21 mm = some (.inr (6, fs22)) := up_at hw21
  have rfs22 : RA A fs22 := RA.set rfs18 sfs22 rfl
  have v24 := st_at sfs22 rfs18 (by decide : 31 < 45)
  refine j_aload_n dX6_readAll_30 0 rfl ?_
  refine j_iconst (v := nI 0) dX6_readAll_31 (by decide) ?_
  refine j_putM fsX6_readAll_162 f23 rfl rfl (RA.lt rfs22 (by decide)) dX6_readAll_32 (fun w25 fs26 sfs26 hw25 => ?_)
  have f27 : w25 mm = some (.inr (6, fs26)) := up_at hw25
  have rfs26 : RA A fs26 := RA.set rfs22 sfs26 rfl
  have v28 := st_at sfs26 rfs22 (by decide : 33 < 45)
  refine j_aload_n dX6_readAll_35 0 rfl ?_
  refine j_iconst (v := nI 0) dX6_readAll_36 (by decide) ?_
  refine j_putM fsX6_readAll_124 f27 rfl rfl (RA.lt rfs26 (by decide)) dX6_readAll_37 (fun w29 fs30 sfs30 hw29 => ?_)
  have f31 : w29 mm = some (.inr (6, fs30)) := up_at hw29
  have rfs30 : RA A fs30 := RA.set rfs26 sfs30 rfl
  have v32 := st_at sfs30 rfs26 (by decide : 29 < 45)
  refine j_aload_n dX6_readAll_40 0 rfl ?_
  refine j_iconst (v := nI 0) dX6_readAll_41 (by decide) ?_
  refine j_putM fsX6_readAll_89 f31 rfl rfl (RA.lt rfs30 (by decide)) dX6_readAll_42 (fun w33 fs34 sfs34 hw33 => ?_)
  have f35 : w33 mm = some (.inr (6, fs34)) := up_at hw33
  have rfs34 : RA A fs34 := RA.set rfs30 sfs34 rfl
  have v36 := st_at sfs34 rfs30 (by decide : 22 < 45)
  refine j_iconst (v := nI 0) dX6_readAll_45 (by decide) ?_
  refine j_istore_n (lv' := [(1, .int (nI 0)), (0, .ref mm)]) dX6_readAll_46 (Nat.le_of_ble_eq_true rfl) rfl ?_
  refine j_aload_n dX6_readAll_47 1 rfl ?_
  obtain ⟨az37, haz37⟩ : ∃ z, skB t ln 0 = z := ⟨_, rfl⟩
  have v49 := (st_ne sfs34 rfl (st_ne sfs30 rfl (st_ne sfs26 rfl (st_ne sfs22 rfl (st_ne sfs18 rfl (st_ne sfs14 rfl (st_ne sfs10 rfl (st_ne sfs6 rfl (st_ne sfs2 rfl h23)))))))))
  have v50 := (st_ne sfs34 rfl (st_ne sfs30 rfl (st_ne sfs26 rfl (st_ne sfs22 rfl (st_ne sfs18 rfl (st_ne sfs14 rfl (st_ne sfs10 rfl (st_ne sfs6 rfl (st_ne sfs2 rfl h26)))))))))
  have f51 := (up_ne hw33 (AD.nm hAD 1 rfl) (up_ne hw29 (AD.nm hAD 1 rfl) (up_ne hw25 (AD.nm hAD 1 rfl) (up_ne hw21 (AD.nm hAD 1 rfl) (up_ne hw17 (AD.nm hAD 1 rfl) (up_ne hw13 (AD.nm hAD 1 rfl) (up_ne hw9 (AD.nm hAD 1 rfl) (up_ne hw5 (AD.nm hAD 1 rfl) (up_ne hw1 (AD.nm hAD 1 rfl) a1)))))))))
  refine j_callV (rm := rX6_next) (As := []) (st := []) (b0 := mm) (ci := 6) (na := 0) (m_next1 (a := az37) hAD f35 rfs34 v36 v49 v50 f51 ht hln (by omega) haz37) (by intro E w9 h9; first | exact nomatch h9.1 | (obtain ⟨_, h9, _⟩ := h9; exact nomatch h9) | (obtain ⟨_, _, _, h9, _⟩ := h9; exact nomatch h9)) gX6_readAll_X6_next rfl rfl f35 (by decide +kernel) rfl ⟨Nat.le_of_ble_eq_true rfl, Nat.le_of_ble_eq_true rfl⟩ rfl (Nat.le_of_ble_eq_true rfl) dX6_readAll_48 ⟨(show 0 + 0 ≤ 0 by omega), (show 0 + 0 ≤ 0 by omega)⟩ (fun v57 w58 h59 => ?_)
  obtain ⟨h56, fs52, ⟨hfr53, hm54, hff55⟩, ⟨tkn38, sg39, nu40, v43, v44, v45, v46, v47, v48, hT41, hN42⟩⟩ := h59
  cases h56
  refine j_after (st' := []) (k' := 0) (n' := 0) rfl rfl rfl ?_
  have r60 : RA A fs52 := RA.ff rfs34 hff55 rfl
  have hT41b := hT41.1
  refine j_lv (lv' := [(0, .ref mm), (1, .int (nI 0))]) [1, 0] rfl ?_
  have v61 := (FF.at hff55 rfl (st_ne sfs34 rfl (st_ne sfs30 rfl (st_ne sfs26 rfl (st_ne sfs22 rfl (st_ne sfs18 rfl (st_ne sfs14 rfl (st_ne sfs10 rfl (st_ne sfs6 rfl v4)))))))))
  have v62 := (FF.at hff55 rfl (st_ne sfs34 rfl (st_ne sfs30 rfl (st_ne sfs26 rfl (st_ne sfs22 rfl (st_ne sfs18 rfl (st_ne sfs14 rfl (st_ne sfs10 rfl v8))))))))
  have v63 := (FF.at hff55 rfl (st_ne sfs34 rfl (st_ne sfs30 rfl (st_ne sfs26 rfl (st_ne sfs22 rfl (st_ne sfs18 rfl v16))))))
  have v64 := (FF.at hff55 rfl (st_ne sfs34 rfl (st_ne sfs30 rfl (st_ne sfs26 rfl (st_ne sfs22 rfl v20)))))
  have v65 := (FF.at hff55 rfl v49)
  have v66 := (FF.at hff55 rfl (st_ne sfs34 rfl v32))
  have v67 := (FF.at hff55 rfl (st_ne sfs34 rfl (st_ne sfs30 rfl (st_ne sfs26 rfl v24))))
  have v68 := (FF.at hff55 rfl (st_ne sfs34 rfl (st_ne sfs30 rfl v28)))
  have v69 := (FF.at hff55 rfl (st_ne sfs34 rfl (st_ne sfs30 rfl (st_ne sfs26 rfl (st_ne sfs22 rfl (st_ne sfs18 rfl (st_ne sfs14 rfl v12)))))))
  have f70 := (FrI.a1 hfr53 hAD rfl rfl rfl f51)
  have f71 := (FrI.a1 hfr53 hAD rfl rfl rfl (up_ne hw33 (AD.nm hAD 10 rfl) (up_ne hw29 (AD.nm hAD 10 rfl) (up_ne hw25 (AD.nm hAD 10 rfl) (up_ne hw21 (AD.nm hAD 10 rfl) (up_ne hw17 (AD.nm hAD 10 rfl) (up_ne hw13 (AD.nm hAD 10 rfl) (up_ne hw9 (AD.nm hAD 10 rfl) (up_ne hw5 (AD.nm hAD 10 rfl) (up_ne hw1 (AD.nm hAD 10 rfl) a10))))))))))
  have f72 := (FrI.a1 hfr53 hAD rfl rfl rfl (up_ne hw33 (AD.nm hAD 11 rfl) (up_ne hw29 (AD.nm hAD 11 rfl) (up_ne hw25 (AD.nm hAD 11 rfl) (up_ne hw21 (AD.nm hAD 11 rfl) (up_ne hw17 (AD.nm hAD 11 rfl) (up_ne hw13 (AD.nm hAD 11 rfl) (up_ne hw9 (AD.nm hAD 11 rfl) (up_ne hw5 (AD.nm hAD 11 rfl) (up_ne hw1 (AD.nm hAD 11 rfl) a11))))))))))
  have f73 := (FrI.a1 hfr53 hAD rfl rfl rfl (up_ne hw33 (AD.nm hAD 12 rfl) (up_ne hw29 (AD.nm hAD 12 rfl) (up_ne hw25 (AD.nm hAD 12 rfl) (up_ne hw21 (AD.nm hAD 12 rfl) (up_ne hw17 (AD.nm hAD 12 rfl) (up_ne hw13 (AD.nm hAD 12 rfl) (up_ne hw9 (AD.nm hAD 12 rfl) (up_ne hw5 (AD.nm hAD 12 rfl) (up_ne hw1 (AD.nm hAD 12 rfl) a12))))))))))
  have f74 := (FrI.a1 hfr53 hAD rfl rfl rfl (up_ne hw33 (AD.nm hAD 13 rfl) (up_ne hw29 (AD.nm hAD 13 rfl) (up_ne hw25 (AD.nm hAD 13 rfl) (up_ne hw21 (AD.nm hAD 13 rfl) (up_ne hw17 (AD.nm hAD 13 rfl) (up_ne hw13 (AD.nm hAD 13 rfl) (up_ne hw9 (AD.nm hAD 13 rfl) (up_ne hw5 (AD.nm hAD 13 rfl) (up_ne hw1 (AD.nm hAD 13 rfl) a13))))))))))
  have f75 := (FrI.a1 hfr53 hAD rfl rfl rfl (up_ne hw33 (AD.nm hAD 14 rfl) (up_ne hw29 (AD.nm hAD 14 rfl) (up_ne hw25 (AD.nm hAD 14 rfl) (up_ne hw21 (AD.nm hAD 14 rfl) (up_ne hw17 (AD.nm hAD 14 rfl) (up_ne hw13 (AD.nm hAD 14 rfl) (up_ne hw9 (AD.nm hAD 14 rfl) (up_ne hw5 (AD.nm hAD 14 rfl) (up_ne hw1 (AD.nm hAD 14 rfl) a14))))))))))
  have f76 := (FrI.a1 hfr53 hAD rfl rfl rfl (up_ne hw33 (AD.nm hAD 15 rfl) (up_ne hw29 (AD.nm hAD 15 rfl) (up_ne hw25 (AD.nm hAD 15 rfl) (up_ne hw21 (AD.nm hAD 15 rfl) (up_ne hw17 (AD.nm hAD 15 rfl) (up_ne hw13 (AD.nm hAD 15 rfl) (up_ne hw9 (AD.nm hAD 15 rfl) (up_ne hw5 (AD.nm hAD 15 rfl) (up_ne hw1 (AD.nm hAD 15 rfl) a15))))))))))
  have f77 := (FrI.a1 hfr53 hAD rfl rfl rfl (up_ne hw33 (AD.nm hAD 16 rfl) (up_ne hw29 (AD.nm hAD 16 rfl) (up_ne hw25 (AD.nm hAD 16 rfl) (up_ne hw21 (AD.nm hAD 16 rfl) (up_ne hw17 (AD.nm hAD 16 rfl) (up_ne hw13 (AD.nm hAD 16 rfl) (up_ne hw9 (AD.nm hAD 16 rfl) (up_ne hw5 (AD.nm hAD 16 rfl) (up_ne hw1 (AD.nm hAD 16 rfl) a16))))))))))
  have f78 := (FrI.a1 hfr53 hAD rfl rfl rfl (up_ne hw33 (AD.nm hAD 17 rfl) (up_ne hw29 (AD.nm hAD 17 rfl) (up_ne hw25 (AD.nm hAD 17 rfl) (up_ne hw21 (AD.nm hAD 17 rfl) (up_ne hw17 (AD.nm hAD 17 rfl) (up_ne hw13 (AD.nm hAD 17 rfl) (up_ne hw9 (AD.nm hAD 17 rfl) (up_ne hw5 (AD.nm hAD 17 rfl) (up_ne hw1 (AD.nm hAD 17 rfl) a17))))))))))
  have f79 := (FrI.a1 hfr53 hAD rfl rfl rfl (up_ne hw33 (AD.nm hAD 18 rfl) (up_ne hw29 (AD.nm hAD 18 rfl) (up_ne hw25 (AD.nm hAD 18 rfl) (up_ne hw21 (AD.nm hAD 18 rfl) (up_ne hw17 (AD.nm hAD 18 rfl) (up_ne hw13 (AD.nm hAD 18 rfl) (up_ne hw9 (AD.nm hAD 18 rfl) (up_ne hw5 (AD.nm hAD 18 rfl) (up_ne hw1 (AD.nm hAD 18 rfl) a18))))))))))
  have f80 := (FrI.a1 hfr53 hAD rfl rfl rfl (up_ne hw33 (AD.nm hAD 19 rfl) (up_ne hw29 (AD.nm hAD 19 rfl) (up_ne hw25 (AD.nm hAD 19 rfl) (up_ne hw21 (AD.nm hAD 19 rfl) (up_ne hw17 (AD.nm hAD 19 rfl) (up_ne hw13 (AD.nm hAD 19 rfl) (up_ne hw9 (AD.nm hAD 19 rfl) (up_ne hw5 (AD.nm hAD 19 rfl) (up_ne hw1 (AD.nm hAD 19 rfl) a19))))))))))
  exact l_a51 hAD ht hln _ _ _ _ _ _ _ _ _ _ _ _ _ _ _ _ _ _ _ _ _ _ _ _ _ _ _ _ _ _ _ (Nat.lt_succ_self _) hm54 r60 (((((((((((FrI.refl : FrI A [mm] [10, 11, 12, 13, 14, 15, 16, 17, 18, 19] w w).trans (FrI.ux hw1 (by simp))).trans (FrI.ux hw5 (by simp))).trans (FrI.ux hw9 (by simp))).trans (FrI.ux hw13 (by simp))).trans (FrI.ux hw17 (by simp))).trans (FrI.ux hw21 (by simp))).trans (FrI.ux hw25 (by simp))).trans (FrI.ux hw29 (by simp))).trans (FrI.ux hw33 (by simp))).trans (FrI.sub hfr53 rfl)) (((((((((((FF.refl : FF [5, 6, 7, 8, 9, 22, 24, 25, 26, 27, 28, 29, 30, 31, 32, 33] fs fs).trans (FF.set sfs2 rfl)).trans (FF.set sfs6 rfl)).trans (FF.set sfs10 rfl)).trans (FF.set sfs14 rfl)).trans (FF.set sfs18 rfl)).trans (FF.set sfs22 rfl)).trans (FF.set sfs26 rfl)).trans (FF.set sfs30 rfl)).trans (FF.set sfs34 rfl)).trans (FF.mono hff55 rfl)) v61 v62 v63 v64 v65 v66 v67 v68 v43 v44 v45 v46 v47 v48 v69 f70 f71 f72 f73 f74 f75 f76 f77 f78 f79 f80 hT41 hN42 (hR.trans (by unfold rRead rR; rw [haz37]; rfl)) (RJ_0 f) (by rw [← haz37]; have := skB_bd (t := t) (ln := ln) (p := 0); omega) (fun e he => by omega) (Or.inl rfl) ⟨fun _ => rfl, fun q => by omega⟩
