/-- the number of pages, as the model counts them -/
def pgI (f : Nat → Int32) (ev pg : Nat) : Prop := (ev = 0 → pg = 0) ∧ (0 < ev → cl f 5 (ev - 1) + 1 = pg)
abbrev rX6_readAll : Room := { frames := 4, cells := 0, slots := 0, locals := 94 }
theorem flX6_readAll_124 : FL wsX6_readAll RX6 124 6 29 := ⟨RX6, TX6, 45, rfl, by decide, by decide +kernel, by decide +kernel⟩
theorem flX6_readAll_147 : FL wsX6_readAll RX6 147 6 6 := ⟨RX6, TX6, 45, rfl, by decide, by decide +kernel, by decide +kernel⟩
theorem fsX6_readAll_147 : FS wsX6_readAll RX6 147 6 6 false (.int) := ⟨RX6, TX6, 45, tyX6, rfl, by decide, by decide +kernel, by decide +kernel, tyX6_ok, nmX6, rfl, rfl, rfl⟩
theorem fsX6_readAll_150 : FS wsX6_readAll RX6 150 6 7 false (.int) := ⟨RX6, TX6, 45, tyX6, rfl, by decide, by decide +kernel, by decide +kernel, tyX6_ok, nmX6, rfl, rfl, rfl⟩
theorem flX6_readAll_38 : FL wsX6_readAll RX6 38 6 17 := ⟨RX6, TX6, 45, rfl, by decide, by decide +kernel, by decide +kernel⟩
theorem flX6_readAll_144 : FL wsX6_readAll RX6 144 6 5 := ⟨RX6, TX6, 45, rfl, by decide, by decide +kernel, by decide +kernel⟩
theorem flX6_readAll_162 : FL wsX6_readAll RX6 162 6 33 := ⟨RX6, TX6, 45, rfl, by decide, by decide +kernel, by decide +kernel⟩
theorem fsX6_readAll_162 : FS wsX6_readAll RX6 162 6 33 false (.int) := ⟨RX6, TX6, 45, tyX6, rfl, by decide, by decide +kernel, by decide +kernel, tyX6_ok, nmX6, rfl, rfl, rfl⟩
set_option maxHeartbeats 4000000 in
set_option maxRecDepth 100000 in
theorem l_a107 {t : Nat → Nat} {ln : Nat} {w0 : pW} {fs0 : List Value} {A : Nat → Nat} {mm : Nat} {R : Nat × Nat × RSt} (hAD : AD A mm) (ht : ∀ j, t j < 256) (hln : ln ≤ 2400) {rep me pa aS m8 : Nat} (hout : ∀ (w : pW) (fs : List Value) (a : Nat) (tkn : Nat) (sg : Nat) (nu : Int32) (sd : Nat) (mr : Nat) (cu : Nat) (rep : Nat) (np : Nat) (oc : Nat) (f : Nat → Int32) (ev : Nat) (be : Nat) (cq : Nat) (st : Nat) (me : Nat) (pa : Nat) (pg : Nat) (xk : Nat → Nat) (xm : Nat → Nat) (xp : Nat → Int32) (xb : Nat → Nat) (xs : Nat → Nat) (xe : Nat → Nat) (xg : Nat → Nat) (xl : Nat → Int32) (xi : Nat → Int32) (xc : Nat → Int32), ln + 2 - a < m8 → (w mm = some (.inr (6, fs))) → (RA A fs) → (FrI A [mm] [10, 11, 12, 13, 14, 15, 16, 17, 18, 19] w0 w) → (FF [5, 6, 7, 8, 9, 22, 24, 25, 26, 27, 28, 29, 30, 31, 32, 33] fs0 fs) → (fs[5]? = some (.int (nI ev))) → (fs[6]? = some (.int (nI me))) → (fs[8]? = some (.int (nI be))) → (fs[9]? = some (.int (nI cu))) → (fs[23]? = some (.int (nI ln))) → (fs[29]? = some (.int (nI 0))) → (fs[31]? = some (.int (nI mr))) → (fs[33]? = some (.int (nI rep))) → (fs[22]? = some (.int (nI ((tk t ln a).1)))) → (fs[24]? = some (.int (nI tkn))) → (fs[25]? = some (.int (nI sg))) → (fs[26]? = some (.int nu)) → (fs[27]? = some (.int (nI a))) → (fs[28]? = some (.int (nI ((tk t ln a).1)))) → (fs[7]? = some (.int (nI pg))) → (w (A 1) = some (.inl (0, 2400, .inl (fun j9 => nI (t j9))))) → (w (A 10) = some (.inl (0, 100, .inl (fun j9 => nI (xk j9))))) → (w (A 11) = some (.inl (0, 100, .inl (fun j9 => nI (xm j9))))) → (w (A 12) = some (.inl (0, 400, .inl xp))) → (w (A 13) = some (.inl (0, 100, .inl (fun j9 => nI (xb j9))))) → (w (A 14) = some (.inl (0, 100, .inl (fun j9 => nI (xs j9))))) → (w (A 15) = some (.inl (0, 100, .inl (fun j9 => nI (xe j9))))) → (w (A 16) = some (.inl (0, 100, .inl (fun j9 => nI (xg j9))))) → (w (A 17) = some (.inl (0, 100, .inl xl))) → (w (A 18) = some (.inl (2, 100, .inl xi))) → (w (A 19) = some (.inl (2, 100, .inl xc))) → (TS tkn sg (tkK t ln a)) → (NS nu (tkK t ln a) (tkV t ln a) ((tk t ln a).1 - a)) → (R = rR t ln a (sd, mr, cu, false, false, rep, np, oc, f, ev, be, cq, st, me, pa)) → (RJ (sd, mr, cu, false, false, rep, np, oc, f, ev, be, cq, st, me, pa)) → (a ≤ ln + 1) → (TBL xk xm xp xb xs xe xg xl xi xc f ev) → (sd = 1 ∨ (sd = 2 ∧ tkK t ln a ≠ 37)) → (pgI f ev pg) → J ((cX6_readAll, RX6, 2, wsX6_readAll), (rX6_readAll, none, "readAll", []), fun o w9 => o = .inl none ∧ ∃ fs9 : List Value, MU A mm [10, 11, 12, 13, 14, 15, 16, 17, 18, 19] [5, 6, 7, 8, 9, 22, 24, 25, 26, 27, 28, 29, 30, 31, 32, 33] w0 w9 fs0 fs9 ∧ ∃ (xk xm : Nat → Nat) (xp : Nat → Int32) (xb xs xe xg : Nat → Nat) (xl xi xc : Nat → Int32), TA A w9 xk xm xp xb xs xe xg xl xi xc ∧ (∃ nu9 : Int32, fs9[26]? = some (.int nu9)) ∧ (RFl fs9 R ∨ ∃ (a9 sd9 mr9 cu9 rep9 np9 oc9 : Nat) (f9 : Nat → Int32) (ev9 be9 cq9 st9 me9 pa9 pg9 : Nat), R = (0, a9, (sd9, mr9, cu9, false, false, rep9, np9, oc9, f9, ev9, be9, cq9, st9, me9, pa9)) ∧ RJ (sd9, mr9, cu9, false, false, rep9, np9, oc9, f9, ev9, be9, cq9, st9, me9, pa9) ∧ (sd9 = 1 ∨ sd9 = 2) ∧ fs9[5]? = some (.int (nI ev9)) ∧ fs9[6]? = some (.int (nI me9)) ∧ fs9[7]? = some (.int (nI pg9)) ∧ fs9[8]? = some (.int (nI be9)) ∧ fs9[9]? = some (.int (nI cu9)) ∧ fs9[29]? = some (.int (nI 0)) ∧ pgI f9 ev9 pg9 ∧ TBL xk xm xp xb xs xe xg xl xi xc f9 ev9), fun _ _ _ => True) 51 [(0, .ref mm), (1, .int (nI pa))] [] w 0 0) (hm8 : ln + 2 - aS ≤ m8) : ∀ (m9 : Nat) (w : pW) (fs : List Value) (a : Nat) (tkn : Nat) (sg : Nat) (nu : Int32) (sd : Nat) (mr : Nat) (cu : Nat) (np : Nat) (oc : Nat) (f : Nat → Int32) (ev : Nat) (be : Nat) (cq : Nat) (st : Nat) (xk : Nat → Nat) (xm : Nat → Nat) (xp : Nat → Int32) (xb : Nat → Nat) (xs : Nat → Nat) (xe : Nat → Nat) (xg : Nat → Nat) (xl : Nat → Int32) (xi : Nat → Int32) (xc : Nat → Int32), ln + 2 - a < m9 → (w mm = some (.inr (6, fs))) → (RA A fs) → (FrI A [mm] [10, 11, 12, 13, 14, 15, 16, 17, 18, 19] w0 w) → (FF [5, 6, 7, 8, 9, 22, 24, 25, 26, 27, 28, 29, 30, 31, 32, 33] fs0 fs) → (fs[5]? = some (.int (nI ev))) → (fs[6]? = some (.int (nI me))) → (fs[8]? = some (.int (nI be))) → (fs[9]? = some (.int (nI cu))) → (fs[23]? = some (.int (nI ln))) → (fs[29]? = some (.int (nI 0))) → (fs[31]? = some (.int (nI mr))) → (fs[33]? = some (.int (nI rep))) → (fs[22]? = some (.int (nI ((tk t ln a).1)))) → (fs[24]? = some (.int (nI tkn))) → (fs[25]? = some (.int (nI sg))) → (fs[26]? = some (.int nu)) → (fs[27]? = some (.int (nI a))) → (fs[28]? = some (.int (nI ((tk t ln a).1)))) → (w (A 1) = some (.inl (0, 2400, .inl (fun j9 => nI (t j9))))) → (w (A 10) = some (.inl (0, 100, .inl (fun j9 => nI (xk j9))))) → (w (A 11) = some (.inl (0, 100, .inl (fun j9 => nI (xm j9))))) → (w (A 12) = some (.inl (0, 400, .inl xp))) → (w (A 13) = some (.inl (0, 100, .inl (fun j9 => nI (xb j9))))) → (w (A 14) = some (.inl (0, 100, .inl (fun j9 => nI (xs j9))))) → (w (A 15) = some (.inl (0, 100, .inl (fun j9 => nI (xe j9))))) → (w (A 16) = some (.inl (0, 100, .inl (fun j9 => nI (xg j9))))) → (w (A 17) = some (.inl (0, 100, .inl xl))) → (w (A 18) = some (.inl (2, 100, .inl xi))) → (w (A 19) = some (.inl (2, 100, .inl xc))) → (TS tkn sg (tkK t ln a)) → (NS nu (tkK t ln a) (tkV t ln a) ((tk t ln a).1 - a)) → (R = rR t ln a (sd, mr, cu, false, false, rep, np, oc, f, ev, be, cq, st, me, pa)) → (RJ (sd, mr, cu, false, false, rep, np, oc, f, ev, be, cq, st, me, pa)) → (a ≤ ln + 1) → (TBL xk xm xp xb xs xe xg xl xi xc f ev) → (aS ≤ a) → (sd = 8 ∨ ((sd = 1 ∨ sd = 2 ∨ sd = 4) ∧ bM (tkK t ln a) = true)) → J ((cX6_readAll, RX6, 2, wsX6_readAll), (rX6_readAll, none, "readAll", []), fun o w9 => o = .inl none ∧ ∃ fs9 : List Value, MU A mm [10, 11, 12, 13, 14, 15, 16, 17, 18, 19] [5, 6, 7, 8, 9, 22, 24, 25, 26, 27, 28, 29, 30, 31, 32, 33] w0 w9 fs0 fs9 ∧ ∃ (xk xm : Nat → Nat) (xp : Nat → Int32) (xb xs xe xg : Nat → Nat) (xl xi xc : Nat → Int32), TA A w9 xk xm xp xb xs xe xg xl xi xc ∧ (∃ nu9 : Int32, fs9[26]? = some (.int nu9)) ∧ (RFl fs9 R ∨ ∃ (a9 sd9 mr9 cu9 rep9 np9 oc9 : Nat) (f9 : Nat → Int32) (ev9 be9 cq9 st9 me9 pa9 pg9 : Nat), R = (0, a9, (sd9, mr9, cu9, false, false, rep9, np9, oc9, f9, ev9, be9, cq9, st9, me9, pa9)) ∧ RJ (sd9, mr9, cu9, false, false, rep9, np9, oc9, f9, ev9, be9, cq9, st9, me9, pa9) ∧ (sd9 = 1 ∨ sd9 = 2) ∧ fs9[5]? = some (.int (nI ev9)) ∧ fs9[6]? = some (.int (nI me9)) ∧ fs9[7]? = some (.int (nI pg9)) ∧ fs9[8]? = some (.int (nI be9)) ∧ fs9[9]? = some (.int (nI cu9)) ∧ fs9[29]? = some (.int (nI 0)) ∧ pgI f9 ev9 pg9 ∧ TBL xk xm xp xb xs xe xg xl xi xc f9 ev9), fun _ _ _ => True) 107 [(0, .ref mm), (1, .int (nI pa))] [] w 0 0 := by
  intro m9
  induction m9 with
  | zero => intro w fs a tkn sg nu sd mr cu np oc f ev be cq st xk xm xp xb xs xe xg xl xi xc h9; omega
  | succ m9 ih =>
    intro w fs a tkn sg nu sd mr cu np oc f ev be cq st xk xm xp xb xs xe xg xl xi xc hm9 hmm hA hfr hff h5 h6 h8 h9 h23 h29 h31 h33 h22 h24 h25 h26 h27 h28 a1 a10 a11 a12 a13 a14 a15 a16 a17 a18 a19 hT hN hR hI ha hTB haS hsd
    have hTb := hT.1
    obtain ⟨i1, i2, i3, i4, i5, i6, i7⟩ := id hI.1
    refine j_aload_n dX6_readAll_107 0 rfl ?_
    refine j_get (v := .int (nI 0)) flX6_readAll_124 hmm h29 dX6_readAll_108 ?_
    refine j_if_neN 129 (by decide) dX6_readAll_111 (by decide) (fun h9 => absurd rfl h9) (fun _ => ?_)
    refine j_aload_n dX6_readAll_114 0 rfl ?_
    refine j_callV (rm := rX6_beginsMarked) (As := []) (st := []) (b0 := mm) (ci := 6) (na := 0) (m_beginsMarked hAD hmm hA h24 h25 hT) (by intro E w9 h9; first | exact nomatch h9.1 | (obtain ⟨_, h9, _⟩ := h9; exact nomatch h9) | (obtain ⟨_, _, _, h9, _⟩ := h9; exact nomatch h9)) gX6_readAll_X6_beginsMarked rfl rfl hmm (by decide +kernel) rfl ⟨Nat.le_of_ble_eq_true rfl, Nat.le_of_ble_eq_true rfl⟩ rfl (Nat.le_of_ble_eq_true rfl) dX6_readAll_115 ⟨(show 0 + 0 ≤ 0 by omega), (show 0 + 0 ≤ 0 by omega)⟩ (fun v1 w2 h3 => ?_)
    obtain ⟨h3, h4⟩ := h3
    cases h3
    subst w2
    refine j_after (st' := [.int (zb (bM (tkK t ln a)))]) (k' := 0) (n' := 0) rfl rfl rfl ?_
    by_cases hbm : bM (tkK t ln a) = true
    · skip
      refine j_eqi (y := nI 1) (by rw [hbm]; rfl) ?_
      refine j_if_eqN 129 (by decide) dX6_readAll_118 (by decide) (fun h9 => absurd h9 (by decide)) (fun _ => ?_)
      refine j_aload_n dX6_readAll_121 0 rfl ?_
      refine j_iload_n dX6_readAll_122 1 rfl ?_
      refine j_callV (rm := rX6_readMarked) (As := [.int (nI pa)]) (st := []) (b0 := mm) (ci := 6) (na := 1) (m_readMarked hAD hmm hA h5 h6 h8 h9 h23 h29 h31 h22 h24 h25 h26 h27 h28 a1 a10 a11 a12 a13 a14 a15 a16 a17 a18 a19 ht hln hT hN hR hI ha hTB (by omega) hbm) (by intro E w9 h9; first | exact nomatch h9.1 | (obtain ⟨_, h9, _⟩ := h9; exact nomatch h9) | (obtain ⟨_, _, _, h9, _⟩ := h9; exact nomatch h9)) gX6_readAll_X6_readMarked rfl rfl hmm (by decide +kernel) rfl ⟨Nat.le_of_ble_eq_true rfl, Nat.le_of_ble_eq_true rfl⟩ rfl (Nat.le_of_ble_eq_true rfl) dX6_readAll_123 ⟨(show 0 + 0 ≤ 0 by omega), (show 0 + 0 ≤ 0 by omega)⟩ (fun v33 w34 h35 => ?_)
      obtain ⟨h32, fs28, ⟨hfr29, hm30, hff31⟩, xk5, xm6, xp7, xb8, xs9, xe10, xg11, xl12, xi13, xc14, ⟨f15, f16, f17, f18, f19, f20, f21, f22, f23, f24⟩, ⟨nu26, v27⟩, hcase25⟩ := h35
      cases h32
      refine j_after (st' := []) (k' := 0) (n' := 0) rfl rfl rfl ?_
      have r36 : RA A fs28 := RA.ff hA hff31 rfl
      rcases hcase25 with ⟨hF1, hF2, hF3, hF4⟩ | ⟨a9, mr9, cu9, np9, oc9, f9, ev9, be9, cq9, st9, hl9, ha9, hR9, hI9, v37, v38, v39, v40, v41, ⟨tkn9, sg9, nu9, v42, v43, v44, v45, v46, v47, hT9, hN9⟩, hTB9⟩
      · skip
        refine j_goto 107 dX6_readAll_126 (by decide) ?_
        refine j_aload_n dX6_readAll_107 0 rfl ?_
        refine j_get (v := .int (nI R.1)) flX6_readAll_124 hm30 hF3 dX6_readAll_108 ?_
        refine j_if_neN 129 (by omega) dX6_readAll_111 (by decide) (fun c111 => ?_) (fun c111 => ?_)
        · skip
          refine j_aload_n dX6_readAll_129 0 rfl ?_
          refine j_get (v := .int (nI R.1)) flX6_readAll_124 hm30 hF3 dX6_readAll_130 ?_
          refine j_if_eqN 137 (by omega) dX6_readAll_133 (by decide) (fun c133 => ?_) (fun c133 => ?_)
          · skip
            exfalso; omega
          · skip
            exact j_vret rfl ⟨rfl, _, ⟨((FrI.mono hfr (by simp) rfl : FrI A [mm] [10, 11, 12, 13, 14, 15, 16, 17, 18, 19] w0 _).trans (FrI.sub hfr29 rfl)), hm30, ((FF.mono hff rfl : FF [5, 6, 7, 8, 9, 22, 24, 25, 26, 27, 28, 29, 30, 31, 32, 33] fs0 _).trans (FF.mono hff31 rfl))⟩, _, _, _, _, _, _, _, _, _, _, ⟨f15, f16, f17, f18, f19, f20, f21, f22, f23, f24⟩, ⟨_, v27⟩, Or.inl ⟨hF1, hF2, hF3, hF4⟩⟩ (show 0 ≤ 0 by omega) (show 0 ≤ 0 by omega) dX6_readAll_136
        · skip
          exfalso; omega
      · skip
        refine j_goto 107 dX6_readAll_126 (by decide) ?_
        have v48 := (FF.at hff31 rfl h6)
        have v49 := (FF.at hff31 rfl h23)
        have v50 := (FF.at hff31 rfl h33)
        have f51 := (FrI.gen hfr29 (nm1 (AD.nm hAD 1 rfl)) (AD.nl hAD 1 rfl rfl rfl) a1)
        exact ih _ _ _ _ _ _ _ _ _ _ _ _ _ _ _ _ _ _ _ _ _ _ _ _ _ _ (by omega) hm30 r36 ((FrI.mono hfr (by simp) rfl : FrI A [mm] [10, 11, 12, 13, 14, 15, 16, 17, 18, 19] w0 _).trans (FrI.sub hfr29 rfl)) ((FF.mono hff rfl : FF [5, 6, 7, 8, 9, 22, 24, 25, 26, 27, 28, 29, 30, 31, 32, 33] fs0 _).trans (FF.mono hff31 rfl)) v37 v48 v38 v39 v49 v40 v41 v50 v42 v43 v44 v45 v46 v47 f51 f15 f16 f17 f18 f19 f20 f21 f22 f23 f24 hT9 hN9 hR9 hI9 ha9 hTB9 (by omega) (Or.inl rfl)
    · skip
      have hbm0 : bM (tkK t ln a) = false := by simpa using hbm
      refine j_eqi (y := nI 0) (by rw [hbm0]; rfl) ?_
      refine j_if_eqN 129 (by decide) dX6_readAll_118 (by decide) (fun _ => ?_) (fun h9 => absurd rfl h9)
      refine j_aload_n dX6_readAll_129 0 rfl ?_
      refine j_get (v := .int (nI 0)) flX6_readAll_124 hmm h29 dX6_readAll_130 ?_
      refine j_if_eqN 137 (by decide) dX6_readAll_133 (by decide) (fun _ => ?_) (fun h9 => absurd rfl h9)
      have hs8 : sd = 8 := hsd.elim id (fun q => absurd q.2 hbm)
      subst hs8
      obtain ⟨e81, e82, e83⟩ := hI.2.2.2.2.1 rfl
      refine j_aload_n dX6_readAll_137 0 rfl ?_
      refine j_bipush (v := nI 124) dX6_readAll_138 (by decide) ?_
      refine j_callV (rm := rX6_isSign) (As := [.int (nI 124)]) (st := []) (b0 := mm) (ci := 6) (na := 1) (m_isSign (c := 124) hAD hmm hA h24 h25 hT rfl (by decide)) (by intro E w9 h9; first | exact nomatch h9.1 | (obtain ⟨_, h9, _⟩ := h9; exact nomatch h9) | (obtain ⟨_, _, _, h9, _⟩ := h9; exact nomatch h9)) gX6_readAll_X6_isSign rfl rfl hmm (by decide +kernel) rfl ⟨Nat.le_of_ble_eq_true rfl, Nat.le_of_ble_eq_true rfl⟩ rfl (Nat.le_of_ble_eq_true rfl) dX6_readAll_140 ⟨(show 0 + 0 ≤ 0 by omega), (show 0 + 0 ≤ 0 by omega)⟩ (fun v52 w53 h54 => ?_)
      obtain ⟨h54, h55⟩ := h54
      cases h54
      subst w53
      refine j_after (st' := [.int (zb (decide (tkK t ln a = 124)))]) (k' := 0) (n' := 0) rfl rfl rfl ?_
      by_cases hk124 : tkK t ln a = 124
      · skip
        refine j_eqi (y := nI 1) (by rw [decide_eq_true hk124]; rfl) ?_
        refine j_if_neN 162 (by decide) dX6_readAll_143 (by decide) (fun _ => ?_) (fun h9 => absurd h9 (by decide))
        have hk5 : ¬ tkK t ln a = 5 := by omega
        refine j_aload_n dX6_readAll_162 0 rfl ?_
        refine j_sipush (v := nI 257) dX6_readAll_163 (by decide) ?_
        refine j_callV (rm := rX6_isSign) (As := [.int (nI 257)]) (st := []) (b0 := mm) (ci := 6) (na := 1) (m_isSign (c := 257) hAD hmm hA h24 h25 hT rfl (by decide)) (by intro E w9 h9; first | exact nomatch h9.1 | (obtain ⟨_, h9, _⟩ := h9; exact nomatch h9) | (obtain ⟨_, _, _, h9, _⟩ := h9; exact nomatch h9)) gX6_readAll_X6_isSign rfl rfl hmm (by decide +kernel) rfl ⟨Nat.le_of_ble_eq_true rfl, Nat.le_of_ble_eq_true rfl⟩ rfl (Nat.le_of_ble_eq_true rfl) dX6_readAll_166 ⟨(show 0 + 0 ≤ 0 by omega), (show 0 + 0 ≤ 0 by omega)⟩ (fun v56 w57 h58 => ?_)
        obtain ⟨h58, h59⟩ := h58
        cases h58
        subst w57
        refine j_after (st' := [.int (zb (decide (tkK t ln a = 5)))]) (k' := 0) (n' := 0) rfl rfl rfl ?_
        refine j_eqi (y := nI 0) (by rw [decide_eq_false hk5]; rfl) ?_
        refine j_if_eqN 195 (by decide) dX6_readAll_169 (by decide) (fun _ => ?_) (fun h9 => absurd rfl h9)
        refine j_aload_n dX6_readAll_195 0 rfl ?_
        refine j_dup dX6_readAll_196 rfl ?_
        refine j_get (v := .int (nI me)) flX6_readAll_147 hmm h6 dX6_readAll_197 ?_
        refine j_iconst (v := nI 1) dX6_readAll_200 (by decide) ?_
        refine j_iaddN dX6_readAll_201 ?_
        refine j_putM fsX6_readAll_147 hmm rfl rfl (RA.lt hA (by decide)) dX6_readAll_202 (fun w60 fs61 sfs61 hw60 => ?_)
        have f62 : w60 mm = some (.inr (6, fs61)) := up_at hw60
        have rfs61 : RA A fs61 := RA.set hA sfs61 rfl
        have v63 := st_at sfs61 hA (by decide : 6 < 45)
        refine j_aload_n dX6_readAll_205 0 rfl ?_
        refine j_iload_n dX6_readAll_206 1 rfl ?_
        refine j_iconst (v := nI 1) dX6_readAll_207 (by decide) ?_
        refine j_iaddN dX6_readAll_208 ?_
        refine j_putM fsX6_readAll_150 f62 rfl rfl (RA.lt rfs61 (by decide)) dX6_readAll_209 (fun w64 fs65 sfs65 hw64 => ?_)
        have f66 : w64 mm = some (.inr (6, fs65)) := up_at hw64
        have rfs65 : RA A fs65 := RA.set rfs61 sfs65 rfl
        have v67 := st_at sfs65 rfs61 (by decide : 7 < 45)
        obtain ⟨hR68, hI69, hb70, hl71⟩ := rR_go (s1 := (2, mr, cu, false, false, rep, np, oc, f, ev, be, cq, st, me + 1, pa)) ht hR (f0 hk124 (by decide) (by decide)) (by omega) (by rw [hk124]; rfl) hI ha
        have hpg8 : pgI f ev (pa + 1) := ⟨fun q => by omega, fun _ => by omega⟩
        refine j_aload_n dX6_readAll_212 0 rfl ?_
        obtain ⟨az72, haz72⟩ : ∃ z, tkN t ln a = z := ⟨_, rfl⟩
        have v84 := (st_ne sfs65 rfl (st_ne sfs61 rfl h22))
        have v85 := (st_ne sfs65 rfl (st_ne sfs61 rfl h23))
        have v86 := (st_ne sfs65 rfl (st_ne sfs61 rfl h26))
        have f87 := (up_ne hw64 (AD.nm hAD 1 rfl) (up_ne hw60 (AD.nm hAD 1 rfl) a1))
        refine j_callV (rm := rX6_next) (As := []) (st := []) (b0 := mm) (ci := 6) (na := 0) (m_next1 (a := az72) hAD f66 rfs65 v84 v85 v86 f87 ht hln (tkN_bd ha).2.1 haz72) (by intro E w9 h9; first | exact nomatch h9.1 | (obtain ⟨_, h9, _⟩ := h9; exact nomatch h9) | (obtain ⟨_, _, _, h9, _⟩ := h9; exact nomatch h9)) gX6_readAll_X6_next rfl rfl f66 (by decide +kernel) rfl ⟨Nat.le_of_ble_eq_true rfl, Nat.le_of_ble_eq_true rfl⟩ rfl (Nat.le_of_ble_eq_true rfl) dX6_readAll_213 ⟨(show 0 + 0 ≤ 0 by omega), (show 0 + 0 ≤ 0 by omega)⟩ (fun v93 w94 h95 => ?_)
        obtain ⟨h92, fs88, ⟨hfr89, hm90, hff91⟩, ⟨tkn73, sg74, nu75, v78, v79, v80, v81, v82, v83, hT76, hN77⟩⟩ := h95
        cases h92
        refine j_after (st' := []) (k' := 0) (n' := 0) rfl rfl rfl ?_
        have r96 : RA A fs88 := RA.ff rfs65 hff91 rfl
        have hT76b := hT76.1
        rw [haz72] at hR68 hb70 hl71
        refine j_aload_n dX6_readAll_216 0 rfl ?_
        refine j_bipush (v := nI 37) dX6_readAll_217 (by decide) ?_
        refine j_callV (rm := rX6_isSign) (As := [.int (nI 37)]) (st := []) (b0 := mm) (ci := 6) (na := 1) (m_isSign (c := 37) hAD hm90 r96 v79 v80 hT76 rfl (by decide)) (by intro E w9 h9; first | exact nomatch h9.1 | (obtain ⟨_, h9, _⟩ := h9; exact nomatch h9) | (obtain ⟨_, _, _, h9, _⟩ := h9; exact nomatch h9)) gX6_readAll_X6_isSign rfl rfl hm90 (by decide +kernel) rfl ⟨Nat.le_of_ble_eq_true rfl, Nat.le_of_ble_eq_true rfl⟩ rfl (Nat.le_of_ble_eq_true rfl) dX6_readAll_219 ⟨(show 0 + 0 ≤ 0 by omega), (show 0 + 0 ≤ 0 by omega)⟩ (fun v97 w98 h99 => ?_)
        obtain ⟨h99, h100⟩ := h99
        cases h99
        subst w98
        refine j_after (st' := [.int (zb (decide (tkK t ln az72 = 37)))]) (k' := 0) (n' := 0) rfl rfl rfl ?_
        by_cases hk37 : tkK t ln az72 = 37
        · skip
          refine j_eqi (y := nI 1) (by rw [decide_eq_true hk37]; rfl) ?_
          refine j_if_eqN 51 (by decide) dX6_readAll_222 (by decide) (fun h9 => absurd h9 (by decide)) (fun _ => ?_)
          refine j_iinc (q := 1) (v := nI (pa + 1)) (lv' := [(1, .int (nI (pa + 1))), (0, .ref mm)]) dX6_readAll_225 rfl (by first | exact nI_1 _ | exact nI_add _ _) (Nat.le_of_ble_eq_true rfl) rfl ?_
          obtain ⟨hR101, hI102, hb103, hl104⟩ := rR_go (s1 := (1, mr, cu, false, false, rep, np, oc, f, ev, be, cq, st, me + 1, pa + 1)) ht hR68 (f0 hk37 (by decide) (by decide)) (by omega) (by rw [hk37]; rfl) hI69 hb70
          refine j_aload_n dX6_readAll_228 1 rfl ?_
          obtain ⟨az105, haz105⟩ : ∃ z, tkN t ln az72 = z := ⟨_, rfl⟩
          have v117 := (FF.at hff91 rfl v85)
          have f118 := (FrI.gen hfr89 (nm1 (AD.nm hAD 1 rfl)) (AD.nl hAD 1 rfl rfl rfl) f87)
          refine j_callV (rm := rX6_next) (As := []) (st := []) (b0 := mm) (ci := 6) (na := 0) (m_next1 (a := az105) hAD hm90 r96 v78 v117 v81 f118 ht hln (tkN_bd hb70).2.1 haz105) (by intro E w9 h9; first | exact nomatch h9.1 | (obtain ⟨_, h9, _⟩ := h9; exact nomatch h9) | (obtain ⟨_, _, _, h9, _⟩ := h9; exact nomatch h9)) gX6_readAll_X6_next rfl rfl hm90 (by decide +kernel) rfl ⟨Nat.le_of_ble_eq_true rfl, Nat.le_of_ble_eq_true rfl⟩ rfl (Nat.le_of_ble_eq_true rfl) dX6_readAll_229 ⟨(show 0 + 0 ≤ 0 by omega), (show 0 + 0 ≤ 0 by omega)⟩ (fun v124 w125 h126 => ?_)
          obtain ⟨h123, fs119, ⟨hfr120, hm121, hff122⟩, ⟨tkn106, sg107, nu108, v111, v112, v113, v114, v115, v116, hT109, hN110⟩⟩ := h126
          cases h123
          refine j_after (st' := []) (k' := 0) (n' := 0) rfl rfl rfl ?_
          have r127 : RA A fs119 := RA.ff r96 hff122 rfl
          have hT109b := hT109.1
          rw [haz105] at hR101 hb103 hl104
          refine j_goto 51 dX6_readAll_232 (by decide) ?_
          refine j_lv (lv' := [(0, .ref mm), (1, .int (nI (pa + 1)))]) [1, 0] rfl ?_
          have v128 := (FF.at hff122 rfl (FF.at hff91 rfl (st_ne sfs65 rfl (st_ne sfs61 rfl h5))))
          have v129 := (FF.at hff122 rfl (FF.at hff91 rfl (st_ne sfs65 rfl v63)))
          have v130 := (FF.at hff122 rfl (FF.at hff91 rfl (st_ne sfs65 rfl (st_ne sfs61 rfl h8))))
          have v131 := (FF.at hff122 rfl (FF.at hff91 rfl (st_ne sfs65 rfl (st_ne sfs61 rfl h9))))
          have v132 := (FF.at hff122 rfl v117)
          have v133 := (FF.at hff122 rfl (FF.at hff91 rfl (st_ne sfs65 rfl (st_ne sfs61 rfl h29))))
          have v134 := (FF.at hff122 rfl (FF.at hff91 rfl (st_ne sfs65 rfl (st_ne sfs61 rfl h31))))
          have v135 := (FF.at hff122 rfl (FF.at hff91 rfl (st_ne sfs65 rfl (st_ne sfs61 rfl h33))))
          have v136 := (FF.at hff122 rfl (FF.at hff91 rfl v67))
          have f137 := (FrI.gen hfr120 (nm1 (AD.nm hAD 1 rfl)) (AD.nl hAD 1 rfl rfl rfl) f118)
          have f138 := (FrI.gen hfr120 (nm1 (AD.nm hAD 10 rfl)) (AD.nl hAD 10 rfl rfl rfl) (FrI.gen hfr89 (nm1 (AD.nm hAD 10 rfl)) (AD.nl hAD 10 rfl rfl rfl) (up_ne hw64 (AD.nm hAD 10 rfl) (up_ne hw60 (AD.nm hAD 10 rfl) a10))))
          have f139 := (FrI.gen hfr120 (nm1 (AD.nm hAD 11 rfl)) (AD.nl hAD 11 rfl rfl rfl) (FrI.gen hfr89 (nm1 (AD.nm hAD 11 rfl)) (AD.nl hAD 11 rfl rfl rfl) (up_ne hw64 (AD.nm hAD 11 rfl) (up_ne hw60 (AD.nm hAD 11 rfl) a11))))
          have f140 := (FrI.gen hfr120 (nm1 (AD.nm hAD 12 rfl)) (AD.nl hAD 12 rfl rfl rfl) (FrI.gen hfr89 (nm1 (AD.nm hAD 12 rfl)) (AD.nl hAD 12 rfl rfl rfl) (up_ne hw64 (AD.nm hAD 12 rfl) (up_ne hw60 (AD.nm hAD 12 rfl) a12))))
          have f141 := (FrI.gen hfr120 (nm1 (AD.nm hAD 13 rfl)) (AD.nl hAD 13 rfl rfl rfl) (FrI.gen hfr89 (nm1 (AD.nm hAD 13 rfl)) (AD.nl hAD 13 rfl rfl rfl) (up_ne hw64 (AD.nm hAD 13 rfl) (up_ne hw60 (AD.nm hAD 13 rfl) a13))))
          have f142 := (FrI.gen hfr120 (nm1 (AD.nm hAD 14 rfl)) (AD.nl hAD 14 rfl rfl rfl) (FrI.gen hfr89 (nm1 (AD.nm hAD 14 rfl)) (AD.nl hAD 14 rfl rfl rfl) (up_ne hw64 (AD.nm hAD 14 rfl) (up_ne hw60 (AD.nm hAD 14 rfl) a14))))
          have f143 := (FrI.gen hfr120 (nm1 (AD.nm hAD 15 rfl)) (AD.nl hAD 15 rfl rfl rfl) (FrI.gen hfr89 (nm1 (AD.nm hAD 15 rfl)) (AD.nl hAD 15 rfl rfl rfl) (up_ne hw64 (AD.nm hAD 15 rfl) (up_ne hw60 (AD.nm hAD 15 rfl) a15))))
          have f144 := (FrI.gen hfr120 (nm1 (AD.nm hAD 16 rfl)) (AD.nl hAD 16 rfl rfl rfl) (FrI.gen hfr89 (nm1 (AD.nm hAD 16 rfl)) (AD.nl hAD 16 rfl rfl rfl) (up_ne hw64 (AD.nm hAD 16 rfl) (up_ne hw60 (AD.nm hAD 16 rfl) a16))))
          have f145 := (FrI.gen hfr120 (nm1 (AD.nm hAD 17 rfl)) (AD.nl hAD 17 rfl rfl rfl) (FrI.gen hfr89 (nm1 (AD.nm hAD 17 rfl)) (AD.nl hAD 17 rfl rfl rfl) (up_ne hw64 (AD.nm hAD 17 rfl) (up_ne hw60 (AD.nm hAD 17 rfl) a17))))
          have f146 := (FrI.gen hfr120 (nm1 (AD.nm hAD 18 rfl)) (AD.nl hAD 18 rfl rfl rfl) (FrI.gen hfr89 (nm1 (AD.nm hAD 18 rfl)) (AD.nl hAD 18 rfl rfl rfl) (up_ne hw64 (AD.nm hAD 18 rfl) (up_ne hw60 (AD.nm hAD 18 rfl) a18))))
          have f147 := (FrI.gen hfr120 (nm1 (AD.nm hAD 19 rfl)) (AD.nl hAD 19 rfl rfl rfl) (FrI.gen hfr89 (nm1 (AD.nm hAD 19 rfl)) (AD.nl hAD 19 rfl rfl rfl) (up_ne hw64 (AD.nm hAD 19 rfl) (up_ne hw60 (AD.nm hAD 19 rfl) a19))))
          exact hout _ _ _ _ _ _ _ _ _ _ _ _ _ _ _ _ _ _ _ _ _ _ _ _ _ _ _ _ _ _ (by omega) hm121 r127 (((((FrI.mono hfr (by simp) rfl : FrI A [mm] [10, 11, 12, 13, 14, 15, 16, 17, 18, 19] w0 _).trans (FrI.ux hw60 (by simp))).trans (FrI.ux hw64 (by simp))).trans (FrI.sub hfr89 rfl)).trans (FrI.sub hfr120 rfl)) (((((FF.mono hff rfl : FF [5, 6, 7, 8, 9, 22, 24, 25, 26, 27, 28, 29, 30, 31, 32, 33] fs0 _).trans (FF.set sfs61 rfl)).trans (FF.set sfs65 rfl)).trans (FF.mono hff91 rfl)).trans (FF.mono hff122 rfl)) v128 v129 v130 v131 v132 v133 v134 v135 v111 v112 v113 v114 v115 v116 v136 f137 f138 f139 f140 f141 f142 f143 f144 f145 f146 f147 hT109 hN110 hR101 hI102 hb103 hTB (Or.inl rfl) hpg8
        · skip
          refine j_eqi (y := nI 0) (by rw [decide_eq_false hk37]; rfl) ?_
          refine j_if_eqN 51 (by decide) dX6_readAll_222 (by decide) (fun _ => ?_) (fun h9 => absurd rfl h9)
          refine j_lv (lv' := [(0, .ref mm), (1, .int (nI pa))]) [0, 1] rfl ?_
          have v148 := (FF.at hff91 rfl (st_ne sfs65 rfl (st_ne sfs61 rfl h5)))
          have v149 := (FF.at hff91 rfl (st_ne sfs65 rfl v63))
          have v150 := (FF.at hff91 rfl (st_ne sfs65 rfl (st_ne sfs61 rfl h8)))
          have v151 := (FF.at hff91 rfl (st_ne sfs65 rfl (st_ne sfs61 rfl h9)))
          have v152 := (FF.at hff91 rfl v85)
          have v153 := (FF.at hff91 rfl (st_ne sfs65 rfl (st_ne sfs61 rfl h29)))
          have v154 := (FF.at hff91 rfl (st_ne sfs65 rfl (st_ne sfs61 rfl h31)))
          have v155 := (FF.at hff91 rfl (st_ne sfs65 rfl (st_ne sfs61 rfl h33)))
          have v156 := (FF.at hff91 rfl v67)
          have f157 := (FrI.gen hfr89 (nm1 (AD.nm hAD 1 rfl)) (AD.nl hAD 1 rfl rfl rfl) f87)
          have f158 := (FrI.gen hfr89 (nm1 (AD.nm hAD 10 rfl)) (AD.nl hAD 10 rfl rfl rfl) (up_ne hw64 (AD.nm hAD 10 rfl) (up_ne hw60 (AD.nm hAD 10 rfl) a10)))
          have f159 := (FrI.gen hfr89 (nm1 (AD.nm hAD 11 rfl)) (AD.nl hAD 11 rfl rfl rfl) (up_ne hw64 (AD.nm hAD 11 rfl) (up_ne hw60 (AD.nm hAD 11 rfl) a11)))
          have f160 := (FrI.gen hfr89 (nm1 (AD.nm hAD 12 rfl)) (AD.nl hAD 12 rfl rfl rfl) (up_ne hw64 (AD.nm hAD 12 rfl) (up_ne hw60 (AD.nm hAD 12 rfl) a12)))
          have f161 := (FrI.gen hfr89 (nm1 (AD.nm hAD 13 rfl)) (AD.nl hAD 13 rfl rfl rfl) (up_ne hw64 (AD.nm hAD 13 rfl) (up_ne hw60 (AD.nm hAD 13 rfl) a13)))
          have f162 := (FrI.gen hfr89 (nm1 (AD.nm hAD 14 rfl)) (AD.nl hAD 14 rfl rfl rfl) (up_ne hw64 (AD.nm hAD 14 rfl) (up_ne hw60 (AD.nm hAD 14 rfl) a14)))
          have f163 := (FrI.gen hfr89 (nm1 (AD.nm hAD 15 rfl)) (AD.nl hAD 15 rfl rfl rfl) (up_ne hw64 (AD.nm hAD 15 rfl) (up_ne hw60 (AD.nm hAD 15 rfl) a15)))
          have f164 := (FrI.gen hfr89 (nm1 (AD.nm hAD 16 rfl)) (AD.nl hAD 16 rfl rfl rfl) (up_ne hw64 (AD.nm hAD 16 rfl) (up_ne hw60 (AD.nm hAD 16 rfl) a16)))
          have f165 := (FrI.gen hfr89 (nm1 (AD.nm hAD 17 rfl)) (AD.nl hAD 17 rfl rfl rfl) (up_ne hw64 (AD.nm hAD 17 rfl) (up_ne hw60 (AD.nm hAD 17 rfl) a17)))
          have f166 := (FrI.gen hfr89 (nm1 (AD.nm hAD 18 rfl)) (AD.nl hAD 18 rfl rfl rfl) (up_ne hw64 (AD.nm hAD 18 rfl) (up_ne hw60 (AD.nm hAD 18 rfl) a18)))
          have f167 := (FrI.gen hfr89 (nm1 (AD.nm hAD 19 rfl)) (AD.nl hAD 19 rfl rfl rfl) (up_ne hw64 (AD.nm hAD 19 rfl) (up_ne hw60 (AD.nm hAD 19 rfl) a19)))
          exact hout _ _ _ _ _ _ _ _ _ _ _ _ _ _ _ _ _ _ _ _ _ _ _ _ _ _ _ _ _ _ (by omega) hm90 r96 ((((FrI.mono hfr (by simp) rfl : FrI A [mm] [10, 11, 12, 13, 14, 15, 16, 17, 18, 19] w0 _).trans (FrI.ux hw60 (by simp))).trans (FrI.ux hw64 (by simp))).trans (FrI.sub hfr89 rfl)) ((((FF.mono hff rfl : FF [5, 6, 7, 8, 9, 22, 24, 25, 26, 27, 28, 29, 30, 31, 32, 33] fs0 _).trans (FF.set sfs61 rfl)).trans (FF.set sfs65 rfl)).trans (FF.mono hff91 rfl)) v148 v149 v150 v151 v152 v153 v154 v155 v78 v79 v80 v81 v82 v83 v156 f157 f158 f159 f160 f161 f162 f163 f164 f165 f166 f167 hT76 hN77 hR68 hI69 hb70 hTB (Or.inr ⟨rfl, hk37⟩) hpg8
      · skip
        refine j_eqi (y := nI 0) (by rw [decide_eq_false hk124]; rfl) ?_
        refine j_if_neN 162 (by decide) dX6_readAll_143 (by decide) (fun h9 => absurd rfl h9) (fun _ => ?_)
        refine j_aload_n dX6_readAll_146 0 rfl ?_
        refine j_sipush (v := nI 257) dX6_readAll_147 (by decide) ?_
        refine j_callV (rm := rX6_isSign) (As := [.int (nI 257)]) (st := []) (b0 := mm) (ci := 6) (na := 1) (m_isSign (c := 257) hAD hmm hA h24 h25 hT rfl (by decide)) (by intro E w9 h9; first | exact nomatch h9.1 | (obtain ⟨_, h9, _⟩ := h9; exact nomatch h9) | (obtain ⟨_, _, _, h9, _⟩ := h9; exact nomatch h9)) gX6_readAll_X6_isSign rfl rfl hmm (by decide +kernel) rfl ⟨Nat.le_of_ble_eq_true rfl, Nat.le_of_ble_eq_true rfl⟩ rfl (Nat.le_of_ble_eq_true rfl) dX6_readAll_150 ⟨(show 0 + 0 ≤ 0 by omega), (show 0 + 0 ≤ 0 by omega)⟩ (fun v168 w169 h170 => ?_)
        obtain ⟨h170, h171⟩ := h170
        cases h170
        subst w169
        refine j_after (st' := [.int (zb (decide (tkK t ln a = 5)))]) (k' := 0) (n' := 0) rfl rfl rfl ?_
        by_cases hk5 : tkK t ln a = 5
        · skip
          refine j_eqi (y := nI 1) (by rw [decide_eq_true hk5]; rfl) ?_
          refine j_if_neN 162 (by decide) dX6_readAll_153 (by decide) (fun _ => ?_) (fun h9 => absurd h9 (by decide))
          refine j_aload_n dX6_readAll_162 0 rfl ?_
          refine j_sipush (v := nI 257) dX6_readAll_163 (by decide) ?_
          refine j_callV (rm := rX6_isSign) (As := [.int (nI 257)]) (st := []) (b0 := mm) (ci := 6) (na := 1) (m_isSign (c := 257) hAD hmm hA h24 h25 hT rfl (by decide)) (by intro E w9 h9; first | exact nomatch h9.1 | (obtain ⟨_, h9, _⟩ := h9; exact nomatch h9) | (obtain ⟨_, _, _, h9, _⟩ := h9; exact nomatch h9)) gX6_readAll_X6_isSign rfl rfl hmm (by decide +kernel) rfl ⟨Nat.le_of_ble_eq_true rfl, Nat.le_of_ble_eq_true rfl⟩ rfl (Nat.le_of_ble_eq_true rfl) dX6_readAll_166 ⟨(show 0 + 0 ≤ 0 by omega), (show 0 + 0 ≤ 0 by omega)⟩ (fun v172 w173 h174 => ?_)
          obtain ⟨h174, h175⟩ := h174
          cases h174
          subst w173
          refine j_after (st' := [.int (zb (decide (tkK t ln a = 5)))]) (k' := 0) (n' := 0) rfl rfl rfl ?_
          refine j_eqi (y := nI 1) (by rw [decide_eq_true hk5]; rfl) ?_
          refine j_if_eqN 195 (by decide) dX6_readAll_169 (by decide) (fun h9 => absurd h9 (by decide)) (fun _ => ?_)
          refine j_aload_n dX6_readAll_172 0 rfl ?_
          refine j_get (v := .ref (A 17)) flX6_readAll_38 hmm (hA.2 17 rfl) dX6_readAll_173 ?_
          refine j_aload_n dX6_readAll_176 0 rfl ?_
          refine j_get (v := .int (nI ev)) flX6_readAll_144 hmm h5 dX6_readAll_177 ?_
          refine j_iconst (v := nI 1) dX6_readAll_180 (by decide) ?_
          refine j_isubN (by omega) dX6_readAll_181 ?_
          refine j_aload_n dX6_readAll_182 0 rfl ?_
          refine j_get (v := .int (nI rep)) flX6_readAll_162 hmm h33 dX6_readAll_183 ?_
          refine j_iastN (j := ev - 1) a17 rfl (by omega) (by omega) dX6_readAll_186 ?_
          refine j_w (fun w176 hw176 => ?_)
          have f177 : w176 (A 17) = some (.inl (0, 100, .inl (upd xl (ev - 1) (nI rep)))) := up_at hw176
          refine j_aload_n dX6_readAll_187 0 rfl ?_
          refine j_aload_n dX6_readAll_188 0 rfl ?_
          have f178 := (up_ne hw176 (AD.mn hAD 17 rfl) hmm)
          refine j_get (v := .int (nI ev)) flX6_readAll_144 f178 h5 dX6_readAll_189 ?_
          refine j_putM fsX6_readAll_162 f178 rfl rfl (RA.lt hA (by decide)) dX6_readAll_192 (fun w179 fs180 sfs180 hw179 => ?_)
          have f181 : w179 mm = some (.inr (6, fs180)) := up_at hw179
          have rfs180 : RA A fs180 := RA.set hA sfs180 rfl
          have v182 := st_at sfs180 hA (by decide : 33 < 45)
          refine j_aload_n dX6_readAll_195 0 rfl ?_
          refine j_dup dX6_readAll_196 rfl ?_
          have v183 := (st_ne sfs180 rfl h6)
          refine j_get (v := .int (nI me)) flX6_readAll_147 f181 v183 dX6_readAll_197 ?_
          refine j_iconst (v := nI 1) dX6_readAll_200 (by decide) ?_
          refine j_iaddN dX6_readAll_201 ?_
          refine j_putM fsX6_readAll_147 f181 rfl rfl (RA.lt rfs180 (by decide)) dX6_readAll_202 (fun w184 fs185 sfs185 hw184 => ?_)
          have f186 : w184 mm = some (.inr (6, fs185)) := up_at hw184
          have rfs185 : RA A fs185 := RA.set rfs180 sfs185 rfl
          have v187 := st_at sfs185 rfs180 (by decide : 6 < 45)
          refine j_aload_n dX6_readAll_205 0 rfl ?_
          refine j_iload_n dX6_readAll_206 1 rfl ?_
          refine j_iconst (v := nI 1) dX6_readAll_207 (by decide) ?_
          refine j_iaddN dX6_readAll_208 ?_
          refine j_putM fsX6_readAll_150 f186 rfl rfl (RA.lt rfs185 (by decide)) dX6_readAll_209 (fun w188 fs189 sfs189 hw188 => ?_)
          have f190 : w188 mm = some (.inr (6, fs189)) := up_at hw188
          have rfs189 : RA A fs189 := RA.set rfs185 sfs189 rfl
          have v191 := st_at sfs189 rfs185 (by decide : 7 < 45)
          obtain ⟨hR192, hI193, hb194, hl195⟩ := rR_go (s1 := (2, mr, cu, false, false, ev, np, oc, upd f ((ev - 1) * 14 + 8) (nI rep), ev, be, cq, st, me + 1, pa)) ht hR (f0 hk5 (by decide) (by decide)) (by omega) (by rw [hk5]; rfl) hI ha
          have htb8 := tb_rep (rep := rep) hTB
          have hpg8 : pgI (upd f ((ev - 1) * 14 + 8) (nI rep)) ev (pa + 1) := ⟨fun q => by omega, fun _ => by rw [cl_cg (pk_un (by omega))]; omega⟩
          refine j_aload_n dX6_readAll_212 0 rfl ?_
          obtain ⟨az196, haz196⟩ : ∃ z, tkN t ln a = z := ⟨_, rfl⟩
          have v208 := (st_ne sfs189 rfl (st_ne sfs185 rfl (st_ne sfs180 rfl h22)))
          have v209 := (st_ne sfs189 rfl (st_ne sfs185 rfl (st_ne sfs180 rfl h23)))
          have v210 := (st_ne sfs189 rfl (st_ne sfs185 rfl (st_ne sfs180 rfl h26)))
          have f211 := (up_ne hw188 (AD.nm hAD 1 rfl) (up_ne hw184 (AD.nm hAD 1 rfl) (up_ne hw179 (AD.nm hAD 1 rfl) (up_ne hw176 (AD.ne hAD 1 17 rfl rfl rfl) a1))))
          refine j_callV (rm := rX6_next) (As := []) (st := []) (b0 := mm) (ci := 6) (na := 0) (m_next1 (a := az196) hAD f190 rfs189 v208 v209 v210 f211 ht hln (tkN_bd ha).2.1 haz196) (by intro E w9 h9; first | exact nomatch h9.1 | (obtain ⟨_, h9, _⟩ := h9; exact nomatch h9) | (obtain ⟨_, _, _, h9, _⟩ := h9; exact nomatch h9)) gX6_readAll_X6_next rfl rfl f190 (by decide +kernel) rfl ⟨Nat.le_of_ble_eq_true rfl, Nat.le_of_ble_eq_true rfl⟩ rfl (Nat.le_of_ble_eq_true rfl) dX6_readAll_213 ⟨(show 0 + 0 ≤ 0 by omega), (show 0 + 0 ≤ 0 by omega)⟩ (fun v217 w218 h219 => ?_)
          obtain ⟨h216, fs212, ⟨hfr213, hm214, hff215⟩, ⟨tkn197, sg198, nu199, v202, v203, v204, v205, v206, v207, hT200, hN201⟩⟩ := h219
          cases h216
          refine j_after (st' := []) (k' := 0) (n' := 0) rfl rfl rfl ?_
          have r220 : RA A fs212 := RA.ff rfs189 hff215 rfl
          have hT200b := hT200.1
          rw [haz196] at hR192 hb194 hl195
          refine j_aload_n dX6_readAll_216 0 rfl ?_
          refine j_bipush (v := nI 37) dX6_readAll_217 (by decide) ?_
          refine j_callV (rm := rX6_isSign) (As := [.int (nI 37)]) (st := []) (b0 := mm) (ci := 6) (na := 1) (m_isSign (c := 37) hAD hm214 r220 v203 v204 hT200 rfl (by decide)) (by intro E w9 h9; first | exact nomatch h9.1 | (obtain ⟨_, h9, _⟩ := h9; exact nomatch h9) | (obtain ⟨_, _, _, h9, _⟩ := h9; exact nomatch h9)) gX6_readAll_X6_isSign rfl rfl hm214 (by decide +kernel) rfl ⟨Nat.le_of_ble_eq_true rfl, Nat.le_of_ble_eq_true rfl⟩ rfl (Nat.le_of_ble_eq_true rfl) dX6_readAll_219 ⟨(show 0 + 0 ≤ 0 by omega), (show 0 + 0 ≤ 0 by omega)⟩ (fun v221 w222 h223 => ?_)
          obtain ⟨h223, h224⟩ := h223
          cases h223
          subst w222
          refine j_after (st' := [.int (zb (decide (tkK t ln az196 = 37)))]) (k' := 0) (n' := 0) rfl rfl rfl ?_
          by_cases hk37 : tkK t ln az196 = 37
          · skip
            refine j_eqi (y := nI 1) (by rw [decide_eq_true hk37]; rfl) ?_
            refine j_if_eqN 51 (by decide) dX6_readAll_222 (by decide) (fun h9 => absurd h9 (by decide)) (fun _ => ?_)
            refine j_iinc (q := 1) (v := nI (pa + 1)) (lv' := [(1, .int (nI (pa + 1))), (0, .ref mm)]) dX6_readAll_225 rfl (by first | exact nI_1 _ | exact nI_add _ _) (Nat.le_of_ble_eq_true rfl) rfl ?_
            obtain ⟨hR225, hI226, hb227, hl228⟩ := rR_go (s1 := (1, mr, cu, false, false, ev, np, oc, upd f ((ev - 1) * 14 + 8) (nI rep), ev, be, cq, st, me + 1, pa + 1)) ht hR192 (f0 hk37 (by decide) (by decide)) (by omega) (by rw [hk37]; rfl) hI193 hb194
            refine j_aload_n dX6_readAll_228 1 rfl ?_
            obtain ⟨az229, haz229⟩ : ∃ z, tkN t ln az196 = z := ⟨_, rfl⟩
            have v241 := (FF.at hff215 rfl v209)
            have f242 := (FrI.gen hfr213 (nm1 (AD.nm hAD 1 rfl)) (AD.nl hAD 1 rfl rfl rfl) f211)
            refine j_callV (rm := rX6_next) (As := []) (st := []) (b0 := mm) (ci := 6) (na := 0) (m_next1 (a := az229) hAD hm214 r220 v202 v241 v205 f242 ht hln (tkN_bd hb194).2.1 haz229) (by intro E w9 h9; first | exact nomatch h9.1 | (obtain ⟨_, h9, _⟩ := h9; exact nomatch h9) | (obtain ⟨_, _, _, h9, _⟩ := h9; exact nomatch h9)) gX6_readAll_X6_next rfl rfl hm214 (by decide +kernel) rfl ⟨Nat.le_of_ble_eq_true rfl, Nat.le_of_ble_eq_true rfl⟩ rfl (Nat.le_of_ble_eq_true rfl) dX6_readAll_229 ⟨(show 0 + 0 ≤ 0 by omega), (show 0 + 0 ≤ 0 by omega)⟩ (fun v248 w249 h250 => ?_)
            obtain ⟨h247, fs243, ⟨hfr244, hm245, hff246⟩, ⟨tkn230, sg231, nu232, v235, v236, v237, v238, v239, v240, hT233, hN234⟩⟩ := h250
            cases h247
            refine j_after (st' := []) (k' := 0) (n' := 0) rfl rfl rfl ?_
            have r251 : RA A fs243 := RA.ff r220 hff246 rfl
            have hT233b := hT233.1
            rw [haz229] at hR225 hb227 hl228
            refine j_goto 51 dX6_readAll_232 (by decide) ?_
            refine j_lv (lv' := [(0, .ref mm), (1, .int (nI (pa + 1)))]) [1, 0] rfl ?_
            have v252 := (FF.at hff246 rfl (FF.at hff215 rfl (st_ne sfs189 rfl (st_ne sfs185 rfl (st_ne sfs180 rfl h5)))))
            have v253 := (FF.at hff246 rfl (FF.at hff215 rfl (st_ne sfs189 rfl v187)))
            have v254 := (FF.at hff246 rfl (FF.at hff215 rfl (st_ne sfs189 rfl (st_ne sfs185 rfl (st_ne sfs180 rfl h8)))))
            have v255 := (FF.at hff246 rfl (FF.at hff215 rfl (st_ne sfs189 rfl (st_ne sfs185 rfl (st_ne sfs180 rfl h9)))))
            have v256 := (FF.at hff246 rfl v241)
            have v257 := (FF.at hff246 rfl (FF.at hff215 rfl (st_ne sfs189 rfl (st_ne sfs185 rfl (st_ne sfs180 rfl h29)))))
            have v258 := (FF.at hff246 rfl (FF.at hff215 rfl (st_ne sfs189 rfl (st_ne sfs185 rfl (st_ne sfs180 rfl h31)))))
            have v259 := (FF.at hff246 rfl (FF.at hff215 rfl (st_ne sfs189 rfl (st_ne sfs185 rfl v182))))
            have v260 := (FF.at hff246 rfl (FF.at hff215 rfl v191))
            have f261 := (FrI.gen hfr244 (nm1 (AD.nm hAD 1 rfl)) (AD.nl hAD 1 rfl rfl rfl) f242)
            have f262 := (FrI.gen hfr244 (nm1 (AD.nm hAD 10 rfl)) (AD.nl hAD 10 rfl rfl rfl) (FrI.gen hfr213 (nm1 (AD.nm hAD 10 rfl)) (AD.nl hAD 10 rfl rfl rfl) (up_ne hw188 (AD.nm hAD 10 rfl) (up_ne hw184 (AD.nm hAD 10 rfl) (up_ne hw179 (AD.nm hAD 10 rfl) (up_ne hw176 (AD.ne hAD 10 17 rfl rfl rfl) a10))))))
            have f263 := (FrI.gen hfr244 (nm1 (AD.nm hAD 11 rfl)) (AD.nl hAD 11 rfl rfl rfl) (FrI.gen hfr213 (nm1 (AD.nm hAD 11 rfl)) (AD.nl hAD 11 rfl rfl rfl) (up_ne hw188 (AD.nm hAD 11 rfl) (up_ne hw184 (AD.nm hAD 11 rfl) (up_ne hw179 (AD.nm hAD 11 rfl) (up_ne hw176 (AD.ne hAD 11 17 rfl rfl rfl) a11))))))
            have f264 := (FrI.gen hfr244 (nm1 (AD.nm hAD 12 rfl)) (AD.nl hAD 12 rfl rfl rfl) (FrI.gen hfr213 (nm1 (AD.nm hAD 12 rfl)) (AD.nl hAD 12 rfl rfl rfl) (up_ne hw188 (AD.nm hAD 12 rfl) (up_ne hw184 (AD.nm hAD 12 rfl) (up_ne hw179 (AD.nm hAD 12 rfl) (up_ne hw176 (AD.ne hAD 12 17 rfl rfl rfl) a12))))))
            have f265 := (FrI.gen hfr244 (nm1 (AD.nm hAD 13 rfl)) (AD.nl hAD 13 rfl rfl rfl) (FrI.gen hfr213 (nm1 (AD.nm hAD 13 rfl)) (AD.nl hAD 13 rfl rfl rfl) (up_ne hw188 (AD.nm hAD 13 rfl) (up_ne hw184 (AD.nm hAD 13 rfl) (up_ne hw179 (AD.nm hAD 13 rfl) (up_ne hw176 (AD.ne hAD 13 17 rfl rfl rfl) a13))))))
            have f266 := (FrI.gen hfr244 (nm1 (AD.nm hAD 14 rfl)) (AD.nl hAD 14 rfl rfl rfl) (FrI.gen hfr213 (nm1 (AD.nm hAD 14 rfl)) (AD.nl hAD 14 rfl rfl rfl) (up_ne hw188 (AD.nm hAD 14 rfl) (up_ne hw184 (AD.nm hAD 14 rfl) (up_ne hw179 (AD.nm hAD 14 rfl) (up_ne hw176 (AD.ne hAD 14 17 rfl rfl rfl) a14))))))
            have f267 := (FrI.gen hfr244 (nm1 (AD.nm hAD 15 rfl)) (AD.nl hAD 15 rfl rfl rfl) (FrI.gen hfr213 (nm1 (AD.nm hAD 15 rfl)) (AD.nl hAD 15 rfl rfl rfl) (up_ne hw188 (AD.nm hAD 15 rfl) (up_ne hw184 (AD.nm hAD 15 rfl) (up_ne hw179 (AD.nm hAD 15 rfl) (up_ne hw176 (AD.ne hAD 15 17 rfl rfl rfl) a15))))))
            have f268 := (FrI.gen hfr244 (nm1 (AD.nm hAD 16 rfl)) (AD.nl hAD 16 rfl rfl rfl) (FrI.gen hfr213 (nm1 (AD.nm hAD 16 rfl)) (AD.nl hAD 16 rfl rfl rfl) (up_ne hw188 (AD.nm hAD 16 rfl) (up_ne hw184 (AD.nm hAD 16 rfl) (up_ne hw179 (AD.nm hAD 16 rfl) (up_ne hw176 (AD.ne hAD 16 17 rfl rfl rfl) a16))))))
            have f269 := (FrI.gen hfr244 (nm1 (AD.nm hAD 17 rfl)) (AD.nl hAD 17 rfl rfl rfl) (FrI.gen hfr213 (nm1 (AD.nm hAD 17 rfl)) (AD.nl hAD 17 rfl rfl rfl) (up_ne hw188 (AD.nm hAD 17 rfl) (up_ne hw184 (AD.nm hAD 17 rfl) (up_ne hw179 (AD.nm hAD 17 rfl) f177)))))
            have f270 := (FrI.gen hfr244 (nm1 (AD.nm hAD 18 rfl)) (AD.nl hAD 18 rfl rfl rfl) (FrI.gen hfr213 (nm1 (AD.nm hAD 18 rfl)) (AD.nl hAD 18 rfl rfl rfl) (up_ne hw188 (AD.nm hAD 18 rfl) (up_ne hw184 (AD.nm hAD 18 rfl) (up_ne hw179 (AD.nm hAD 18 rfl) (up_ne hw176 (AD.ne hAD 18 17 rfl rfl rfl) a18))))))
            have f271 := (FrI.gen hfr244 (nm1 (AD.nm hAD 19 rfl)) (AD.nl hAD 19 rfl rfl rfl) (FrI.gen hfr213 (nm1 (AD.nm hAD 19 rfl)) (AD.nl hAD 19 rfl rfl rfl) (up_ne hw188 (AD.nm hAD 19 rfl) (up_ne hw184 (AD.nm hAD 19 rfl) (up_ne hw179 (AD.nm hAD 19 rfl) (up_ne hw176 (AD.ne hAD 19 17 rfl rfl rfl) a19))))))
            exact hout _ _ _ _ _ _ _ _ _ _ _ _ _ _ _ _ _ _ _ _ _ _ _ _ _ _ _ _ _ _ (by omega) hm245 r251 (((((((FrI.mono hfr (by simp) rfl : FrI A [mm] [10, 11, 12, 13, 14, 15, 16, 17, 18, 19] w0 _).trans (FrI.ua hw176 rfl)).trans (FrI.ux hw179 (by simp))).trans (FrI.ux hw184 (by simp))).trans (FrI.ux hw188 (by simp))).trans (FrI.sub hfr213 rfl)).trans (FrI.sub hfr244 rfl)) ((((((FF.mono hff rfl : FF [5, 6, 7, 8, 9, 22, 24, 25, 26, 27, 28, 29, 30, 31, 32, 33] fs0 _).trans (FF.set sfs180 rfl)).trans (FF.set sfs185 rfl)).trans (FF.set sfs189 rfl)).trans (FF.mono hff215 rfl)).trans (FF.mono hff246 rfl)) v252 v253 v254 v255 v256 v257 v258 v259 v235 v236 v237 v238 v239 v240 v260 f261 f262 f263 f264 f265 f266 f267 f268 f269 f270 f271 hT233 hN234 hR225 hI226 hb227 htb8 (Or.inl rfl) hpg8
          · skip
            refine j_eqi (y := nI 0) (by rw [decide_eq_false hk37]; rfl) ?_
            refine j_if_eqN 51 (by decide) dX6_readAll_222 (by decide) (fun _ => ?_) (fun h9 => absurd rfl h9)
            refine j_lv (lv' := [(0, .ref mm), (1, .int (nI pa))]) [0, 1] rfl ?_
            have v272 := (FF.at hff215 rfl (st_ne sfs189 rfl (st_ne sfs185 rfl (st_ne sfs180 rfl h5))))
            have v273 := (FF.at hff215 rfl (st_ne sfs189 rfl v187))
            have v274 := (FF.at hff215 rfl (st_ne sfs189 rfl (st_ne sfs185 rfl (st_ne sfs180 rfl h8))))
            have v275 := (FF.at hff215 rfl (st_ne sfs189 rfl (st_ne sfs185 rfl (st_ne sfs180 rfl h9))))
            have v276 := (FF.at hff215 rfl v209)
            have v277 := (FF.at hff215 rfl (st_ne sfs189 rfl (st_ne sfs185 rfl (st_ne sfs180 rfl h29))))
            have v278 := (FF.at hff215 rfl (st_ne sfs189 rfl (st_ne sfs185 rfl (st_ne sfs180 rfl h31))))
            have v279 := (FF.at hff215 rfl (st_ne sfs189 rfl (st_ne sfs185 rfl v182)))
            have v280 := (FF.at hff215 rfl v191)
            have f281 := (FrI.gen hfr213 (nm1 (AD.nm hAD 1 rfl)) (AD.nl hAD 1 rfl rfl rfl) f211)
            have f282 := (FrI.gen hfr213 (nm1 (AD.nm hAD 10 rfl)) (AD.nl hAD 10 rfl rfl rfl) (up_ne hw188 (AD.nm hAD 10 rfl) (up_ne hw184 (AD.nm hAD 10 rfl) (up_ne hw179 (AD.nm hAD 10 rfl) (up_ne hw176 (AD.ne hAD 10 17 rfl rfl rfl) a10)))))
            have f283 := (FrI.gen hfr213 (nm1 (AD.nm hAD 11 rfl)) (AD.nl hAD 11 rfl rfl rfl) (up_ne hw188 (AD.nm hAD 11 rfl) (up_ne hw184 (AD.nm hAD 11 rfl) (up_ne hw179 (AD.nm hAD 11 rfl) (up_ne hw176 (AD.ne hAD 11 17 rfl rfl rfl) a11)))))
            have f284 := (FrI.gen hfr213 (nm1 (AD.nm hAD 12 rfl)) (AD.nl hAD 12 rfl rfl rfl) (up_ne hw188 (AD.nm hAD 12 rfl) (up_ne hw184 (AD.nm hAD 12 rfl) (up_ne hw179 (AD.nm hAD 12 rfl) (up_ne hw176 (AD.ne hAD 12 17 rfl rfl rfl) a12)))))
            have f285 := (FrI.gen hfr213 (nm1 (AD.nm hAD 13 rfl)) (AD.nl hAD 13 rfl rfl rfl) (up_ne hw188 (AD.nm hAD 13 rfl) (up_ne hw184 (AD.nm hAD 13 rfl) (up_ne hw179 (AD.nm hAD 13 rfl) (up_ne hw176 (AD.ne hAD 13 17 rfl rfl rfl) a13)))))
            have f286 := (FrI.gen hfr213 (nm1 (AD.nm hAD 14 rfl)) (AD.nl hAD 14 rfl rfl rfl) (up_ne hw188 (AD.nm hAD 14 rfl) (up_ne hw184 (AD.nm hAD 14 rfl) (up_ne hw179 (AD.nm hAD 14 rfl) (up_ne hw176 (AD.ne hAD 14 17 rfl rfl rfl) a14)))))
            have f287 := (FrI.gen hfr213 (nm1 (AD.nm hAD 15 rfl)) (AD.nl hAD 15 rfl rfl rfl) (up_ne hw188 (AD.nm hAD 15 rfl) (up_ne hw184 (AD.nm hAD 15 rfl) (up_ne hw179 (AD.nm hAD 15 rfl) (up_ne hw176 (AD.ne hAD 15 17 rfl rfl rfl) a15)))))
            have f288 := (FrI.gen hfr213 (nm1 (AD.nm hAD 16 rfl)) (AD.nl hAD 16 rfl rfl rfl) (up_ne hw188 (AD.nm hAD 16 rfl) (up_ne hw184 (AD.nm hAD 16 rfl) (up_ne hw179 (AD.nm hAD 16 rfl) (up_ne hw176 (AD.ne hAD 16 17 rfl rfl rfl) a16)))))
            have f289 := (FrI.gen hfr213 (nm1 (AD.nm hAD 17 rfl)) (AD.nl hAD 17 rfl rfl rfl) (up_ne hw188 (AD.nm hAD 17 rfl) (up_ne hw184 (AD.nm hAD 17 rfl) (up_ne hw179 (AD.nm hAD 17 rfl) f177))))
            have f290 := (FrI.gen hfr213 (nm1 (AD.nm hAD 18 rfl)) (AD.nl hAD 18 rfl rfl rfl) (up_ne hw188 (AD.nm hAD 18 rfl) (up_ne hw184 (AD.nm hAD 18 rfl) (up_ne hw179 (AD.nm hAD 18 rfl) (up_ne hw176 (AD.ne hAD 18 17 rfl rfl rfl) a18)))))
            have f291 := (FrI.gen hfr213 (nm1 (AD.nm hAD 19 rfl)) (AD.nl hAD 19 rfl rfl rfl) (up_ne hw188 (AD.nm hAD 19 rfl) (up_ne hw184 (AD.nm hAD 19 rfl) (up_ne hw179 (AD.nm hAD 19 rfl) (up_ne hw176 (AD.ne hAD 19 17 rfl rfl rfl) a19)))))
            exact hout _ _ _ _ _ _ _ _ _ _ _ _ _ _ _ _ _ _ _ _ _ _ _ _ _ _ _ _ _ _ (by omega) hm214 r220 ((((((FrI.mono hfr (by simp) rfl : FrI A [mm] [10, 11, 12, 13, 14, 15, 16, 17, 18, 19] w0 _).trans (FrI.ua hw176 rfl)).trans (FrI.ux hw179 (by simp))).trans (FrI.ux hw184 (by simp))).trans (FrI.ux hw188 (by simp))).trans (FrI.sub hfr213 rfl)) (((((FF.mono hff rfl : FF [5, 6, 7, 8, 9, 22, 24, 25, 26, 27, 28, 29, 30, 31, 32, 33] fs0 _).trans (FF.set sfs180 rfl)).trans (FF.set sfs185 rfl)).trans (FF.set sfs189 rfl)).trans (FF.mono hff215 rfl)) v272 v273 v274 v275 v276 v277 v278 v279 v202 v203 v204 v205 v206 v207 v280 f281 f282 f283 f284 f285 f286 f287 f288 f289 f290 f291 hT200 hN201 hR192 hI193 hb194 htb8 (Or.inr ⟨rfl, hk37⟩) hpg8
        · skip
          refine j_eqi (y := nI 0) (by rw [decide_eq_false hk5]; rfl) ?_
          refine j_if_neN 162 (by decide) dX6_readAll_153 (by decide) (fun h9 => absurd rfl h9) (fun _ => ?_)
          have hbd292 := rR_bad (b := 1) hR (rf_1 (f1_8 (tk_k ht) ⟨hbm0, hk124, hk5⟩)) (by decide)
          refine j_aload_n dX6_readAll_156 0 rfl ?_
          refine j_iconst (v := nI 1) dX6_readAll_157 (by decide) ?_
          refine j_callV (rm := rX6_wrong) (As := [.int (nI 1)]) (st := []) (b0 := mm) (ci := 6) (na := 1) (m_wrong0 (k := 1) hAD hmm hA h29 h27) (by intro E w9 h9; first | exact nomatch h9.1 | (obtain ⟨_, h9, _⟩ := h9; exact nomatch h9) | (obtain ⟨_, _, _, h9, _⟩ := h9; exact nomatch h9)) gX6_readAll_X6_wrong rfl rfl hmm (by decide +kernel) rfl ⟨Nat.le_of_ble_eq_true rfl, Nat.le_of_ble_eq_true rfl⟩ rfl (Nat.le_of_ble_eq_true rfl) dX6_readAll_158 ⟨(show 0 + 0 ≤ 0 by omega), (show 0 + 0 ≤ 0 by omega)⟩ (fun v300 w301 h302 => ?_)
          obtain ⟨h299, fs295, ⟨hfr296, hm297, hff298⟩, v293, v294⟩ := h302
          cases h299
          refine j_after (st' := []) (k' := 0) (n' := 0) rfl rfl rfl ?_
          have r303 : RA A fs295 := RA.ff hA hff298 rfl
          have f304 := (FrI.gen hfr296 (nm1 (AD.nm hAD 10 rfl)) (AD.nl hAD 10 rfl rfl rfl) a10)
          have f305 := (FrI.gen hfr296 (nm1 (AD.nm hAD 11 rfl)) (AD.nl hAD 11 rfl rfl rfl) a11)
          have f306 := (FrI.gen hfr296 (nm1 (AD.nm hAD 12 rfl)) (AD.nl hAD 12 rfl rfl rfl) a12)
          have f307 := (FrI.gen hfr296 (nm1 (AD.nm hAD 13 rfl)) (AD.nl hAD 13 rfl rfl rfl) a13)
          have f308 := (FrI.gen hfr296 (nm1 (AD.nm hAD 14 rfl)) (AD.nl hAD 14 rfl rfl rfl) a14)
          have f309 := (FrI.gen hfr296 (nm1 (AD.nm hAD 15 rfl)) (AD.nl hAD 15 rfl rfl rfl) a15)
          have f310 := (FrI.gen hfr296 (nm1 (AD.nm hAD 16 rfl)) (AD.nl hAD 16 rfl rfl rfl) a16)
          have f311 := (FrI.gen hfr296 (nm1 (AD.nm hAD 17 rfl)) (AD.nl hAD 17 rfl rfl rfl) a17)
          have f312 := (FrI.gen hfr296 (nm1 (AD.nm hAD 18 rfl)) (AD.nl hAD 18 rfl rfl rfl) a18)
          have f313 := (FrI.gen hfr296 (nm1 (AD.nm hAD 19 rfl)) (AD.nl hAD 19 rfl rfl rfl) a19)
          have v314 := (FF.at hff298 rfl h26)
          exact j_vret rfl ⟨rfl, _, ⟨((FrI.mono hfr (by simp) rfl : FrI A [mm] [10, 11, 12, 13, 14, 15, 16, 17, 18, 19] w0 _).trans (FrI.sub hfr296 rfl)), hm297, ((FF.mono hff rfl : FF [5, 6, 7, 8, 9, 22, 24, 25, 26, 27, 28, 29, 30, 31, 32, 33] fs0 _).trans (FF.mono hff298 rfl))⟩, _, _, _, _, _, _, _, _, _, _, ⟨f304, f305, f306, f307, f308, f309, f310, f311, f312, f313⟩, ⟨_, v314⟩, Or.inl (RFl.mk hbd292 ⟨by decide, by decide⟩ v293 v294)⟩ (show 0 ≤ 0 by omega) (show 0 ≤ 0 by omega) dX6_readAll_161
theorem flX6_readAll_102 : FL wsX6_readAll RX6 102 6 24 := ⟨RX6, TX6, 45, rfl, by decide, by decide +kernel, by decide +kernel⟩
theorem fsX6_readAll_165 : FS wsX6_readAll RX6 165 6 32 false (.int) := ⟨RX6, TX6, 45, tyX6, rfl, by decide, by decide +kernel, by decide +kernel, tyX6_ok, nmX6, rfl, rfl, rfl⟩
set_option maxHeartbeats 4000000 in
set_option maxRecDepth 100000 in
theorem l_a51 {t : Nat → Nat} {ln : Nat} {w0 : pW} {fs0 : List Value} {A : Nat → Nat} {mm : Nat} {R : Nat × Nat × RSt} (hAD : AD A mm) (ht : ∀ j, t j < 256) (hln : ln ≤ 2400) : ∀ (m9 : Nat) (w : pW) (fs : List Value) (a : Nat) (tkn : Nat) (sg : Nat) (nu : Int32) (sd : Nat) (mr : Nat) (cu : Nat) (rep : Nat) (np : Nat) (oc : Nat) (f : Nat → Int32) (ev : Nat) (be : Nat) (cq : Nat) (st : Nat) (me : Nat) (pa : Nat) (pg : Nat) (xk : Nat → Nat) (xm : Nat → Nat) (xp : Nat → Int32) (xb : Nat → Nat) (xs : Nat → Nat) (xe : Nat → Nat) (xg : Nat → Nat) (xl : Nat → Int32) (xi : Nat → Int32) (xc : Nat → Int32), ln + 2 - a < m9 → (w mm = some (.inr (6, fs))) → (RA A fs) → (FrI A [mm] [10, 11, 12, 13, 14, 15, 16, 17, 18, 19] w0 w) → (FF [5, 6, 7, 8, 9, 22, 24, 25, 26, 27, 28, 29, 30, 31, 32, 33] fs0 fs) → (fs[5]? = some (.int (nI ev))) → (fs[6]? = some (.int (nI me))) → (fs[8]? = some (.int (nI be))) → (fs[9]? = some (.int (nI cu))) → (fs[23]? = some (.int (nI ln))) → (fs[29]? = some (.int (nI 0))) → (fs[31]? = some (.int (nI mr))) → (fs[33]? = some (.int (nI rep))) → (fs[22]? = some (.int (nI ((tk t ln a).1)))) → (fs[24]? = some (.int (nI tkn))) → (fs[25]? = some (.int (nI sg))) → (fs[26]? = some (.int nu)) → (fs[27]? = some (.int (nI a))) → (fs[28]? = some (.int (nI ((tk t ln a).1)))) → (fs[7]? = some (.int (nI pg))) → (w (A 1) = some (.inl (0, 2400, .inl (fun j9 => nI (t j9))))) → (w (A 10) = some (.inl (0, 100, .inl (fun j9 => nI (xk j9))))) → (w (A 11) = some (.inl (0, 100, .inl (fun j9 => nI (xm j9))))) → (w (A 12) = some (.inl (0, 400, .inl xp))) → (w (A 13) = some (.inl (0, 100, .inl (fun j9 => nI (xb j9))))) → (w (A 14) = some (.inl (0, 100, .inl (fun j9 => nI (xs j9))))) → (w (A 15) = some (.inl (0, 100, .inl (fun j9 => nI (xe j9))))) → (w (A 16) = some (.inl (0, 100, .inl (fun j9 => nI (xg j9))))) → (w (A 17) = some (.inl (0, 100, .inl xl))) → (w (A 18) = some (.inl (2, 100, .inl xi))) → (w (A 19) = some (.inl (2, 100, .inl xc))) → (TS tkn sg (tkK t ln a)) → (NS nu (tkK t ln a) (tkV t ln a) ((tk t ln a).1 - a)) → (R = rR t ln a (sd, mr, cu, false, false, rep, np, oc, f, ev, be, cq, st, me, pa)) → (RJ (sd, mr, cu, false, false, rep, np, oc, f, ev, be, cq, st, me, pa)) → (a ≤ ln + 1) → (TBL xk xm xp xb xs xe xg xl xi xc f ev) → (sd = 1 ∨ (sd = 2 ∧ tkK t ln a ≠ 37)) → (pgI f ev pg) → J ((cX6_readAll, RX6, 2, wsX6_readAll), (rX6_readAll, none, "readAll", []), fun o w9 => o = .inl none ∧ ∃ fs9 : List Value, MU A mm [10, 11, 12, 13, 14, 15, 16, 17, 18, 19] [5, 6, 7, 8, 9, 22, 24, 25, 26, 27, 28, 29, 30, 31, 32, 33] w0 w9 fs0 fs9 ∧ ∃ (xk xm : Nat → Nat) (xp : Nat → Int32) (xb xs xe xg : Nat → Nat) (xl xi xc : Nat → Int32), TA A w9 xk xm xp xb xs xe xg xl xi xc ∧ (∃ nu9 : Int32, fs9[26]? = some (.int nu9)) ∧ (RFl fs9 R ∨ ∃ (a9 sd9 mr9 cu9 rep9 np9 oc9 : Nat) (f9 : Nat → Int32) (ev9 be9 cq9 st9 me9 pa9 pg9 : Nat), R = (0, a9, (sd9, mr9, cu9, false, false, rep9, np9, oc9, f9, ev9, be9, cq9, st9, me9, pa9)) ∧ RJ (sd9, mr9, cu9, false, false, rep9, np9, oc9, f9, ev9, be9, cq9, st9, me9, pa9) ∧ (sd9 = 1 ∨ sd9 = 2) ∧ fs9[5]? = some (.int (nI ev9)) ∧ fs9[6]? = some (.int (nI me9)) ∧ fs9[7]? = some (.int (nI pg9)) ∧ fs9[8]? = some (.int (nI be9)) ∧ fs9[9]? = some (.int (nI cu9)) ∧ fs9[29]? = some (.int (nI 0)) ∧ pgI f9 ev9 pg9 ∧ TBL xk xm xp xb xs xe xg xl xi xc f9 ev9), fun _ _ _ => True) 51 [(0, .ref mm), (1, .int (nI pa))] [] w 0 0 := by
  intro m9
  induction m9 with
  | zero => intro w fs a tkn sg nu sd mr cu rep np oc f ev be cq st me pa pg xk xm xp xb xs xe xg xl xi xc h9; omega
  | succ m9 ih =>
    intro w fs a tkn sg nu sd mr cu rep np oc f ev be cq st me pa pg xk xm xp xb xs xe xg xl xi xc hm9 hmm hA hfr hff h5 h6 h8 h9 h23 h29 h31 h33 h22 h24 h25 h26 h27 h28 h7 a1 a10 a11 a12 a13 a14 a15 a16 a17 a18 a19 hT hN hR hI ha hTB hsd hpg
    have hTb := hT.1
    obtain ⟨i1, i2, i3, i4, i5, i6, i7⟩ := id hI.1
    refine j_aload_n dX6_readAll_51 0 rfl ?_
    refine j_get (v := .int (nI 0)) flX6_readAll_124 hmm h29 dX6_readAll_52 ?_
    refine j_if_neN 235 (by decide) dX6_readAll_55 (by decide) (fun h9 => absurd rfl h9) (fun _ => ?_)
    refine j_aload_n dX6_readAll_58 0 rfl ?_
    refine j_get (v := .int (nI tkn)) flX6_readAll_102 hmm h24 dX6_readAll_59 ?_
    refine j_if_eqN 235 (by omega) dX6_readAll_62 (by decide) (fun c62 => ?_) (fun c62 => ?_)
    · skip
      have hk0 : tkK t ln a = 0 := hT.2.2.2.2.1.mp c62
      have hend : R = (0, a, (sd, mr, cu, false, false, rep, np, oc, f, ev, be, cq, st, me, pa)) := by rw [hR, rR_end hk0, fEnd hk0 (by omega)]
      exact j_vret rfl ⟨rfl, _, ⟨(FrI.mono hfr (by simp) rfl : FrI A [mm] [10, 11, 12, 13, 14, 15, 16, 17, 18, 19] w0 _), hmm, (FF.mono hff rfl : FF [5, 6, 7, 8, 9, 22, 24, 25, 26, 27, 28, 29, 30, 31, 32, 33] fs0 _)⟩, _, _, _, _, _, _, _, _, _, _, ⟨a10, a11, a12, a13, a14, a15, a16, a17, a18, a19⟩, ⟨_, h26⟩, Or.inr ⟨_, _, _, _, _, _, _, _, _, _, _, _, _, _, _, hend, hI, by omega, h5, h6, h7, h8, h9, h29, hpg, hTB⟩⟩ (show 0 ≤ 0 by omega) (show 0 ≤ 0 by omega) dX6_readAll_235
    · skip
      refine j_aload_n dX6_readAll_65 0 rfl ?_
      refine j_aload_n dX6_readAll_66 0 rfl ?_
      refine j_get (v := .int (nI ev)) flX6_readAll_144 hmm h5 dX6_readAll_67 ?_
      refine j_putM fsX6_readAll_165 hmm rfl rfl (RA.lt hA (by decide)) dX6_readAll_70 (fun w1 fs2 sfs2 hw1 => ?_)
      have f3 : w1 mm = some (.inr (6, fs2)) := up_at hw1
      have rfs2 : RA A fs2 := RA.set hA sfs2 rfl
      have v4 := st_at sfs2 hA (by decide : 32 < 45)
      refine j_aload_n dX6_readAll_73 0 rfl ?_
      refine j_sipush (v := nI 256) dX6_readAll_74 (by decide) ?_
      have v5 := (st_ne sfs2 rfl h24)
      have v6 := (st_ne sfs2 rfl h25)
      refine j_callV (rm := rX6_isSign) (As := [.int (nI 256)]) (st := []) (b0 := mm) (ci := 6) (na := 1) (m_isSign (c := 256) hAD f3 rfs2 v5 v6 hT rfl (by decide)) (by intro E w9 h9; first | exact nomatch h9.1 | (obtain ⟨_, h9, _⟩ := h9; exact nomatch h9) | (obtain ⟨_, _, _, h9, _⟩ := h9; exact nomatch h9)) gX6_readAll_X6_isSign rfl rfl f3 (by decide +kernel) rfl ⟨Nat.le_of_ble_eq_true rfl, Nat.le_of_ble_eq_true rfl⟩ rfl (Nat.le_of_ble_eq_true rfl) dX6_readAll_77 ⟨(show 0 + 0 ≤ 0 by omega), (show 0 + 0 ≤ 0 by omega)⟩ (fun v7 w8 h9 => ?_)
      obtain ⟨h9, h10⟩ := h9
      cases h9
      subst w8
      refine j_after (st' := [.int (zb (decide (tkK t ln a = 4)))]) (k' := 0) (n' := 0) rfl rfl rfl ?_
      by_cases hk4 : tkK t ln a = 4
      · skip
        refine j_eqi (y := nI 1) (by rw [decide_eq_true hk4]; rfl) ?_
        refine j_if_eqN 95 (by decide) dX6_readAll_80 (by decide) (fun h9 => absurd h9 (by decide)) (fun _ => ?_)
        refine j_aload_n dX6_readAll_83 0 rfl ?_
        refine j_aload_n dX6_readAll_84 0 rfl ?_
        have v11 := (st_ne sfs2 rfl h5)
        refine j_get (v := .int (nI ev)) flX6_readAll_144 f3 v11 dX6_readAll_85 ?_
        refine j_putM fsX6_readAll_162 f3 rfl rfl (RA.lt rfs2 (by decide)) dX6_readAll_88 (fun w12 fs13 sfs13 hw12 => ?_)
        have f14 : w12 mm = some (.inr (6, fs13)) := up_at hw12
        have rfs13 : RA A fs13 := RA.set rfs2 sfs13 rfl
        have v15 := st_at sfs13 rfs2 (by decide : 33 < 45)
        obtain ⟨hR16, hI17, hb18, hl19⟩ := rR_go (s1 := (4, mr, cu, false, false, ev, np, oc, f, ev, be, cq, st, me, pa)) ht hR (f0 hk4 (by rcases hsd with rfl | ⟨rfl, -⟩ <;> decide) (by decide)) (by omega) (by rw [hk4]; rfl) hI ha
        refine j_aload_n dX6_readAll_91 0 rfl ?_
        obtain ⟨az20, haz20⟩ : ∃ z, tkN t ln a = z := ⟨_, rfl⟩
        have v32 := (st_ne sfs13 rfl (st_ne sfs2 rfl h22))
        have v33 := (st_ne sfs13 rfl (st_ne sfs2 rfl h23))
        have v34 := (st_ne sfs13 rfl (st_ne sfs2 rfl h26))
        have f35 := (up_ne hw12 (AD.nm hAD 1 rfl) (up_ne hw1 (AD.nm hAD 1 rfl) a1))
        refine j_callV (rm := rX6_next) (As := []) (st := []) (b0 := mm) (ci := 6) (na := 0) (m_next1 (a := az20) hAD f14 rfs13 v32 v33 v34 f35 ht hln (tkN_bd ha).2.1 haz20) (by intro E w9 h9; first | exact nomatch h9.1 | (obtain ⟨_, h9, _⟩ := h9; exact nomatch h9) | (obtain ⟨_, _, _, h9, _⟩ := h9; exact nomatch h9)) gX6_readAll_X6_next rfl rfl f14 (by decide +kernel) rfl ⟨Nat.le_of_ble_eq_true rfl, Nat.le_of_ble_eq_true rfl⟩ rfl (Nat.le_of_ble_eq_true rfl) dX6_readAll_92 ⟨(show 0 + 0 ≤ 0 by omega), (show 0 + 0 ≤ 0 by omega)⟩ (fun v41 w42 h43 => ?_)
        obtain ⟨h40, fs36, ⟨hfr37, hm38, hff39⟩, ⟨tkn21, sg22, nu23, v26, v27, v28, v29, v30, v31, hT24, hN25⟩⟩ := h43
        cases h40
        refine j_after (st' := []) (k' := 0) (n' := 0) rfl rfl rfl ?_
        have r44 : RA A fs36 := RA.ff rfs13 hff39 rfl
        have hT24b := hT24.1
        rw [haz20] at hR16 hb18 hl19
        refine j_aload_n dX6_readAll_95 0 rfl ?_
        refine j_callV (rm := rX6_beginsMarked) (As := []) (st := []) (b0 := mm) (ci := 6) (na := 0) (m_beginsMarked hAD hm38 r44 v27 v28 hT24) (by intro E w9 h9; first | exact nomatch h9.1 | (obtain ⟨_, h9, _⟩ := h9; exact nomatch h9) | (obtain ⟨_, _, _, h9, _⟩ := h9; exact nomatch h9)) gX6_readAll_X6_beginsMarked rfl rfl hm38 (by decide +kernel) rfl ⟨Nat.le_of_ble_eq_true rfl, Nat.le_of_ble_eq_true rfl⟩ rfl (Nat.le_of_ble_eq_true rfl) dX6_readAll_96 ⟨(show 0 + 0 ≤ 0 by omega), (show 0 + 0 ≤ 0 by omega)⟩ (fun v45 w46 h47 => ?_)
        obtain ⟨h47, h48⟩ := h47
        cases h47
        subst w46
        refine j_after (st' := [.int (zb (bM (tkK t ln az20)))]) (k' := 0) (n' := 0) rfl rfl rfl ?_
        by_cases hbm : bM (tkK t ln az20) = true
        · skip
          refine j_eqi (y := nI 1) (by rw [hbm]; rfl) ?_
          refine j_if_neN 107 (by decide) dX6_readAll_99 (by decide) (fun _ => ?_) (fun h9 => absurd h9 (by decide))
          refine j_lv (lv' := [(0, .ref mm), (1, .int (nI pa))]) [0, 1] rfl ?_
          have v49 := (FF.at hff39 rfl (st_ne sfs13 rfl v11))
          have v50 := (FF.at hff39 rfl (st_ne sfs13 rfl (st_ne sfs2 rfl h6)))
          have v51 := (FF.at hff39 rfl (st_ne sfs13 rfl (st_ne sfs2 rfl h8)))
          have v52 := (FF.at hff39 rfl (st_ne sfs13 rfl (st_ne sfs2 rfl h9)))
          have v53 := (FF.at hff39 rfl v33)
          have v54 := (FF.at hff39 rfl (st_ne sfs13 rfl (st_ne sfs2 rfl h29)))
          have v55 := (FF.at hff39 rfl (st_ne sfs13 rfl (st_ne sfs2 rfl h31)))
          have v56 := (FF.at hff39 rfl v15)
          have f57 := (FrI.gen hfr37 (nm1 (AD.nm hAD 1 rfl)) (AD.nl hAD 1 rfl rfl rfl) f35)
          have f58 := (FrI.gen hfr37 (nm1 (AD.nm hAD 10 rfl)) (AD.nl hAD 10 rfl rfl rfl) (up_ne hw12 (AD.nm hAD 10 rfl) (up_ne hw1 (AD.nm hAD 10 rfl) a10)))
          have f59 := (FrI.gen hfr37 (nm1 (AD.nm hAD 11 rfl)) (AD.nl hAD 11 rfl rfl rfl) (up_ne hw12 (AD.nm hAD 11 rfl) (up_ne hw1 (AD.nm hAD 11 rfl) a11)))
          have f60 := (FrI.gen hfr37 (nm1 (AD.nm hAD 12 rfl)) (AD.nl hAD 12 rfl rfl rfl) (up_ne hw12 (AD.nm hAD 12 rfl) (up_ne hw1 (AD.nm hAD 12 rfl) a12)))
          have f61 := (FrI.gen hfr37 (nm1 (AD.nm hAD 13 rfl)) (AD.nl hAD 13 rfl rfl rfl) (up_ne hw12 (AD.nm hAD 13 rfl) (up_ne hw1 (AD.nm hAD 13 rfl) a13)))
          have f62 := (FrI.gen hfr37 (nm1 (AD.nm hAD 14 rfl)) (AD.nl hAD 14 rfl rfl rfl) (up_ne hw12 (AD.nm hAD 14 rfl) (up_ne hw1 (AD.nm hAD 14 rfl) a14)))
          have f63 := (FrI.gen hfr37 (nm1 (AD.nm hAD 15 rfl)) (AD.nl hAD 15 rfl rfl rfl) (up_ne hw12 (AD.nm hAD 15 rfl) (up_ne hw1 (AD.nm hAD 15 rfl) a15)))
          have f64 := (FrI.gen hfr37 (nm1 (AD.nm hAD 16 rfl)) (AD.nl hAD 16 rfl rfl rfl) (up_ne hw12 (AD.nm hAD 16 rfl) (up_ne hw1 (AD.nm hAD 16 rfl) a16)))
          have f65 := (FrI.gen hfr37 (nm1 (AD.nm hAD 17 rfl)) (AD.nl hAD 17 rfl rfl rfl) (up_ne hw12 (AD.nm hAD 17 rfl) (up_ne hw1 (AD.nm hAD 17 rfl) a17)))
          have f66 := (FrI.gen hfr37 (nm1 (AD.nm hAD 18 rfl)) (AD.nl hAD 18 rfl rfl rfl) (up_ne hw12 (AD.nm hAD 18 rfl) (up_ne hw1 (AD.nm hAD 18 rfl) a18)))
          have f67 := (FrI.gen hfr37 (nm1 (AD.nm hAD 19 rfl)) (AD.nl hAD 19 rfl rfl rfl) (up_ne hw12 (AD.nm hAD 19 rfl) (up_ne hw1 (AD.nm hAD 19 rfl) a19)))
          exact l_a107 hAD ht hln (aS := a) (m8 := m9) ih (by omega) _ _ _ _ _ _ _ _ _ _ _ _ _ _ _ _ _ _ _ _ _ _ _ _ _ _ _ (Nat.lt_succ_self _) hm38 r44 ((((FrI.mono hfr (by simp) rfl : FrI A [mm] [10, 11, 12, 13, 14, 15, 16, 17, 18, 19] w0 _).trans (FrI.ux hw1 (by simp))).trans (FrI.ux hw12 (by simp))).trans (FrI.sub hfr37 rfl)) ((((FF.mono hff rfl : FF [5, 6, 7, 8, 9, 22, 24, 25, 26, 27, 28, 29, 30, 31, 32, 33] fs0 _).trans (FF.set sfs2 rfl)).trans (FF.set sfs13 rfl)).trans (FF.mono hff39 rfl)) v49 v50 v51 v52 v53 v54 v55 v56 v26 v27 v28 v29 v30 v31 f57 f58 f59 f60 f61 f62 f63 f64 f65 f66 f67 hT24 hN25 hR16 hI17 hb18 hTB (by omega) (Or.inr ⟨by omega, hbm⟩)
        · skip
          have hbm0 : bM (tkK t ln az20) = false := by simpa using hbm
          refine j_eqi (y := nI 0) (by rw [hbm0]; rfl) ?_
          refine j_if_neN 107 (by decide) dX6_readAll_99 (by decide) (fun h9 => absurd rfl h9) (fun _ => ?_)
          have hbd68 := rR_bad (b := 1) hR16 (rf_1 (f1_4 (tk_k ht) hbm0)) (by decide)
          refine j_aload_n dX6_readAll_102 0 rfl ?_
          refine j_iconst (v := nI 1) dX6_readAll_103 (by decide) ?_
          have v69 := (FF.at hff39 rfl (st_ne sfs13 rfl (st_ne sfs2 rfl h29)))
          refine j_callV (rm := rX6_wrong) (As := [.int (nI 1)]) (st := []) (b0 := mm) (ci := 6) (na := 1) (m_wrong0 (k := 1) hAD hm38 r44 v69 v30) (by intro E w9 h9; first | exact nomatch h9.1 | (obtain ⟨_, h9, _⟩ := h9; exact nomatch h9) | (obtain ⟨_, _, _, h9, _⟩ := h9; exact nomatch h9)) gX6_readAll_X6_wrong rfl rfl hm38 (by decide +kernel) rfl ⟨Nat.le_of_ble_eq_true rfl, Nat.le_of_ble_eq_true rfl⟩ rfl (Nat.le_of_ble_eq_true rfl) dX6_readAll_104 ⟨(show 0 + 0 ≤ 0 by omega), (show 0 + 0 ≤ 0 by omega)⟩ (fun v77 w78 h79 => ?_)
          obtain ⟨h76, fs72, ⟨hfr73, hm74, hff75⟩, v70, v71⟩ := h79
          cases h76
          refine j_after (st' := []) (k' := 0) (n' := 0) rfl rfl rfl ?_
          have r80 : RA A fs72 := RA.ff r44 hff75 rfl
          refine j_aload_n dX6_readAll_107 0 rfl ?_
          refine j_get (v := .int (nI 1)) flX6_readAll_124 hm74 v70 dX6_readAll_108 ?_
          refine j_if_neN 129 (by decide) dX6_readAll_111 (by decide) (fun _ => ?_) (fun h9 => absurd h9 (by decide))
          refine j_aload_n dX6_readAll_129 0 rfl ?_
          refine j_get (v := .int (nI 1)) flX6_readAll_124 hm74 v70 dX6_readAll_130 ?_
          refine j_if_eqN 137 (by decide) dX6_readAll_133 (by decide) (fun h9 => absurd h9 (by decide)) (fun _ => ?_)
          have f81 := (FrI.gen hfr73 (nm1 (AD.nm hAD 10 rfl)) (AD.nl hAD 10 rfl rfl rfl) (FrI.gen hfr37 (nm1 (AD.nm hAD 10 rfl)) (AD.nl hAD 10 rfl rfl rfl) (up_ne hw12 (AD.nm hAD 10 rfl) (up_ne hw1 (AD.nm hAD 10 rfl) a10))))
          have f82 := (FrI.gen hfr73 (nm1 (AD.nm hAD 11 rfl)) (AD.nl hAD 11 rfl rfl rfl) (FrI.gen hfr37 (nm1 (AD.nm hAD 11 rfl)) (AD.nl hAD 11 rfl rfl rfl) (up_ne hw12 (AD.nm hAD 11 rfl) (up_ne hw1 (AD.nm hAD 11 rfl) a11))))
          have f83 := (FrI.gen hfr73 (nm1 (AD.nm hAD 12 rfl)) (AD.nl hAD 12 rfl rfl rfl) (FrI.gen hfr37 (nm1 (AD.nm hAD 12 rfl)) (AD.nl hAD 12 rfl rfl rfl) (up_ne hw12 (AD.nm hAD 12 rfl) (up_ne hw1 (AD.nm hAD 12 rfl) a12))))
          have f84 := (FrI.gen hfr73 (nm1 (AD.nm hAD 13 rfl)) (AD.nl hAD 13 rfl rfl rfl) (FrI.gen hfr37 (nm1 (AD.nm hAD 13 rfl)) (AD.nl hAD 13 rfl rfl rfl) (up_ne hw12 (AD.nm hAD 13 rfl) (up_ne hw1 (AD.nm hAD 13 rfl) a13))))
          have f85 := (FrI.gen hfr73 (nm1 (AD.nm hAD 14 rfl)) (AD.nl hAD 14 rfl rfl rfl) (FrI.gen hfr37 (nm1 (AD.nm hAD 14 rfl)) (AD.nl hAD 14 rfl rfl rfl) (up_ne hw12 (AD.nm hAD 14 rfl) (up_ne hw1 (AD.nm hAD 14 rfl) a14))))
          have f86 := (FrI.gen hfr73 (nm1 (AD.nm hAD 15 rfl)) (AD.nl hAD 15 rfl rfl rfl) (FrI.gen hfr37 (nm1 (AD.nm hAD 15 rfl)) (AD.nl hAD 15 rfl rfl rfl) (up_ne hw12 (AD.nm hAD 15 rfl) (up_ne hw1 (AD.nm hAD 15 rfl) a15))))
          have f87 := (FrI.gen hfr73 (nm1 (AD.nm hAD 16 rfl)) (AD.nl hAD 16 rfl rfl rfl) (FrI.gen hfr37 (nm1 (AD.nm hAD 16 rfl)) (AD.nl hAD 16 rfl rfl rfl) (up_ne hw12 (AD.nm hAD 16 rfl) (up_ne hw1 (AD.nm hAD 16 rfl) a16))))
          have f88 := (FrI.gen hfr73 (nm1 (AD.nm hAD 17 rfl)) (AD.nl hAD 17 rfl rfl rfl) (FrI.gen hfr37 (nm1 (AD.nm hAD 17 rfl)) (AD.nl hAD 17 rfl rfl rfl) (up_ne hw12 (AD.nm hAD 17 rfl) (up_ne hw1 (AD.nm hAD 17 rfl) a17))))
          have f89 := (FrI.gen hfr73 (nm1 (AD.nm hAD 18 rfl)) (AD.nl hAD 18 rfl rfl rfl) (FrI.gen hfr37 (nm1 (AD.nm hAD 18 rfl)) (AD.nl hAD 18 rfl rfl rfl) (up_ne hw12 (AD.nm hAD 18 rfl) (up_ne hw1 (AD.nm hAD 18 rfl) a18))))
          have f90 := (FrI.gen hfr73 (nm1 (AD.nm hAD 19 rfl)) (AD.nl hAD 19 rfl rfl rfl) (FrI.gen hfr37 (nm1 (AD.nm hAD 19 rfl)) (AD.nl hAD 19 rfl rfl rfl) (up_ne hw12 (AD.nm hAD 19 rfl) (up_ne hw1 (AD.nm hAD 19 rfl) a19))))
          have v91 := (FF.at hff75 rfl v29)
          exact j_vret rfl ⟨rfl, _, ⟨(((((FrI.mono hfr (by simp) rfl : FrI A [mm] [10, 11, 12, 13, 14, 15, 16, 17, 18, 19] w0 _).trans (FrI.ux hw1 (by simp))).trans (FrI.ux hw12 (by simp))).trans (FrI.sub hfr37 rfl)).trans (FrI.sub hfr73 rfl)), hm74, (((((FF.mono hff rfl : FF [5, 6, 7, 8, 9, 22, 24, 25, 26, 27, 28, 29, 30, 31, 32, 33] fs0 _).trans (FF.set sfs2 rfl)).trans (FF.set sfs13 rfl)).trans (FF.mono hff39 rfl)).trans (FF.mono hff75 rfl))⟩, _, _, _, _, _, _, _, _, _, _, ⟨f81, f82, f83, f84, f85, f86, f87, f88, f89, f90⟩, ⟨_, v91⟩, Or.inl (RFl.mk hbd68 ⟨by decide, by decide⟩ v70 v71)⟩ (show 0 ≤ 0 by omega) (show 0 ≤ 0 by omega) dX6_readAll_136
      · skip
        refine j_eqi (y := nI 0) (by rw [decide_eq_false hk4]; rfl) ?_
        refine j_if_eqN 95 (by decide) dX6_readAll_80 (by decide) (fun _ => ?_) (fun h9 => absurd rfl h9)
        refine j_aload_n dX6_readAll_95 0 rfl ?_
        refine j_callV (rm := rX6_beginsMarked) (As := []) (st := []) (b0 := mm) (ci := 6) (na := 0) (m_beginsMarked hAD f3 rfs2 v5 v6 hT) (by intro E w9 h9; first | exact nomatch h9.1 | (obtain ⟨_, h9, _⟩ := h9; exact nomatch h9) | (obtain ⟨_, _, _, h9, _⟩ := h9; exact nomatch h9)) gX6_readAll_X6_beginsMarked rfl rfl f3 (by decide +kernel) rfl ⟨Nat.le_of_ble_eq_true rfl, Nat.le_of_ble_eq_true rfl⟩ rfl (Nat.le_of_ble_eq_true rfl) dX6_readAll_96 ⟨(show 0 + 0 ≤ 0 by omega), (show 0 + 0 ≤ 0 by omega)⟩ (fun v92 w93 h94 => ?_)
        obtain ⟨h94, h95⟩ := h94
        cases h94
        subst w93
        refine j_after (st' := [.int (zb (bM (tkK t ln a)))]) (k' := 0) (n' := 0) rfl rfl rfl ?_
        by_cases hbm : bM (tkK t ln a) = true
        · skip
          refine j_eqi (y := nI 1) (by rw [hbm]; rfl) ?_
          refine j_if_neN 107 (by decide) dX6_readAll_99 (by decide) (fun _ => ?_) (fun h9 => absurd h9 (by decide))
          refine j_lv (lv' := [(0, .ref mm), (1, .int (nI pa))]) [0, 1] rfl ?_
          have v96 := (st_ne sfs2 rfl h5)
          have v97 := (st_ne sfs2 rfl h6)
          have v98 := (st_ne sfs2 rfl h8)
          have v99 := (st_ne sfs2 rfl h9)
          have v100 := (st_ne sfs2 rfl h23)
          have v101 := (st_ne sfs2 rfl h29)
          have v102 := (st_ne sfs2 rfl h31)
          have v103 := (st_ne sfs2 rfl h33)
          have v104 := (st_ne sfs2 rfl h22)
          have v105 := (st_ne sfs2 rfl h26)
          have v106 := (st_ne sfs2 rfl h27)
          have v107 := (st_ne sfs2 rfl h28)
          have f108 := (up_ne hw1 (AD.nm hAD 1 rfl) a1)
          have f109 := (up_ne hw1 (AD.nm hAD 10 rfl) a10)
          have f110 := (up_ne hw1 (AD.nm hAD 11 rfl) a11)
          have f111 := (up_ne hw1 (AD.nm hAD 12 rfl) a12)
          have f112 := (up_ne hw1 (AD.nm hAD 13 rfl) a13)
          have f113 := (up_ne hw1 (AD.nm hAD 14 rfl) a14)
          have f114 := (up_ne hw1 (AD.nm hAD 15 rfl) a15)
          have f115 := (up_ne hw1 (AD.nm hAD 16 rfl) a16)
          have f116 := (up_ne hw1 (AD.nm hAD 17 rfl) a17)
          have f117 := (up_ne hw1 (AD.nm hAD 18 rfl) a18)
          have f118 := (up_ne hw1 (AD.nm hAD 19 rfl) a19)
          exact l_a107 hAD ht hln (aS := a) (m8 := m9) ih (by omega) _ _ _ _ _ _ _ _ _ _ _ _ _ _ _ _ _ _ _ _ _ _ _ _ _ _ _ (Nat.lt_succ_self _) f3 rfs2 ((FrI.mono hfr (by simp) rfl : FrI A [mm] [10, 11, 12, 13, 14, 15, 16, 17, 18, 19] w0 _).trans (FrI.ux hw1 (by simp))) ((FF.mono hff rfl : FF [5, 6, 7, 8, 9, 22, 24, 25, 26, 27, 28, 29, 30, 31, 32, 33] fs0 _).trans (FF.set sfs2 rfl)) v96 v97 v98 v99 v100 v101 v102 v103 v104 v5 v6 v105 v106 v107 f108 f109 f110 f111 f112 f113 f114 f115 f116 f117 f118 hT hN hR hI ha hTB (by omega) (Or.inr ⟨by omega, hbm⟩)
        · skip
          have hbm0 : bM (tkK t ln a) = false := by simpa using hbm
          refine j_eqi (y := nI 0) (by rw [hbm0]; rfl) ?_
          refine j_if_neN 107 (by decide) dX6_readAll_99 (by decide) (fun h9 => absurd rfl h9) (fun _ => ?_)
          have hk0 : ¬ tkK t ln a = 0 := fun q => c62 (hT.2.2.2.2.1.mpr q)
          have hf : rFault (tkK t ln a) (tkV t ln a) (sd, mr, cu, false, false, rep, np, oc, f, ev, be, cq, st, me, pa) = 1 := by
            rcases hsd with rfl | ⟨rfl, h37⟩
            · exact rf_1 (f1_1 (tk_k ht) ⟨hbm0, hk0, hk4⟩)
            · exact rf_1 (f1_2 (tk_k ht) ⟨hbm0, hk0, hk4, h37⟩)
          have hbd119 := rR_bad (b := 1) hR hf (by decide)
          refine j_aload_n dX6_readAll_102 0 rfl ?_
          refine j_iconst (v := nI 1) dX6_readAll_103 (by decide) ?_
          have v120 := (st_ne sfs2 rfl h29)
          have v123 := (st_ne sfs2 rfl h27)
          refine j_callV (rm := rX6_wrong) (As := [.int (nI 1)]) (st := []) (b0 := mm) (ci := 6) (na := 1) (m_wrong0 (k := 1) hAD f3 rfs2 v120 v123) (by intro E w9 h9; first | exact nomatch h9.1 | (obtain ⟨_, h9, _⟩ := h9; exact nomatch h9) | (obtain ⟨_, _, _, h9, _⟩ := h9; exact nomatch h9)) gX6_readAll_X6_wrong rfl rfl f3 (by decide +kernel) rfl ⟨Nat.le_of_ble_eq_true rfl, Nat.le_of_ble_eq_true rfl⟩ rfl (Nat.le_of_ble_eq_true rfl) dX6_readAll_104 ⟨(show 0 + 0 ≤ 0 by omega), (show 0 + 0 ≤ 0 by omega)⟩ (fun v129 w130 h131 => ?_)
          obtain ⟨h128, fs124, ⟨hfr125, hm126, hff127⟩, v121, v122⟩ := h131
          cases h128
          refine j_after (st' := []) (k' := 0) (n' := 0) rfl rfl rfl ?_
          have r132 : RA A fs124 := RA.ff rfs2 hff127 rfl
          refine j_aload_n dX6_readAll_107 0 rfl ?_
          refine j_get (v := .int (nI 1)) flX6_readAll_124 hm126 v121 dX6_readAll_108 ?_
          refine j_if_neN 129 (by decide) dX6_readAll_111 (by decide) (fun _ => ?_) (fun h9 => absurd h9 (by decide))
          refine j_aload_n dX6_readAll_129 0 rfl ?_
          refine j_get (v := .int (nI 1)) flX6_readAll_124 hm126 v121 dX6_readAll_130 ?_
          refine j_if_eqN 137 (by decide) dX6_readAll_133 (by decide) (fun h9 => absurd h9 (by decide)) (fun _ => ?_)
          have f133 := (FrI.gen hfr125 (nm1 (AD.nm hAD 10 rfl)) (AD.nl hAD 10 rfl rfl rfl) (up_ne hw1 (AD.nm hAD 10 rfl) a10))
          have f134 := (FrI.gen hfr125 (nm1 (AD.nm hAD 11 rfl)) (AD.nl hAD 11 rfl rfl rfl) (up_ne hw1 (AD.nm hAD 11 rfl) a11))
          have f135 := (FrI.gen hfr125 (nm1 (AD.nm hAD 12 rfl)) (AD.nl hAD 12 rfl rfl rfl) (up_ne hw1 (AD.nm hAD 12 rfl) a12))
          have f136 := (FrI.gen hfr125 (nm1 (AD.nm hAD 13 rfl)) (AD.nl hAD 13 rfl rfl rfl) (up_ne hw1 (AD.nm hAD 13 rfl) a13))
          have f137 := (FrI.gen hfr125 (nm1 (AD.nm hAD 14 rfl)) (AD.nl hAD 14 rfl rfl rfl) (up_ne hw1 (AD.nm hAD 14 rfl) a14))
          have f138 := (FrI.gen hfr125 (nm1 (AD.nm hAD 15 rfl)) (AD.nl hAD 15 rfl rfl rfl) (up_ne hw1 (AD.nm hAD 15 rfl) a15))
          have f139 := (FrI.gen hfr125 (nm1 (AD.nm hAD 16 rfl)) (AD.nl hAD 16 rfl rfl rfl) (up_ne hw1 (AD.nm hAD 16 rfl) a16))
          have f140 := (FrI.gen hfr125 (nm1 (AD.nm hAD 17 rfl)) (AD.nl hAD 17 rfl rfl rfl) (up_ne hw1 (AD.nm hAD 17 rfl) a17))
          have f141 := (FrI.gen hfr125 (nm1 (AD.nm hAD 18 rfl)) (AD.nl hAD 18 rfl rfl rfl) (up_ne hw1 (AD.nm hAD 18 rfl) a18))
          have f142 := (FrI.gen hfr125 (nm1 (AD.nm hAD 19 rfl)) (AD.nl hAD 19 rfl rfl rfl) (up_ne hw1 (AD.nm hAD 19 rfl) a19))
          have v143 := (FF.at hff127 rfl (st_ne sfs2 rfl h26))
          exact j_vret rfl ⟨rfl, _, ⟨(((FrI.mono hfr (by simp) rfl : FrI A [mm] [10, 11, 12, 13, 14, 15, 16, 17, 18, 19] w0 _).trans (FrI.ux hw1 (by simp))).trans (FrI.sub hfr125 rfl)), hm126, (((FF.mono hff rfl : FF [5, 6, 7, 8, 9, 22, 24, 25, 26, 27, 28, 29, 30, 31, 32, 33] fs0 _).trans (FF.set sfs2 rfl)).trans (FF.mono hff127 rfl))⟩, _, _, _, _, _, _, _, _, _, _, ⟨f133, f134, f135, f136, f137, f138, f139, f140, f141, f142⟩, ⟨_, v143⟩, Or.inl (RFl.mk hbd119 ⟨by decide, by decide⟩ v121 v122)⟩ (show 0 ≤ 0 by omega) (show 0 ≤ 0 by omega) dX6_readAll_136
theorem fsX6_readAll_144 : FS wsX6_readAll RX6 144 6 5 false (.int) := ⟨RX6, TX6, 45, tyX6, rfl, by decide, by decide +kernel, by decide +kernel, tyX6_ok, nmX6, rfl, rfl, rfl⟩
theorem fsX6_readAll_153 : FS wsX6_readAll RX6 153 6 8 false (.int) := ⟨RX6, TX6, 45, tyX6, rfl, by decide, by decide +kernel, by decide +kernel, tyX6_ok, nmX6, rfl, rfl, rfl⟩
theorem fsX6_readAll_156 : FS wsX6_readAll RX6 156 6 9 false (.int) := ⟨RX6, TX6, 45, tyX6, rfl, by decide, by decide +kernel, by decide +kernel, tyX6_ok, nmX6, rfl, rfl, rfl⟩
theorem fsX6_readAll_159 : FS wsX6_readAll RX6 159 6 31 false (.int) := ⟨RX6, TX6, 45, tyX6, rfl, by decide, by decide +kernel, by decide +kernel, tyX6_ok, nmX6, rfl, rfl, rfl⟩
theorem fsX6_readAll_124 : FS wsX6_readAll RX6 124 6 29 false (.int) := ⟨RX6, TX6, 45, tyX6, rfl, by decide, by decide +kernel, by decide +kernel, tyX6_ok, nmX6, rfl, rfl, rfl⟩
theorem fsX6_readAll_89 : FS wsX6_readAll RX6 89 6 22 false (.int) := ⟨RX6, TX6, 45, tyX6, rfl, by decide, by decide +kernel, by decide +kernel, tyX6_ok, nmX6, rfl, rfl, rfl⟩
set_option maxHeartbeats 4000000 in
set_option maxRecDepth 100000 in
theorem m_readAll {t : Nat → Nat} {ln : Nat} {nu : Int32} {R : Nat × Nat × RSt} {f : Nat → Int32} {xk xm : Nat → Nat} {xp : Nat → Int32} {xb xs xe xg : Nat → Nat} {xl xi xc : Nat → Int32} {w : pW} {A : Nat → Nat} {mm : Nat} {fs : List Value} (hAD : AD A mm) (hmm : w mm = some (.inr (6, fs))) (hA : RA A fs) (h23 : fs[23]? = some (.int (nI ln))) (h26 : fs[26]? = some (.int nu)) (a1 : w (A 1) = some (.inl (0, 2400, .inl (fun j9 => nI (t j9))))) (a10 : w (A 10) = some (.inl (0, 100, .inl (fun j9 => nI (xk j9))))) (a11 : w (A 11) = some (.inl (0, 100, .inl (fun j9 => nI (xm j9))))) (a12 : w (A 12) = some (.inl (0, 400, .inl xp))) (a13 : w (A 13) = some (.inl (0, 100, .inl (fun j9 => nI (xb j9))))) (a14 : w (A 14) = some (.inl (0, 100, .inl (fun j9 => nI (xs j9))))) (a15 : w (A 15) = some (.inl (0, 100, .inl (fun j9 => nI (xe j9))))) (a16 : w (A 16) = some (.inl (0, 100, .inl (fun j9 => nI (xg j9))))) (a17 : w (A 17) = some (.inl (0, 100, .inl xl))) (a18 : w (A 18) = some (.inl (2, 100, .inl xi))) (a19 : w (A 19) = some (.inl (2, 100, .inl xc))) (ht : ∀ j, t j < 256) (hln : ln ≤ 2400) (hR : R = rRead t ln f) : Ct yX6_readAll wsX6_readAll rX6_readAll [.ref mm] w (fun o w9 => o = .inl none ∧ ∃ fs9 : List Value, MU A mm [10, 11, 12, 13, 14, 15, 16, 17, 18, 19] [5, 6, 7, 8, 9, 22, 24, 25, 26, 27, 28, 29, 30, 31, 32, 33] w w9 fs fs9 ∧ ∃ (xk xm : Nat → Nat) (xp : Nat → Int32) (xb xs xe xg : Nat → Nat) (xl xi xc : Nat → Int32), TA A w9 xk xm xp xb xs xe xg xl xi xc ∧ (∃ nu9 : Int32, fs9[26]? = some (.int nu9)) ∧ (RFl fs9 R ∨ ∃ (a9 sd9 mr9 cu9 rep9 np9 oc9 : Nat) (f9 : Nat → Int32) (ev9 be9 cq9 st9 me9 pa9 pg9 : Nat), R = (0, a9, (sd9, mr9, cu9, false, false, rep9, np9, oc9, f9, ev9, be9, cq9, st9, me9, pa9)) ∧ RJ (sd9, mr9, cu9, false, false, rep9, np9, oc9, f9, ev9, be9, cq9, st9, me9, pa9) ∧ (sd9 = 1 ∨ sd9 = 2) ∧ fs9[5]? = some (.int (nI ev9)) ∧ fs9[6]? = some (.int (nI me9)) ∧ fs9[7]? = some (.int (nI pg9)) ∧ fs9[8]? = some (.int (nI be9)) ∧ fs9[9]? = some (.int (nI cu9)) ∧ fs9[29]? = some (.int (nI 0)) ∧ pgI f9 ev9 pg9 ∧ TBL xk xm xp xb xs xe xg xl xi xc f9 ev9)) := by
  refine Ct.of (cc := cX6_readAll) (own := RX6) (nm := "readAll") (nL := 2) (ret := none) (by decide +kernel) rfl rfl rfl (Nat.le_of_ble_eq_true rfl) ?_
  refine j_lvE (lv' := [(0, .ref mm)]) rfl ?_
  refine j_aload_n dX6_readAll_0 0 rfl ?_
  refine j_iconst (v := nI 0) dX6_readAll_1 (by decide) ?_
  refine j_putM fsX6_readAll_144 hmm rfl rfl (RA.lt hA (by decide)) dX6_readAll_2 (fun w1 fs2 sfs2 hw1 => ?_)
  have f3 : w1 mm = some (.inr (6, fs2)) := up_at hw1
  have rfs2 : RA A fs2 := RA.set hA sfs2 rfl
  have v4 := st_at sfs2 hA (by decide : 5 < 45)
  refine j_aload_n dX6_readAll_5 0 rfl ?_
  refine j_iconst (v := nI 0) dX6_readAll_6 (by decide) ?_
  refine j_putM fsX6_readAll_147 f3 rfl rfl (RA.lt rfs2 (by decide)) dX6_readAll_7 (fun w5 fs6 sfs6 hw5 => ?_)
  have f7 : w5 mm = some (.inr (6, fs6)) := up_at hw5
  have rfs6 : RA A fs6 := RA.set rfs2 sfs6 rfl
  have v8 := st_at sfs6 rfs2 (by decide : 6 < 45)
  refine j_aload_n dX6_readAll_10 0 rfl ?_
  refine j_iconst (v := nI 0) dX6_readAll_11 (by decide) ?_
  refine j_putM fsX6_readAll_150 f7 rfl rfl (RA.lt rfs6 (by decide)) dX6_readAll_12 (fun w9 fs10 sfs10 hw9 => ?_)
  have f11 : w9 mm = some (.inr (6, fs10)) := up_at hw9
  have rfs10 : RA A fs10 := RA.set rfs6 sfs10 rfl
  have v12 := st_at sfs10 rfs6 (by decide : 7 < 45)
  refine j_aload_n dX6_readAll_15 0 rfl ?_
  refine j_iconst (v := nI 0) dX6_readAll_16 (by decide) ?_
  refine j_putM fsX6_readAll_153 f11 rfl rfl (RA.lt rfs10 (by decide)) dX6_readAll_17 (fun w13 fs14 sfs14 hw13 => ?_)
  have f15 : w13 mm = some (.inr (6, fs14)) := up_at hw13
  have rfs14 : RA A fs14 := RA.set rfs10 sfs14 rfl
  have v16 := st_at sfs14 rfs10 (by decide : 8 < 45)
  refine j_aload_n dX6_readAll_20 0 rfl ?_
  refine j_iconst (v := nI 0) dX6_readAll_21 (by decide) ?_
  refine j_putM fsX6_readAll_156 f15 rfl rfl (RA.lt rfs14 (by decide)) dX6_readAll_22 (fun w17 fs18 sfs18 hw17 => ?_)
  have f19 : w17 mm = some (.inr (6, fs18)) := up_at hw17
  have rfs18 : RA A fs18 := RA.set rfs14 sfs18 rfl
  have v20 := st_at sfs18 rfs14 (by decide : 9 < 45)
  refine j_aload_n dX6_readAll_25 0 rfl ?_
  refine j_iconst (v := nI 0) dX6_readAll_26 (by decide) ?_
  refine j_putM fsX6_readAll_159 f19 rfl rfl (RA.lt rfs18 (by decide)) dX6_readAll_27 (fun w21 fs22 sfs22 hw21 => ?_)
  have f23 : w21 mm = some (.inr (6, fs22)) := up_at hw21
  have rfs22 : RA A fs22 := RA.set rfs18 sfs22 rfl
  have v24 := st_at sfs22 rfs18 (by decide : 31 < 45)
  refine j_aload_n dX6_readAll_30 0 rfl ?_
  refine j_iconst (v := nI 0) dX6_readAll_31 (by decide) ?_
  refine j_putM fsX6_readAll_162 f23 rfl rfl (RA.lt rfs22 (by decide)) dX6_readAll_32 (fun w25 fs26 sfs26 hw25 => ?_)
  have f27 : w25 mm = some (.inr (6, fs26)) := up_at hw25
  have rfs26 : RA A fs26 := RA.set rfs22 sfs26 rfl
  have v28 := st_at sfs26 rfs22 (by decide : 33 < 45)
  refine j_aload_n dX6_readAll_35 0 rfl ?_
  refine j_iconst (v := nI 0) dX6_readAll_36 (by decide) ?_
  refine j_putM fsX6_readAll_124 f27 rfl rfl (RA.lt rfs26 (by decide)) dX6_readAll_37 (fun w29 fs30 sfs30 hw29 => ?_)
  have f31 : w29 mm = some (.inr (6, fs30)) := up_at hw29
  have rfs30 : RA A fs30 := RA.set rfs26 sfs30 rfl
  have v32 := st_at sfs30 rfs26 (by decide : 29 < 45)
  refine j_aload_n dX6_readAll_40 0 rfl ?_
  refine j_iconst (v := nI 0) dX6_readAll_41 (by decide) ?_
  refine j_putM fsX6_readAll_89 f31 rfl rfl (RA.lt rfs30 (by decide)) dX6_readAll_42 (fun w33 fs34 sfs34 hw33 => ?_)
  have f35 : w33 mm = some (.inr (6, fs34)) := up_at hw33
  have rfs34 : RA A fs34 := RA.set rfs30 sfs34 rfl
  have v36 := st_at sfs34 rfs30 (by decide : 22 < 45)
  refine j_iconst (v := nI 0) dX6_readAll_45 (by decide) ?_
  refine j_istore_n (lv' := [(1, .int (nI 0)), (0, .ref mm)]) dX6_readAll_46 (Nat.le_of_ble_eq_true rfl) rfl ?_
  refine j_aload_n dX6_readAll_47 1 rfl ?_
  obtain ⟨az37, haz37⟩ : ∃ z, skB t ln 0 = z := ⟨_, rfl⟩
  have v49 := (st_ne sfs34 rfl (st_ne sfs30 rfl (st_ne sfs26 rfl (st_ne sfs22 rfl (st_ne sfs18 rfl (st_ne sfs14 rfl (st_ne sfs10 rfl (st_ne sfs6 rfl (st_ne sfs2 rfl h23)))))))))
  have v50 := (st_ne sfs34 rfl (st_ne sfs30 rfl (st_ne sfs26 rfl (st_ne sfs22 rfl (st_ne sfs18 rfl (st_ne sfs14 rfl (st_ne sfs10 rfl (st_ne sfs6 rfl (st_ne sfs2 rfl h26)))))))))
  have f51 := (up_ne hw33 (AD.nm hAD 1 rfl) (up_ne hw29 (AD.nm hAD 1 rfl) (up_ne hw25 (AD.nm hAD 1 rfl) (up_ne hw21 (AD.nm hAD 1 rfl) (up_ne hw17 (AD.nm hAD 1 rfl) (up_ne hw13 (AD.nm hAD 1 rfl) (up_ne hw9 (AD.nm hAD 1 rfl) (up_ne hw5 (AD.nm hAD 1 rfl) (up_ne hw1 (AD.nm hAD 1 rfl) a1)))))))))
  refine j_callV (rm := rX6_next) (As := []) (st := []) (b0 := mm) (ci := 6) (na := 0) (m_next1 (a := az37) hAD f35 rfs34 v36 v49 v50 f51 ht hln (by omega) haz37) (by intro E w9 h9; first | exact nomatch h9.1 | (obtain ⟨_, h9, _⟩ := h9; exact nomatch h9) | (obtain ⟨_, _, _, h9, _⟩ := h9; exact nomatch h9)) gX6_readAll_X6_next rfl rfl f35 (by decide +kernel) rfl ⟨Nat.le_of_ble_eq_true rfl, Nat.le_of_ble_eq_true rfl⟩ rfl (Nat.le_of_ble_eq_true rfl) dX6_readAll_48 ⟨(show 0 + 0 ≤ 0 by omega), (show 0 + 0 ≤ 0 by omega)⟩ (fun v57 w58 h59 => ?_)
  obtain ⟨h56, fs52, ⟨hfr53, hm54, hff55⟩, ⟨tkn38, sg39, nu40, v43, v44, v45, v46, v47, v48, hT41, hN42⟩⟩ := h59
  cases h56
  refine j_after (st' := []) (k' := 0) (n' := 0) rfl rfl rfl ?_
  have r60 : RA A fs52 := RA.ff rfs34 hff55 rfl
  have hT41b := hT41.1
  refine j_lv (lv' := [(0, .ref mm), (1, .int (nI 0))]) [1, 0] rfl ?_
  have v61 := (FF.at hff55 rfl (st_ne sfs34 rfl (st_ne sfs30 rfl (st_ne sfs26 rfl (st_ne sfs22 rfl (st_ne sfs18 rfl (st_ne sfs14 rfl (st_ne sfs10 rfl (st_ne sfs6 rfl v4)))))))))
  have v62 := (FF.at hff55 rfl (st_ne sfs34 rfl (st_ne sfs30 rfl (st_ne sfs26 rfl (st_ne sfs22 rfl (st_ne sfs18 rfl (st_ne sfs14 rfl (st_ne sfs10 rfl v8))))))))
  have v63 := (FF.at hff55 rfl (st_ne sfs34 rfl (st_ne sfs30 rfl (st_ne sfs26 rfl (st_ne sfs22 rfl (st_ne sfs18 rfl v16))))))
  have v64 := (FF.at hff55 rfl (st_ne sfs34 rfl (st_ne sfs30 rfl (st_ne sfs26 rfl (st_ne sfs22 rfl v20)))))
  have v65 := (FF.at hff55 rfl v49)
  have v66 := (FF.at hff55 rfl (st_ne sfs34 rfl v32))
  have v67 := (FF.at hff55 rfl (st_ne sfs34 rfl (st_ne sfs30 rfl (st_ne sfs26 rfl v24))))
  have v68 := (FF.at hff55 rfl (st_ne sfs34 rfl (st_ne sfs30 rfl v28)))
  have v69 := (FF.at hff55 rfl (st_ne sfs34 rfl (st_ne sfs30 rfl (st_ne sfs26 rfl (st_ne sfs22 rfl (st_ne sfs18 rfl (st_ne sfs14 rfl v12)))))))
  have f70 := (FrI.gen hfr53 (nm1 (AD.nm hAD 1 rfl)) (AD.nl hAD 1 rfl rfl rfl) f51)
  have f71 := (FrI.gen hfr53 (nm1 (AD.nm hAD 10 rfl)) (AD.nl hAD 10 rfl rfl rfl) (up_ne hw33 (AD.nm hAD 10 rfl) (up_ne hw29 (AD.nm hAD 10 rfl) (up_ne hw25 (AD.nm hAD 10 rfl) (up_ne hw21 (AD.nm hAD 10 rfl) (up_ne hw17 (AD.nm hAD 10 rfl) (up_ne hw13 (AD.nm hAD 10 rfl) (up_ne hw9 (AD.nm hAD 10 rfl) (up_ne hw5 (AD.nm hAD 10 rfl) (up_ne hw1 (AD.nm hAD 10 rfl) a10))))))))))
  have f72 := (FrI.gen hfr53 (nm1 (AD.nm hAD 11 rfl)) (AD.nl hAD 11 rfl rfl rfl) (up_ne hw33 (AD.nm hAD 11 rfl) (up_ne hw29 (AD.nm hAD 11 rfl) (up_ne hw25 (AD.nm hAD 11 rfl) (up_ne hw21 (AD.nm hAD 11 rfl) (up_ne hw17 (AD.nm hAD 11 rfl) (up_ne hw13 (AD.nm hAD 11 rfl) (up_ne hw9 (AD.nm hAD 11 rfl) (up_ne hw5 (AD.nm hAD 11 rfl) (up_ne hw1 (AD.nm hAD 11 rfl) a11))))))))))
  have f73 := (FrI.gen hfr53 (nm1 (AD.nm hAD 12 rfl)) (AD.nl hAD 12 rfl rfl rfl) (up_ne hw33 (AD.nm hAD 12 rfl) (up_ne hw29 (AD.nm hAD 12 rfl) (up_ne hw25 (AD.nm hAD 12 rfl) (up_ne hw21 (AD.nm hAD 12 rfl) (up_ne hw17 (AD.nm hAD 12 rfl) (up_ne hw13 (AD.nm hAD 12 rfl) (up_ne hw9 (AD.nm hAD 12 rfl) (up_ne hw5 (AD.nm hAD 12 rfl) (up_ne hw1 (AD.nm hAD 12 rfl) a12))))))))))
  have f74 := (FrI.gen hfr53 (nm1 (AD.nm hAD 13 rfl)) (AD.nl hAD 13 rfl rfl rfl) (up_ne hw33 (AD.nm hAD 13 rfl) (up_ne hw29 (AD.nm hAD 13 rfl) (up_ne hw25 (AD.nm hAD 13 rfl) (up_ne hw21 (AD.nm hAD 13 rfl) (up_ne hw17 (AD.nm hAD 13 rfl) (up_ne hw13 (AD.nm hAD 13 rfl) (up_ne hw9 (AD.nm hAD 13 rfl) (up_ne hw5 (AD.nm hAD 13 rfl) (up_ne hw1 (AD.nm hAD 13 rfl) a13))))))))))
  have f75 := (FrI.gen hfr53 (nm1 (AD.nm hAD 14 rfl)) (AD.nl hAD 14 rfl rfl rfl) (up_ne hw33 (AD.nm hAD 14 rfl) (up_ne hw29 (AD.nm hAD 14 rfl) (up_ne hw25 (AD.nm hAD 14 rfl) (up_ne hw21 (AD.nm hAD 14 rfl) (up_ne hw17 (AD.nm hAD 14 rfl) (up_ne hw13 (AD.nm hAD 14 rfl) (up_ne hw9 (AD.nm hAD 14 rfl) (up_ne hw5 (AD.nm hAD 14 rfl) (up_ne hw1 (AD.nm hAD 14 rfl) a14))))))))))
  have f76 := (FrI.gen hfr53 (nm1 (AD.nm hAD 15 rfl)) (AD.nl hAD 15 rfl rfl rfl) (up_ne hw33 (AD.nm hAD 15 rfl) (up_ne hw29 (AD.nm hAD 15 rfl) (up_ne hw25 (AD.nm hAD 15 rfl) (up_ne hw21 (AD.nm hAD 15 rfl) (up_ne hw17 (AD.nm hAD 15 rfl) (up_ne hw13 (AD.nm hAD 15 rfl) (up_ne hw9 (AD.nm hAD 15 rfl) (up_ne hw5 (AD.nm hAD 15 rfl) (up_ne hw1 (AD.nm hAD 15 rfl) a15))))))))))
  have f77 := (FrI.gen hfr53 (nm1 (AD.nm hAD 16 rfl)) (AD.nl hAD 16 rfl rfl rfl) (up_ne hw33 (AD.nm hAD 16 rfl) (up_ne hw29 (AD.nm hAD 16 rfl) (up_ne hw25 (AD.nm hAD 16 rfl) (up_ne hw21 (AD.nm hAD 16 rfl) (up_ne hw17 (AD.nm hAD 16 rfl) (up_ne hw13 (AD.nm hAD 16 rfl) (up_ne hw9 (AD.nm hAD 16 rfl) (up_ne hw5 (AD.nm hAD 16 rfl) (up_ne hw1 (AD.nm hAD 16 rfl) a16))))))))))
  have f78 := (FrI.gen hfr53 (nm1 (AD.nm hAD 17 rfl)) (AD.nl hAD 17 rfl rfl rfl) (up_ne hw33 (AD.nm hAD 17 rfl) (up_ne hw29 (AD.nm hAD 17 rfl) (up_ne hw25 (AD.nm hAD 17 rfl) (up_ne hw21 (AD.nm hAD 17 rfl) (up_ne hw17 (AD.nm hAD 17 rfl) (up_ne hw13 (AD.nm hAD 17 rfl) (up_ne hw9 (AD.nm hAD 17 rfl) (up_ne hw5 (AD.nm hAD 17 rfl) (up_ne hw1 (AD.nm hAD 17 rfl) a17))))))))))
  have f79 := (FrI.gen hfr53 (nm1 (AD.nm hAD 18 rfl)) (AD.nl hAD 18 rfl rfl rfl) (up_ne hw33 (AD.nm hAD 18 rfl) (up_ne hw29 (AD.nm hAD 18 rfl) (up_ne hw25 (AD.nm hAD 18 rfl) (up_ne hw21 (AD.nm hAD 18 rfl) (up_ne hw17 (AD.nm hAD 18 rfl) (up_ne hw13 (AD.nm hAD 18 rfl) (up_ne hw9 (AD.nm hAD 18 rfl) (up_ne hw5 (AD.nm hAD 18 rfl) (up_ne hw1 (AD.nm hAD 18 rfl) a18))))))))))
  have f80 := (FrI.gen hfr53 (nm1 (AD.nm hAD 19 rfl)) (AD.nl hAD 19 rfl rfl rfl) (up_ne hw33 (AD.nm hAD 19 rfl) (up_ne hw29 (AD.nm hAD 19 rfl) (up_ne hw25 (AD.nm hAD 19 rfl) (up_ne hw21 (AD.nm hAD 19 rfl) (up_ne hw17 (AD.nm hAD 19 rfl) (up_ne hw13 (AD.nm hAD 19 rfl) (up_ne hw9 (AD.nm hAD 19 rfl) (up_ne hw5 (AD.nm hAD 19 rfl) (up_ne hw1 (AD.nm hAD 19 rfl) a19))))))))))
  exact l_a51 hAD ht hln _ _ _ _ _ _ _ _ _ _ _ _ _ _ _ _ _ _ _ _ _ _ _ _ _ _ _ _ _ _ _ (Nat.lt_succ_self _) hm54 r60 (((((((((((FrI.refl : FrI A [mm] [10, 11, 12, 13, 14, 15, 16, 17, 18, 19] w w).trans (FrI.ux hw1 (by simp))).trans (FrI.ux hw5 (by simp))).trans (FrI.ux hw9 (by simp))).trans (FrI.ux hw13 (by simp))).trans (FrI.ux hw17 (by simp))).trans (FrI.ux hw21 (by simp))).trans (FrI.ux hw25 (by simp))).trans (FrI.ux hw29 (by simp))).trans (FrI.ux hw33 (by simp))).trans (FrI.sub hfr53 rfl)) (((((((((((FF.refl : FF [5, 6, 7, 8, 9, 22, 24, 25, 26, 27, 28, 29, 30, 31, 32, 33] fs fs).trans (FF.set sfs2 rfl)).trans (FF.set sfs6 rfl)).trans (FF.set sfs10 rfl)).trans (FF.set sfs14 rfl)).trans (FF.set sfs18 rfl)).trans (FF.set sfs22 rfl)).trans (FF.set sfs26 rfl)).trans (FF.set sfs30 rfl)).trans (FF.set sfs34 rfl)).trans (FF.mono hff55 rfl)) v61 v62 v63 v64 v65 v66 v67 v68 v43 v44 v45 v46 v47 v48 v69 f70 f71 f72 f73 f74 f75 f76 f77 f78 f79 f80 hT41 hN42 (hR.trans (by unfold rRead rR; rw [haz37]; rfl)) (RJ_0 f) (by rw [← haz37]; have := skB_bd (t := t) (ln := ln) (p := 0); omega) (fun e he => by omega) (Or.inl rfl) ⟨fun _ => rfl, fun q => by omega⟩
