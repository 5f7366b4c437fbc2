theorem m_rpN2 {t : Nat → Nat} {ln a tkn sg : Nat} {nu : Int32} {xm : Nat → Nat} {xp : Nat → Int32} {e np : Nat} {va : Int32} {a9 : Nat} {w : pW} {A : Nat → Nat} {mm : Nat} {fs : List Value} (hAD : AD A mm) (hmm : w mm = some (.inr (6, fs))) (hA : RA A fs) (h22 : fs[22]? = some (.int (nI ((tk t ln a).1)))) (h24 : fs[24]? = some (.int (nI tkn))) (h25 : fs[25]? = some (.int (nI sg))) (h26 : fs[26]? = some (.int nu)) (h27 : fs[27]? = some (.int (nI a))) (h28 : fs[28]? = some (.int (nI ((tk t ln a).1)))) (h23 : fs[23]? = some (.int (nI ln))) (h29 : fs[29]? = some (.int (nI 0))) (a1 : w (A 1) = some (.inl (0, 2400, .inl (fun j9 => nI (t j9))))) (a11 : w (A 11) = some (.inl (0, 100, .inl (fun j9 => nI (xm j9))))) (a12 : w (A 12) = some (.inl (0, 400, .inl xp))) (hT : TS tkn sg (tkK t ln a)) (ht : ∀ j, t j < 256) (hln : ln ≤ 2400) (ha : a ≤ ln + 1) (he : e < 100) (hm : xm e = np) (hnu : nu = va) (h4 : np < 4) (hno : ∀ k, k < np → xp (4 * e + k) ≠ va) (ha9 : tkN t ln a = a9) : Ct yX6_readPitch wsX6_readPitch rX6_readPitch [.ref mm, .int (nI e)] w (fun o w9 => o = .inl none ∧ ∃ fs9 : List Value, MU A mm [11, 12] [22, 24, 25, 26, 27, 28] w w9 fs fs9 ∧ AtT t ln a9 fs9 ∧ w9 (A 11) = some (.inl (0, 100, .inl (fun j9 => nI ((va_up xm e (np + 1)) j9)))) ∧ w9 (A 12) = some (.inl (0, 400, .inl (upd xp (4 * e + np) va)))) := by
  subst hm hnu
  exact m_rpN hAD hmm hA h22 h24 h25 h26 h27 h28 h23 h29 a1 a11 a12 hT ht hln ha he h4 hno ha9
abbrev rX6_readMarked : Room := { frames := 3, cells := 0, slots := 0, locals := 70 }
theorem flX6_readMarked_102 : FL wsX6_readMarked RX6 102 6 24 := ⟨RX6, TX6, 45, rfl, by decide, by decide +kernel, by decide +kernel⟩
theorem flX6_readMarked_121 : FL wsX6_readMarked RX6 121 6 28 := ⟨RX6, TX6, 45, rfl, by decide, by decide +kernel, by decide +kernel⟩
theorem flX6_readMarked_96 : FL wsX6_readMarked RX6 96 6 27 := ⟨RX6, TX6, 45, rfl, by decide, by decide +kernel, by decide +kernel⟩
theorem flX6_readMarked_124 : FL wsX6_readMarked RX6 124 6 29 := ⟨RX6, TX6, 45, rfl, by decide, by decide +kernel, by decide +kernel⟩
theorem flX6_readMarked_109 : FL wsX6_readMarked RX6 109 6 26 := ⟨RX6, TX6, 45, rfl, by decide, by decide +kernel, by decide +kernel⟩
theorem flX6_readMarked_29 : FL wsX6_readMarked RX6 29 6 14 := ⟨RX6, TX6, 45, rfl, by decide, by decide +kernel, by decide +kernel⟩
theorem flX6_readMarked_153 : FL wsX6_readMarked RX6 153 6 8 := ⟨RX6, TX6, 45, rfl, by decide, by decide +kernel, by decide +kernel⟩
theorem fsX6_readMarked_153 : FS wsX6_readMarked RX6 153 6 8 false (.int) := ⟨RX6, TX6, 45, tyX6, rfl, by decide, by decide +kernel, by decide +kernel, tyX6_ok, nmX6, rfl, rfl, rfl⟩
theorem flX6_readMarked_144 : FL wsX6_readMarked RX6 144 6 5 := ⟨RX6, TX6, 45, rfl, by decide, by decide +kernel, by decide +kernel⟩
theorem fsX6_readMarked_144 : FS wsX6_readMarked RX6 144 6 5 false (.int) := ⟨RX6, TX6, 45, tyX6, rfl, by decide, by decide +kernel, by decide +kernel, tyX6_ok, nmX6, rfl, rfl, rfl⟩
set_option maxHeartbeats 4000000 in
set_option maxRecDepth 100000 in
theorem s_m387 {t : Nat → Nat} {ln aS : Nat} {w0 : pW} {fs0 : List Value} {A : Nat → Nat} {mm : Nat} {R : Nat × Nat × RSt} (hAD : AD A mm) (ht : ∀ j, t j < 256) (hln : ln ≤ 2400) {w : pW} {fs : List Value} (hmm : w mm = some (.inr (6, fs))) (hA : RA A fs) (hfr : FrI A [mm] [10, 11, 12, 13, 14, 15, 16, 17, 18, 19] w0 w) (hff : FF [5, 8, 9, 22, 24, 25, 26, 27, 28, 29, 30, 31] fs0 fs) {a tkn sg mr cu rep np oc ev be cq st me pa : Nat} {nu : Int32} {f : Nat → Int32} {xk xm : Nat → Nat} {xp : Nat → Int32} {xb xs xe xg : Nat → Nat} {xl xi xc : Nat → Int32}  (h5 : fs[5]? = some (.int (nI ev))) (h6 : fs[6]? = some (.int (nI me))) (h8 : fs[8]? = some (.int (nI be))) (h9 : fs[9]? = some (.int (nI cu))) (h23 : fs[23]? = some (.int (nI ln))) (h29 : fs[29]? = some (.int (nI 0))) (h31 : fs[31]? = some (.int (nI mr))) (h22 : fs[22]? = some (.int (nI ((tk t ln a).1)))) (h24 : fs[24]? = some (.int (nI tkn))) (h25 : fs[25]? = some (.int (nI sg))) (h26 : fs[26]? = some (.int nu)) (h27 : fs[27]? = some (.int (nI a))) (h28 : fs[28]? = some (.int (nI ((tk t ln a).1)))) (a1 : w (A 1) = some (.inl (0, 2400, .inl (fun j9 => nI (t j9))))) (a10 : w (A 10) = some (.inl (0, 100, .inl (fun j9 => nI (xk j9))))) (a11 : w (A 11) = some (.inl (0, 100, .inl (fun j9 => nI (xm j9))))) (a12 : w (A 12) = some (.inl (0, 400, .inl xp))) (a13 : w (A 13) = some (.inl (0, 100, .inl (fun j9 => nI (xb j9))))) (a14 : w (A 14) = some (.inl (0, 100, .inl (fun j9 => nI (xs j9))))) (a15 : w (A 15) = some (.inl (0, 100, .inl (fun j9 => nI (xe j9))))) (a16 : w (A 16) = some (.inl (0, 100, .inl (fun j9 => nI (xg j9))))) (a17 : w (A 17) = some (.inl (0, 100, .inl xl))) (a18 : w (A 18) = some (.inl (2, 100, .inl xi))) (a19 : w (A 19) = some (.inl (2, 100, .inl xc))) (hT : TS tkn sg (tkK t ln a)) (hN : NS nu (tkK t ln a) (tkV t ln a) ((tk t ln a).1 - a)) (hR : R = rR t ln a (1024, mr, cu, false, false, rep, np, oc, f, ev, be, cq, st, me, pa)) (hI : RJ (1024, mr, cu, false, false, rep, np, oc, f, ev, be, cq, st, me, pa)) (ha : a ≤ ln + 1) (haS : aS ≤ a) (hTB : TBL xk xm xp xb xs xe xg xl xi xc f ev)  (hop : opA xk xm xp xb xe xg xl xi xc f ev) (hm : xm ev = np) (hev : ev < 100) (h44 : np ≤ 4) : J ((cX6_readMarked, RX6, 5, wsX6_readMarked), (rX6_readMarked, none, "readMarked", []), fun o w9 => o = .inl none ∧ ∃ fs9 : List Value, MU A mm [10, 11, 12, 13, 14, 15, 16, 17, 18, 19] [5, 8, 9, 22, 24, 25, 26, 27, 28, 29, 30, 31] w0 w9 fs0 fs9 ∧ ∃ (xk xm : Nat → Nat) (xp : Nat → Int32) (xb xs xe xg : Nat → Nat) (xl xi xc : Nat → Int32), TA A w9 xk xm xp xb xs xe xg xl xi xc ∧ (∃ nu9 : Int32, fs9[26]? = some (.int nu9)) ∧ (RFl fs9 R ∨ ∃ (a9 mr9 cu9 np9 oc9 : Nat) (f9 : Nat → Int32) (ev9 be9 cq9 st9 : Nat), aS < a9 ∧ a9 ≤ ln + 1 ∧ R = rR t ln a9 (8, mr9, cu9, false, false, rep, np9, oc9, f9, ev9, be9, cq9, st9, me, pa) ∧ RJ (8, mr9, cu9, false, false, rep, np9, oc9, f9, ev9, be9, cq9, st9, me, pa) ∧ fs9[5]? = some (.int (nI ev9)) ∧ fs9[8]? = some (.int (nI be9)) ∧ fs9[9]? = some (.int (nI cu9)) ∧ fs9[29]? = some (.int (nI 0)) ∧ fs9[31]? = some (.int (nI mr9)) ∧ AtT t ln a9 fs9 ∧ TBL xk xm xp xb xs xe xg xl xi xc f9 ev9), fun _ _ _ => True) 387 [(0, .ref mm), (1, .int (nI pa)), (4, .int (nI ev))] [] w 0 0 := by
  have hTb := hT.1
  obtain ⟨i1, i2, i3, i4, i5, i6, i7⟩ := id hI.1
  refine j_aload_n dX6_readMarked_387 0 rfl ?_
  refine j_get (v := .int (nI tkn)) flX6_readMarked_102 hmm h24 dX6_readMarked_388 ?_
  refine j_iconst (v := nI 2) dX6_readMarked_391 (by decide) ?_
  refine j_icmp_eqN 403 (by omega) (by omega) dX6_readMarked_392 (by decide) (fun c392 => ?_) (fun c392 => ?_)
  · skip
    have hk3 : tkK t ln a = 3 := hT.2.2.2.1.mp c392
    have htk := (tk_bd (t := t) (ln := ln) (s := a)).1
    have htk2 := (tkN_bd (t := t) (ln := ln) ha).2.1
    obtain ⟨x, hx, hx1, hx2, hx3⟩ := hN.2 hk3
    subst hx
    refine j_aload_n dX6_readMarked_403 0 rfl ?_
    refine j_get (v := .int (nI ((tk t ln a).1))) flX6_readMarked_121 hmm h28 dX6_readMarked_404 ?_
    refine j_aload_n dX6_readMarked_407 0 rfl ?_
    refine j_get (v := .int (nI a)) flX6_readMarked_96 hmm h27 dX6_readMarked_408 ?_
    refine j_isubN (by omega) dX6_readMarked_411 ?_
    refine j_iconst (v := nI 3) dX6_readMarked_412 (by decide) ?_
    refine j_icmp_gtN 423 (by omega) (by omega) dX6_readMarked_413 (by decide) (fun c413 => ?_) (fun c413 => ?_)
    · skip
      have hbd1 := rR_bad (b := 2) hR ((fNum hk3).trans (if_pos (hx2.mpr (Or.inl c413)))) (by decide)
      refine j_aload_n dX6_readMarked_423 0 rfl ?_
      refine j_iconst (v := nI 2) dX6_readMarked_424 (by decide) ?_
      refine j_callV (rm := rX6_wrong) (As := [.int (nI 2)]) (st := []) (b0 := mm) (ci := 6) (na := 1) (m_wrong0 (k := 2) hAD hmm hA h29 h27) (by intro E w9 h9; first | exact nomatch h9.1 | (obtain ⟨_, h9, _⟩ := h9; exact nomatch h9) | (obtain ⟨_, _, _, h9, _⟩ := h9; exact nomatch h9)) gX6_readMarked_X6_wrong rfl rfl hmm (by decide +kernel) rfl ⟨Nat.le_of_ble_eq_true rfl, Nat.le_of_ble_eq_true rfl⟩ rfl (Nat.le_of_ble_eq_true rfl) dX6_readMarked_425 ⟨(show 0 + 0 ≤ 0 by omega), (show 0 + 0 ≤ 0 by omega)⟩ (fun v9 w10 h11 => ?_)
      obtain ⟨h8, fs4, ⟨hfr5, hm6, hff7⟩, v2, v3⟩ := h11
      cases h8
      refine j_after (st' := []) (k' := 0) (n' := 0) rfl rfl rfl ?_
      have r12 : RA A fs4 := RA.ff hA hff7 rfl
      refine j_aload_n dX6_readMarked_428 0 rfl ?_
      refine j_get (v := .int (nI 2)) flX6_readMarked_124 hm6 v2 dX6_readMarked_429 ?_
      refine j_if_eqN 436 (by decide) dX6_readMarked_432 (by decide) (fun h9 => absurd h9 (by decide)) (fun _ => ?_)
      have f13 := (FrI.gen hfr5 (nm1 (AD.nm hAD 10 rfl)) (AD.nl hAD 10 rfl rfl rfl) a10)
      have f14 := (FrI.gen hfr5 (nm1 (AD.nm hAD 11 rfl)) (AD.nl hAD 11 rfl rfl rfl) a11)
      have f15 := (FrI.gen hfr5 (nm1 (AD.nm hAD 12 rfl)) (AD.nl hAD 12 rfl rfl rfl) a12)
      have f16 := (FrI.gen hfr5 (nm1 (AD.nm hAD 13 rfl)) (AD.nl hAD 13 rfl rfl rfl) a13)
      have f17 := (FrI.gen hfr5 (nm1 (AD.nm hAD 14 rfl)) (AD.nl hAD 14 rfl rfl rfl) a14)
      have f18 := (FrI.gen hfr5 (nm1 (AD.nm hAD 15 rfl)) (AD.nl hAD 15 rfl rfl rfl) a15)
      have f19 := (FrI.gen hfr5 (nm1 (AD.nm hAD 16 rfl)) (AD.nl hAD 16 rfl rfl rfl) a16)
      have f20 := (FrI.gen hfr5 (nm1 (AD.nm hAD 17 rfl)) (AD.nl hAD 17 rfl rfl rfl) a17)
      have f21 := (FrI.gen hfr5 (nm1 (AD.nm hAD 18 rfl)) (AD.nl hAD 18 rfl rfl rfl) a18)
      have f22 := (FrI.gen hfr5 (nm1 (AD.nm hAD 19 rfl)) (AD.nl hAD 19 rfl rfl rfl) a19)
      have v23 := (FF.at hff7 rfl h26)
      exact j_vret rfl ⟨rfl, _, ⟨((FrI.mono hfr (by simp) rfl : FrI A [mm] [10, 11, 12, 13, 14, 15, 16, 17, 18, 19] w0 _).trans (FrI.sub hfr5 rfl)), hm6, ((FF.mono hff rfl : FF [5, 8, 9, 22, 24, 25, 26, 27, 28, 29, 30, 31] fs0 _).trans (FF.mono hff7 rfl))⟩, _, _, _, _, _, _, _, _, _, _, ⟨f13, f14, f15, f16, f17, f18, f19, f20, f21, f22⟩, ⟨_, v23⟩, Or.inl (RFl.mk hbd1 ⟨by decide, by decide⟩ v2 v3)⟩ (show 0 ≤ 0 by omega) (show 0 ≤ 0 by omega) dX6_readMarked_435
    · skip
      refine j_aload_n dX6_readMarked_416 0 rfl ?_
      refine j_get (v := .int (nI x)) flX6_readMarked_109 hmm h26 dX6_readMarked_417 ?_
      refine j_if_neN 428 (by omega) dX6_readMarked_420 (by decide) (fun c420 => ?_) (fun c420 => ?_)
      · skip
        refine j_aload_n dX6_readMarked_428 0 rfl ?_
        refine j_get (v := .int (nI 0)) flX6_readMarked_124 hmm h29 dX6_readMarked_429 ?_
        refine j_if_eqN 436 (by decide) dX6_readMarked_432 (by decide) (fun _ => ?_) (fun h9 => absurd rfl h9)
        refine j_aload_n dX6_readMarked_436 0 rfl ?_
        refine j_get (v := .ref (A 14)) flX6_readMarked_29 hmm (hA.2 14 rfl) dX6_readMarked_437 ?_
        refine j_iload dX6_readMarked_440 2 rfl ?_
        refine j_aload_n dX6_readMarked_442 0 rfl ?_
        refine j_get (v := .int (nI x)) flX6_readMarked_109 hmm h26 dX6_readMarked_443 ?_
        refine j_iastn (j := ev) (x := x) a14 rfl (by omega) (by omega) dX6_readMarked_446 ?_
        refine j_w (fun w24 hw24 => ?_)
        have f25 : w24 (A 14) = some (.inl (0, 100, .inl (fun j9 => nI ((va_up xs ev x) j9)))) := up_at hw24
        refine j_aload_n dX6_readMarked_447 0 rfl ?_
        refine j_dup dX6_readMarked_448 rfl ?_
        have f26 := (up_ne hw24 (AD.mn hAD 14 rfl) hmm)
        refine j_get (v := .int (nI be)) flX6_readMarked_153 f26 h8 dX6_readMarked_449 ?_
        refine j_aload_n dX6_readMarked_452 0 rfl ?_
        refine j_get (v := .int (nI x)) flX6_readMarked_109 f26 h26 dX6_readMarked_453 ?_
        refine j_iaddN dX6_readMarked_456 ?_
        refine j_putM fsX6_readMarked_153 f26 rfl rfl (RA.lt hA (by decide)) dX6_readMarked_457 (fun w27 fs28 sfs28 hw27 => ?_)
        have f29 : w27 mm = some (.inr (6, fs28)) := up_at hw27
        have rfs28 : RA A fs28 := RA.set hA sfs28 rfl
        have v30 := st_at sfs28 hA (by decide : 8 < 45)
        refine j_aload_n dX6_readMarked_460 0 rfl ?_
        refine j_dup dX6_readMarked_461 rfl ?_
        have v31 := (st_ne sfs28 rfl h5)
        refine j_get (v := .int (nI ev)) flX6_readMarked_144 f29 v31 dX6_readMarked_462 ?_
        refine j_iconst (v := nI 1) dX6_readMarked_465 (by decide) ?_
        refine j_iaddN dX6_readMarked_466 ?_
        refine j_putM fsX6_readMarked_144 f29 rfl rfl (RA.lt rfs28 (by decide)) dX6_readMarked_467 (fun w32 fs33 sfs33 hw32 => ?_)
        have f34 : w32 mm = some (.inr (6, fs33)) := up_at hw32
        have rfs33 : RA A fs33 := RA.set rfs28 sfs33 rfl
        have v35 := st_at sfs33 rfs28 (by decide : 5 < 45)
        have hv0 : tkV t ln a ≠ 0 := fun q => by have := hx2.mp q; omega
        obtain ⟨hR36, hI37, hb38, hl39⟩ := rR_go (s1 := (8, mr, cu, false, false, rep, np, oc, upd f (ev * 14 + 3) (nI x), ev + 1, be + x, cq + oc, st + (2 ^ np - 1 + 1), me, pa)) ht hR ((fNum hk3).trans (if_neg hv0)) (by omega) (tNum hk3 (hx3 hv0) (by omega)) hI ha
        have htb9 := tb_close (x := x) hTB hop (by omega)
        refine j_aload_n dX6_readMarked_470 0 rfl ?_
        obtain ⟨az40, haz40⟩ : ∃ z, tkN t ln a = z := ⟨_, rfl⟩
        have v52 := (st_ne sfs33 rfl (st_ne sfs28 rfl h22))
        have v53 := (st_ne sfs33 rfl (st_ne sfs28 rfl h23))
        have v54 := (st_ne sfs33 rfl (st_ne sfs28 rfl h26))
        have f55 := (up_ne hw32 (AD.nm hAD 1 rfl) (up_ne hw27 (AD.nm hAD 1 rfl) (up_ne hw24 (AD.ne hAD 1 14 rfl rfl rfl) a1)))
        refine j_callV (rm := rX6_next) (As := []) (st := []) (b0 := mm) (ci := 6) (na := 0) (m_next1 (a := az40) hAD f34 rfs33 v52 v53 v54 f55 ht hln (tkN_bd ha).2.1 haz40) (by intro E w9 h9; first | exact nomatch h9.1 | (obtain ⟨_, h9, _⟩ := h9; exact nomatch h9) | (obtain ⟨_, _, _, h9, _⟩ := h9; exact nomatch h9)) gX6_readMarked_X6_next rfl rfl f34 (by decide +kernel) rfl ⟨Nat.le_of_ble_eq_true rfl, Nat.le_of_ble_eq_true rfl⟩ rfl (Nat.le_of_ble_eq_true rfl) dX6_readMarked_471 ⟨(show 0 + 0 ≤ 0 by omega), (show 0 + 0 ≤ 0 by omega)⟩ (fun v61 w62 h63 => ?_)
        obtain ⟨h60, fs56, ⟨hfr57, hm58, hff59⟩, ⟨tkn41, sg42, nu43, v46, v47, v48, v49, v50, v51, hT44, hN45⟩⟩ := h63
        cases h60
        refine j_after (st' := []) (k' := 0) (n' := 0) rfl rfl rfl ?_
        have r64 : RA A fs56 := RA.ff rfs33 hff59 rfl
        have hT44b := hT44.1
        rw [haz40] at hR36 hb38 hl39
        have f65 := (FrI.gen hfr57 (nm1 (AD.nm hAD 10 rfl)) (AD.nl hAD 10 rfl rfl rfl) (up_ne hw32 (AD.nm hAD 10 rfl) (up_ne hw27 (AD.nm hAD 10 rfl) (up_ne hw24 (AD.ne hAD 10 14 rfl rfl rfl) a10))))
        have f66 := (FrI.gen hfr57 (nm1 (AD.nm hAD 11 rfl)) (AD.nl hAD 11 rfl rfl rfl) (up_ne hw32 (AD.nm hAD 11 rfl) (up_ne hw27 (AD.nm hAD 11 rfl) (up_ne hw24 (AD.ne hAD 11 14 rfl rfl rfl) a11))))
        have f67 := (FrI.gen hfr57 (nm1 (AD.nm hAD 12 rfl)) (AD.nl hAD 12 rfl rfl rfl) (up_ne hw32 (AD.nm hAD 12 rfl) (up_ne hw27 (AD.nm hAD 12 rfl) (up_ne hw24 (AD.ne hAD 12 14 rfl rfl rfl) a12))))
        have f68 := (FrI.gen hfr57 (nm1 (AD.nm hAD 13 rfl)) (AD.nl hAD 13 rfl rfl rfl) (up_ne hw32 (AD.nm hAD 13 rfl) (up_ne hw27 (AD.nm hAD 13 rfl) (up_ne hw24 (AD.ne hAD 13 14 rfl rfl rfl) a13))))
        have f69 := (FrI.gen hfr57 (nm1 (AD.nm hAD 14 rfl)) (AD.nl hAD 14 rfl rfl rfl) (up_ne hw32 (AD.nm hAD 14 rfl) (up_ne hw27 (AD.nm hAD 14 rfl) f25)))
        have f70 := (FrI.gen hfr57 (nm1 (AD.nm hAD 15 rfl)) (AD.nl hAD 15 rfl rfl rfl) (up_ne hw32 (AD.nm hAD 15 rfl) (up_ne hw27 (AD.nm hAD 15 rfl) (up_ne hw24 (AD.ne hAD 15 14 rfl rfl rfl) a15))))
        have f71 := (FrI.gen hfr57 (nm1 (AD.nm hAD 16 rfl)) (AD.nl hAD 16 rfl rfl rfl) (up_ne hw32 (AD.nm hAD 16 rfl) (up_ne hw27 (AD.nm hAD 16 rfl) (up_ne hw24 (AD.ne hAD 16 14 rfl rfl rfl) a16))))
        have f72 := (FrI.gen hfr57 (nm1 (AD.nm hAD 17 rfl)) (AD.nl hAD 17 rfl rfl rfl) (up_ne hw32 (AD.nm hAD 17 rfl) (up_ne hw27 (AD.nm hAD 17 rfl) (up_ne hw24 (AD.ne hAD 17 14 rfl rfl rfl) a17))))
        have f73 := (FrI.gen hfr57 (nm1 (AD.nm hAD 18 rfl)) (AD.nl hAD 18 rfl rfl rfl) (up_ne hw32 (AD.nm hAD 18 rfl) (up_ne hw27 (AD.nm hAD 18 rfl) (up_ne hw24 (AD.ne hAD 18 14 rfl rfl rfl) a18))))
        have f74 := (FrI.gen hfr57 (nm1 (AD.nm hAD 19 rfl)) (AD.nl hAD 19 rfl rfl rfl) (up_ne hw32 (AD.nm hAD 19 rfl) (up_ne hw27 (AD.nm hAD 19 rfl) (up_ne hw24 (AD.ne hAD 19 14 rfl rfl rfl) a19))))
        have v75 := (FF.at hff59 rfl v35)
        have v76 := (FF.at hff59 rfl (st_ne sfs33 rfl v30))
        have v77 := (FF.at hff59 rfl (st_ne sfs33 rfl (st_ne sfs28 rfl h9)))
        have v78 := (FF.at hff59 rfl (st_ne sfs33 rfl (st_ne sfs28 rfl h29)))
        have v79 := (FF.at hff59 rfl (st_ne sfs33 rfl (st_ne sfs28 rfl h31)))
        exact j_vret rfl ⟨rfl, _, ⟨(((((FrI.mono hfr (by simp) rfl : FrI A [mm] [10, 11, 12, 13, 14, 15, 16, 17, 18, 19] w0 _).trans (FrI.ua hw24 rfl)).trans (FrI.ux hw27 (by simp))).trans (FrI.ux hw32 (by simp))).trans (FrI.sub hfr57 rfl)), hm58, ((((FF.mono hff rfl : FF [5, 8, 9, 22, 24, 25, 26, 27, 28, 29, 30, 31] fs0 _).trans (FF.set sfs28 rfl)).trans (FF.set sfs33 rfl)).trans (FF.mono hff59 rfl))⟩, _, _, _, _, _, _, _, _, _, _, ⟨f65, f66, f67, f68, f69, f70, f71, f72, f73, f74⟩, ⟨_, v49⟩, Or.inr ⟨_, _, _, _, _, _, _, _, _, _, by omega, hb38, hR36, hI37, v75, v76, v77, v78, v79, ⟨_, _, _, v46, v47, v48, v49, v50, v51, hT44, hN45⟩, htb9⟩⟩ (show 0 ≤ 0 by omega) (show 0 ≤ 0 by omega) dX6_readMarked_474
      · skip
        have hbd80 := rR_bad (b := 2) hR ((fNum hk3).trans (if_pos (hx2.mpr (Or.inr c420)))) (by decide)
        refine j_aload_n dX6_readMarked_423 0 rfl ?_
        refine j_iconst (v := nI 2) dX6_readMarked_424 (by decide) ?_
        refine j_callV (rm := rX6_wrong) (As := [.int (nI 2)]) (st := []) (b0 := mm) (ci := 6) (na := 1) (m_wrong0 (k := 2) hAD hmm hA h29 h27) (by intro E w9 h9; first | exact nomatch h9.1 | (obtain ⟨_, h9, _⟩ := h9; exact nomatch h9) | (obtain ⟨_, _, _, h9, _⟩ := h9; exact nomatch h9)) gX6_readMarked_X6_wrong rfl rfl hmm (by decide +kernel) rfl ⟨Nat.le_of_ble_eq_true rfl, Nat.le_of_ble_eq_true rfl⟩ rfl (Nat.le_of_ble_eq_true rfl) dX6_readMarked_425 ⟨(show 0 + 0 ≤ 0 by omega), (show 0 + 0 ≤ 0 by omega)⟩ (fun v88 w89 h90 => ?_)
        obtain ⟨h87, fs83, ⟨hfr84, hm85, hff86⟩, v81, v82⟩ := h90
        cases h87
        refine j_after (st' := []) (k' := 0) (n' := 0) rfl rfl rfl ?_
        have r91 : RA A fs83 := RA.ff hA hff86 rfl
        refine j_aload_n dX6_readMarked_428 0 rfl ?_
        refine j_get (v := .int (nI 2)) flX6_readMarked_124 hm85 v81 dX6_readMarked_429 ?_
        refine j_if_eqN 436 (by decide) dX6_readMarked_432 (by decide) (fun h9 => absurd h9 (by decide)) (fun _ => ?_)
        have f92 := (FrI.gen hfr84 (nm1 (AD.nm hAD 10 rfl)) (AD.nl hAD 10 rfl rfl rfl) a10)
        have f93 := (FrI.gen hfr84 (nm1 (AD.nm hAD 11 rfl)) (AD.nl hAD 11 rfl rfl rfl) a11)
        have f94 := (FrI.gen hfr84 (nm1 (AD.nm hAD 12 rfl)) (AD.nl hAD 12 rfl rfl rfl) a12)
        have f95 := (FrI.gen hfr84 (nm1 (AD.nm hAD 13 rfl)) (AD.nl hAD 13 rfl rfl rfl) a13)
        have f96 := (FrI.gen hfr84 (nm1 (AD.nm hAD 14 rfl)) (AD.nl hAD 14 rfl rfl rfl) a14)
        have f97 := (FrI.gen hfr84 (nm1 (AD.nm hAD 15 rfl)) (AD.nl hAD 15 rfl rfl rfl) a15)
        have f98 := (FrI.gen hfr84 (nm1 (AD.nm hAD 16 rfl)) (AD.nl hAD 16 rfl rfl rfl) a16)
        have f99 := (FrI.gen hfr84 (nm1 (AD.nm hAD 17 rfl)) (AD.nl hAD 17 rfl rfl rfl) a17)
        have f100 := (FrI.gen hfr84 (nm1 (AD.nm hAD 18 rfl)) (AD.nl hAD 18 rfl rfl rfl) a18)
        have f101 := (FrI.gen hfr84 (nm1 (AD.nm hAD 19 rfl)) (AD.nl hAD 19 rfl rfl rfl) a19)
        have v102 := (FF.at hff86 rfl h26)
        exact j_vret rfl ⟨rfl, _, ⟨((FrI.mono hfr (by simp) rfl : FrI A [mm] [10, 11, 12, 13, 14, 15, 16, 17, 18, 19] w0 _).trans (FrI.sub hfr84 rfl)), hm85, ((FF.mono hff rfl : FF [5, 8, 9, 22, 24, 25, 26, 27, 28, 29, 30, 31] fs0 _).trans (FF.mono hff86 rfl))⟩, _, _, _, _, _, _, _, _, _, _, ⟨f92, f93, f94, f95, f96, f97, f98, f99, f100, f101⟩, ⟨_, v102⟩, Or.inl (RFl.mk hbd80 ⟨by decide, by decide⟩ v81 v82)⟩ (show 0 ≤ 0 by omega) (show 0 ≤ 0 by omega) dX6_readMarked_435
  · skip
    have hk3 : ¬ tkK t ln a = 3 := fun q => c392 (hT.2.2.2.1.mpr q)
    have hbd103 := rR_bad (b := 1) hR (rf_1 (f1_1024 (tk_k ht) hk3)) (by decide)
    refine j_aload_n dX6_readMarked_395 0 rfl ?_
    refine j_iconst (v := nI 1) dX6_readMarked_396 (by decide) ?_
    refine j_callV (rm := rX6_wrong) (As := [.int (nI 1)]) (st := []) (b0 := mm) (ci := 6) (na := 1) (m_wrong0 (k := 1) hAD hmm hA h29 h27) (by intro E w9 h9; first | exact nomatch h9.1 | (obtain ⟨_, h9, _⟩ := h9; exact nomatch h9) | (obtain ⟨_, _, _, h9, _⟩ := h9; exact nomatch h9)) gX6_readMarked_X6_wrong rfl rfl hmm (by decide +kernel) rfl ⟨Nat.le_of_ble_eq_true rfl, Nat.le_of_ble_eq_true rfl⟩ rfl (Nat.le_of_ble_eq_true rfl) dX6_readMarked_397 ⟨(show 0 + 0 ≤ 0 by omega), (show 0 + 0 ≤ 0 by omega)⟩ (fun v111 w112 h113 => ?_)
    obtain ⟨h110, fs106, ⟨hfr107, hm108, hff109⟩, v104, v105⟩ := h113
    cases h110
    refine j_after (st' := []) (k' := 0) (n' := 0) rfl rfl rfl ?_
    have r114 : RA A fs106 := RA.ff hA hff109 rfl
    refine j_goto 428 dX6_readMarked_400 (by decide) ?_
    refine j_aload_n dX6_readMarked_428 0 rfl ?_
    refine j_get (v := .int (nI 1)) flX6_readMarked_124 hm108 v104 dX6_readMarked_429 ?_
    refine j_if_eqN 436 (by decide) dX6_readMarked_432 (by decide) (fun h9 => absurd h9 (by decide)) (fun _ => ?_)
    have f115 := (FrI.gen hfr107 (nm1 (AD.nm hAD 10 rfl)) (AD.nl hAD 10 rfl rfl rfl) a10)
    have f116 := (FrI.gen hfr107 (nm1 (AD.nm hAD 11 rfl)) (AD.nl hAD 11 rfl rfl rfl) a11)
    have f117 := (FrI.gen hfr107 (nm1 (AD.nm hAD 12 rfl)) (AD.nl hAD 12 rfl rfl rfl) a12)
    have f118 := (FrI.gen hfr107 (nm1 (AD.nm hAD 13 rfl)) (AD.nl hAD 13 rfl rfl rfl) a13)
    have f119 := (FrI.gen hfr107 (nm1 (AD.nm hAD 14 rfl)) (AD.nl hAD 14 rfl rfl rfl) a14)
    have f120 := (FrI.gen hfr107 (nm1 (AD.nm hAD 15 rfl)) (AD.nl hAD 15 rfl rfl rfl) a15)
    have f121 := (FrI.gen hfr107 (nm1 (AD.nm hAD 16 rfl)) (AD.nl hAD 16 rfl rfl rfl) a16)
    have f122 := (FrI.gen hfr107 (nm1 (AD.nm hAD 17 rfl)) (AD.nl hAD 17 rfl rfl rfl) a17)
    have f123 := (FrI.gen hfr107 (nm1 (AD.nm hAD 18 rfl)) (AD.nl hAD 18 rfl rfl rfl) a18)
    have f124 := (FrI.gen hfr107 (nm1 (AD.nm hAD 19 rfl)) (AD.nl hAD 19 rfl rfl rfl) a19)
    have v125 := (FF.at hff109 rfl h26)
    exact j_vret rfl ⟨rfl, _, ⟨((FrI.mono hfr (by simp) rfl : FrI A [mm] [10, 11, 12, 13, 14, 15, 16, 17, 18, 19] w0 _).trans (FrI.sub hfr107 rfl)), hm108, ((FF.mono hff rfl : FF [5, 8, 9, 22, 24, 25, 26, 27, 28, 29, 30, 31] fs0 _).trans (FF.mono hff109 rfl))⟩, _, _, _, _, _, _, _, _, _, _, ⟨f115, f116, f117, f118, f119, f120, f121, f122, f123, f124⟩, ⟨_, v125⟩, Or.inl (RFl.mk hbd103 ⟨by decide, by decide⟩ v104 v105)⟩ (show 0 ≤ 0 by omega) (show 0 ≤ 0 by omega) dX6_readMarked_435
set_option maxHeartbeats 4000000 in
set_option maxRecDepth 100000 in
theorem s_m373 {t : Nat → Nat} {ln aS : Nat} {w0 : pW} {fs0 : List Value} {A : Nat → Nat} {mm : Nat} {R : Nat × Nat × RSt} (hAD : AD A mm) (ht : ∀ j, t j < 256) (hln : ln ≤ 2400) {w : pW} {fs : List Value} (hmm : w mm = some (.inr (6, fs))) (hA : RA A fs) (hfr : FrI A [mm] [10, 11, 12, 13, 14, 15, 16, 17, 18, 19] w0 w) (hff : FF [5, 8, 9, 22, 24, 25, 26, 27, 28, 29, 30, 31] fs0 fs) {a tkn sg mr cu rep np oc ev be cq st me pa : Nat} {nu : Int32} {f : Nat → Int32} {xk xm : Nat → Nat} {xp : Nat → Int32} {xb xs xe xg : Nat → Nat} {xl xi xc : Nat → Int32}  (h5 : fs[5]? = some (.int (nI ev))) (h6 : fs[6]? = some (.int (nI me))) (h8 : fs[8]? = some (.int (nI be))) (h9 : fs[9]? = some (.int (nI cu))) (h23 : fs[23]? = some (.int (nI ln))) (h29 : fs[29]? = some (.int (nI 0))) (h31 : fs[31]? = some (.int (nI mr))) (h22 : fs[22]? = some (.int (nI ((tk t ln a).1)))) (h24 : fs[24]? = some (.int (nI tkn))) (h25 : fs[25]? = some (.int (nI sg))) (h26 : fs[26]? = some (.int nu)) (h27 : fs[27]? = some (.int (nI a))) (h28 : fs[28]? = some (.int (nI ((tk t ln a).1)))) (a1 : w (A 1) = some (.inl (0, 2400, .inl (fun j9 => nI (t j9))))) (a10 : w (A 10) = some (.inl (0, 100, .inl (fun j9 => nI (xk j9))))) (a11 : w (A 11) = some (.inl (0, 100, .inl (fun j9 => nI (xm j9))))) (a12 : w (A 12) = some (.inl (0, 400, .inl xp))) (a13 : w (A 13) = some (.inl (0, 100, .inl (fun j9 => nI (xb j9))))) (a14 : w (A 14) = some (.inl (0, 100, .inl (fun j9 => nI (xs j9))))) (a15 : w (A 15) = some (.inl (0, 100, .inl (fun j9 => nI (xe j9))))) (a16 : w (A 16) = some (.inl (0, 100, .inl (fun j9 => nI (xg j9))))) (a17 : w (A 17) = some (.inl (0, 100, .inl xl))) (a18 : w (A 18) = some (.inl (2, 100, .inl xi))) (a19 : w (A 19) = some (.inl (2, 100, .inl xc))) (hT : TS tkn sg (tkK t ln a)) (hN : NS nu (tkK t ln a) (tkV t ln a) ((tk t ln a).1 - a)) (hR : R = rR t ln a (512, mr, cu, false, false, rep, np, oc, f, ev, be, cq, st, me, pa)) (hI : RJ (512, mr, cu, false, false, rep, np, oc, f, ev, be, cq, st, me, pa)) (ha : a ≤ ln + 1) (haS : aS ≤ a) (hTB : TBL xk xm xp xb xs xe xg xl xi xc f ev)  (hop : opA xk xm xp xb xe xg xl xi xc f ev) (hm : xm ev = np) (hev : ev < 100) (h44 : np ≤ 4) : J ((cX6_readMarked, RX6, 5, wsX6_readMarked), (rX6_readMarked, none, "readMarked", []), fun o w9 => o = .inl none ∧ ∃ fs9 : List Value, MU A mm [10, 11, 12, 13, 14, 15, 16, 17, 18, 19] [5, 8, 9, 22, 24, 25, 26, 27, 28, 29, 30, 31] w0 w9 fs0 fs9 ∧ ∃ (xk xm : Nat → Nat) (xp : Nat → Int32) (xb xs xe xg : Nat → Nat) (xl xi xc : Nat → Int32), TA A w9 xk xm xp xb xs xe xg xl xi xc ∧ (∃ nu9 : Int32, fs9[26]? = some (.int nu9)) ∧ (RFl fs9 R ∨ ∃ (a9 mr9 cu9 np9 oc9 : Nat) (f9 : Nat → Int32) (ev9 be9 cq9 st9 : Nat), aS < a9 ∧ a9 ≤ ln + 1 ∧ R = rR t ln a9 (8, mr9, cu9, false, false, rep, np9, oc9, f9, ev9, be9, cq9, st9, me, pa) ∧ RJ (8, mr9, cu9, false, false, rep, np9, oc9, f9, ev9, be9, cq9, st9, me, pa) ∧ fs9[5]? = some (.int (nI ev9)) ∧ fs9[8]? = some (.int (nI be9)) ∧ fs9[9]? = some (.int (nI cu9)) ∧ fs9[29]? = some (.int (nI 0)) ∧ fs9[31]? = some (.int (nI mr9)) ∧ AtT t ln a9 fs9 ∧ TBL xk xm xp xb xs xe xg xl xi xc f9 ev9), fun _ _ _ => True) 373 [(0, .ref mm), (1, .int (nI pa)), (4, .int (nI ev))] [] w 0 0 := by
  have hTb := hT.1
  obtain ⟨i1, i2, i3, i4, i5, i6, i7⟩ := id hI.1
  by_cases hk58 : tkK t ln a = 58
  · skip
    obtain ⟨hR1, hI2, hb3, hl4⟩ := rR_go (s1 := (1024, mr, cu, false, false, rep, np, oc, f, ev, be, cq, st, me, pa)) ht hR (f0 hk58 (by decide) (by decide)) (by omega) (by rw [hk58]; rfl) hI ha
    refine j_aload_n dX6_readMarked_373 0 rfl ?_
    refine j_bipush (v := nI 58) dX6_readMarked_374 (by decide) ?_
    obtain ⟨az5, haz5⟩ : ∃ z, tkN t ln a = z := ⟨_, rfl⟩
    refine j_callV (rm := rX6_need) (As := [.int (nI 58)]) (st := []) (b0 := mm) (ci := 6) (na := 1) (m_need58Y hAD hmm hA h22 h24 h25 h26 h27 h28 h23 h29 a1 hT ht hln ha hk58 haz5) (by intro E w9 h9; first | exact nomatch h9.1 | (obtain ⟨_, h9, _⟩ := h9; exact nomatch h9) | (obtain ⟨_, _, _, h9, _⟩ := h9; exact nomatch h9)) gX6_readMarked_X6_need rfl rfl hmm (by decide +kernel) rfl ⟨Nat.le_of_ble_eq_true rfl, Nat.le_of_ble_eq_true rfl⟩ rfl (Nat.le_of_ble_eq_true rfl) dX6_readMarked_376 ⟨(show 0 + 0 ≤ 0 by omega), (show 0 + 0 ≤ 0 by omega)⟩ (fun v22 w23 h24 => ?_)
    obtain ⟨h21, fs17, ⟨hfr18, hm19, hff20⟩, ⟨tkn6, sg7, nu8, v11, v12, v13, v14, v15, v16, hT9, hN10⟩⟩ := h24
    cases h21
    refine j_after (st' := []) (k' := 0) (n' := 0) rfl rfl rfl ?_
    have r25 : RA A fs17 := RA.ff hA hff20 rfl
    have hT9b := hT9.1
    rw [haz5] at hR1 hb3 hl4
    refine j_aload_n dX6_readMarked_379 0 rfl ?_
    have v26 := (FF.at hff20 rfl h29)
    refine j_get (v := .int (nI 0)) flX6_readMarked_124 hm19 v26 dX6_readMarked_380 ?_
    refine j_if_eqN 387 (by decide) dX6_readMarked_383 (by decide) (fun _ => ?_) (fun h9 => absurd rfl h9)
    refine j_lv (lv' := [(0, .ref mm), (1, .int (nI pa)), (4, .int (nI ev))]) [0, 1, 2] rfl ?_
    have v27 := (FF.at hff20 rfl h5)
    have v28 := (FF.at hff20 rfl h6)
    have v29 := (FF.at hff20 rfl h8)
    have v30 := (FF.at hff20 rfl h9)
    have v31 := (FF.at hff20 rfl h23)
    have v32 := (FF.at hff20 rfl h31)
    have f33 := (FrI.gen hfr18 (nm1 (AD.nm hAD 1 rfl)) (AD.nl hAD 1 rfl rfl rfl) a1)
    have f34 := (FrI.gen hfr18 (nm1 (AD.nm hAD 10 rfl)) (AD.nl hAD 10 rfl rfl rfl) a10)
    have f35 := (FrI.gen hfr18 (nm1 (AD.nm hAD 11 rfl)) (AD.nl hAD 11 rfl rfl rfl) a11)
    have f36 := (FrI.gen hfr18 (nm1 (AD.nm hAD 12 rfl)) (AD.nl hAD 12 rfl rfl rfl) a12)
    have f37 := (FrI.gen hfr18 (nm1 (AD.nm hAD 13 rfl)) (AD.nl hAD 13 rfl rfl rfl) a13)
    have f38 := (FrI.gen hfr18 (nm1 (AD.nm hAD 14 rfl)) (AD.nl hAD 14 rfl rfl rfl) a14)
    have f39 := (FrI.gen hfr18 (nm1 (AD.nm hAD 15 rfl)) (AD.nl hAD 15 rfl rfl rfl) a15)
    have f40 := (FrI.gen hfr18 (nm1 (AD.nm hAD 16 rfl)) (AD.nl hAD 16 rfl rfl rfl) a16)
    have f41 := (FrI.gen hfr18 (nm1 (AD.nm hAD 17 rfl)) (AD.nl hAD 17 rfl rfl rfl) a17)
    have f42 := (FrI.gen hfr18 (nm1 (AD.nm hAD 18 rfl)) (AD.nl hAD 18 rfl rfl rfl) a18)
    have f43 := (FrI.gen hfr18 (nm1 (AD.nm hAD 19 rfl)) (AD.nl hAD 19 rfl rfl rfl) a19)
    exact s_m387 hAD ht hln hm19 r25 ((FrI.mono hfr (by simp) rfl : FrI A [mm] [10, 11, 12, 13, 14, 15, 16, 17, 18, 19] w0 _).trans (FrI.sub hfr18 rfl)) ((FF.mono hff rfl : FF [5, 8, 9, 22, 24, 25, 26, 27, 28, 29, 30, 31] fs0 _).trans (FF.mono hff20 rfl)) v27 v28 v29 v30 v31 v26 v32 v11 v12 v13 v14 v15 v16 f33 f34 f35 f36 f37 f38 f39 f40 f41 f42 f43 hT9 hN10 hR1 hI2 hb3 (by omega) hTB hop hm hev h44
  · skip
    have hbd44 := rR_bad (b := 1) hR (rf_1 (f1_512 (tk_k ht) hk58)) (by decide)
    refine j_aload_n dX6_readMarked_373 0 rfl ?_
    refine j_bipush (v := nI 58) dX6_readMarked_374 (by decide) ?_
    refine j_callV (rm := rX6_need) (As := [.int (nI 58)]) (st := []) (b0 := mm) (ci := 6) (na := 1) (m_need58N hAD hmm hA h22 h24 h25 h26 h27 h28 h23 h29 a1 hT ht hln ha hk58) (by intro E w9 h9; first | exact nomatch h9.1 | (obtain ⟨_, h9, _⟩ := h9; exact nomatch h9) | (obtain ⟨_, _, _, h9, _⟩ := h9; exact nomatch h9)) gX6_readMarked_X6_need rfl rfl hmm (by decide +kernel) rfl ⟨Nat.le_of_ble_eq_true rfl, Nat.le_of_ble_eq_true rfl⟩ rfl (Nat.le_of_ble_eq_true rfl) dX6_readMarked_376 ⟨(show 0 + 0 ≤ 0 by omega), (show 0 + 0 ≤ 0 by omega)⟩ (fun v52 w53 h54 => ?_)
    obtain ⟨h51, fs47, ⟨hfr48, hm49, hff50⟩, v45, v46⟩ := h54
    cases h51
    refine j_after (st' := []) (k' := 0) (n' := 0) rfl rfl rfl ?_
    have r55 : RA A fs47 := RA.ff hA hff50 rfl
    refine j_aload_n dX6_readMarked_379 0 rfl ?_
    refine j_get (v := .int (nI 1)) flX6_readMarked_124 hm49 v45 dX6_readMarked_380 ?_
    refine j_if_eqN 387 (by decide) dX6_readMarked_383 (by decide) (fun h9 => absurd h9 (by decide)) (fun _ => ?_)
    have f56 := (FrI.gen hfr48 (nm1 (AD.nm hAD 10 rfl)) (AD.nl hAD 10 rfl rfl rfl) a10)
    have f57 := (FrI.gen hfr48 (nm1 (AD.nm hAD 11 rfl)) (AD.nl hAD 11 rfl rfl rfl) a11)
    have f58 := (FrI.gen hfr48 (nm1 (AD.nm hAD 12 rfl)) (AD.nl hAD 12 rfl rfl rfl) a12)
    have f59 := (FrI.gen hfr48 (nm1 (AD.nm hAD 13 rfl)) (AD.nl hAD 13 rfl rfl rfl) a13)
    have f60 := (FrI.gen hfr48 (nm1 (AD.nm hAD 14 rfl)) (AD.nl hAD 14 rfl rfl rfl) a14)
    have f61 := (FrI.gen hfr48 (nm1 (AD.nm hAD 15 rfl)) (AD.nl hAD 15 rfl rfl rfl) a15)
    have f62 := (FrI.gen hfr48 (nm1 (AD.nm hAD 16 rfl)) (AD.nl hAD 16 rfl rfl rfl) a16)
    have f63 := (FrI.gen hfr48 (nm1 (AD.nm hAD 17 rfl)) (AD.nl hAD 17 rfl rfl rfl) a17)
    have f64 := (FrI.gen hfr48 (nm1 (AD.nm hAD 18 rfl)) (AD.nl hAD 18 rfl rfl rfl) a18)
    have f65 := (FrI.gen hfr48 (nm1 (AD.nm hAD 19 rfl)) (AD.nl hAD 19 rfl rfl rfl) a19)
    have v66 := (FF.at hff50 rfl h26)
    exact j_vret rfl ⟨rfl, _, ⟨((FrI.mono hfr (by simp) rfl : FrI A [mm] [10, 11, 12, 13, 14, 15, 16, 17, 18, 19] w0 _).trans (FrI.sub hfr48 rfl)), hm49, ((FF.mono hff rfl : FF [5, 8, 9, 22, 24, 25, 26, 27, 28, 29, 30, 31] fs0 _).trans (FF.mono hff50 rfl))⟩, _, _, _, _, _, _, _, _, _, _, ⟨f56, f57, f58, f59, f60, f61, f62, f63, f64, f65⟩, ⟨_, v66⟩, Or.inl (RFl.mk hbd44 ⟨by decide, by decide⟩ v45 v46)⟩ (show 0 ≤ 0 by omega) (show 0 ≤ 0 by omega) dX6_readMarked_386
set_option maxHeartbeats 4000000 in
set_option maxRecDepth 100000 in
theorem l_m260 {t : Nat → Nat} {ln aS : Nat} {w0 : pW} {fs0 : List Value} {A : Nat → Nat} {mm : Nat} {R : Nat × Nat × RSt} (hAD : AD A mm) (ht : ∀ j, t j < 256) (hln : ln ≤ 2400) {mr cu rep oc ev be cq st me pa : Nat} {xk xb xs xe xg : Nat → Nat} {xl xi xc : Nat → Int32} (hev : ev < 100) : ∀ (m9 : Nat) (w : pW) (fs : List Value) (a : Nat) (tkn : Nat) (sg : Nat) (nu : Int32) (sd : Nat) (np : Nat) (f : Nat → Int32) (xm : Nat → Nat) (xp : Nat → Int32), ln + 2 - a < m9 → (w mm = some (.inr (6, fs))) → (RA A fs) → (FrI A [mm] [10, 11, 12, 13, 14, 15, 16, 17, 18, 19] w0 w) → (FF [5, 8, 9, 22, 24, 25, 26, 27, 28, 29, 30, 31] fs0 fs) → (fs[5]? = some (.int (nI ev))) → (fs[6]? = some (.int (nI me))) → (fs[8]? = some (.int (nI be))) → (fs[9]? = some (.int (nI cu))) → (fs[23]? = some (.int (nI ln))) → (fs[29]? = some (.int (nI 0))) → (fs[31]? = some (.int (nI mr))) → (fs[22]? = some (.int (nI ((tk t ln a).1)))) → (fs[24]? = some (.int (nI tkn))) → (fs[25]? = some (.int (nI sg))) → (fs[26]? = some (.int nu)) → (fs[27]? = some (.int (nI a))) → (fs[28]? = some (.int (nI ((tk t ln a).1)))) → (w (A 1) = some (.inl (0, 2400, .inl (fun j9 => nI (t j9))))) → (w (A 10) = some (.inl (0, 100, .inl (fun j9 => nI (xk j9))))) → (w (A 11) = some (.inl (0, 100, .inl (fun j9 => nI (xm j9))))) → (w (A 12) = some (.inl (0, 400, .inl xp))) → (w (A 13) = some (.inl (0, 100, .inl (fun j9 => nI (xb j9))))) → (w (A 14) = some (.inl (0, 100, .inl (fun j9 => nI (xs j9))))) → (w (A 15) = some (.inl (0, 100, .inl (fun j9 => nI (xe j9))))) → (w (A 16) = some (.inl (0, 100, .inl (fun j9 => nI (xg j9))))) → (w (A 17) = some (.inl (0, 100, .inl xl))) → (w (A 18) = some (.inl (2, 100, .inl xi))) → (w (A 19) = some (.inl (2, 100, .inl xc))) → (TS tkn sg (tkK t ln a)) → (NS nu (tkK t ln a) (tkV t ln a) ((tk t ln a).1 - a)) → (R = rR t ln a (sd, mr, cu, false, false, rep, np, oc, f, ev, be, cq, st, me, pa)) → (RJ (sd, mr, cu, false, false, rep, np, oc, f, ev, be, cq, st, me, pa)) → (a ≤ ln + 1) → (aS ≤ a) → (TBL xk xm xp xb xs xe xg xl xi xc f ev) → (opA xk xm xp xb xe xg xl xi xc f ev) → (xm ev = np) → (sd = 256 ∨ (sd = 128 ∧ tkK t ln a = 2)) → J ((cX6_readMarked, RX6, 5, wsX6_readMarked), (rX6_readMarked, none, "readMarked", []), fun o w9 => o = .inl none ∧ ∃ fs9 : List Value, MU A mm [10, 11, 12, 13, 14, 15, 16, 17, 18, 19] [5, 8, 9, 22, 24, 25, 26, 27, 28, 29, 30, 31] w0 w9 fs0 fs9 ∧ ∃ (xk xm : Nat → Nat) (xp : Nat → Int32) (xb xs xe xg : Nat → Nat) (xl xi xc : Nat → Int32), TA A w9 xk xm xp xb xs xe xg xl xi xc ∧ (∃ nu9 : Int32, fs9[26]? = some (.int nu9)) ∧ (RFl fs9 R ∨ ∃ (a9 mr9 cu9 np9 oc9 : Nat) (f9 : Nat → Int32) (ev9 be9 cq9 st9 : Nat), aS < a9 ∧ a9 ≤ ln + 1 ∧ R = rR t ln a9 (8, mr9, cu9, false, false, rep, np9, oc9, f9, ev9, be9, cq9, st9, me, pa) ∧ RJ (8, mr9, cu9, false, false, rep, np9, oc9, f9, ev9, be9, cq9, st9, me, pa) ∧ fs9[5]? = some (.int (nI ev9)) ∧ fs9[8]? = some (.int (nI be9)) ∧ fs9[9]? = some (.int (nI cu9)) ∧ fs9[29]? = some (.int (nI 0)) ∧ fs9[31]? = some (.int (nI mr9)) ∧ AtT t ln a9 fs9 ∧ TBL xk xm xp xb xs xe xg xl xi xc f9 ev9), fun _ _ _ => True) 260 [(0, .ref mm), (1, .int (nI pa)), (4, .int (nI ev))] [] w 0 0 := by
  intro m9
  induction m9 with
  | zero => intro w fs a tkn sg nu sd np f xm xp h9; omega
  | succ m9 ih =>
    intro w fs a tkn sg nu sd np f xm xp hm9 hmm hA hfr hff h5 h6 h8 h9 h23 h29 h31 h22 h24 h25 h26 h27 h28 a1 a10 a11 a12 a13 a14 a15 a16 a17 a18 a19 hT hN hR hI ha haS hTB hop hm hsd
    have hTb := hT.1
    obtain ⟨i1, i2, i3, i4, i5, i6, i7⟩ := id hI.1
    have h44 : np ≤ 4 := (i3 (by omega)).2.1
    refine j_aload_n dX6_readMarked_260 0 rfl ?_
    refine j_get (v := .int (nI 0)) flX6_readMarked_124 hmm h29 dX6_readMarked_261 ?_
    refine j_if_neN 284 (by decide) dX6_readMarked_264 (by decide) (fun h9 => absurd rfl h9) (fun _ => ?_)
    refine j_aload_n dX6_readMarked_267 0 rfl ?_
    refine j_get (v := .int (nI tkn)) flX6_readMarked_102 hmm h24 dX6_readMarked_268 ?_
    refine j_iconst (v := nI 1) dX6_readMarked_271 (by decide) ?_
    refine j_icmp_neN 284 (by omega) (by omega) dX6_readMarked_272 (by decide) (fun c272 => ?_) (fun c272 => ?_)
    · skip
      have hk2 : ¬ tkK t ln a = 2 := fun q => c272 (hT.2.2.1.mpr q)
      have hsd2 : sd = 256 := by omega
      subst hsd2
      by_cases hk41 : tkK t ln a = 41
      · skip
        obtain ⟨hR1, hI2, hb3, hl4⟩ := rR_go (s1 := (512, mr, cu, false, false, rep, np, oc, f, ev, be, cq, st, me, pa)) ht hR (f0 hk41 (by decide) (by decide)) (by omega) (by rw [hk41]; rfl) hI ha
        refine j_aload_n dX6_readMarked_284 0 rfl ?_
        refine j_bipush (v := nI 41) dX6_readMarked_285 (by decide) ?_
        obtain ⟨az5, haz5⟩ : ∃ z, tkN t ln a = z := ⟨_, rfl⟩
        refine j_callV (rm := rX6_need) (As := [.int (nI 41)]) (st := []) (b0 := mm) (ci := 6) (na := 1) (m_need41Y hAD hmm hA h22 h24 h25 h26 h27 h28 h23 h29 a1 hT ht hln ha hk41 haz5) (by intro E w9 h9; first | exact nomatch h9.1 | (obtain ⟨_, h9, _⟩ := h9; exact nomatch h9) | (obtain ⟨_, _, _, h9, _⟩ := h9; exact nomatch h9)) gX6_readMarked_X6_need rfl rfl hmm (by decide +kernel) rfl ⟨Nat.le_of_ble_eq_true rfl, Nat.le_of_ble_eq_true rfl⟩ rfl (Nat.le_of_ble_eq_true rfl) dX6_readMarked_287 ⟨(show 0 + 0 ≤ 0 by omega), (show 0 + 0 ≤ 0 by omega)⟩ (fun v22 w23 h24 => ?_)
        obtain ⟨h21, fs17, ⟨hfr18, hm19, hff20⟩, ⟨tkn6, sg7, nu8, v11, v12, v13, v14, v15, v16, hT9, hN10⟩⟩ := h24
        cases h21
        refine j_after (st' := []) (k' := 0) (n' := 0) rfl rfl rfl ?_
        have r25 : RA A fs17 := RA.ff hA hff20 rfl
        have hT9b := hT9.1
        rw [haz5] at hR1 hb3 hl4
        refine j_goto 373 dX6_readMarked_290 (by decide) ?_
        refine j_lv (lv' := [(0, .ref mm), (1, .int (nI pa)), (4, .int (nI ev))]) [0, 1, 2] rfl ?_
        have v26 := (FF.at hff20 rfl h5)
        have v27 := (FF.at hff20 rfl h6)
        have v28 := (FF.at hff20 rfl h8)
        have v29 := (FF.at hff20 rfl h9)
        have v30 := (FF.at hff20 rfl h23)
        have v31 := (FF.at hff20 rfl h29)
        have v32 := (FF.at hff20 rfl h31)
        have f33 := (FrI.gen hfr18 (nm1 (AD.nm hAD 1 rfl)) (AD.nl hAD 1 rfl rfl rfl) a1)
        have f34 := (FrI.gen hfr18 (nm1 (AD.nm hAD 10 rfl)) (AD.nl hAD 10 rfl rfl rfl) a10)
        have f35 := (FrI.gen hfr18 (nm1 (AD.nm hAD 11 rfl)) (AD.nl hAD 11 rfl rfl rfl) a11)
        have f36 := (FrI.gen hfr18 (nm1 (AD.nm hAD 12 rfl)) (AD.nl hAD 12 rfl rfl rfl) a12)
        have f37 := (FrI.gen hfr18 (nm1 (AD.nm hAD 13 rfl)) (AD.nl hAD 13 rfl rfl rfl) a13)
        have f38 := (FrI.gen hfr18 (nm1 (AD.nm hAD 14 rfl)) (AD.nl hAD 14 rfl rfl rfl) a14)
        have f39 := (FrI.gen hfr18 (nm1 (AD.nm hAD 15 rfl)) (AD.nl hAD 15 rfl rfl rfl) a15)
        have f40 := (FrI.gen hfr18 (nm1 (AD.nm hAD 16 rfl)) (AD.nl hAD 16 rfl rfl rfl) a16)
        have f41 := (FrI.gen hfr18 (nm1 (AD.nm hAD 17 rfl)) (AD.nl hAD 17 rfl rfl rfl) a17)
        have f42 := (FrI.gen hfr18 (nm1 (AD.nm hAD 18 rfl)) (AD.nl hAD 18 rfl rfl rfl) a18)
        have f43 := (FrI.gen hfr18 (nm1 (AD.nm hAD 19 rfl)) (AD.nl hAD 19 rfl rfl rfl) a19)
        exact s_m373 hAD ht hln hm19 r25 ((FrI.mono hfr (by simp) rfl : FrI A [mm] [10, 11, 12, 13, 14, 15, 16, 17, 18, 19] w0 _).trans (FrI.sub hfr18 rfl)) ((FF.mono hff rfl : FF [5, 8, 9, 22, 24, 25, 26, 27, 28, 29, 30, 31] fs0 _).trans (FF.mono hff20 rfl)) v26 v27 v28 v29 v30 v31 v32 v11 v12 v13 v14 v15 v16 f33 f34 f35 f36 f37 f38 f39 f40 f41 f42 f43 hT9 hN10 hR1 hI2 hb3 (by omega) hTB hop hm hev (by omega)
      · skip
        have hbd44 := rR_bad (b := 1) hR (rf_1 (f1_256 (tk_k ht) ⟨hk2, hk41⟩)) (by decide)
        refine j_aload_n dX6_readMarked_284 0 rfl ?_
        refine j_bipush (v := nI 41) dX6_readMarked_285 (by decide) ?_
        refine j_callV (rm := rX6_need) (As := [.int (nI 41)]) (st := []) (b0 := mm) (ci := 6) (na := 1) (m_need41N hAD hmm hA h22 h24 h25 h26 h27 h28 h23 h29 a1 hT ht hln ha hk41) (by intro E w9 h9; first | exact nomatch h9.1 | (obtain ⟨_, h9, _⟩ := h9; exact nomatch h9) | (obtain ⟨_, _, _, h9, _⟩ := h9; exact nomatch h9)) gX6_readMarked_X6_need rfl rfl hmm (by decide +kernel) rfl ⟨Nat.le_of_ble_eq_true rfl, Nat.le_of_ble_eq_true rfl⟩ rfl (Nat.le_of_ble_eq_true rfl) dX6_readMarked_287 ⟨(show 0 + 0 ≤ 0 by omega), (show 0 + 0 ≤ 0 by omega)⟩ (fun v52 w53 h54 => ?_)
        obtain ⟨h51, fs47, ⟨hfr48, hm49, hff50⟩, v45, v46⟩ := h54
        cases h51
        refine j_after (st' := []) (k' := 0) (n' := 0) rfl rfl rfl ?_
        have r55 : RA A fs47 := RA.ff hA hff50 rfl
        refine j_goto 373 dX6_readMarked_290 (by decide) ?_
        refine j_aload_n dX6_readMarked_373 0 rfl ?_
        refine j_bipush (v := nI 58) dX6_readMarked_374 (by decide) ?_
        refine j_callV (rm := rX6_need) (As := [.int (nI 58)]) (st := []) (b0 := mm) (ci := 6) (na := 1) (m_need1 (c := 58) hAD hm49 r55 v45 (by omega) (by omega)) (by intro E w9 h9; first | exact nomatch h9.1 | (obtain ⟨_, h9, _⟩ := h9; exact nomatch h9) | (obtain ⟨_, _, _, h9, _⟩ := h9; exact nomatch h9)) gX6_readMarked_X6_need rfl rfl hm49 (by decide +kernel) rfl ⟨Nat.le_of_ble_eq_true rfl, Nat.le_of_ble_eq_true rfl⟩ rfl (Nat.le_of_ble_eq_true rfl) dX6_readMarked_376 ⟨(show 0 + 0 ≤ 0 by omega), (show 0 + 0 ≤ 0 by omega)⟩ (fun v56 w57 h58 => ?_)
        obtain ⟨h58, h59⟩ := h58
        cases h58
        subst w57
        refine j_after (st' := []) (k' := 0) (n' := 0) rfl rfl rfl ?_
        refine j_aload_n dX6_readMarked_379 0 rfl ?_
        refine j_get (v := .int (nI 1)) flX6_readMarked_124 hm49 v45 dX6_readMarked_380 ?_
        refine j_if_eqN 387 (by decide) dX6_readMarked_383 (by decide) (fun h9 => absurd h9 (by decide)) (fun _ => ?_)
        have f60 := (FrI.gen hfr48 (nm1 (AD.nm hAD 10 rfl)) (AD.nl hAD 10 rfl rfl rfl) a10)
        have f61 := (FrI.gen hfr48 (nm1 (AD.nm hAD 11 rfl)) (AD.nl hAD 11 rfl rfl rfl) a11)
        have f62 := (FrI.gen hfr48 (nm1 (AD.nm hAD 12 rfl)) (AD.nl hAD 12 rfl rfl rfl) a12)
        have f63 := (FrI.gen hfr48 (nm1 (AD.nm hAD 13 rfl)) (AD.nl hAD 13 rfl rfl rfl) a13)
        have f64 := (FrI.gen hfr48 (nm1 (AD.nm hAD 14 rfl)) (AD.nl hAD 14 rfl rfl rfl) a14)
        have f65 := (FrI.gen hfr48 (nm1 (AD.nm hAD 15 rfl)) (AD.nl hAD 15 rfl rfl rfl) a15)
        have f66 := (FrI.gen hfr48 (nm1 (AD.nm hAD 16 rfl)) (AD.nl hAD 16 rfl rfl rfl) a16)
        have f67 := (FrI.gen hfr48 (nm1 (AD.nm hAD 17 rfl)) (AD.nl hAD 17 rfl rfl rfl) a17)
        have f68 := (FrI.gen hfr48 (nm1 (AD.nm hAD 18 rfl)) (AD.nl hAD 18 rfl rfl rfl) a18)
        have f69 := (FrI.gen hfr48 (nm1 (AD.nm hAD 19 rfl)) (AD.nl hAD 19 rfl rfl rfl) a19)
        have v70 := (FF.at hff50 rfl h26)
        exact j_vret rfl ⟨rfl, _, ⟨((FrI.mono hfr (by simp) rfl : FrI A [mm] [10, 11, 12, 13, 14, 15, 16, 17, 18, 19] w0 _).trans (FrI.sub hfr48 rfl)), hm49, ((FF.mono hff rfl : FF [5, 8, 9, 22, 24, 25, 26, 27, 28, 29, 30, 31] fs0 _).trans (FF.mono hff50 rfl))⟩, _, _, _, _, _, _, _, _, _, _, ⟨f60, f61, f62, f63, f64, f65, f66, f67, f68, f69⟩, ⟨_, v70⟩, Or.inl (RFl.mk hbd44 ⟨by decide, by decide⟩ v45 v46)⟩ (show 0 ≤ 0 by omega) (show 0 ≤ 0 by omega) dX6_readMarked_386
    · skip
      have hk2 : tkK t ln a = 2 := hT.2.2.1.mp c272
      have hs3 : sd = 64 ∨ sd = 128 ∨ sd = 256 := by omega
      have hs2 : sd = 128 ∨ sd = 256 := by omega
      have hnu := hN.1 hk2
      by_cases h4 : np = 4
      · skip
        have hbd71 := rR_bad (b := 2) hR ((fPit hk2 hs3).trans (if_pos (by omega))) (by decide)
        refine j_aload_n dX6_readMarked_275 0 rfl ?_
        refine j_iload dX6_readMarked_276 2 rfl ?_
        refine j_callV (rm := rX6_readPitch) (As := [.int (nI ev)]) (st := []) (b0 := mm) (ci := 6) (na := 1) (m_rp4 hAD hmm hA h22 h24 h25 h26 h27 h28 h23 h29 a1 a11 a12 hT ht hln ha (by omega) (by omega)) (by intro E w9 h9; first | exact nomatch h9.1 | (obtain ⟨_, h9, _⟩ := h9; exact nomatch h9) | (obtain ⟨_, _, _, h9, _⟩ := h9; exact nomatch h9)) gX6_readMarked_X6_readPitch rfl rfl hmm (by decide +kernel) rfl ⟨Nat.le_of_ble_eq_true rfl, Nat.le_of_ble_eq_true rfl⟩ rfl (Nat.le_of_ble_eq_true rfl) dX6_readMarked_278 ⟨(show 0 + 0 ≤ 0 by omega), (show 0 + 0 ≤ 0 by omega)⟩ (fun v79 w80 h81 => ?_)
        obtain ⟨h78, fs74, ⟨hfr75, hm76, hff77⟩, v72, v73⟩ := h81
        cases h78
        refine j_after (st' := []) (k' := 0) (n' := 0) rfl rfl rfl ?_
        have r82 : RA A fs74 := RA.ff hA hff77 rfl
        refine j_goto 260 dX6_readMarked_281 (by decide) ?_
        refine j_aload_n dX6_readMarked_260 0 rfl ?_
        refine j_get (v := .int (nI 2)) flX6_readMarked_124 hm76 v72 dX6_readMarked_261 ?_
        refine j_if_neN 284 (by decide) dX6_readMarked_264 (by decide) (fun _ => ?_) (fun h9 => absurd h9 (by decide))
        refine j_aload_n dX6_readMarked_284 0 rfl ?_
        refine j_bipush (v := nI 41) dX6_readMarked_285 (by decide) ?_
        refine j_callV (rm := rX6_need) (As := [.int (nI 41)]) (st := []) (b0 := mm) (ci := 6) (na := 1) (m_need1 (c := 41) hAD hm76 r82 v72 (by omega) (by omega)) (by intro E w9 h9; first | exact nomatch h9.1 | (obtain ⟨_, h9, _⟩ := h9; exact nomatch h9) | (obtain ⟨_, _, _, h9, _⟩ := h9; exact nomatch h9)) gX6_readMarked_X6_need rfl rfl hm76 (by decide +kernel) rfl ⟨Nat.le_of_ble_eq_true rfl, Nat.le_of_ble_eq_true rfl⟩ rfl (Nat.le_of_ble_eq_true rfl) dX6_readMarked_287 ⟨(show 0 + 0 ≤ 0 by omega), (show 0 + 0 ≤ 0 by omega)⟩ (fun v83 w84 h85 => ?_)
        obtain ⟨h85, h86⟩ := h85
        cases h85
        subst w84
        refine j_after (st' := []) (k' := 0) (n' := 0) rfl rfl rfl ?_
        refine j_goto 373 dX6_readMarked_290 (by decide) ?_
        refine j_aload_n dX6_readMarked_373 0 rfl ?_
        refine j_bipush (v := nI 58) dX6_readMarked_374 (by decide) ?_
        refine j_callV (rm := rX6_need) (As := [.int (nI 58)]) (st := []) (b0 := mm) (ci := 6) (na := 1) (m_need1 (c := 58) hAD hm76 r82 v72 (by omega) (by omega)) (by intro E w9 h9; first | exact nomatch h9.1 | (obtain ⟨_, h9, _⟩ := h9; exact nomatch h9) | (obtain ⟨_, _, _, h9, _⟩ := h9; exact nomatch h9)) gX6_readMarked_X6_need rfl rfl hm76 (by decide +kernel) rfl ⟨Nat.le_of_ble_eq_true rfl, Nat.le_of_ble_eq_true rfl⟩ rfl (Nat.le_of_ble_eq_true rfl) dX6_readMarked_376 ⟨(show 0 + 0 ≤ 0 by omega), (show 0 + 0 ≤ 0 by omega)⟩ (fun v87 w88 h89 => ?_)
        obtain ⟨h89, h90⟩ := h89
        cases h89
        subst w88
        refine j_after (st' := []) (k' := 0) (n' := 0) rfl rfl rfl ?_
        refine j_aload_n dX6_readMarked_379 0 rfl ?_
        refine j_get (v := .int (nI 2)) flX6_readMarked_124 hm76 v72 dX6_readMarked_380 ?_
        refine j_if_eqN 387 (by decide) dX6_readMarked_383 (by decide) (fun h9 => absurd h9 (by decide)) (fun _ => ?_)
        have f91 := (FrI.gen hfr75 (nm1 (AD.nm hAD 10 rfl)) (AD.nl hAD 10 rfl rfl rfl) a10)
        have f92 := (FrI.gen hfr75 (nm1 (AD.nm hAD 11 rfl)) (AD.nl hAD 11 rfl rfl rfl) a11)
        have f93 := (FrI.gen hfr75 (nm1 (AD.nm hAD 12 rfl)) (AD.nl hAD 12 rfl rfl rfl) a12)
        have f94 := (FrI.gen hfr75 (nm1 (AD.nm hAD 13 rfl)) (AD.nl hAD 13 rfl rfl rfl) a13)
        have f95 := (FrI.gen hfr75 (nm1 (AD.nm hAD 14 rfl)) (AD.nl hAD 14 rfl rfl rfl) a14)
        have f96 := (FrI.gen hfr75 (nm1 (AD.nm hAD 15 rfl)) (AD.nl hAD 15 rfl rfl rfl) a15)
        have f97 := (FrI.gen hfr75 (nm1 (AD.nm hAD 16 rfl)) (AD.nl hAD 16 rfl rfl rfl) a16)
        have f98 := (FrI.gen hfr75 (nm1 (AD.nm hAD 17 rfl)) (AD.nl hAD 17 rfl rfl rfl) a17)
        have f99 := (FrI.gen hfr75 (nm1 (AD.nm hAD 18 rfl)) (AD.nl hAD 18 rfl rfl rfl) a18)
        have f100 := (FrI.gen hfr75 (nm1 (AD.nm hAD 19 rfl)) (AD.nl hAD 19 rfl rfl rfl) a19)
        have v101 := (FF.at hff77 rfl h26)
        exact j_vret rfl ⟨rfl, _, ⟨((FrI.mono hfr (by simp) rfl : FrI A [mm] [10, 11, 12, 13, 14, 15, 16, 17, 18, 19] w0 _).trans (FrI.sub hfr75 rfl)), hm76, ((FF.mono hff rfl : FF [5, 8, 9, 22, 24, 25, 26, 27, 28, 29, 30, 31] fs0 _).trans (FF.mono hff77 rfl))⟩, _, _, _, _, _, _, _, _, _, _, ⟨f91, f92, f93, f94, f95, f96, f97, f98, f99, f100⟩, ⟨_, v101⟩, Or.inl (RFl.mk hbd71 ⟨by decide, by decide⟩ v72 v73)⟩ (show 0 ≤ 0 by omega) (show 0 ≤ 0 by omega) dX6_readMarked_386
      · skip
        have hPs := hasP_some (va := tkV t ln a) hop hm
        by_cases hex : ∃ k, k < np ∧ xp (4 * ev + k) = tkV t ln a
        · skip
          have hbd102 := rR_bad (b := 3) hR ((fPit hk2 hs3).trans ((if_neg (by omega)).trans (if_pos ⟨by omega, hPs.mpr hex⟩))) (by decide)
          refine j_aload_n dX6_readMarked_275 0 rfl ?_
          refine j_iload dX6_readMarked_276 2 rfl ?_
          refine j_callV (rm := rX6_readPitch) (As := [.int (nI ev)]) (st := []) (b0 := mm) (ci := 6) (na := 1) (m_rpT hAD hmm hA h22 h24 h25 h26 h27 h28 h23 h29 a1 a11 a12 hT ht hln ha (by omega) (by omega) (by rw [hm, hnu]; exact hex)) (by intro E w9 h9; first | exact nomatch h9.1 | (obtain ⟨_, h9, _⟩ := h9; exact nomatch h9) | (obtain ⟨_, _, _, h9, _⟩ := h9; exact nomatch h9)) gX6_readMarked_X6_readPitch rfl rfl hmm (by decide +kernel) rfl ⟨Nat.le_of_ble_eq_true rfl, Nat.le_of_ble_eq_true rfl⟩ rfl (Nat.le_of_ble_eq_true rfl) dX6_readMarked_278 ⟨(show 0 + 0 ≤ 0 by omega), (show 0 + 0 ≤ 0 by omega)⟩ (fun v110 w111 h112 => ?_)
          obtain ⟨h109, fs105, ⟨hfr106, hm107, hff108⟩, v103, v104⟩ := h112
          cases h109
          refine j_after (st' := []) (k' := 0) (n' := 0) rfl rfl rfl ?_
          have r113 : RA A fs105 := RA.ff hA hff108 rfl
          refine j_goto 260 dX6_readMarked_281 (by decide) ?_
          refine j_aload_n dX6_readMarked_260 0 rfl ?_
          refine j_get (v := .int (nI 3)) flX6_readMarked_124 hm107 v103 dX6_readMarked_261 ?_
          refine j_if_neN 284 (by decide) dX6_readMarked_264 (by decide) (fun _ => ?_) (fun h9 => absurd h9 (by decide))
          refine j_aload_n dX6_readMarked_284 0 rfl ?_
          refine j_bipush (v := nI 41) dX6_readMarked_285 (by decide) ?_
          refine j_callV (rm := rX6_need) (As := [.int (nI 41)]) (st := []) (b0 := mm) (ci := 6) (na := 1) (m_need1 (c := 41) hAD hm107 r113 v103 (by omega) (by omega)) (by intro E w9 h9; first | exact nomatch h9.1 | (obtain ⟨_, h9, _⟩ := h9; exact nomatch h9) | (obtain ⟨_, _, _, h9, _⟩ := h9; exact nomatch h9)) gX6_readMarked_X6_need rfl rfl hm107 (by decide +kernel) rfl ⟨Nat.le_of_ble_eq_true rfl, Nat.le_of_ble_eq_true rfl⟩ rfl (Nat.le_of_ble_eq_true rfl) dX6_readMarked_287 ⟨(show 0 + 0 ≤ 0 by omega), (show 0 + 0 ≤ 0 by omega)⟩ (fun v114 w115 h116 => ?_)
          obtain ⟨h116, h117⟩ := h116
          cases h116
          subst w115
          refine j_after (st' := []) (k' := 0) (n' := 0) rfl rfl rfl ?_
          refine j_goto 373 dX6_readMarked_290 (by decide) ?_
          refine j_aload_n dX6_readMarked_373 0 rfl ?_
          refine j_bipush (v := nI 58) dX6_readMarked_374 (by decide) ?_
          refine j_callV (rm := rX6_need) (As := [.int (nI 58)]) (st := []) (b0 := mm) (ci := 6) (na := 1) (m_need1 (c := 58) hAD hm107 r113 v103 (by omega) (by omega)) (by intro E w9 h9; first | exact nomatch h9.1 | (obtain ⟨_, h9, _⟩ := h9; exact nomatch h9) | (obtain ⟨_, _, _, h9, _⟩ := h9; exact nomatch h9)) gX6_readMarked_X6_need rfl rfl hm107 (by decide +kernel) rfl ⟨Nat.le_of_ble_eq_true rfl, Nat.le_of_ble_eq_true rfl⟩ rfl (Nat.le_of_ble_eq_true rfl) dX6_readMarked_376 ⟨(show 0 + 0 ≤ 0 by omega), (show 0 + 0 ≤ 0 by omega)⟩ (fun v118 w119 h120 => ?_)
          obtain ⟨h120, h121⟩ := h120
          cases h120
          subst w119
          refine j_after (st' := []) (k' := 0) (n' := 0) rfl rfl rfl ?_
          refine j_aload_n dX6_readMarked_379 0 rfl ?_
          refine j_get (v := .int (nI 3)) flX6_readMarked_124 hm107 v103 dX6_readMarked_380 ?_
          refine j_if_eqN 387 (by decide) dX6_readMarked_383 (by decide) (fun h9 => absurd h9 (by decide)) (fun _ => ?_)
          have f122 := (FrI.gen hfr106 (nm1 (AD.nm hAD 10 rfl)) (AD.nl hAD 10 rfl rfl rfl) a10)
          have f123 := (FrI.gen hfr106 (nm1 (AD.nm hAD 11 rfl)) (AD.nl hAD 11 rfl rfl rfl) a11)
          have f124 := (FrI.gen hfr106 (nm1 (AD.nm hAD 12 rfl)) (AD.nl hAD 12 rfl rfl rfl) a12)
          have f125 := (FrI.gen hfr106 (nm1 (AD.nm hAD 13 rfl)) (AD.nl hAD 13 rfl rfl rfl) a13)
          have f126 := (FrI.gen hfr106 (nm1 (AD.nm hAD 14 rfl)) (AD.nl hAD 14 rfl rfl rfl) a14)
          have f127 := (FrI.gen hfr106 (nm1 (AD.nm hAD 15 rfl)) (AD.nl hAD 15 rfl rfl rfl) a15)
          have f128 := (FrI.gen hfr106 (nm1 (AD.nm hAD 16 rfl)) (AD.nl hAD 16 rfl rfl rfl) a16)
          have f129 := (FrI.gen hfr106 (nm1 (AD.nm hAD 17 rfl)) (AD.nl hAD 17 rfl rfl rfl) a17)
          have f130 := (FrI.gen hfr106 (nm1 (AD.nm hAD 18 rfl)) (AD.nl hAD 18 rfl rfl rfl) a18)
          have f131 := (FrI.gen hfr106 (nm1 (AD.nm hAD 19 rfl)) (AD.nl hAD 19 rfl rfl rfl) a19)
          have v132 := (FF.at hff108 rfl h26)
          exact j_vret rfl ⟨rfl, _, ⟨((FrI.mono hfr (by simp) rfl : FrI A [mm] [10, 11, 12, 13, 14, 15, 16, 17, 18, 19] w0 _).trans (FrI.sub hfr106 rfl)), hm107, ((FF.mono hff rfl : FF [5, 8, 9, 22, 24, 25, 26, 27, 28, 29, 30, 31] fs0 _).trans (FF.mono hff108 rfl))⟩, _, _, _, _, _, _, _, _, _, _, ⟨f122, f123, f124, f125, f126, f127, f128, f129, f130, f131⟩, ⟨_, v132⟩, Or.inl (RFl.mk hbd102 ⟨by decide, by decide⟩ v103 v104)⟩ (show 0 ≤ 0 by omega) (show 0 ≤ 0 by omega) dX6_readMarked_386
        · skip
          obtain ⟨hR133, hI134, hb135, hl136⟩ := rR_go (s1 := (256, mr, cu, false, false, rep, np + 1, oc, adF f ev np (tkV t ln a), ev, be, cq, st, me, pa)) ht hR ((fPit hk2 hs3).trans ((if_neg (by omega)).trans (if_neg (fun q => hex (hPs.mp q.2))))) (by omega) (tPitC hk2 hs2) hI ha
          have htb9 := tb_add (np := np) (va := tkV t ln a) hTB
          have hop9 := op_add (va := tkV t ln a) hop hm (by omega)
          refine j_aload_n dX6_readMarked_275 0 rfl ?_
          refine j_iload dX6_readMarked_276 2 rfl ?_
          obtain ⟨az137, haz137⟩ : ∃ z, tkN t ln a = z := ⟨_, rfl⟩
          refine j_callV (rm := rX6_readPitch) (As := [.int (nI ev)]) (st := []) (b0 := mm) (ci := 6) (na := 1) (m_rpN2 (np := np) hAD hmm hA h22 h24 h25 h26 h27 h28 h23 h29 a1 a11 a12 hT ht hln ha (by omega) hm hnu (by omega) (fun k hk q => hex ⟨k, hk, q⟩) haz137) (by intro E w9 h9; first | exact nomatch h9.1 | (obtain ⟨_, h9, _⟩ := h9; exact nomatch h9) | (obtain ⟨_, _, _, h9, _⟩ := h9; exact nomatch h9)) gX6_readMarked_X6_readPitch rfl rfl hmm (by decide +kernel) rfl ⟨Nat.le_of_ble_eq_true rfl, Nat.le_of_ble_eq_true rfl⟩ rfl (Nat.le_of_ble_eq_true rfl) dX6_readMarked_278 ⟨(show 0 + 0 ≤ 0 by omega), (show 0 + 0 ≤ 0 by omega)⟩ (fun v156 w157 h158 => ?_)
          obtain ⟨h155, fs151, ⟨hfr152, hm153, hff154⟩, ⟨tkn138, sg139, nu140, v143, v144, v145, v146, v147, v148, hT141, hN142⟩, f149, f150⟩ := h158
          cases h155
          refine j_after (st' := []) (k' := 0) (n' := 0) rfl rfl rfl ?_
          have r159 : RA A fs151 := RA.ff hA hff154 rfl
          have hT141b := hT141.1
          rw [haz137] at hR133 hb135 hl136
          refine j_goto 260 dX6_readMarked_281 (by decide) ?_
          have v160 := (FF.at hff154 rfl h5)
          have v161 := (FF.at hff154 rfl h6)
          have v162 := (FF.at hff154 rfl h8)
          have v163 := (FF.at hff154 rfl h9)
          have v164 := (FF.at hff154 rfl h23)
          have v165 := (FF.at hff154 rfl h29)
          have v166 := (FF.at hff154 rfl h31)
          have f167 := (FrI.gen hfr152 (nm1 (AD.nm hAD 1 rfl)) (AD.nl hAD 1 rfl rfl rfl) a1)
          have f168 := (FrI.gen hfr152 (nm1 (AD.nm hAD 10 rfl)) (AD.nl hAD 10 rfl rfl rfl) a10)
          have f169 := (FrI.gen hfr152 (nm1 (AD.nm hAD 13 rfl)) (AD.nl hAD 13 rfl rfl rfl) a13)
          have f170 := (FrI.gen hfr152 (nm1 (AD.nm hAD 14 rfl)) (AD.nl hAD 14 rfl rfl rfl) a14)
          have f171 := (FrI.gen hfr152 (nm1 (AD.nm hAD 15 rfl)) (AD.nl hAD 15 rfl rfl rfl) a15)
          have f172 := (FrI.gen hfr152 (nm1 (AD.nm hAD 16 rfl)) (AD.nl hAD 16 rfl rfl rfl) a16)
          have f173 := (FrI.gen hfr152 (nm1 (AD.nm hAD 17 rfl)) (AD.nl hAD 17 rfl rfl rfl) a17)
          have f174 := (FrI.gen hfr152 (nm1 (AD.nm hAD 18 rfl)) (AD.nl hAD 18 rfl rfl rfl) a18)
          have f175 := (FrI.gen hfr152 (nm1 (AD.nm hAD 19 rfl)) (AD.nl hAD 19 rfl rfl rfl) a19)
          exact ih _ _ _ _ _ _ _ _ _ _ _ (by omega) hm153 r159 ((FrI.mono hfr (by simp) rfl : FrI A [mm] [10, 11, 12, 13, 14, 15, 16, 17, 18, 19] w0 _).trans (FrI.sub hfr152 rfl)) ((FF.mono hff rfl : FF [5, 8, 9, 22, 24, 25, 26, 27, 28, 29, 30, 31] fs0 _).trans (FF.mono hff154 rfl)) v160 v161 v162 v163 v164 v165 v166 v143 v144 v145 v146 v147 v148 f167 f168 f149 f150 f169 f170 f171 f172 f173 f174 f175 hT141 hN142 hR133 hI134 hb135 (by omega) htb9 hop9 (va_up_self _ _ _) (Or.inl rfl)
