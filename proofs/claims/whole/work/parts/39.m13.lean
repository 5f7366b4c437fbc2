abbrev rX6_upper : Room := { frames := 1, cells := 0, slots := 0, locals := 24 }
theorem flX6_upper_199 : FL wsX6_upper RX6 199 6 43 := ⟨RX6, TX6, 45, rfl, by decide, by decide +kernel, by decide +kernel⟩
theorem flX6_upper_74 : FL wsX6_upper RX6 74 6 42 := ⟨RX6, TX6, 45, rfl, by decide, by decide +kernel, by decide +kernel⟩
set_option maxRecDepth 100000 in
theorem mX6_upper_0 : Cond.methodLink RX6 232 Lib.Math.max.name ∈ wsX6_upper := by decide +kernel
set_option maxRecDepth 100000 in
theorem mX6_upper_1 : Cond.static Lib.Math.max.name ∈ wsX6_upper := by decide +kernel
set_option maxRecDepth 100000 in
theorem mX6_upper_2 : Cond.initialized "java/lang/Math" ∈ wsX6_upper := by decide +kernel
set_option maxRecDepth 100000 in
theorem mX6_upper_3 : Cond.code Lib.Math.max.name Lib.Math.max.code 2 (some .int) ∈ wsX6_upper := by decide +kernel
set_option maxHeartbeats 4000000 in
set_option maxRecDepth 100000 in
theorem m_upper {an : Nat} {aT : Nat → Nat} {w : pW} {A : Nat → Nat} {mm : Nat} {fs : List Value} (hAD : AD A mm) (hmm : w mm = some (.inr (6, fs))) (hA : RA A fs) (h43 : fs[43]? = some (.int (nI an))) (a42 : w (A 42) = some (.inl (0, 400, .inl (fun j9 => nI (aT j9))))) (han : an ≤ 400) (hmt : 2 ≤ an → aT (an - 5) ≤ aT (an - 1)) : Ct yX6_upper wsX6_upper rX6_upper [.ref mm] w (fun o w9 => o = .inl (some (.int (nI (upM an aT)))) ∧ w9 = w) := by
  refine Ct.of (cc := cX6_upper) (own := RX6) (nm := "upper") (nL := 1) (ret := (some .int)) (by decide +kernel) rfl rfl rfl (Nat.le_of_ble_eq_true rfl) ?_
  refine j_lvE (lv' := [(0, .ref mm)]) rfl ?_
  refine j_aload_n dX6_upper_0 0 rfl ?_
  refine j_get (v := .int (nI an)) flX6_upper_199 hmm h43 dX6_upper_1 ?_
  refine j_iconst (v := nI 2) dX6_upper_4 (by decide) ?_
  refine j_icmp_geN 14 (by omega) (by omega) dX6_upper_5 (by decide) (fun c5 => ?_) (fun c5 => ?_)
  · skip
    refine j_aload_n dX6_upper_14 0 rfl ?_
    refine j_get (v := .ref (A 42)) flX6_upper_74 hmm (hA.2 42 rfl) dX6_upper_15 ?_
    refine j_aload_n dX6_upper_18 0 rfl ?_
    refine j_get (v := .int (nI an)) flX6_upper_199 hmm h43 dX6_upper_19 ?_
    refine j_iconst (v := nI 1) dX6_upper_22 (by decide) ?_
    refine j_isubN (by omega) dX6_upper_23 ?_
    refine j_ialdN (j := an - 1) a42 rfl (by omega) (by omega) dX6_upper_24 ?_
    refine j_aload_n dX6_upper_25 0 rfl ?_
    refine j_get (v := .ref (A 42)) flX6_upper_74 hmm (hA.2 42 rfl) dX6_upper_26 ?_
    refine j_iconst (v := nI 0) dX6_upper_29 (by decide) ?_
    refine j_aload_n dX6_upper_30 0 rfl ?_
    refine j_get (v := .int (nI an)) flX6_upper_199 hmm h43 dX6_upper_31 ?_
    refine j_iconst (v := nI 5) dX6_upper_34 (by decide) ?_
    refine j_isub dX6_upper_35 ?_
    refine j_max mX6_upper_0 mX6_upper_1 mX6_upper_2 mX6_upper_3 (Nat.le_of_ble_eq_true rfl) (Nat.le_of_ble_eq_true rfl) ⟨(show 0 ≤ 0 by omega), (show 0 ≤ 0 by omega)⟩ dX6_upper_36 ?_
    refine j_eqi (y := nI (an - 5)) (mx5 (by omega)) ?_
    refine j_ialdN (j := an - 5) a42 rfl (by omega) (by omega) dX6_upper_39 ?_
    have hmt2 := hmt (by omega)
    refine j_isubN (by omega) dX6_upper_40 ?_
    exact j_iret rfl ⟨by unfold upM; rw [if_neg (by omega)], rfl⟩ (show 0 ≤ 0 by omega) (show 0 ≤ 0 by omega) dX6_upper_41
  · skip
    refine j_sipush (v := nI 500) dX6_upper_8 (by decide) ?_
    refine j_goto 41 dX6_upper_11 (by decide) ?_
    exact j_iret rfl ⟨by unfold upM; rw [if_pos (by omega)], rfl⟩ (show 0 ≤ 0 by omega) (show 0 ≤ 0 by omega) dX6_upper_41
abbrev rX6_lower : Room := { frames := 1, cells := 0, slots := 0, locals := 24 }
theorem flX6_lower_199 : FL wsX6_lower RX6 199 6 43 := ⟨RX6, TX6, 45, rfl, by decide, by decide +kernel, by decide +kernel⟩
theorem flX6_lower_26 : FL wsX6_lower RX6 26 6 13 := ⟨RX6, TX6, 45, rfl, by decide, by decide +kernel, by decide +kernel⟩
theorem flX6_lower_71 : FL wsX6_lower RX6 71 6 41 := ⟨RX6, TX6, 45, rfl, by decide, by decide +kernel, by decide +kernel⟩
set_option maxRecDepth 100000 in
theorem mX6_lower_0 : Cond.methodLink RX6 232 Lib.Math.max.name ∈ wsX6_lower := by decide +kernel
set_option maxRecDepth 100000 in
theorem mX6_lower_1 : Cond.static Lib.Math.max.name ∈ wsX6_lower := by decide +kernel
set_option maxRecDepth 100000 in
theorem mX6_lower_2 : Cond.initialized "java/lang/Math" ∈ wsX6_lower := by decide +kernel
set_option maxRecDepth 100000 in
theorem mX6_lower_3 : Cond.code Lib.Math.max.name Lib.Math.max.code 2 (some .int) ∈ wsX6_lower := by decide +kernel
set_option maxHeartbeats 4000000 in
set_option maxRecDepth 100000 in
theorem m_lower {an : Nat} {ae xb : Nat → Nat} {w : pW} {A : Nat → Nat} {mm : Nat} {fs : List Value} (hAD : AD A mm) (hmm : w mm = some (.inr (6, fs))) (hA : RA A fs) (h43 : fs[43]? = some (.int (nI an))) (a13 : w (A 13) = some (.inl (0, 100, .inl (fun j9 => nI (xb j9))))) (a41 : w (A 41) = some (.inl (0, 400, .inl (fun j9 => nI (ae j9))))) (han : an ≤ 400) (hae : ∀ i, i < an → ae i < 100) (hbt : 2 ≤ an → xb (ae (an - 5)) ≤ xb (ae (an - 1))) : Ct yX6_lower wsX6_lower rX6_lower [.ref mm] w (fun o w9 => o = .inl (some (.int (nI (loM an ae xb)))) ∧ w9 = w) := by
  refine Ct.of (cc := cX6_lower) (own := RX6) (nm := "lower") (nL := 1) (ret := (some .int)) (by decide +kernel) rfl rfl rfl (Nat.le_of_ble_eq_true rfl) ?_
  refine j_lvE (lv' := [(0, .ref mm)]) rfl ?_
  refine j_aload_n dX6_lower_0 0 rfl ?_
  refine j_get (v := .int (nI an)) flX6_lower_199 hmm h43 dX6_lower_1 ?_
  refine j_iconst (v := nI 2) dX6_lower_4 (by decide) ?_
  refine j_icmp_geN 12 (by omega) (by omega) dX6_lower_5 (by decide) (fun c5 => ?_) (fun c5 => ?_)
  · skip
    refine j_aload_n dX6_lower_12 0 rfl ?_
    refine j_get (v := .ref (A 13)) flX6_lower_26 hmm (hA.2 13 rfl) dX6_lower_13 ?_
    refine j_aload_n dX6_lower_16 0 rfl ?_
    refine j_get (v := .ref (A 41)) flX6_lower_71 hmm (hA.2 41 rfl) dX6_lower_17 ?_
    refine j_aload_n dX6_lower_20 0 rfl ?_
    refine j_get (v := .int (nI an)) flX6_lower_199 hmm h43 dX6_lower_21 ?_
    refine j_iconst (v := nI 1) dX6_lower_24 (by decide) ?_
    refine j_isubN (by omega) dX6_lower_25 ?_
    have hq26 := hae (an - 1) (by omega)
    refine j_ialdN (j := an - 1) a41 rfl (by omega) (by omega) dX6_lower_26 ?_
    refine j_ialdN (j := ae (an - 1)) a13 rfl (by omega) (by omega) dX6_lower_27 ?_
    refine j_aload_n dX6_lower_28 0 rfl ?_
    refine j_get (v := .ref (A 13)) flX6_lower_26 hmm (hA.2 13 rfl) dX6_lower_29 ?_
    refine j_aload_n dX6_lower_32 0 rfl ?_
    refine j_get (v := .ref (A 41)) flX6_lower_71 hmm (hA.2 41 rfl) dX6_lower_33 ?_
    refine j_iconst (v := nI 0) dX6_lower_36 (by decide) ?_
    refine j_aload_n dX6_lower_37 0 rfl ?_
    refine j_get (v := .int (nI an)) flX6_lower_199 hmm h43 dX6_lower_38 ?_
    refine j_iconst (v := nI 5) dX6_lower_41 (by decide) ?_
    refine j_isub dX6_lower_42 ?_
    refine j_max mX6_lower_0 mX6_lower_1 mX6_lower_2 mX6_lower_3 (Nat.le_of_ble_eq_true rfl) (Nat.le_of_ble_eq_true rfl) ⟨(show 0 ≤ 0 by omega), (show 0 ≤ 0 by omega)⟩ dX6_lower_43 ?_
    refine j_eqi (y := nI (an - 5)) (mx5 (by omega)) ?_
    have hq46 := hae (an - 5) (by omega)
    refine j_ialdN (j := an - 5) a41 rfl (by omega) (by omega) dX6_lower_46 ?_
    refine j_ialdN (j := ae (an - 5)) a13 rfl (by omega) (by omega) dX6_lower_47 ?_
    have hbt2 := hbt (by omega)
    refine j_isubN (by omega) dX6_lower_48 ?_
    exact j_iret rfl ⟨by unfold loM; rw [if_neg (by omega)], rfl⟩ (show 0 ≤ 0 by omega) (show 0 ≤ 0 by omega) dX6_lower_49
  · skip
    refine j_iconst (v := nI 1) dX6_lower_8 (by decide) ?_
    refine j_goto 49 dX6_lower_9 (by decide) ?_
    exact j_iret rfl ⟨by unfold loM; rw [if_pos (by omega)], rfl⟩ (show 0 ≤ 0 by omega) (show 0 ≤ 0 by omega) dX6_lower_49
abbrev rX6_tempo : Room := { frames := 2, cells := 0, slots := 0, locals := 44 }
set_option maxHeartbeats 4000000 in
set_option maxRecDepth 100000 in
theorem l_tempo {bl : Bool} {an : Nat} {aT ae xb : Nat → Nat} {w w0 : pW} {fs fs0 : List Value} {A : Nat → Nat} {mm : Nat} (hmm : w mm = some (.inr (6, fs))) (hA : RA A fs) (hfr : FrI A [mm] [] w0 w) (hff : FF [0] fs0 fs) (h0 : fs[0]? = some (.int (nI 0))) (hlo : 0 < loM an ae xb) : ∀ (m9 : Nat) (x : Nat) (y : Nat), y < m9 → (x < 2 ^ 31) → (y < 2 ^ 31) → (Nat.gcd x y = Nat.gcd (upM an aT) (loM an ae xb)) → J ((cX6_tempo, RX6, 7, wsX6_tempo), (rX6_tempo, (some .int), "tempo", []), fun o w9 => o = .inl (some (.int (if bl then nI (loM an ae xb) / nI (Nat.gcd (upM an aT) (loM an ae xb)) else nI (upM an aT) / nI (Nat.gcd (upM an aT) (loM an ae xb))))) ∧ ∃ fs9 : List Value, MU A mm [] [0] w0 w9 fs0 fs9 ∧ fs9[0]? = some (.int (nI 0)), fun _ _ _ => True) 21 [(0, .ref mm), (1, .int (zb bl)), (2, .int (nI (upM an aT))), (3, .int (nI (loM an ae xb))), (4, .int (nI x)), (5, .int (nI y))] [] w 0 0 := by
  intro m9
  induction m9 with
  | zero => intro x y h9; omega
  | succ m9 ih =>
    intro x y hm9 hx hy hG
    refine j_iload dX6_tempo_21 5 rfl ?_
    refine j_if_eqN 44 (by omega) dX6_tempo_23 (by decide) (fun c23 => ?_) (fun c23 => ?_)
    · skip
      have hy0 : y = 0 := c23
      have hxG : x = Nat.gcd (upM an aT) (loM an ae xb) := by rw [← hG, hy0, Nat.gcd_zero_right]
      have hx0 : 0 < x := by rw [hxG]; exact Nat.gcd_pos_of_pos_right _ hlo
      refine j_iload_n dX6_tempo_44 1 rfl ?_
      cases bl with
      | false =>
        refine j_eqi (y := nI 0) rfl ?_
        refine j_if_eqN 55 (by decide) dX6_tempo_45 (by decide) (fun _ => ?_) (fun h9 => absurd rfl h9)
        refine j_iload_n dX6_tempo_55 2 rfl ?_
        refine j_iload dX6_tempo_56 4 rfl ?_
        refine j_idiv dX6_tempo_58 (fun q => absurd (nI_inj0 (by omega) q) (by omega)) ?_
        exact j_iret rfl ⟨by rw [hxG]; rfl, _, ⟨(FrI.mono hfr (by simp) rfl : FrI A [mm] [] w0 _), hmm, (FF.mono hff rfl : FF [0] fs0 _)⟩, h0⟩ (show 0 ≤ 0 by omega) (show 0 ≤ 0 by omega) dX6_tempo_59
      | true =>
        refine j_eqi (y := nI 1) rfl ?_
        refine j_if_eqN 55 (by decide) dX6_tempo_45 (by decide) (fun h9 => absurd h9 (by decide)) (fun _ => ?_)
        refine j_iload_n dX6_tempo_48 3 rfl ?_
        refine j_iload dX6_tempo_49 4 rfl ?_
        refine j_idiv dX6_tempo_51 (fun q => absurd (nI_inj0 (by omega) q) (by omega)) ?_
        refine j_goto 59 dX6_tempo_52 (by decide) ?_
        exact j_iret rfl ⟨by rw [hxG]; rfl, _, ⟨(FrI.mono hfr (by simp) rfl : FrI A [mm] [] w0 _), hmm, (FF.mono hff rfl : FF [0] fs0 _)⟩, h0⟩ (show 0 ≤ 0 by omega) (show 0 ≤ 0 by omega) dX6_tempo_59
    · skip
      refine j_iload dX6_tempo_26 4 rfl ?_
      refine j_iload dX6_tempo_28 5 rfl ?_
      refine j_irem dX6_tempo_30 (fun q => c23 (nI_inj0 (by omega) q)) ?_
      refine j_eqi (y := nI (x % y)) (pk_rem (by omega) (by omega) (by omega)) ?_
      refine j_istore (lv' := [(6, .int (nI (x % y))), (0, .ref mm), (1, .int (zb bl)), (2, .int (nI (upM an aT))), (3, .int (nI (loM an ae xb))), (4, .int (nI x)), (5, .int (nI y))]) dX6_tempo_31 (Nat.le_of_ble_eq_true rfl) rfl ?_
      refine j_iload dX6_tempo_33 6 rfl ?_
      refine j_istore (lv' := [(4, .int (nI y)), (6, .int (nI (x % y))), (0, .ref mm), (1, .int (zb bl)), (2, .int (nI (upM an aT))), (3, .int (nI (loM an ae xb))), (5, .int (nI y))]) dX6_tempo_35 (Nat.le_of_ble_eq_true rfl) rfl ?_
      refine j_iload dX6_tempo_37 1 rfl ?_
      refine j_istore (lv' := [(5, .int (nI (x % y))), (4, .int (nI y)), (6, .int (nI (x % y))), (0, .ref mm), (1, .int (zb bl)), (2, .int (nI (upM an aT))), (3, .int (nI (loM an ae xb)))]) dX6_tempo_39 (Nat.le_of_ble_eq_true rfl) rfl ?_
      refine j_goto 21 dX6_tempo_41 (by decide) ?_
      refine j_lv (lv' := [(0, .ref mm), (1, .int (zb bl)), (2, .int (nI (upM an aT))), (3, .int (nI (loM an ae xb))), (4, .int (nI y)), (5, .int (nI (x % y)))]) [3, 4, 5, 6, 1, 0] rfl ?_
      exact ih y (x % y) (Nat.lt_of_lt_of_le (Nat.mod_lt _ (by omega)) (by omega)) (by omega) (Nat.lt_trans (Nat.mod_lt _ (by omega)) (by omega)) (by rw [← hG, Nat.gcd_comm x y, Nat.gcd_rec y x, Nat.gcd_comm])
theorem fsX6_tempo_80 : FS wsX6_tempo RX6 80 6 0 false (.int) := ⟨RX6, TX6, 45, tyX6, rfl, by decide, by decide +kernel, by decide +kernel, tyX6_ok, nmX6, rfl, rfl, rfl⟩
set_option maxHeartbeats 4000000 in
set_option maxRecDepth 100000 in
theorem m_tempo {bl : Bool} {an : Nat} {aT ae xb : Nat → Nat} {w : pW} {A : Nat → Nat} {mm : Nat} {fs : List Value} (hAD : AD A mm) (hmm : w mm = some (.inr (6, fs))) (hA : RA A fs) (h43 : fs[43]? = some (.int (nI an))) (a13 : w (A 13) = some (.inl (0, 100, .inl (fun j9 => nI (xb j9))))) (a41 : w (A 41) = some (.inl (0, 400, .inl (fun j9 => nI (ae j9))))) (a42 : w (A 42) = some (.inl (0, 400, .inl (fun j9 => nI (aT j9))))) (han : an ≤ 400) (hmt : 2 ≤ an → aT (an - 5) ≤ aT (an - 1)) (hae : ∀ i, i < an → ae i < 100) (hbt : 2 ≤ an → xb (ae (an - 5)) ≤ xb (ae (an - 1))) (hlo : 0 < loM an ae xb) (hlo2 : loM an ae xb < 2 ^ 31) (hup2 : upM an aT < 2 ^ 31) : Ct yX6_tempo wsX6_tempo rX6_tempo [.ref mm, .int (zb bl)] w (fun o w9 => o = .inl (some (.int (if bl then nI (loM an ae xb) / nI (Nat.gcd (upM an aT) (loM an ae xb)) else nI (upM an aT) / nI (Nat.gcd (upM an aT) (loM an ae xb))))) ∧ ∃ fs9 : List Value, MU A mm [] [0] w w9 fs fs9 ∧ fs9[0]? = some (.int (nI 0))) := by
  refine Ct.of (cc := cX6_tempo) (own := RX6) (nm := "tempo") (nL := 7) (ret := (some .int)) (by decide +kernel) rfl rfl rfl (Nat.le_of_ble_eq_true rfl) ?_
  refine j_lvE (lv' := [(0, .ref mm), (1, .int (zb bl))]) rfl ?_
  refine j_aload_n dX6_tempo_0 0 rfl ?_
  refine j_iconst (v := nI 0) dX6_tempo_1 (by decide) ?_
  refine j_putM fsX6_tempo_80 hmm rfl rfl (RA.lt hA (by decide)) dX6_tempo_2 (fun w1 fs2 sfs2 hw1 => ?_)
  have f3 : w1 mm = some (.inr (6, fs2)) := up_at hw1
  have rfs2 : RA A fs2 := RA.set hA sfs2 rfl
  have v4 := st_at sfs2 hA (by decide : 0 < 45)
  refine j_aload_n dX6_tempo_5 0 rfl ?_
  have v5 := (st_ne sfs2 rfl h43)
  have f6 := (up_ne hw1 (AD.nm hAD 42 rfl) a42)
  refine j_callV (rm := rX6_upper) (As := []) (st := []) (b0 := mm) (ci := 6) (na := 0) (m_upper hAD f3 rfs2 v5 f6 han hmt) (by intro E w9 h9; first | exact nomatch h9.1 | (obtain ⟨_, h9, _⟩ := h9; exact nomatch h9) | (obtain ⟨_, _, _, h9, _⟩ := h9; exact nomatch h9)) gX6_tempo_X6_upper rfl rfl f3 (by decide +kernel) rfl ⟨Nat.le_of_ble_eq_true rfl, Nat.le_of_ble_eq_true rfl⟩ rfl (Nat.le_of_ble_eq_true rfl) dX6_tempo_6 ⟨(show 0 + 0 ≤ 0 by omega), (show 0 + 0 ≤ 0 by omega)⟩ (fun v7 w8 h9 => ?_)
  obtain ⟨h9, h10⟩ := h9
  cases h9
  subst w8
  refine j_after (st' := [.int (nI (upM an aT))]) (k' := 0) (n' := 0) rfl rfl rfl ?_
  refine j_istore_n (lv' := [(2, .int (nI (upM an aT))), (0, .ref mm), (1, .int (zb bl))]) dX6_tempo_9 (Nat.le_of_ble_eq_true rfl) rfl ?_
  refine j_aload_n dX6_tempo_10 1 rfl ?_
  have f11 := (up_ne hw1 (AD.nm hAD 13 rfl) a13)
  have f12 := (up_ne hw1 (AD.nm hAD 41 rfl) a41)
  refine j_callV (rm := rX6_lower) (As := []) (st := []) (b0 := mm) (ci := 6) (na := 0) (m_lower hAD f3 rfs2 v5 f11 f12 han hae hbt) (by intro E w9 h9; first | exact nomatch h9.1 | (obtain ⟨_, h9, _⟩ := h9; exact nomatch h9) | (obtain ⟨_, _, _, h9, _⟩ := h9; exact nomatch h9)) gX6_tempo_X6_lower rfl rfl f3 (by decide +kernel) rfl ⟨Nat.le_of_ble_eq_true rfl, Nat.le_of_ble_eq_true rfl⟩ rfl (Nat.le_of_ble_eq_true rfl) dX6_tempo_11 ⟨(show 0 + 0 ≤ 0 by omega), (show 0 + 0 ≤ 0 by omega)⟩ (fun v13 w14 h15 => ?_)
  obtain ⟨h15, h16⟩ := h15
  cases h15
  subst w14
  refine j_after (st' := [.int (nI (loM an ae xb))]) (k' := 0) (n' := 0) rfl rfl rfl ?_
  refine j_istore_n (lv' := [(3, .int (nI (loM an ae xb))), (2, .int (nI (upM an aT))), (0, .ref mm), (1, .int (zb bl))]) dX6_tempo_14 (Nat.le_of_ble_eq_true rfl) rfl ?_
  refine j_iload_n dX6_tempo_15 1 rfl ?_
  refine j_istore (lv' := [(4, .int (nI (upM an aT))), (3, .int (nI (loM an ae xb))), (2, .int (nI (upM an aT))), (0, .ref mm), (1, .int (zb bl))]) dX6_tempo_16 (Nat.le_of_ble_eq_true rfl) rfl ?_
  refine j_iload_n dX6_tempo_18 1 rfl ?_
  refine j_istore (lv' := [(5, .int (nI (loM an ae xb))), (4, .int (nI (upM an aT))), (3, .int (nI (loM an ae xb))), (2, .int (nI (upM an aT))), (0, .ref mm), (1, .int (zb bl))]) dX6_tempo_19 (Nat.le_of_ble_eq_true rfl) rfl ?_
  refine j_lv (lv' := [(0, .ref mm), (1, .int (zb bl)), (2, .int (nI (upM an aT))), (3, .int (nI (loM an ae xb))), (4, .int (nI (upM an aT))), (5, .int (nI (loM an ae xb)))]) [4, 5, 3, 2, 1, 0] rfl ?_
  exact l_tempo f3 rfs2 ((FrI.refl : FrI A [mm] [] w w).trans (FrI.ux hw1 (by simp))) ((FF.refl : FF [0] fs fs).trans (FF.set sfs2 rfl)) v4 hlo _ _ _ (Nat.lt_succ_self _) hup2 hlo2 rfl
abbrev rX6_timeOf : Room := { frames := 2, cells := 0, slots := 0, locals := 44 }
theorem flX6_timeOf_26 : FL wsX6_timeOf RX6 26 6 13 := ⟨RX6, TX6, 45, rfl, by decide, by decide +kernel, by decide +kernel⟩
theorem flX6_timeOf_71 : FL wsX6_timeOf RX6 71 6 41 := ⟨RX6, TX6, 45, rfl, by decide, by decide +kernel, by decide +kernel⟩
theorem flX6_timeOf_199 : FL wsX6_timeOf RX6 199 6 43 := ⟨RX6, TX6, 45, rfl, by decide, by decide +kernel, by decide +kernel⟩
theorem flX6_timeOf_74 : FL wsX6_timeOf RX6 74 6 42 := ⟨RX6, TX6, 45, rfl, by decide, by decide +kernel, by decide +kernel⟩
set_option maxHeartbeats 4000000 in
set_option maxRecDepth 100000 in
theorem m_timeOf {at0 : Nat} {an : Nat} {aT ae xb : Nat → Nat} {w : pW} {A : Nat → Nat} {mm : Nat} {fs : List Value} (hAD : AD A mm) (hmm : w mm = some (.inr (6, fs))) (hA : RA A fs) (h43 : fs[43]? = some (.int (nI an))) (a13 : w (A 13) = some (.inl (0, 100, .inl (fun j9 => nI (xb j9))))) (a41 : w (A 41) = some (.inl (0, 400, .inl (fun j9 => nI (ae j9))))) (a42 : w (A 42) = some (.inl (0, 400, .inl (fun j9 => nI (aT j9))))) (han : an ≤ 400) (hmt : 2 ≤ an → aT (an - 5) ≤ aT (an - 1)) (hae : ∀ i, i < an → ae i < 100) (hbt : 2 ≤ an → xb (ae (an - 5)) ≤ xb (ae (an - 1))) (hlo : 0 < loM an ae xb) (hlo2 : loM an ae xb < 2 ^ 31) (han0 : 0 < an) : Ct yX6_timeOf wsX6_timeOf rX6_timeOf [.ref mm, .int (nI at0)] w (fun o w9 => o = .inl (some (.long (tmV (aT (an - 1)) (upM an aT) (loM an ae xb) (xb (ae (an - 1))) at0))) ∧ w9 = w) := by
  refine Ct.of (cc := cX6_timeOf) (own := RX6) (nm := "timeOf") (nL := 6) (ret := (some .long)) (by decide +kernel) rfl rfl rfl (Nat.le_of_ble_eq_true rfl) ?_
  refine j_lvE (lv' := [(0, .ref mm), (1, .int (nI at0))]) rfl ?_
  refine j_aload_n dX6_timeOf_0 0 rfl ?_
  refine j_callV (rm := rX6_upper) (As := []) (st := []) (b0 := mm) (ci := 6) (na := 0) (m_upper hAD hmm hA h43 a42 han hmt) (by intro E w9 h9; first | exact nomatch h9.1 | (obtain ⟨_, h9, _⟩ := h9; exact nomatch h9) | (obtain ⟨_, _, _, h9, _⟩ := h9; exact nomatch h9)) gX6_timeOf_X6_upper rfl rfl hmm (by decide +kernel) rfl ⟨Nat.le_of_ble_eq_true rfl, Nat.le_of_ble_eq_true rfl⟩ rfl (Nat.le_of_ble_eq_true rfl) dX6_timeOf_1 ⟨(show 0 + 0 ≤ 0 by omega), (show 0 + 0 ≤ 0 by omega)⟩ (fun v1 w2 h3 => ?_)
  obtain ⟨h3, h4⟩ := h3
  cases h3
  subst w2
  refine j_after (st' := [.int (nI (upM an aT))]) (k' := 0) (n' := 0) rfl rfl rfl ?_
  refine j_i2l dX6_timeOf_4 rfl ?_
  refine j_iload_n dX6_timeOf_5 1 rfl ?_
  refine j_aload_n dX6_timeOf_6 0 rfl ?_
  refine j_get (v := .ref (A 13)) flX6_timeOf_26 hmm (hA.2 13 rfl) dX6_timeOf_7 ?_
  refine j_aload_n dX6_timeOf_10 0 rfl ?_
  refine j_get (v := .ref (A 41)) flX6_timeOf_71 hmm (hA.2 41 rfl) dX6_timeOf_11 ?_
  refine j_aload_n dX6_timeOf_14 0 rfl ?_
  refine j_get (v := .int (nI an)) flX6_timeOf_199 hmm h43 dX6_timeOf_15 ?_
  refine j_iconst (v := nI 1) dX6_timeOf_18 (by decide) ?_
  refine j_isubN (by omega) dX6_timeOf_19 ?_
  have hq20 := hae (an - 1) (by omega)
  refine j_ialdN (j := an - 1) a41 rfl (by omega) (by omega) dX6_timeOf_20 ?_
  refine j_ialdN (j := ae (an - 1)) a13 rfl (by omega) (by omega) dX6_timeOf_21 ?_
  refine j_isub dX6_timeOf_22 ?_
  refine j_i2l dX6_timeOf_23 rfl ?_
  refine j_lmul dX6_timeOf_24 ?_
  refine j_lstore_n (lv' := [(2, .long ((((nI (upM an aT))).toInt64) * ((((nI (at0)) - (nI (xb (ae (an - 1)))))).toInt64))), (0, .ref mm), (1, .int (nI at0))]) dX6_timeOf_25 (Nat.le_of_ble_eq_true rfl) rfl ?_
  refine j_lload_n dX6_timeOf_26 0 rfl ?_
  refine j_aload_n dX6_timeOf_27 1 rfl ?_
  refine j_callV (rm := rX6_lower) (As := []) (st := [.long ((((nI (upM an aT))).toInt64) * ((((nI (at0)) - (nI (xb (ae (an - 1)))))).toInt64))]) (b0 := mm) (ci := 6) (na := 0) (m_lower hAD hmm hA h43 a13 a41 han hae hbt) (by intro E w9 h9; first | exact nomatch h9.1 | (obtain ⟨_, h9, _⟩ := h9; exact nomatch h9) | (obtain ⟨_, _, _, h9, _⟩ := h9; exact nomatch h9)) gX6_timeOf_X6_lower rfl rfl hmm (by decide +kernel) rfl ⟨Nat.le_of_ble_eq_true rfl, Nat.le_of_ble_eq_true rfl⟩ rfl (Nat.le_of_ble_eq_true rfl) dX6_timeOf_28 ⟨(show 0 + 0 ≤ 0 by omega), (show 0 + 0 ≤ 0 by omega)⟩ (fun v5 w6 h7 => ?_)
  obtain ⟨h7, h8⟩ := h7
  cases h7
  subst w6
  refine j_after (st' := [.int (nI (loM an ae xb)), .long ((((nI (upM an aT))).toInt64) * ((((nI (at0)) - (nI (xb (ae (an - 1)))))).toInt64))]) (k' := 0) (n' := 0) rfl rfl rfl ?_
  refine j_i2l dX6_timeOf_31 rfl ?_
  refine j_ldiv dX6_timeOf_32 (lo_ne hlo hlo2) ?_
  refine j_lstore (lv' := [(4, .long (((((nI (upM an aT))).toInt64) * ((((nI (at0)) - (nI (xb (ae (an - 1)))))).toInt64)) / (((nI (loM an ae xb))).toInt64))), (2, .long ((((nI (upM an aT))).toInt64) * ((((nI (at0)) - (nI (xb (ae (an - 1)))))).toInt64))), (0, .ref mm), (1, .int (nI at0))]) dX6_timeOf_33 (Nat.le_of_ble_eq_true rfl) rfl ?_
  refine j_lload_n dX6_timeOf_35 1 rfl ?_
  refine j_aload_n dX6_timeOf_36 2 rfl ?_
  refine j_callV (rm := rX6_lower) (As := []) (st := [.long ((((nI (upM an aT))).toInt64) * ((((nI (at0)) - (nI (xb (ae (an - 1)))))).toInt64))]) (b0 := mm) (ci := 6) (na := 0) (m_lower hAD hmm hA h43 a13 a41 han hae hbt) (by intro E w9 h9; first | exact nomatch h9.1 | (obtain ⟨_, h9, _⟩ := h9; exact nomatch h9) | (obtain ⟨_, _, _, h9, _⟩ := h9; exact nomatch h9)) gX6_timeOf_X6_lower rfl rfl hmm (by decide +kernel) rfl ⟨Nat.le_of_ble_eq_true rfl, Nat.le_of_ble_eq_true rfl⟩ rfl (Nat.le_of_ble_eq_true rfl) dX6_timeOf_37 ⟨(show 0 + 0 ≤ 0 by omega), (show 0 + 0 ≤ 0 by omega)⟩ (fun v9 w10 h11 => ?_)
  obtain ⟨h11, h12⟩ := h11
  cases h11
  subst w10
  refine j_after (st' := [.int (nI (loM an ae xb)), .long ((((nI (upM an aT))).toInt64) * ((((nI (at0)) - (nI (xb (ae (an - 1)))))).toInt64))]) (k' := 0) (n' := 0) rfl rfl rfl ?_
  refine j_i2l dX6_timeOf_40 rfl ?_
  refine j_lrem dX6_timeOf_41 (lo_ne hlo hlo2) ?_
  refine j_lconst (v := 0) dX6_timeOf_42 (by decide) ?_
  refine j_lcmp dX6_timeOf_43 ?_
  refine j_if_ge 53 dX6_timeOf_44 (by decide) (fun c44 => ?_) (fun c44 => ?_)
  · skip
    refine j_aload_n dX6_timeOf_53 2 rfl ?_
    refine j_get (v := .ref (A 42)) flX6_timeOf_74 hmm (hA.2 42 rfl) dX6_timeOf_54 ?_
    refine j_aload_n dX6_timeOf_57 2 rfl ?_
    refine j_get (v := .int (nI an)) flX6_timeOf_199 hmm h43 dX6_timeOf_58 ?_
    refine j_iconst (v := nI 1) dX6_timeOf_61 (by decide) ?_
    refine j_isubN (by omega) dX6_timeOf_62 ?_
    refine j_ialdN (j := an - 1) a42 rfl (by omega) (by omega) dX6_timeOf_63 ?_
    refine j_i2l dX6_timeOf_64 rfl ?_
    refine j_lload dX6_timeOf_65 0 rfl ?_
    refine j_ladd dX6_timeOf_67 ?_
    exact j_lret rfl ⟨by unfold tmV; rw [flD_m (lo_pos hlo hlo2), if_neg (lgc_ge c44)], rfl⟩ (show 0 ≤ 0 by omega) (show 0 ≤ 0 by omega) dX6_timeOf_68
  · skip
    refine j_lload dX6_timeOf_47 0 rfl ?_
    refine j_lconst (v := 1) dX6_timeOf_49 (by decide) ?_
    refine j_lsub dX6_timeOf_50 ?_
    refine j_lstore (lv' := [(4, .long ((((((nI (upM an aT))).toInt64) * ((((nI (at0)) - (nI (xb (ae (an - 1)))))).toInt64)) / (((nI (loM an ae xb))).toInt64)) - 1)), (2, .long ((((nI (upM an aT))).toInt64) * ((((nI (at0)) - (nI (xb (ae (an - 1)))))).toInt64))), (0, .ref mm), (1, .int (nI at0))]) dX6_timeOf_51 (Nat.le_of_ble_eq_true rfl) rfl ?_
    refine j_aload_n dX6_timeOf_53 2 rfl ?_
    refine j_get (v := .ref (A 42)) flX6_timeOf_74 hmm (hA.2 42 rfl) dX6_timeOf_54 ?_
    refine j_aload_n dX6_timeOf_57 2 rfl ?_
    refine j_get (v := .int (nI an)) flX6_timeOf_199 hmm h43 dX6_timeOf_58 ?_
    refine j_iconst (v := nI 1) dX6_timeOf_61 (by decide) ?_
    refine j_isubN (by omega) dX6_timeOf_62 ?_
    refine j_ialdN (j := an - 1) a42 rfl (by omega) (by omega) dX6_timeOf_63 ?_
    refine j_i2l dX6_timeOf_64 rfl ?_
    refine j_lload dX6_timeOf_65 0 rfl ?_
    refine j_ladd dX6_timeOf_67 ?_
    exact j_lret rfl ⟨by unfold tmV; rw [flD_m (lo_pos hlo hlo2), if_pos (lgc_lt c44)], rfl⟩ (show 0 ≤ 0 by omega) (show 0 ≤ 0 by omega) dX6_timeOf_68
abbrev rX6_time : Room := { frames := 3, cells := 0, slots := 0, locals := 69 }
theorem fsX6_time_80 : FS wsX6_time RX6 80 6 0 false (.int) := ⟨RX6, TX6, 45, tyX6, rfl, by decide, by decide +kernel, by decide +kernel, tyX6_ok, nmX6, rfl, rfl, rfl⟩
set_option maxRecDepth 100000 in
theorem mX6_time_0 : Cond.constant RX6 241 (100000) ∈ wsX6_time := by decide +kernel
set_option maxHeartbeats 4000000 in
set_option maxRecDepth 100000 in
theorem m_timeBad {x : Int32} {w : pW} {A : Nat → Nat} {mm : Nat} {fs : List Value} (hAD : AD A mm) (hmm : w mm = some (.inr (6, fs))) (hA : RA A fs) (hb : x < 0 ∨ nI 100000 < x) : Ct yX6_time wsX6_time rX6_time [.ref mm, .int x] w (fun o w9 => o = .inl (some (.long 0)) ∧ ∃ fs9 : List Value, MU A mm [] [0] w w9 fs fs9 ∧ fs9[0]? = some (.int (nI 1))) := by
  refine Ct.of (cc := cX6_time) (own := RX6) (nm := "time") (nL := 2) (ret := (some .long)) (by decide +kernel) rfl rfl rfl (Nat.le_of_ble_eq_true rfl) ?_
  refine j_lvE (lv' := [(0, .ref mm), (1, .int x)]) rfl ?_
  refine j_aload_n dX6_time_0 0 rfl ?_
  refine j_iconst (v := nI 0) dX6_time_1 (by decide) ?_
  refine j_putM fsX6_time_80 hmm rfl rfl (RA.lt hA (by decide)) dX6_time_2 (fun w1 fs2 sfs2 hw1 => ?_)
  have f3 : w1 mm = some (.inr (6, fs2)) := up_at hw1
  have rfs2 : RA A fs2 := RA.set hA sfs2 rfl
  have v4 := st_at sfs2 hA (by decide : 0 < 45)
  refine j_iload_n dX6_time_5 1 rfl ?_
  refine j_if_lt 15 dX6_time_6 (by decide) (fun c6 => ?_) (fun c6 => ?_)
  · skip
    refine j_aload_n dX6_time_15 0 rfl ?_
    refine j_callV (rm := rX6_fail) (As := []) (st := []) (b0 := mm) (ci := 6) (na := 0) (m_fail hAD f3 rfs2) (by intro E w9 h9; first | exact nomatch h9.1 | (obtain ⟨_, h9, _⟩ := h9; exact nomatch h9) | (obtain ⟨_, _, _, h9, _⟩ := h9; exact nomatch h9)) gX6_time_X6_fail rfl rfl f3 (by decide +kernel) rfl ⟨Nat.le_of_ble_eq_true rfl, Nat.le_of_ble_eq_true rfl⟩ rfl (Nat.le_of_ble_eq_true rfl) dX6_time_16 ⟨(show 0 + 0 ≤ 0 by omega), (show 0 + 0 ≤ 0 by omega)⟩ (fun v11 w12 h13 => ?_)
    obtain ⟨h10, fs6, ⟨hfr7, hm8, hff9⟩, v5⟩ := h13
    cases h10
    refine j_after (st' := [.int (nI 0)]) (k' := 0) (n' := 0) rfl rfl rfl ?_
    have r14 : RA A fs6 := RA.ff rfs2 hff9 rfl
    refine j_i2l dX6_time_19 rfl ?_
    exact j_lret rfl ⟨rfl, _, ⟨(((FrI.refl : FrI A [mm] [] w w).trans (FrI.ux hw1 (by simp))).trans (FrI.sub hfr7 rfl)), hm8, (((FF.refl : FF [0] fs fs).trans (FF.set sfs2 rfl)).trans (FF.mono hff9 rfl))⟩, v5⟩ (show 0 ≤ 0 by omega) (show 0 ≤ 0 by omega) dX6_time_20
  · skip
    refine j_iload_n dX6_time_9 1 rfl ?_
    refine j_ldc (v := nI 100000) dX6_time_10 mX6_time_0 ?_
    refine j_icmp_le 21 dX6_time_12 (by decide) (fun c12 => ?_) (fun c12 => ?_)
    · skip
      exact absurd (bad2 hb c6 c12) id
    · skip
      refine j_aload_n dX6_time_15 0 rfl ?_
      refine j_callV (rm := rX6_fail) (As := []) (st := []) (b0 := mm) (ci := 6) (na := 0) (m_fail hAD f3 rfs2) (by intro E w9 h9; first | exact nomatch h9.1 | (obtain ⟨_, h9, _⟩ := h9; exact nomatch h9) | (obtain ⟨_, _, _, h9, _⟩ := h9; exact nomatch h9)) gX6_time_X6_fail rfl rfl f3 (by decide +kernel) rfl ⟨Nat.le_of_ble_eq_true rfl, Nat.le_of_ble_eq_true rfl⟩ rfl (Nat.le_of_ble_eq_true rfl) dX6_time_16 ⟨(show 0 + 0 ≤ 0 by omega), (show 0 + 0 ≤ 0 by omega)⟩ (fun v21 w22 h23 => ?_)
      obtain ⟨h20, fs16, ⟨hfr17, hm18, hff19⟩, v15⟩ := h23
      cases h20
      refine j_after (st' := [.int (nI 0)]) (k' := 0) (n' := 0) rfl rfl rfl ?_
      have r24 : RA A fs16 := RA.ff rfs2 hff19 rfl
      refine j_i2l dX6_time_19 rfl ?_
      exact j_lret rfl ⟨rfl, _, ⟨(((FrI.refl : FrI A [mm] [] w w).trans (FrI.ux hw1 (by simp))).trans (FrI.sub hfr17 rfl)), hm18, (((FF.refl : FF [0] fs fs).trans (FF.set sfs2 rfl)).trans (FF.mono hff19 rfl))⟩, v15⟩ (show 0 ≤ 0 by omega) (show 0 ≤ 0 by omega) dX6_time_20
theorem flX6_time_199 : FL wsX6_time RX6 199 6 43 := ⟨RX6, TX6, 45, rfl, by decide, by decide +kernel, by decide +kernel⟩
set_option maxRecDepth 100000 in
theorem mX6_time_1 : Cond.constantLong RX6 242 (-1) ∈ wsX6_time := by decide +kernel
set_option maxHeartbeats 4000000 in
set_option maxRecDepth 100000 in
theorem m_time0 {a : Nat} {w : pW} {A : Nat → Nat} {mm : Nat} {fs : List Value} (hAD : AD A mm) (hmm : w mm = some (.inr (6, fs))) (hA : RA A fs) (h43 : fs[43]? = some (.int (nI 0))) (ha : a ≤ 100000) : Ct yX6_time wsX6_time rX6_time [.ref mm, .int (nI a)] w (fun o w9 => o = .inl (some (.long (-1))) ∧ ∃ fs9 : List Value, MU A mm [] [0] w w9 fs fs9 ∧ fs9[0]? = some (.int (nI 0))) := by
  refine Ct.of (cc := cX6_time) (own := RX6) (nm := "time") (nL := 2) (ret := (some .long)) (by decide +kernel) rfl rfl rfl (Nat.le_of_ble_eq_true rfl) ?_
  refine j_lvE (lv' := [(0, .ref mm), (1, .int (nI a))]) rfl ?_
  refine j_aload_n dX6_time_0 0 rfl ?_
  refine j_iconst (v := nI 0) dX6_time_1 (by decide) ?_
  refine j_putM fsX6_time_80 hmm rfl rfl (RA.lt hA (by decide)) dX6_time_2 (fun w1 fs2 sfs2 hw1 => ?_)
  have f3 : w1 mm = some (.inr (6, fs2)) := up_at hw1
  have rfs2 : RA A fs2 := RA.set hA sfs2 rfl
  have v4 := st_at sfs2 hA (by decide : 0 < 45)
  refine j_iload_n dX6_time_5 1 rfl ?_
  refine j_if_ltN (by omega) dX6_time_6 (by decide : _ = ((15 : Nat) : Int)) ?_
  refine j_iload_n dX6_time_9 1 rfl ?_
  refine j_ldc (v := nI 100000) dX6_time_10 mX6_time_0 ?_
  refine j_icmp_leN 21 (by omega) (by omega) dX6_time_12 (by decide) (fun c12 => ?_) (fun c12 => ?_)
  · skip
    refine j_aload_n dX6_time_21 0 rfl ?_
    have v5 := (st_ne sfs2 rfl h43)
    refine j_get (v := .int (nI 0)) flX6_time_199 f3 v5 dX6_time_22 ?_
    refine j_if_neN 34 (by decide) dX6_time_25 (by decide) (fun h9 => absurd rfl h9) (fun _ => ?_)
    refine j_ldc2 (v := (-1)) dX6_time_28 mX6_time_1 ?_
    refine j_goto 39 dX6_time_31 (by decide) ?_
    exact j_lret rfl ⟨rfl, _, ⟨((FrI.refl : FrI A [mm] [] w w).trans (FrI.ux hw1 (by simp))), f3, ((FF.refl : FF [0] fs fs).trans (FF.set sfs2 rfl))⟩, v4⟩ (show 0 ≤ 0 by omega) (show 0 ≤ 0 by omega) dX6_time_39
  · skip
    exfalso; omega
set_option maxHeartbeats 4000000 in
set_option maxRecDepth 100000 in
theorem m_time {at0 : Nat} {an : Nat} {aT ae xb : Nat → Nat} {w : pW} {A : Nat → Nat} {mm : Nat} {fs : List Value} (hAD : AD A mm) (hmm : w mm = some (.inr (6, fs))) (hA : RA A fs) (h43 : fs[43]? = some (.int (nI an))) (a13 : w (A 13) = some (.inl (0, 100, .inl (fun j9 => nI (xb j9))))) (a41 : w (A 41) = some (.inl (0, 400, .inl (fun j9 => nI (ae j9))))) (a42 : w (A 42) = some (.inl (0, 400, .inl (fun j9 => nI (aT j9))))) (han : an ≤ 400) (hmt : 2 ≤ an → aT (an - 5) ≤ aT (an - 1)) (hae : ∀ i, i < an → ae i < 100) (hbt : 2 ≤ an → xb (ae (an - 5)) ≤ xb (ae (an - 1))) (hlo : 0 < loM an ae xb) (hlo2 : loM an ae xb < 2 ^ 31) (han0 : 0 < an) (ha : at0 ≤ 100000) : Ct yX6_time wsX6_time rX6_time [.ref mm, .int (nI at0)] w (fun o w9 => o = .inl (some (.long (tmV (aT (an - 1)) (upM an aT) (loM an ae xb) (xb (ae (an - 1))) at0))) ∧ ∃ fs9 : List Value, MU A mm [] [0] w w9 fs fs9 ∧ fs9[0]? = some (.int (nI 0))) := by
  refine Ct.of (cc := cX6_time) (own := RX6) (nm := "time") (nL := 2) (ret := (some .long)) (by decide +kernel) rfl rfl rfl (Nat.le_of_ble_eq_true rfl) ?_
  refine j_lvE (lv' := [(0, .ref mm), (1, .int (nI at0))]) rfl ?_
  refine j_aload_n dX6_time_0 0 rfl ?_
  refine j_iconst (v := nI 0) dX6_time_1 (by decide) ?_
  refine j_putM fsX6_time_80 hmm rfl rfl (RA.lt hA (by decide)) dX6_time_2 (fun w1 fs2 sfs2 hw1 => ?_)
  have f3 : w1 mm = some (.inr (6, fs2)) := up_at hw1
  have rfs2 : RA A fs2 := RA.set hA sfs2 rfl
  have v4 := st_at sfs2 hA (by decide : 0 < 45)
  refine j_iload_n dX6_time_5 1 rfl ?_
  refine j_if_ltN (by omega) dX6_time_6 (by decide : _ = ((15 : Nat) : Int)) ?_
  refine j_iload_n dX6_time_9 1 rfl ?_
  refine j_ldc (v := nI 100000) dX6_time_10 mX6_time_0 ?_
  refine j_icmp_leN 21 (by omega) (by omega) dX6_time_12 (by decide) (fun c12 => ?_) (fun c12 => ?_)
  · skip
    refine j_aload_n dX6_time_21 0 rfl ?_
    have v5 := (st_ne sfs2 rfl h43)
    refine j_get (v := .int (nI an)) flX6_time_199 f3 v5 dX6_time_22 ?_
    refine j_if_neN 34 (by omega) dX6_time_25 (by decide) (fun c25 => ?_) (fun c25 => ?_)
    · skip
      refine j_aload_n dX6_time_34 0 rfl ?_
      refine j_iload_n dX6_time_35 1 rfl ?_
      have f6 := (up_ne hw1 (AD.nm hAD 13 rfl) a13)
      have f7 := (up_ne hw1 (AD.nm hAD 41 rfl) a41)
      have f8 := (up_ne hw1 (AD.nm hAD 42 rfl) a42)
      refine j_callV (rm := rX6_timeOf) (As := [.int (nI at0)]) (st := []) (b0 := mm) (ci := 6) (na := 1) (m_timeOf (at0 := at0) hAD f3 rfs2 v5 f6 f7 f8 han hmt hae hbt hlo hlo2 (by omega)) (by intro E w9 h9; first | exact nomatch h9.1 | (obtain ⟨_, h9, _⟩ := h9; exact nomatch h9) | (obtain ⟨_, _, _, h9, _⟩ := h9; exact nomatch h9)) gX6_time_X6_timeOf rfl rfl f3 (by decide +kernel) rfl ⟨Nat.le_of_ble_eq_true rfl, Nat.le_of_ble_eq_true rfl⟩ rfl (Nat.le_of_ble_eq_true rfl) dX6_time_36 ⟨(show 0 + 0 ≤ 0 by omega), (show 0 + 0 ≤ 0 by omega)⟩ (fun v9 w10 h11 => ?_)
      obtain ⟨h11, h12⟩ := h11
      cases h11
      subst w10
      refine j_after (st' := [.long (tmV (aT (an - 1)) (upM an aT) (loM an ae xb) (xb (ae (an - 1))) at0)]) (k' := 0) (n' := 0) rfl rfl rfl ?_
      exact j_lret rfl ⟨rfl, _, ⟨((FrI.refl : FrI A [mm] [] w w).trans (FrI.ux hw1 (by simp))), f3, ((FF.refl : FF [0] fs fs).trans (FF.set sfs2 rfl))⟩, v4⟩ (show 0 ≤ 0 by omega) (show 0 ≤ 0 by omega) dX6_time_39
    · skip
      exfalso; omega
  · skip
    exfalso; omega
abbrev rX6_turnsAt : Room := { frames := 3, cells := 0, slots := 0, locals := 69 }
theorem fsX6_turnsAt_80 : FS wsX6_turnsAt RX6 80 6 0 false (.int) := ⟨RX6, TX6, 45, tyX6, rfl, by decide, by decide +kernel, by decide +kernel, tyX6_ok, nmX6, rfl, rfl, rfl⟩
theorem flX6_turnsAt_199 : FL wsX6_turnsAt RX6 199 6 43 := ⟨RX6, TX6, 45, rfl, by decide, by decide +kernel, by decide +kernel⟩
set_option maxRecDepth 100000 in
theorem mX6_turnsAt_0 : Cond.constantLong RX6 242 (-1) ∈ wsX6_turnsAt := by decide +kernel
set_option maxHeartbeats 4000000 in
set_option maxRecDepth 100000 in
theorem m_turns0 {w : pW} {A : Nat → Nat} {mm : Nat} {fs : List Value} (hAD : AD A mm) (hmm : w mm = some (.inr (6, fs))) (hA : RA A fs) (h43 : fs[43]? = some (.int (nI 0))) : Ct yX6_turnsAt wsX6_turnsAt rX6_turnsAt [.ref mm] w (fun o w9 => o = .inl (some (.long (-1))) ∧ ∃ fs9 : List Value, MU A mm [] [0] w w9 fs fs9 ∧ fs9[0]? = some (.int (nI 0))) := by
  refine Ct.of (cc := cX6_turnsAt) (own := RX6) (nm := "turnsAt") (nL := 2) (ret := (some .long)) (by decide +kernel) rfl rfl rfl (Nat.le_of_ble_eq_true rfl) ?_
  refine j_lvE (lv' := [(0, .ref mm)]) rfl ?_
  refine j_aload_n dX6_turnsAt_0 0 rfl ?_
  refine j_iconst (v := nI 0) dX6_turnsAt_1 (by decide) ?_
  refine j_putM fsX6_turnsAt_80 hmm rfl rfl (RA.lt hA (by decide)) dX6_turnsAt_2 (fun w1 fs2 sfs2 hw1 => ?_)
  have f3 : w1 mm = some (.inr (6, fs2)) := up_at hw1
  have rfs2 : RA A fs2 := RA.set hA sfs2 rfl
  have v4 := st_at sfs2 hA (by decide : 0 < 45)
  refine j_aload_n dX6_turnsAt_5 0 rfl ?_
  have v5 := (st_ne sfs2 rfl h43)
  refine j_get (v := .int (nI 0)) flX6_turnsAt_199 f3 v5 dX6_turnsAt_6 ?_
  refine j_if_eqN 35 (by decide) dX6_turnsAt_9 (by decide) (fun _ => ?_) (fun h9 => absurd rfl h9)
  refine j_ldc2 (v := (-1)) dX6_turnsAt_35 mX6_turnsAt_0 ?_
  exact j_lret rfl ⟨rfl, _, ⟨((FrI.refl : FrI A [mm] [] w w).trans (FrI.ux hw1 (by simp))), f3, ((FF.refl : FF [0] fs fs).trans (FF.set sfs2 rfl))⟩, v4⟩ (show 0 ≤ 0 by omega) (show 0 ≤ 0 by omega) dX6_turnsAt_38
theorem flX6_turnsAt_35 : FL wsX6_turnsAt RX6 35 6 16 := ⟨RX6, TX6, 45, rfl, by decide, by decide +kernel, by decide +kernel⟩
theorem flX6_turnsAt_54 : FL wsX6_turnsAt RX6 54 6 36 := ⟨RX6, TX6, 45, rfl, by decide, by decide +kernel, by decide +kernel⟩
theorem flX6_turnsAt_196 : FL wsX6_turnsAt RX6 196 6 34 := ⟨RX6, TX6, 45, rfl, by decide, by decide +kernel, by decide +kernel⟩
theorem flX6_turnsAt_150 : FL wsX6_turnsAt RX6 150 6 7 := ⟨RX6, TX6, 45, rfl, by decide, by decide +kernel, by decide +kernel⟩
set_option maxHeartbeats 4000000 in
set_option maxRecDepth 100000 in
theorem m_turnsE {an nt pg : Nat} {xg pe : Nat → Nat} {w : pW} {A : Nat → Nat} {mm : Nat} {fs : List Value} (hAD : AD A mm) (hmm : w mm = some (.inr (6, fs))) (hA : RA A fs) (h43 : fs[43]? = some (.int (nI an))) (h34 : fs[34]? = some (.int (nI nt))) (h7 : fs[7]? = some (.int (nI pg))) (a16 : w (A 16) = some (.inl (0, 100, .inl (fun j9 => nI (xg j9))))) (a36 : w (A 36) = some (.inl (0, 401, .inl (fun j9 => nI (pe j9))))) (han : an ≤ 400) (hnt : nt ≤ 400) (hpe : pe nt < 100) (hpg : 1 ≤ pg ∧ pg < 1000) (hq : xg (pe nt) = pg - 1) : Ct yX6_turnsAt wsX6_turnsAt rX6_turnsAt [.ref mm] w (fun o w9 => o = .inl (some (.long (-1))) ∧ ∃ fs9 : List Value, MU A mm [] [0] w w9 fs fs9 ∧ fs9[0]? = some (.int (nI 0))) := by
  refine Ct.of (cc := cX6_turnsAt) (own := RX6) (nm := "turnsAt") (nL := 2) (ret := (some .long)) (by decide +kernel) rfl rfl rfl (Nat.le_of_ble_eq_true rfl) ?_
  refine j_lvE (lv' := [(0, .ref mm)]) rfl ?_
  refine j_aload_n dX6_turnsAt_0 0 rfl ?_
  refine j_iconst (v := nI 0) dX6_turnsAt_1 (by decide) ?_
  refine j_putM fsX6_turnsAt_80 hmm rfl rfl (RA.lt hA (by decide)) dX6_turnsAt_2 (fun w1 fs2 sfs2 hw1 => ?_)
  have f3 : w1 mm = some (.inr (6, fs2)) := up_at hw1
  have rfs2 : RA A fs2 := RA.set hA sfs2 rfl
  have v4 := st_at sfs2 hA (by decide : 0 < 45)
  refine j_aload_n dX6_turnsAt_5 0 rfl ?_
  have v5 := (st_ne sfs2 rfl h43)
  refine j_get (v := .int (nI an)) flX6_turnsAt_199 f3 v5 dX6_turnsAt_6 ?_
  refine j_if_eqN 35 (by omega) dX6_turnsAt_9 (by decide) (fun c9 => ?_) (fun c9 => ?_)
  · skip
    refine j_ldc2 (v := (-1)) dX6_turnsAt_35 mX6_turnsAt_0 ?_
    exact j_lret rfl ⟨rfl, _, ⟨((FrI.refl : FrI A [mm] [] w w).trans (FrI.ux hw1 (by simp))), f3, ((FF.refl : FF [0] fs fs).trans (FF.set sfs2 rfl))⟩, v4⟩ (show 0 ≤ 0 by omega) (show 0 ≤ 0 by omega) dX6_turnsAt_38
  · skip
    refine j_aload_n dX6_turnsAt_12 0 rfl ?_
    refine j_get (v := .ref (A 16)) flX6_turnsAt_35 f3 (rfs2.2 16 rfl) dX6_turnsAt_13 ?_
    refine j_aload_n dX6_turnsAt_16 0 rfl ?_
    refine j_get (v := .ref (A 36)) flX6_turnsAt_54 f3 (rfs2.2 36 rfl) dX6_turnsAt_17 ?_
    refine j_aload_n dX6_turnsAt_20 0 rfl ?_
    have v6 := (st_ne sfs2 rfl h34)
    refine j_get (v := .int (nI nt)) flX6_turnsAt_196 f3 v6 dX6_turnsAt_21 ?_
    have f7 := (up_ne hw1 (AD.nm hAD 36 rfl) a36)
    refine j_ialdN (j := nt) f7 rfl (by omega) (by omega) dX6_turnsAt_24 ?_
    have f8 := (up_ne hw1 (AD.nm hAD 16 rfl) a16)
    refine j_ialdN (j := pe nt) f8 rfl (by omega) (by omega) dX6_turnsAt_25 ?_
    refine j_aload_n dX6_turnsAt_26 0 rfl ?_
    have v9 := (st_ne sfs2 rfl h7)
    refine j_get (v := .int (nI pg)) flX6_turnsAt_150 f3 v9 dX6_turnsAt_27 ?_
    refine j_iconst (v := nI 1) dX6_turnsAt_30 (by decide) ?_
    refine j_isubN (by omega) dX6_turnsAt_31 ?_
    refine j_icmp_neN 39 (by omega) (by omega) dX6_turnsAt_32 (by decide) (fun c32 => ?_) (fun c32 => ?_)
    · skip
      exfalso; omega
    · skip
      refine j_ldc2 (v := (-1)) dX6_turnsAt_35 mX6_turnsAt_0 ?_
      exact j_lret rfl ⟨rfl, _, ⟨((FrI.refl : FrI A [mm] [] w w).trans (FrI.ux hw1 (by simp))), f3, ((FF.refl : FF [0] fs fs).trans (FF.set sfs2 rfl))⟩, v4⟩ (show 0 ≤ 0 by omega) (show 0 ≤ 0 by omega) dX6_turnsAt_38
theorem flX6_turnsAt_26 : FL wsX6_turnsAt RX6 26 6 13 := ⟨RX6, TX6, 45, rfl, by decide, by decide +kernel, by decide +kernel⟩
theorem flX6_turnsAt_29 : FL wsX6_turnsAt RX6 29 6 14 := ⟨RX6, TX6, 45, rfl, by decide, by decide +kernel, by decide +kernel⟩
theorem flX6_turnsAt_77 : FL wsX6_turnsAt RX6 77 6 44 := ⟨RX6, TX6, 45, rfl, by decide, by decide +kernel, by decide +kernel⟩
set_option maxHeartbeats 4000000 in
set_option maxRecDepth 100000 in
theorem l_turns {xs xg pe : Nat → Nat} {nt ld pg ev z : Nat} {an : Nat} {aT ae xb : Nat → Nat} {w w0 : pW} {fs fs0 : List Value} {A : Nat → Nat} {mm : Nat} (hAD : AD A mm) (hmm : w mm = some (.inr (6, fs))) (hA : RA A fs) (hfr : FrI A [mm] [] w0 w) (hff : FF [0] fs0 fs) (h0 : fs[0]? = some (.int (nI 0))) (h43 : fs[43]? = some (.int (nI an))) (h34 : fs[34]? = some (.int (nI nt))) (h44 : fs[44]? = some (.int (nI ld))) (a13 : w (A 13) = some (.inl (0, 100, .inl (fun j9 => nI (xb j9))))) (a41 : w (A 41) = some (.inl (0, 400, .inl (fun j9 => nI (ae j9))))) (a42 : w (A 42) = some (.inl (0, 400, .inl (fun j9 => nI (aT j9))))) (a14 : w (A 14) = some (.inl (0, 100, .inl (fun j9 => nI (xs j9))))) (a16 : w (A 16) = some (.inl (0, 100, .inl (fun j9 => nI (xg j9))))) (a36 : w (A 36) = some (.inl (0, 401, .inl (fun j9 => nI (pe j9))))) (han : an ≤ 400) (hmt : 2 ≤ an → aT (an - 5) ≤ aT (an - 1)) (hae : ∀ i, i < an → ae i < 100) (hbt : 2 ≤ an → xb (ae (an - 5)) ≤ xb (ae (an - 1))) (hlo : 0 < loM an ae xb) (hlo2 : loM an ae xb < 2 ^ 31) (han0 : 0 < an) (hnt : nt ≤ 400) (hz : pe nt < z ∧ z < ev ∧ ev ≤ 100) (hz1 : xg z ≠ xg (pe nt)) (hz2 : ∀ j, pe nt < j → j < z → xg j = xg (pe nt)) (hxg : ∀ j, j < ev → xg j < 2 ^ 31) : ∀ (m9 : Nat) (e : Nat), z - e < m9 → (pe nt ≤ e ∧ e < z) → J ((cX6_turnsAt, RX6, 2, wsX6_turnsAt), (rX6_turnsAt, (some .long), "turnsAt", []), fun o w9 => o = .inl (some (.long (tmV (aT (an - 1)) (upM an aT) (loM an ae xb) (xb (ae (an - 1))) (xb (z - 1) + xs (z - 1)) - (nI ld).toInt64))) ∧ ∃ fs9 : List Value, MU A mm [] [0] w0 w9 fs0 fs9 ∧ fs9[0]? = some (.int (nI 0)), fun _ _ _ => True) 49 [(0, .ref mm), (1, .int (nI e))] [] w 0 0 := by
  intro m9
  induction m9 with
  | zero => intro e h9; omega
  | succ m9 ih =>
    intro e hm9 he
    refine j_aload_n dX6_turnsAt_49 0 rfl ?_
    refine j_get (v := .ref (A 16)) flX6_turnsAt_35 hmm (hA.2 16 rfl) dX6_turnsAt_50 ?_
    refine j_iload_n dX6_turnsAt_53 1 rfl ?_
    refine j_iconst (v := nI 1) dX6_turnsAt_54 (by decide) ?_
    refine j_iaddN dX6_turnsAt_55 ?_
    refine j_ialdN (j := e + 1) a16 rfl (by omega) (by omega) dX6_turnsAt_56 ?_
    refine j_aload_n dX6_turnsAt_57 0 rfl ?_
    refine j_get (v := .ref (A 16)) flX6_turnsAt_35 hmm (hA.2 16 rfl) dX6_turnsAt_58 ?_
    refine j_aload_n dX6_turnsAt_61 0 rfl ?_
    refine j_get (v := .ref (A 36)) flX6_turnsAt_54 hmm (hA.2 36 rfl) dX6_turnsAt_62 ?_
    refine j_aload_n dX6_turnsAt_65 0 rfl ?_
    refine j_get (v := .int (nI nt)) flX6_turnsAt_196 hmm h34 dX6_turnsAt_66 ?_
    refine j_ialdN (j := nt) a36 rfl (by omega) (by omega) dX6_turnsAt_69 ?_
    refine j_ialdN (j := pe nt) a16 rfl (by omega) (by omega) dX6_turnsAt_70 ?_
    have hg1 := hxg (e + 1) (by omega)
    have hg2 := hxg (pe nt) (by omega)
    refine j_icmp_neN 80 (by omega) (by omega) dX6_turnsAt_71 (by decide) (fun c71 => ?_) (fun c71 => ?_)
    · skip
      have hez : e + 1 = z := Decidable.byContradiction fun q => c71 (hz2 (e + 1) (by omega) (by omega))
      have hez2 : e = z - 1 := by omega
      subst hez2
      refine j_aload_n dX6_turnsAt_80 0 rfl ?_
      refine j_aload_n dX6_turnsAt_81 0 rfl ?_
      refine j_get (v := .ref (A 13)) flX6_turnsAt_26 hmm (hA.2 13 rfl) dX6_turnsAt_82 ?_
      refine j_iload_n dX6_turnsAt_85 1 rfl ?_
      refine j_ialdN (j := z - 1) a13 rfl (by omega) (by omega) dX6_turnsAt_86 ?_
      refine j_aload_n dX6_turnsAt_87 0 rfl ?_
      refine j_get (v := .ref (A 14)) flX6_turnsAt_29 hmm (hA.2 14 rfl) dX6_turnsAt_88 ?_
      refine j_iload_n dX6_turnsAt_91 1 rfl ?_
      refine j_ialdN (j := z - 1) a14 rfl (by omega) (by omega) dX6_turnsAt_92 ?_
      refine j_iaddN dX6_turnsAt_93 ?_
      refine j_callV (rm := rX6_timeOf) (As := [.int (nI ((xb (z - 1)) + (xs (z - 1))))]) (st := []) (b0 := mm) (ci := 6) (na := 1) (m_timeOf (at0 := (xb (z - 1)) + (xs (z - 1))) hAD hmm hA h43 a13 a41 a42 han hmt hae hbt hlo hlo2 (by omega)) (by intro E w9 h9; first | exact nomatch h9.1 | (obtain ⟨_, h9, _⟩ := h9; exact nomatch h9) | (obtain ⟨_, _, _, h9, _⟩ := h9; exact nomatch h9)) gX6_turnsAt_X6_timeOf rfl rfl hmm (by decide +kernel) rfl ⟨Nat.le_of_ble_eq_true rfl, Nat.le_of_ble_eq_true rfl⟩ rfl (Nat.le_of_ble_eq_true rfl) dX6_turnsAt_94 ⟨(show 0 + 0 ≤ 0 by omega), (show 0 + 0 ≤ 0 by omega)⟩ (fun v1 w2 h3 => ?_)
      obtain ⟨h3, h4⟩ := h3
      cases h3
      subst w2
      refine j_after (st' := [.long (tmV (aT (an - 1)) (upM an aT) (loM an ae xb) (xb (ae (an - 1))) ((xb (z - 1)) + (xs (z - 1))))]) (k' := 0) (n' := 0) rfl rfl rfl ?_
      refine j_aload_n dX6_turnsAt_97 0 rfl ?_
      refine j_get (v := .int (nI ld)) flX6_turnsAt_77 hmm h44 dX6_turnsAt_98 ?_
      refine j_i2l dX6_turnsAt_101 rfl ?_
      refine j_lsub dX6_turnsAt_102 ?_
      exact j_lret rfl ⟨rfl, _, ⟨(FrI.mono hfr (by simp) rfl : FrI A [mm] [] w0 _), hmm, (FF.mono hff rfl : FF [0] fs0 _)⟩, h0⟩ (show 0 ≤ 0 by omega) (show 0 ≤ 0 by omega) dX6_turnsAt_103
    · skip
      refine j_iinc (q := 1) (v := nI (e + 1)) (lv' := [(1, .int (nI (e + 1))), (0, .ref mm)]) dX6_turnsAt_74 rfl (by first | exact nI_1 _ | exact nI_add _ _) (Nat.le_of_ble_eq_true rfl) rfl ?_
      refine j_goto 49 dX6_turnsAt_77 (by decide) ?_
      refine j_lv (lv' := [(0, .ref mm), (1, .int (nI (e + 1)))]) [1, 0] rfl ?_
      have hne : e + 1 ≠ z := fun q => hz1 (by rw [← q]; exact c71)
      exact ih (e + 1) (by omega) (by omega)
set_option maxHeartbeats 4000000 in
set_option maxRecDepth 100000 in
theorem m_turns {xs xg pe : Nat → Nat} {nt ld pg ev z : Nat} {an : Nat} {aT ae xb : Nat → Nat} {w : pW} {A : Nat → Nat} {mm : Nat} {fs : List Value} (hAD : AD A mm) (hmm : w mm = some (.inr (6, fs))) (hA : RA A fs) (h43 : fs[43]? = some (.int (nI an))) (h34 : fs[34]? = some (.int (nI nt))) (h7 : fs[7]? = some (.int (nI pg))) (h44 : fs[44]? = some (.int (nI ld))) (a13 : w (A 13) = some (.inl (0, 100, .inl (fun j9 => nI (xb j9))))) (a41 : w (A 41) = some (.inl (0, 400, .inl (fun j9 => nI (ae j9))))) (a42 : w (A 42) = some (.inl (0, 400, .inl (fun j9 => nI (aT j9))))) (a14 : w (A 14) = some (.inl (0, 100, .inl (fun j9 => nI (xs j9))))) (a16 : w (A 16) = some (.inl (0, 100, .inl (fun j9 => nI (xg j9))))) (a36 : w (A 36) = some (.inl (0, 401, .inl (fun j9 => nI (pe j9))))) (han : an ≤ 400) (hmt : 2 ≤ an → aT (an - 5) ≤ aT (an - 1)) (hae : ∀ i, i < an → ae i < 100) (hbt : 2 ≤ an → xb (ae (an - 5)) ≤ xb (ae (an - 1))) (hlo : 0 < loM an ae xb) (hlo2 : loM an ae xb < 2 ^ 31) (han0 : 0 < an) (hnt : nt ≤ 400) (hz : pe nt < z ∧ z < ev ∧ ev ≤ 100) (hz1 : xg z ≠ xg (pe nt)) (hz2 : ∀ j, pe nt < j → j < z → xg j = xg (pe nt)) (hxg : ∀ j, j < ev → xg j < 2 ^ 31) (hpg : 1 ≤ pg ∧ pg < 1000) (hq : xg (pe nt) ≠ pg - 1) : Ct yX6_turnsAt wsX6_turnsAt rX6_turnsAt [.ref mm] w (fun o w9 => o = .inl (some (.long (tmV (aT (an - 1)) (upM an aT) (loM an ae xb) (xb (ae (an - 1))) (xb (z - 1) + xs (z - 1)) - (nI ld).toInt64))) ∧ ∃ fs9 : List Value, MU A mm [] [0] w w9 fs fs9 ∧ fs9[0]? = some (.int (nI 0))) := by
  refine Ct.of (cc := cX6_turnsAt) (own := RX6) (nm := "turnsAt") (nL := 2) (ret := (some .long)) (by decide +kernel) rfl rfl rfl (Nat.le_of_ble_eq_true rfl) ?_
  refine j_lvE (lv' := [(0, .ref mm)]) rfl ?_
  refine j_aload_n dX6_turnsAt_0 0 rfl ?_
  refine j_iconst (v := nI 0) dX6_turnsAt_1 (by decide) ?_
  refine j_putM fsX6_turnsAt_80 hmm rfl rfl (RA.lt hA (by decide)) dX6_turnsAt_2 (fun w1 fs2 sfs2 hw1 => ?_)
  have f3 : w1 mm = some (.inr (6, fs2)) := up_at hw1
  have rfs2 : RA A fs2 := RA.set hA sfs2 rfl
  have v4 := st_at sfs2 hA (by decide : 0 < 45)
  refine j_aload_n dX6_turnsAt_5 0 rfl ?_
  have v5 := (st_ne sfs2 rfl h43)
  refine j_get (v := .int (nI an)) flX6_turnsAt_199 f3 v5 dX6_turnsAt_6 ?_
  refine j_if_eqN 35 (by omega) dX6_turnsAt_9 (by decide) (fun c9 => ?_) (fun c9 => ?_)
  · skip
    exfalso; omega
  · skip
    refine j_aload_n dX6_turnsAt_12 0 rfl ?_
    refine j_get (v := .ref (A 16)) flX6_turnsAt_35 f3 (rfs2.2 16 rfl) dX6_turnsAt_13 ?_
    refine j_aload_n dX6_turnsAt_16 0 rfl ?_
    refine j_get (v := .ref (A 36)) flX6_turnsAt_54 f3 (rfs2.2 36 rfl) dX6_turnsAt_17 ?_
    refine j_aload_n dX6_turnsAt_20 0 rfl ?_
    have v6 := (st_ne sfs2 rfl h34)
    refine j_get (v := .int (nI nt)) flX6_turnsAt_196 f3 v6 dX6_turnsAt_21 ?_
    have f7 := (up_ne hw1 (AD.nm hAD 36 rfl) a36)
    refine j_ialdN (j := nt) f7 rfl (by omega) (by omega) dX6_turnsAt_24 ?_
    have f8 := (up_ne hw1 (AD.nm hAD 16 rfl) a16)
    refine j_ialdN (j := pe nt) f8 rfl (by omega) (by omega) dX6_turnsAt_25 ?_
    refine j_aload_n dX6_turnsAt_26 0 rfl ?_
    have v9 := (st_ne sfs2 rfl h7)
    refine j_get (v := .int (nI pg)) flX6_turnsAt_150 f3 v9 dX6_turnsAt_27 ?_
    refine j_iconst (v := nI 1) dX6_turnsAt_30 (by decide) ?_
    refine j_isubN (by omega) dX6_turnsAt_31 ?_
    have hg2 := hxg (pe nt) (by omega)
    refine j_icmp_neN 39 (by omega) (by omega) dX6_turnsAt_32 (by decide) (fun c32 => ?_) (fun c32 => ?_)
    · skip
      refine j_aload_n dX6_turnsAt_39 0 rfl ?_
      refine j_get (v := .ref (A 36)) flX6_turnsAt_54 f3 (rfs2.2 36 rfl) dX6_turnsAt_40 ?_
      refine j_aload_n dX6_turnsAt_43 0 rfl ?_
      refine j_get (v := .int (nI nt)) flX6_turnsAt_196 f3 v6 dX6_turnsAt_44 ?_
      refine j_ialdN (j := nt) f7 rfl (by omega) (by omega) dX6_turnsAt_47 ?_
      refine j_istore_n (lv' := [(1, .int (nI (pe nt))), (0, .ref mm)]) dX6_turnsAt_48 (Nat.le_of_ble_eq_true rfl) rfl ?_
      refine j_lv (lv' := [(0, .ref mm), (1, .int (nI (pe nt)))]) [1, 0] rfl ?_
      have v10 := (st_ne sfs2 rfl h44)
      have f11 := (up_ne hw1 (AD.nm hAD 13 rfl) a13)
      have f12 := (up_ne hw1 (AD.nm hAD 41 rfl) a41)
      have f13 := (up_ne hw1 (AD.nm hAD 42 rfl) a42)
      have f14 := (up_ne hw1 (AD.nm hAD 14 rfl) a14)
      exact l_turns (pg := pg) hAD f3 rfs2 ((FrI.refl : FrI A [mm] [] w w).trans (FrI.ux hw1 (by simp))) ((FF.refl : FF [0] fs fs).trans (FF.set sfs2 rfl)) v4 v5 v6 v10 f11 f12 f13 f14 f8 f7 han hmt hae hbt hlo hlo2 han0 hnt hz hz1 hz2 hxg _ (pe nt) (Nat.lt_succ_self _) ⟨Nat.le_refl _, hz.1⟩
    · skip
      exfalso; omega
abbrev rX6_cue : Room := { frames := 3, cells := 0, slots := 0, locals := 69 }
theorem fsX6_cue_80 : FS wsX6_cue RX6 80 6 0 false (.int) := ⟨RX6, TX6, 45, tyX6, rfl, by decide, by decide +kernel, by decide +kernel, tyX6_ok, nmX6, rfl, rfl, rfl⟩
theorem flX6_cue_199 : FL wsX6_cue RX6 199 6 43 := ⟨RX6, TX6, 45, rfl, by decide, by decide +kernel, by decide +kernel⟩
set_option maxRecDepth 100000 in
theorem mX6_cue_0 : Cond.constantLong RX6 242 (-1) ∈ wsX6_cue := by decide +kernel
set_option maxHeartbeats 4000000 in
set_option maxRecDepth 100000 in
theorem m_cue0 {w : pW} {A : Nat → Nat} {mm : Nat} {fs : List Value} (hAD : AD A mm) (hmm : w mm = some (.inr (6, fs))) (hA : RA A fs) (h43 : fs[43]? = some (.int (nI 0))) : Ct yX6_cue wsX6_cue rX6_cue [.ref mm] w (fun o w9 => o = .inl (some (.long (-1))) ∧ ∃ fs9 : List Value, MU A mm [] [0] w w9 fs fs9 ∧ fs9[0]? = some (.int (nI 0))) := by
  refine Ct.of (cc := cX6_cue) (own := RX6) (nm := "cue") (nL := 2) (ret := (some .long)) (by decide +kernel) rfl rfl rfl (Nat.le_of_ble_eq_true rfl) ?_
  refine j_lvE (lv' := [(0, .ref mm)]) rfl ?_
  refine j_aload_n dX6_cue_0 0 rfl ?_
  refine j_iconst (v := nI 0) dX6_cue_1 (by decide) ?_
  refine j_putM fsX6_cue_80 hmm rfl rfl (RA.lt hA (by decide)) dX6_cue_2 (fun w1 fs2 sfs2 hw1 => ?_)
  have f3 : w1 mm = some (.inr (6, fs2)) := up_at hw1
  have rfs2 : RA A fs2 := RA.set hA sfs2 rfl
  have v4 := st_at sfs2 hA (by decide : 0 < 45)
  refine j_aload_n dX6_cue_5 0 rfl ?_
  have v5 := (st_ne sfs2 rfl h43)
  refine j_get (v := .int (nI 0)) flX6_cue_199 f3 v5 dX6_cue_6 ?_
  refine j_if_neN 16 (by decide) dX6_cue_9 (by decide) (fun h9 => absurd rfl h9) (fun _ => ?_)
  refine j_ldc2 (v := (-1)) dX6_cue_12 mX6_cue_0 ?_
  exact j_lret rfl ⟨rfl, _, ⟨((FrI.refl : FrI A [mm] [] w w).trans (FrI.ux hw1 (by simp))), f3, ((FF.refl : FF [0] fs fs).trans (FF.set sfs2 rfl))⟩, v4⟩ (show 0 ≤ 0 by omega) (show 0 ≤ 0 by omega) dX6_cue_15
theorem flX6_cue_144 : FL wsX6_cue RX6 144 6 5 := ⟨RX6, TX6, 45, rfl, by decide, by decide +kernel, by decide +kernel⟩
theorem flX6_cue_45 : FL wsX6_cue RX6 45 6 19 := ⟨RX6, TX6, 45, rfl, by decide, by decide +kernel, by decide +kernel⟩
theorem flX6_cue_26 : FL wsX6_cue RX6 26 6 13 := ⟨RX6, TX6, 45, rfl, by decide, by decide +kernel, by decide +kernel⟩
set_option maxHeartbeats 4000000 in
set_option maxRecDepth 100000 in
theorem l_cue {xc : Nat → Int32} {pe : Nat → Nat} {nt ev : Nat} {an : Nat} {aT ae xb : Nat → Nat} {w w0 : pW} {fs fs0 : List Value} {A : Nat → Nat} {mm : Nat} (hAD : AD A mm) (hmm : w mm = some (.inr (6, fs))) (hA : RA A fs) (hfr : FrI A [mm] [] w0 w) (hff : FF [0] fs0 fs) (h0 : fs[0]? = some (.int (nI 0))) (h5 : fs[5]? = some (.int (nI ev))) (h43 : fs[43]? = some (.int (nI an))) (h34 : fs[34]? = some (.int (nI nt))) (a13 : w (A 13) = some (.inl (0, 100, .inl (fun j9 => nI (xb j9))))) (a41 : w (A 41) = some (.inl (0, 400, .inl (fun j9 => nI (ae j9))))) (a42 : w (A 42) = some (.inl (0, 400, .inl (fun j9 => nI (aT j9))))) (a19 : w (A 19) = some (.inl (2, 100, .inl xc))) (a36 : w (A 36) = some (.inl (0, 401, .inl (fun j9 => nI (pe j9))))) (han : an ≤ 400) (hmt : 2 ≤ an → aT (an - 5) ≤ aT (an - 1)) (hae : ∀ i, i < an → ae i < 100) (hbt : 2 ≤ an → xb (ae (an - 5)) ≤ xb (ae (an - 1))) (hlo : 0 < loM an ae xb) (hlo2 : loM an ae xb < 2 ^ 31) (han0 : 0 < an) (hnt : nt ≤ 400) (hev : ev ≤ 100) (hpe : pe nt < ev) : ∀ (m9 : Nat) (e : Nat), ev - e < m9 → (pe nt ≤ e ∧ e ≤ ev) → (fstN (fun j => !(xc j == 0)) (ev - e) e = fstN (fun j => !(xc j == 0)) (ev - pe nt) (pe nt)) → J ((cX6_cue, RX6, 2, wsX6_cue), (rX6_cue, (some .long), "cue", []), fun o w9 => o = .inl (some (.long (match fstN (fun j => !(xc j == 0)) (ev - pe nt) (pe nt) with | none => -1 | some z => tmV (aT (an - 1)) (upM an aT) (loM an ae xb) (xb (ae (an - 1))) (xb z)))) ∧ ∃ fs9 : List Value, MU A mm [] [0] w0 w9 fs0 fs9 ∧ fs9[0]? = some (.int (nI 0)), fun _ _ _ => True) 26 [(0, .ref mm), (1, .int (nI e))] [] w 0 0 := by
  intro m9
  induction m9 with
  | zero => intro e h9; omega
  | succ m9 ih =>
    intro e hm9 he hX
    refine j_iload_n dX6_cue_26 1 rfl ?_
    refine j_aload_n dX6_cue_27 0 rfl ?_
    refine j_get (v := .int (nI ev)) flX6_cue_144 hmm h5 dX6_cue_28 ?_
    refine j_icmp_geN 60 (by omega) (by omega) dX6_cue_31 (by decide) (fun c31 => ?_) (fun c31 => ?_)
    · skip
      refine j_ldc2 (v := (-1)) dX6_cue_60 mX6_cue_0 ?_
      exact j_lret rfl ⟨by rw [← hX, fstN_end (by omega)], _, ⟨(FrI.mono hfr (by simp) rfl : FrI A [mm] [] w0 _), hmm, (FF.mono hff rfl : FF [0] fs0 _)⟩, h0⟩ (show 0 ≤ 0 by omega) (show 0 ≤ 0 by omega) dX6_cue_63
    · skip
      refine j_aload_n dX6_cue_34 0 rfl ?_
      refine j_get (v := .ref (A 19)) flX6_cue_45 hmm (hA.2 19 rfl) dX6_cue_35 ?_
      refine j_iload_n dX6_cue_38 1 rfl ?_
      refine j_zaldN (j := e) a19 rfl (by omega) (by omega) dX6_cue_39 ?_
      refine j_if_eq 54 dX6_cue_40 (by decide) (fun c40 => ?_) (fun c40 => ?_)
      · skip
        refine j_iinc (q := 1) (v := nI (e + 1)) (lv' := [(1, .int (nI (e + 1))), (0, .ref mm)]) dX6_cue_54 rfl (by first | exact nI_1 _ | exact nI_add _ _) (Nat.le_of_ble_eq_true rfl) rfl ?_
        refine j_goto 26 dX6_cue_57 (by decide) ?_
        refine j_lv (lv' := [(0, .ref mm), (1, .int (nI (e + 1)))]) [1, 0] rfl ?_
        exact ih (e + 1) (by omega) (by omega) (by rw [← hX]; exact (fstN_miss (by omega) (by simp [c40])).symm)
      · skip
        refine j_aload_n dX6_cue_43 0 rfl ?_
        refine j_aload_n dX6_cue_44 0 rfl ?_
        refine j_get (v := .ref (A 13)) flX6_cue_26 hmm (hA.2 13 rfl) dX6_cue_45 ?_
        refine j_iload_n dX6_cue_48 1 rfl ?_
        refine j_ialdN (j := e) a13 rfl (by omega) (by omega) dX6_cue_49 ?_
        refine j_callV (rm := rX6_timeOf) (As := [.int (nI (xb e))]) (st := []) (b0 := mm) (ci := 6) (na := 1) (m_timeOf (at0 := xb e) hAD hmm hA h43 a13 a41 a42 han hmt hae hbt hlo hlo2 (by omega)) (by intro E w9 h9; first | exact nomatch h9.1 | (obtain ⟨_, h9, _⟩ := h9; exact nomatch h9) | (obtain ⟨_, _, _, h9, _⟩ := h9; exact nomatch h9)) gX6_cue_X6_timeOf rfl rfl hmm (by decide +kernel) rfl ⟨Nat.le_of_ble_eq_true rfl, Nat.le_of_ble_eq_true rfl⟩ rfl (Nat.le_of_ble_eq_true rfl) dX6_cue_50 ⟨(show 0 + 0 ≤ 0 by omega), (show 0 + 0 ≤ 0 by omega)⟩ (fun v1 w2 h3 => ?_)
        obtain ⟨h3, h4⟩ := h3
        cases h3
        subst w2
        refine j_after (st' := [.long (tmV (aT (an - 1)) (upM an aT) (loM an ae xb) (xb (ae (an - 1))) (xb e))]) (k' := 0) (n' := 0) rfl rfl rfl ?_
        exact j_lret rfl ⟨by rw [← hX, fstN_hit (by omega) (by simp [c40])], _, ⟨(FrI.mono hfr (by simp) rfl : FrI A [mm] [] w0 _), hmm, (FF.mono hff rfl : FF [0] fs0 _)⟩, h0⟩ (show 0 ≤ 0 by omega) (show 0 ≤ 0 by omega) dX6_cue_53
theorem flX6_cue_54 : FL wsX6_cue RX6 54 6 36 := ⟨RX6, TX6, 45, rfl, by decide, by decide +kernel, by decide +kernel⟩
theorem flX6_cue_196 : FL wsX6_cue RX6 196 6 34 := ⟨RX6, TX6, 45, rfl, by decide, by decide +kernel, by decide +kernel⟩
set_option maxHeartbeats 4000000 in
set_option maxRecDepth 100000 in
theorem m_cue {xc : Nat → Int32} {pe : Nat → Nat} {nt ev : Nat} {an : Nat} {aT ae xb : Nat → Nat} {w : pW} {A : Nat → Nat} {mm : Nat} {fs : List Value} (hAD : AD A mm) (hmm : w mm = some (.inr (6, fs))) (hA : RA A fs) (h5 : fs[5]? = some (.int (nI ev))) (h43 : fs[43]? = some (.int (nI an))) (h34 : fs[34]? = some (.int (nI nt))) (a13 : w (A 13) = some (.inl (0, 100, .inl (fun j9 => nI (xb j9))))) (a41 : w (A 41) = some (.inl (0, 400, .inl (fun j9 => nI (ae j9))))) (a42 : w (A 42) = some (.inl (0, 400, .inl (fun j9 => nI (aT j9))))) (a19 : w (A 19) = some (.inl (2, 100, .inl xc))) (a36 : w (A 36) = some (.inl (0, 401, .inl (fun j9 => nI (pe j9))))) (han : an ≤ 400) (hmt : 2 ≤ an → aT (an - 5) ≤ aT (an - 1)) (hae : ∀ i, i < an → ae i < 100) (hbt : 2 ≤ an → xb (ae (an - 5)) ≤ xb (ae (an - 1))) (hlo : 0 < loM an ae xb) (hlo2 : loM an ae xb < 2 ^ 31) (han0 : 0 < an) (hnt : nt ≤ 400) (hev : ev ≤ 100) (hpe : pe nt < ev) : Ct yX6_cue wsX6_cue rX6_cue [.ref mm] w (fun o w9 => o = .inl (some (.long (match fstN (fun j => !(xc j == 0)) (ev - pe nt) (pe nt) with | none => -1 | some z => tmV (aT (an - 1)) (upM an aT) (loM an ae xb) (xb (ae (an - 1))) (xb z)))) ∧ ∃ fs9 : List Value, MU A mm [] [0] w w9 fs fs9 ∧ fs9[0]? = some (.int (nI 0))) := by
  refine Ct.of (cc := cX6_cue) (own := RX6) (nm := "cue") (nL := 2) (ret := (some .long)) (by decide +kernel) rfl rfl rfl (Nat.le_of_ble_eq_true rfl) ?_
  refine j_lvE (lv' := [(0, .ref mm)]) rfl ?_
  refine j_aload_n dX6_cue_0 0 rfl ?_
  refine j_iconst (v := nI 0) dX6_cue_1 (by decide) ?_
  refine j_putM fsX6_cue_80 hmm rfl rfl (RA.lt hA (by decide)) dX6_cue_2 (fun w1 fs2 sfs2 hw1 => ?_)
  have f3 : w1 mm = some (.inr (6, fs2)) := up_at hw1
  have rfs2 : RA A fs2 := RA.set hA sfs2 rfl
  have v4 := st_at sfs2 hA (by decide : 0 < 45)
  refine j_aload_n dX6_cue_5 0 rfl ?_
  have v5 := (st_ne sfs2 rfl h43)
  refine j_get (v := .int (nI an)) flX6_cue_199 f3 v5 dX6_cue_6 ?_
  refine j_if_neN 16 (by omega) dX6_cue_9 (by decide) (fun c9 => ?_) (fun c9 => ?_)
  · skip
    refine j_aload_n dX6_cue_16 0 rfl ?_
    refine j_get (v := .ref (A 36)) flX6_cue_54 f3 (rfs2.2 36 rfl) dX6_cue_17 ?_
    refine j_aload_n dX6_cue_20 0 rfl ?_
    have v6 := (st_ne sfs2 rfl h34)
    refine j_get (v := .int (nI nt)) flX6_cue_196 f3 v6 dX6_cue_21 ?_
    have f7 := (up_ne hw1 (AD.nm hAD 36 rfl) a36)
    refine j_ialdN (j := nt) f7 rfl (by omega) (by omega) dX6_cue_24 ?_
    refine j_istore_n (lv' := [(1, .int (nI (pe nt))), (0, .ref mm)]) dX6_cue_25 (Nat.le_of_ble_eq_true rfl) rfl ?_
    refine j_lv (lv' := [(0, .ref mm), (1, .int (nI (pe nt)))]) [1, 0] rfl ?_
    have v8 := (st_ne sfs2 rfl h5)
    have f9 := (up_ne hw1 (AD.nm hAD 13 rfl) a13)
    have f10 := (up_ne hw1 (AD.nm hAD 41 rfl) a41)
    have f11 := (up_ne hw1 (AD.nm hAD 42 rfl) a42)
    have f12 := (up_ne hw1 (AD.nm hAD 19 rfl) a19)
    exact l_cue hAD f3 rfs2 ((FrI.refl : FrI A [mm] [] w w).trans (FrI.ux hw1 (by simp))) ((FF.refl : FF [0] fs fs).trans (FF.set sfs2 rfl)) v4 v8 v5 v6 f9 f10 f11 f12 f7 han hmt hae hbt hlo hlo2 han0 hnt hev hpe _ (pe nt) (Nat.lt_succ_self _) ⟨Nat.le_refl _, by omega⟩ rfl
  · skip
    exfalso; omega
