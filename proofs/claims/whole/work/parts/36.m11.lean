abbrev rX6_findPlace : Room := { frames := 1, cells := 0, slots := 0, locals := 21 }
theorem flX6_findPlace_62 : FL wsX6_findPlace RX6 62 6 38 := ⟨RX6, TX6, 45, rfl, by decide, by decide +kernel, by decide +kernel⟩
theorem flX6_findPlace_54 : FL wsX6_findPlace RX6 54 6 36 := ⟨RX6, TX6, 45, rfl, by decide, by decide +kernel, by decide +kernel⟩
theorem flX6_findPlace_57 : FL wsX6_findPlace RX6 57 6 37 := ⟨RX6, TX6, 45, rfl, by decide, by decide +kernel, by decide +kernel⟩
set_option maxHeartbeats 4000000 in
set_option maxRecDepth 100000 in
theorem l_p16 {x xm pe pb cr : Nat → Nat} {ev n : Nat} {w0 : pW} {fs : List Value} {A : Nat → Nat} {mm : Nat} (hAD : AD A mm) (hA : RA A fs) (h5 : fs[5]? = some (.int (nI ev))) (hrw : RW A mm (cr n)) (hev : ev ≤ 100) (hm4 : ∀ e, e < ev → xm e ≤ 4) (hn : n ≤ 400) (hx : ∀ j, x j ≤ 268435456) {e : Nat} {T : Nat × Nat × Nat} (he : e < ev) (hc : ∀ (w : pW), (w mm = some (.inr (6, fs))) → (FrI A [] [36, 37] w0 w) → (w (A 11) = some (.inl (0, 100, .inl (fun j9 => nI (xm j9))))) → (w (A 38) = some (.inl (4, 401, .inr (.inr (.inr (.inr (fun j9 => some (cr j9)))))))) → (w (cr n) = some (.inl (0, 1600, .inl (fun j9 => nI (x j9))))) → (w (A 36) = some (.inl (0, 401, .inl (fun j9 => nI ((plE pe n T.1 T.2.1) j9))))) → (w (A 37) = some (.inl (0, 401, .inl (fun j9 => nI ((plE pb n T.1 T.2.2) j9))))) → (T.1 ≤ 268435456) → J ((cX6_findPlace, RX6, 5, wsX6_findPlace), (rX6_findPlace, none, "findPlace", []), fun o9 w9 => o9 = .inl none ∧ FrI A [] [36, 37] w0 w9 ∧ w9 (A 36) = some (.inl (0, 401, .inl (fun j9 => nI ((plE pe n (fpE x xm ev 0 (268435456, 0, 0)).1 (fpE x xm ev 0 (268435456, 0, 0)).2.1) j9)))) ∧ w9 (A 37) = some (.inl (0, 401, .inl (fun j9 => nI ((plE pb n (fpE x xm ev 0 (268435456, 0, 0)).1 (fpE x xm ev 0 (268435456, 0, 0)).2.2) j9)))), fun _ _ _ => True) 83 [(0, .ref mm), (1, .int (nI n)), (2, .int (nI T.1)), (3, .int (nI e))] [] w 0 0) : ∀ (m9 : Nat) (w : pW) (t : Nat × Nat × Nat) (b : Nat), 2 ^ xm e - b < m9 → (w mm = some (.inr (6, fs))) → (FrI A [] [36, 37] w0 w) → (w (A 11) = some (.inl (0, 100, .inl (fun j9 => nI (xm j9))))) → (w (A 38) = some (.inl (4, 401, .inr (.inr (.inr (.inr (fun j9 => some (cr j9)))))))) → (w (cr n) = some (.inl (0, 1600, .inl (fun j9 => nI (x j9))))) → (w (A 36) = some (.inl (0, 401, .inl (fun j9 => nI ((plE pe n t.1 t.2.1) j9))))) → (w (A 37) = some (.inl (0, 401, .inl (fun j9 => nI ((plE pb n t.1 t.2.2) j9))))) → (t.1 ≤ 268435456) → (b ≤ 2 ^ xm e) → (fpF x (16 * e) e (2 ^ xm e - b) b t = T) → J ((cX6_findPlace, RX6, 5, wsX6_findPlace), (rX6_findPlace, none, "findPlace", []), fun o9 w9 => o9 = .inl none ∧ FrI A [] [36, 37] w0 w9 ∧ w9 (A 36) = some (.inl (0, 401, .inl (fun j9 => nI ((plE pe n (fpE x xm ev 0 (268435456, 0, 0)).1 (fpE x xm ev 0 (268435456, 0, 0)).2.1) j9)))) ∧ w9 (A 37) = some (.inl (0, 401, .inl (fun j9 => nI ((plE pb n (fpE x xm ev 0 (268435456, 0, 0)).1 (fpE x xm ev 0 (268435456, 0, 0)).2.2) j9)))), fun _ _ _ => True) 16 [(0, .ref mm), (1, .int (nI n)), (2, .int (nI t.1)), (3, .int (nI e)), (4, .int (nI b))] [] w 0 0 := by
  intro m9
  induction m9 with
  | zero => intro w t b h9; omega
  | succ m9 ih =>
    intro w t b hm9 hmm hfr a11 a38 hr0 a36 a37 ht1 hb hX
    have hm4e := hm4 e he
    have hp4 := pw4 hm4e
    refine j_iload dX6_findPlace_16 4 rfl ?_
    refine j_aload_n dX6_findPlace_18 0 rfl ?_
    refine j_iload_n dX6_findPlace_19 3 rfl ?_
    refine j_callV (rm := rX6_full) (As := [.int (nI e)]) (st := [.int (nI b)]) (b0 := mm) (ci := 6) (na := 1) (m_full hAD hmm hA a11 (by omega) (hm4 _ (by omega))) (by intro E w9 h9; first | exact nomatch h9.1 | (obtain ⟨_, h9, _⟩ := h9; exact nomatch h9) | (obtain ⟨_, _, _, h9, _⟩ := h9; exact nomatch h9)) gX6_findPlace_X6_full rfl rfl hmm (by decide +kernel) rfl ⟨Nat.le_of_ble_eq_true rfl, Nat.le_of_ble_eq_true rfl⟩ rfl (Nat.le_of_ble_eq_true rfl) dX6_findPlace_20 ⟨(show 0 + 0 ≤ 0 by omega), (show 0 + 0 ≤ 0 by omega)⟩ (fun v1 w2 h3 => ?_)
    obtain ⟨h3, h4⟩ := h3
    cases h3
    subst w2
    refine j_after (st' := [.int (nI (2 ^ xm e - 1)), .int (nI b)]) (k' := 0) (n' := 0) rfl rfl rfl ?_
    refine j_icmp_gtN 83 (by omega) (by omega) dX6_findPlace_23 (by decide) (fun c23 => ?_) (fun c23 => ?_)
    · skip
      refine j_lv (lv' := [(0, .ref mm), (1, .int (nI n)), (2, .int (nI t.1)), (3, .int (nI e))]) [0, 1, 2, 3] rfl ?_
      have hbn : b = 2 ^ xm e := by omega
      rw [hbn, Nat.sub_self] at hX
      have hXx : t = T := hX
      subst hXx
      exact hc _ hmm (FrI.mono hfr (by simp) rfl : FrI A [] [36, 37] w0 _) a11 a38 hr0 a36 a37 ht1
    · skip
      refine j_aload_n dX6_findPlace_26 0 rfl ?_
      refine j_get (v := .ref (A 38)) flX6_findPlace_62 hmm (hA.2 38 rfl) dX6_findPlace_27 ?_
      refine j_iload_n dX6_findPlace_30 1 rfl ?_
      refine j_aaldN (j := n) a38 rfl (by omega) (by omega) dX6_findPlace_31 ?_
      refine j_after (st' := [.ref (cr n)]) (k' := 0) (n' := 0) rfl rfl rfl ?_
      refine j_bipush (v := nI 16) dX6_findPlace_32 (by decide) ?_
      refine j_iload_n dX6_findPlace_34 3 rfl ?_
      refine j_imulN dX6_findPlace_35 ?_
      refine j_iload dX6_findPlace_36 4 rfl ?_
      refine j_iaddN dX6_findPlace_38 ?_
      refine j_ialdN (j := (16 * e) + b) hr0 rfl (by omega) (by omega) dX6_findPlace_39 ?_
      have hb5 := hx ((16 * e) + b)
      refine j_iload_n dX6_findPlace_40 2 rfl ?_
      refine j_icmp_ltN 47 (by omega) (by omega) dX6_findPlace_41 (by decide) (fun c41 => ?_) (fun c41 => ?_)
      · skip
        refine j_aload_n dX6_findPlace_47 0 rfl ?_
        refine j_get (v := .ref (A 38)) flX6_findPlace_62 hmm (hA.2 38 rfl) dX6_findPlace_48 ?_
        refine j_iload_n dX6_findPlace_51 1 rfl ?_
        refine j_aaldN (j := n) a38 rfl (by omega) (by omega) dX6_findPlace_52 ?_
        refine j_after (st' := [.ref (cr n)]) (k' := 0) (n' := 0) rfl rfl rfl ?_
        refine j_bipush (v := nI 16) dX6_findPlace_53 (by decide) ?_
        refine j_iload_n dX6_findPlace_55 3 rfl ?_
        refine j_imulN dX6_findPlace_56 ?_
        refine j_iload dX6_findPlace_57 4 rfl ?_
        refine j_iaddN dX6_findPlace_59 ?_
        refine j_ialdN (j := (16 * e) + b) hr0 rfl (by omega) (by omega) dX6_findPlace_60 ?_
        have hb6 := hx ((16 * e) + b)
        refine j_istore_n (lv' := [(2, .int (nI (x ((16 * e) + b)))), (0, .ref mm), (1, .int (nI n)), (3, .int (nI e)), (4, .int (nI b))]) dX6_findPlace_61 (Nat.le_of_ble_eq_true rfl) rfl ?_
        refine j_aload_n dX6_findPlace_62 1 rfl ?_
        refine j_get (v := .ref (A 36)) flX6_findPlace_54 hmm (hA.2 36 rfl) dX6_findPlace_63 ?_
        refine j_iload_n dX6_findPlace_66 2 rfl ?_
        refine j_iload_n dX6_findPlace_67 3 rfl ?_
        refine j_iastn (j := n) (x := e) a36 rfl (by omega) (by omega) dX6_findPlace_68 ?_
        refine j_w (fun w7 hw7 => ?_)
        have f8 : w7 (A 36) = some (.inl (0, 401, .inl (fun j9 => nI ((va_up (plE pe n t.1 t.2.1) n e) j9)))) := up_at hw7
        refine j_aload_n dX6_findPlace_69 1 rfl ?_
        have f9 := (up_ne hw7 (AD.mn hAD 36 rfl) hmm)
        refine j_get (v := .ref (A 37)) flX6_findPlace_57 f9 (hA.2 37 rfl) dX6_findPlace_70 ?_
        refine j_iload_n dX6_findPlace_73 2 rfl ?_
        refine j_iload dX6_findPlace_74 4 rfl ?_
        have f10 := (up_ne hw7 (AD.ne hAD 37 36 rfl rfl rfl) a37)
        refine j_iastn (j := n) (x := b) f10 rfl (by omega) (by omega) dX6_findPlace_76 ?_
        refine j_w (fun w11 hw11 => ?_)
        have f12 : w11 (A 37) = some (.inl (0, 401, .inl (fun j9 => nI ((va_up (plE pb n t.1 t.2.2) n b) j9)))) := up_at hw11
        refine j_iinc (q := 4) (v := nI (b + 1)) (lv' := [(4, .int (nI (b + 1))), (2, .int (nI (x ((16 * e) + b)))), (0, .ref mm), (1, .int (nI n)), (3, .int (nI e))]) dX6_findPlace_77 rfl (by first | exact nI_1 _ | exact nI_add _ _) (Nat.le_of_ble_eq_true rfl) rfl ?_
        refine j_goto 16 dX6_findPlace_80 (by decide) ?_
        refine j_lv (lv' := [(0, .ref mm), (1, .int (nI n)), (2, .int (nI (x ((16 * e) + b)))), (3, .int (nI e)), (4, .int (nI (b + 1)))]) [2, 3, 1, 4, 0] rfl ?_
        have hS : fpS x (16 * e) e b t = (x (16 * e + b), e, b) := by unfold fpS; rw [if_pos c41]
        have f13 := (up_ne hw11 (AD.ne hAD 36 37 rfl rfl rfl) f8)
        have f14 := (up_ne hw11 (AD.mn hAD 37 rfl) f9)
        have f15 := (up_ne hw11 (AD.ne hAD 11 37 rfl rfl rfl) (up_ne hw7 (AD.ne hAD 11 36 rfl rfl rfl) a11))
        have f16 := (up_ne hw11 (AD.ne hAD 38 37 rfl rfl rfl) (up_ne hw7 (AD.ne hAD 38 36 rfl rfl rfl) a38))
        have f17 := (up_ne hw11 (hrw.2 37 rfl) (up_ne hw7 (hrw.2 36 rfl) hr0))
        refine ih _ (x (16 * e + b), e, b) (b + 1) (by omega) f14 (((FrI.mono hfr (by simp) rfl : FrI A [] [36, 37] w0 _).trans (FrI.ua hw7 rfl)).trans (FrI.ua hw11 rfl)) f15 f16 f17 (by rw [← plE_up (b := t.1) (v := t.2.1) (show x (16 * e + b) < 268435456 by omega)]; exact f13) (by rw [← plE_up (b := t.1) (v := t.2.2) (show x (16 * e + b) < 268435456 by omega)]; exact f12) (by show x (16 * e + b) ≤ 268435456; omega) (by omega) ?_
        rw [fpF_step (by omega), hS] at hX; exact hX
      · skip
        refine j_goto 77 dX6_findPlace_44 (by decide) ?_
        refine j_iinc (q := 4) (v := nI (b + 1)) (lv' := [(4, .int (nI (b + 1))), (0, .ref mm), (1, .int (nI n)), (2, .int (nI t.1)), (3, .int (nI e))]) dX6_findPlace_77 rfl (by first | exact nI_1 _ | exact nI_add _ _) (Nat.le_of_ble_eq_true rfl) rfl ?_
        refine j_goto 16 dX6_findPlace_80 (by decide) ?_
        refine j_lv (lv' := [(0, .ref mm), (1, .int (nI n)), (2, .int (nI t.1)), (3, .int (nI e)), (4, .int (nI (b + 1)))]) [1, 2, 3, 4, 0] rfl ?_
        have hS : fpS x (16 * e) e b t = t := by unfold fpS; rw [if_neg (by omega)]
        refine ih _ t (b + 1) (by omega) hmm (FrI.mono hfr (by simp) rfl : FrI A [] [36, 37] w0 _) a11 a38 hr0 a36 a37 ht1 (by omega) ?_
        rw [fpF_step (by omega), hS] at hX; exact hX
theorem flX6_findPlace_144 : FL wsX6_findPlace RX6 144 6 5 := ⟨RX6, TX6, 45, rfl, by decide, by decide +kernel, by decide +kernel⟩
set_option maxHeartbeats 4000000 in
set_option maxRecDepth 100000 in
theorem l_p5 {x xm pe pb cr : Nat → Nat} {ev n : Nat} {w0 : pW} {fs : List Value} {A : Nat → Nat} {mm : Nat} (hAD : AD A mm) (hA : RA A fs) (h5 : fs[5]? = some (.int (nI ev))) (hrw : RW A mm (cr n)) (hev : ev ≤ 100) (hm4 : ∀ e, e < ev → xm e ≤ 4) (hn : n ≤ 400) (hx : ∀ j, x j ≤ 268435456) : ∀ (m9 : Nat) (w : pW) (t : Nat × Nat × Nat) (e : Nat), ev - e < m9 → (w mm = some (.inr (6, fs))) → (FrI A [] [36, 37] w0 w) → (w (A 11) = some (.inl (0, 100, .inl (fun j9 => nI (xm j9))))) → (w (A 38) = some (.inl (4, 401, .inr (.inr (.inr (.inr (fun j9 => some (cr j9)))))))) → (w (cr n) = some (.inl (0, 1600, .inl (fun j9 => nI (x j9))))) → (w (A 36) = some (.inl (0, 401, .inl (fun j9 => nI ((plE pe n t.1 t.2.1) j9))))) → (w (A 37) = some (.inl (0, 401, .inl (fun j9 => nI ((plE pb n t.1 t.2.2) j9))))) → (t.1 ≤ 268435456) → (e ≤ ev) → (fpE x xm (ev - e) e t = fpE x xm ev 0 (268435456, 0, 0)) → J ((cX6_findPlace, RX6, 5, wsX6_findPlace), (rX6_findPlace, none, "findPlace", []), fun o9 w9 => o9 = .inl none ∧ FrI A [] [36, 37] w0 w9 ∧ w9 (A 36) = some (.inl (0, 401, .inl (fun j9 => nI ((plE pe n (fpE x xm ev 0 (268435456, 0, 0)).1 (fpE x xm ev 0 (268435456, 0, 0)).2.1) j9)))) ∧ w9 (A 37) = some (.inl (0, 401, .inl (fun j9 => nI ((plE pb n (fpE x xm ev 0 (268435456, 0, 0)).1 (fpE x xm ev 0 (268435456, 0, 0)).2.2) j9)))), fun _ _ _ => True) 5 [(0, .ref mm), (1, .int (nI n)), (2, .int (nI t.1)), (3, .int (nI e))] [] w 0 0 := by
  intro m9
  induction m9 with
  | zero => intro w t e h9; omega
  | succ m9 ih =>
    intro w t e hm9 hmm hfr a11 a38 hr0 a36 a37 ht1 hi hX
    refine j_iload_n dX6_findPlace_5 3 rfl ?_
    refine j_aload_n dX6_findPlace_6 0 rfl ?_
    refine j_get (v := .int (nI ev)) flX6_findPlace_144 hmm h5 dX6_findPlace_7 ?_
    refine j_icmp_geN 89 (by omega) (by omega) dX6_findPlace_10 (by decide) (fun c10 => ?_) (fun c10 => ?_)
    · skip
      have hin : e = ev := by omega
      rw [hin, Nat.sub_self] at hX
      have hXx : t = fpE x xm ev 0 (268435456, 0, 0) := hX
      subst hXx
      exact j_vret rfl ⟨rfl, (FrI.mono hfr (by simp) rfl : FrI A [] [36, 37] w0 _), a36, a37⟩ (show 0 ≤ 0 by omega) (show 0 ≤ 0 by omega) dX6_findPlace_89
    · skip
      refine j_iconst (v := nI 0) dX6_findPlace_13 (by decide) ?_
      refine j_istore (lv' := [(4, .int (nI 0)), (0, .ref mm), (1, .int (nI n)), (2, .int (nI t.1)), (3, .int (nI e))]) dX6_findPlace_14 (Nat.le_of_ble_eq_true rfl) rfl ?_
      refine j_lv (lv' := [(0, .ref mm), (1, .int (nI n)), (2, .int (nI t.1)), (3, .int (nI e)), (4, .int (nI 0))]) [1, 2, 3, 4, 0] rfl ?_
      refine l_p16 (T := fpF x (16 * e) e (2 ^ xm e) 0 t) hAD hA h5 hrw hev hm4 hn hx (by omega) ?_ _ _ t 0 (Nat.lt_succ_self _) hmm (FrI.mono hfr (by simp) rfl : FrI A [] [36, 37] w0 _) a11 a38 hr0 a36 a37 ht1 (Nat.zero_le _) rfl
      intro w2 g0 g1 g2 g3 g4 g5 g6 g7
      refine j_iinc (q := 3) (v := nI (e + 1)) (lv' := [(3, .int (nI (e + 1))), (0, .ref mm), (1, .int (nI n)), (2, .int (nI ((fpF x (16 * e) e (2 ^ xm e) 0 t).1)))]) dX6_findPlace_83 rfl (by first | exact nI_1 _ | exact nI_add _ _) (Nat.le_of_ble_eq_true rfl) rfl ?_
      refine j_goto 5 dX6_findPlace_86 (by decide) ?_
      refine j_lv (lv' := [(0, .ref mm), (1, .int (nI n)), (2, .int (nI ((fpF x (16 * e) e (2 ^ xm e) 0 t).1))), (3, .int (nI (e + 1)))]) [1, 2, 3, 0] rfl ?_
      exact ih _ _ (e + 1) (by omega) g0 (FrI.mono g1 (by simp) rfl : FrI A [] [36, 37] w0 _) g2 g3 g4 g5 g6 g7 (by omega) (by rw [← fpE_step (by omega)]; exact hX)
set_option maxRecDepth 100000 in
theorem mX6_findPlace_0 : Cond.constant RX6 202 (268435456) ∈ wsX6_findPlace := by decide +kernel
set_option maxHeartbeats 4000000 in
set_option maxRecDepth 100000 in
theorem m_findPlace {x xm pe pb cr : Nat → Nat} {ev n : Nat} {w : pW} {A : Nat → Nat} {mm : Nat} {fs : List Value} (hAD : AD A mm) (hmm : w mm = some (.inr (6, fs))) (hA : RA A fs) (h5 : fs[5]? = some (.int (nI ev))) (a11 : w (A 11) = some (.inl (0, 100, .inl (fun j9 => nI (xm j9))))) (a36 : w (A 36) = some (.inl (0, 401, .inl (fun j9 => nI (pe j9))))) (a37 : w (A 37) = some (.inl (0, 401, .inl (fun j9 => nI (pb j9))))) (a38 : w (A 38) = some (.inl (4, 401, .inr (.inr (.inr (.inr (fun j9 => some (cr j9)))))))) (hr0 : w (cr n) = some (.inl (0, 1600, .inl (fun j9 => nI (x j9))))) (hrw : RW A mm (cr n)) (hev : ev ≤ 100) (hm4 : ∀ e, e < ev → xm e ≤ 4) (hn : n ≤ 400) (hx : ∀ j, x j ≤ 268435456) : Ct yX6_findPlace wsX6_findPlace rX6_findPlace [.ref mm, .int (nI n)] w (fun o9 w9 => o9 = .inl none ∧ FrI A [] [36, 37] w w9 ∧ w9 (A 36) = some (.inl (0, 401, .inl (fun j9 => nI ((plE pe n (fpE x xm ev 0 (268435456, 0, 0)).1 (fpE x xm ev 0 (268435456, 0, 0)).2.1) j9)))) ∧ w9 (A 37) = some (.inl (0, 401, .inl (fun j9 => nI ((plE pb n (fpE x xm ev 0 (268435456, 0, 0)).1 (fpE x xm ev 0 (268435456, 0, 0)).2.2) j9))))) := by
  refine Ct.of (cc := cX6_findPlace) (own := RX6) (nm := "findPlace") (nL := 5) (ret := none) (by decide +kernel) rfl rfl rfl (Nat.le_of_ble_eq_true rfl) ?_
  refine j_lvE (lv' := [(0, .ref mm), (1, .int (nI n))]) rfl ?_
  refine j_ldc (v := nI 268435456) dX6_findPlace_0 mX6_findPlace_0 ?_
  refine j_istore_n (lv' := [(2, .int (nI 268435456)), (0, .ref mm), (1, .int (nI n))]) dX6_findPlace_2 (Nat.le_of_ble_eq_true rfl) rfl ?_
  refine j_iconst (v := nI 0) dX6_findPlace_3 (by decide) ?_
  refine j_istore_n (lv' := [(3, .int (nI 0)), (2, .int (nI 268435456)), (0, .ref mm), (1, .int (nI n))]) dX6_findPlace_4 (Nat.le_of_ble_eq_true rfl) rfl ?_
  refine j_lv (lv' := [(0, .ref mm), (1, .int (nI n)), (2, .int (nI 268435456)), (3, .int (nI 0))]) [2, 3, 1, 0] rfl ?_
  exact l_p5 hAD hA h5 hrw hev hm4 hn hx _ w (268435456, 0, 0) 0 (Nat.lt_succ_self _) hmm FrI.refl a11 a38 hr0 a36 a37 (Nat.le_refl _) (Nat.zero_le _) rfl
abbrev rX6_anchor : Room := { frames := 0, cells := 0, slots := 0, locals := 0 }
theorem anL_mem {pe : Nat → Nat} : ∀ {k a : Nat}, a ∈ anL pe k → a ≤ k
  | 0, a, h => by simp [anL] at h
  | k + 1, a, h => by
    unfold anL at h
    split at h
    · exact Nat.le_succ_of_le (anL_mem h)
    · split at h
      · simp at h; omega
      · rename_i a0 l hL
        split at h
        · simp at h; omega
        · rcases List.mem_cons.mp h with q | q
          · omega
          · exact Nat.le_succ_of_le (anL_mem (by rw [hL]; exact q))
theorem flX6_anchor_196 : FL wsX6_anchor RX6 196 6 34 := ⟨RX6, TX6, 45, rfl, by decide, by decide +kernel, by decide +kernel⟩
theorem flX6_anchor_54 : FL wsX6_anchor RX6 54 6 36 := ⟨RX6, TX6, 45, rfl, by decide, by decide +kernel, by decide +kernel⟩
theorem flX6_anchor_199 : FL wsX6_anchor RX6 199 6 43 := ⟨RX6, TX6, 45, rfl, by decide, by decide +kernel, by decide +kernel⟩
theorem flX6_anchor_71 : FL wsX6_anchor RX6 71 6 41 := ⟨RX6, TX6, 45, rfl, by decide, by decide +kernel, by decide +kernel⟩
theorem flX6_anchor_74 : FL wsX6_anchor RX6 74 6 42 := ⟨RX6, TX6, 45, rfl, by decide, by decide +kernel, by decide +kernel⟩
theorem flX6_anchor_51 : FL wsX6_anchor RX6 51 6 35 := ⟨RX6, TX6, 45, rfl, by decide, by decide +kernel, by decide +kernel⟩
theorem fsX6_anchor_199 : FS wsX6_anchor RX6 199 6 43 false (.int) := ⟨RX6, TX6, 45, tyX6, rfl, by decide, by decide +kernel, by decide +kernel, tyX6_ok, nmX6, rfl, rfl, rfl⟩
set_option maxHeartbeats 4000000 in
set_option maxRecDepth 100000 in
theorem l_anchor {pe ti : Nat → Nat} {nt : Nat} {w0 : pW} {fs0 : List Value} {A : Nat → Nat} {mm : Nat} (hAD : AD A mm) (hnt : nt ≤ 400) (hpe : ∀ j, j ≤ nt → pe j < 100) : ∀ (m9 : Nat) (w : pW) (fs : List Value) (k : Nat) (ae : Nat → Nat) (aT : Nat → Nat), nt - k < m9 → (w mm = some (.inr (6, fs))) → (RA A fs) → (FrI A [mm] [41, 42] w0 w) → (FF [43] fs0 fs) → (fs[34]? = some (.int (nI nt))) → (fs[43]? = some (.int (nI ((anL pe k).length)))) → (w (A 35) = some (.inl (0, 400, .inl (fun j9 => nI (ti j9))))) → (w (A 36) = some (.inl (0, 401, .inl (fun j9 => nI (pe j9))))) → (w (A 41) = some (.inl (0, 400, .inl (fun j9 => nI (ae j9))))) → (w (A 42) = some (.inl (0, 400, .inl (fun j9 => nI (aT j9))))) → (k ≤ nt) → (ANI pe ti (anL pe k) ae aT) → J ((cX6_anchor, RX6, 3, wsX6_anchor), (rX6_anchor, none, "anchor", []), fun o9 w9 => o9 = .inl none ∧ ∃ fs9 : List Value, MU A mm [41, 42] [43] w0 w9 fs0 fs9 ∧ fs9[43]? = some (.int (nI (anL pe nt).length)) ∧ ∃ ae9 aT9 : Nat → Nat, w9 (A 41) = some (.inl (0, 400, .inl (fun j9 => nI (ae9 j9)))) ∧ w9 (A 42) = some (.inl (0, 400, .inl (fun j9 => nI (aT9 j9)))) ∧ ANI pe ti (anL pe nt) ae9 aT9, fun _ _ _ => True) 7 [(0, .ref mm), (1, .int (nI k))] [] w 0 0 := by
  intro m9
  induction m9 with
  | zero => intro w fs k ae aT h9; omega
  | succ m9 ih =>
    intro w fs k ae aT hm9 hmm hA hfr hff h34 h43 a35 a36 a41 a42 hk hN
    refine j_iload_n dX6_anchor_7 1 rfl ?_
    refine j_aload_n dX6_anchor_8 0 rfl ?_
    refine j_get (v := .int (nI nt)) flX6_anchor_196 hmm h34 dX6_anchor_9 ?_
    refine j_icmp_geN 109 (by omega) (by omega) dX6_anchor_12 (by decide) (fun c12 => ?_) (fun c12 => ?_)
    · skip
      have hkn : k = nt := by omega
      subst hkn
      exact j_vret rfl ⟨rfl, _, ⟨(FrI.mono hfr (by simp) rfl : FrI A [mm] [41, 42] w0 _), hmm, (FF.mono hff rfl : FF [43] fs0 _)⟩, h43, _, _, a41, a42, hN⟩ (show 0 ≤ 0 by omega) (show 0 ≤ 0 by omega) dX6_anchor_109
    · skip
      refine j_aload_n dX6_anchor_15 0 rfl ?_
      refine j_get (v := .ref (A 36)) flX6_anchor_54 hmm (hA.2 36 rfl) dX6_anchor_16 ?_
      refine j_iload_n dX6_anchor_19 1 rfl ?_
      refine j_iconst (v := nI 1) dX6_anchor_20 (by decide) ?_
      refine j_iaddN dX6_anchor_21 ?_
      refine j_ialdN (j := k + 1) a36 rfl (by omega) (by omega) dX6_anchor_22 ?_
      have hle := anL_le (pe := pe) (k := k)
      have hpk := hpe (k + 1) (by omega)
      have hpk0 := hpe k (by omega)
      refine j_istore_n (lv' := [(2, .int (nI (pe (k + 1)))), (0, .ref mm), (1, .int (nI k))]) dX6_anchor_23 (Nat.le_of_ble_eq_true rfl) rfl ?_
      refine j_iload_n dX6_anchor_24 2 rfl ?_
      refine j_if_leN 41 (by omega) dX6_anchor_25 (by decide) (fun c25 => ?_) (fun c25 => ?_)
      · skip
        refine j_aload_n dX6_anchor_41 1 rfl ?_
        refine j_get (v := .int (nI ((anL pe k).length))) flX6_anchor_199 hmm h43 dX6_anchor_42 ?_
        refine j_if_leN 68 (by omega) dX6_anchor_45 (by decide) (fun c45 => ?_) (fun c45 => ?_)
        · skip
          refine j_aload_n dX6_anchor_68 1 rfl ?_
          refine j_get (v := .ref (A 41)) flX6_anchor_71 hmm (hA.2 41 rfl) dX6_anchor_69 ?_
          refine j_aload_n dX6_anchor_72 1 rfl ?_
          refine j_get (v := .int (nI ((anL pe k).length))) flX6_anchor_199 hmm h43 dX6_anchor_73 ?_
          refine j_iload_n dX6_anchor_76 0 rfl ?_
          refine j_iastn (j := (anL pe k).length) (x := pe (k + 1)) a41 rfl (by omega) (by omega) dX6_anchor_77 ?_
          refine j_w (fun w1 hw1 => ?_)
          have f2 : w1 (A 41) = some (.inl (0, 400, .inl (fun j9 => nI ((va_up ae ((anL pe k).length) (pe (k + 1))) j9)))) := up_at hw1
          refine j_aload_n dX6_anchor_78 1 rfl ?_
          have f3 := (up_ne hw1 (AD.mn hAD 41 rfl) hmm)
          refine j_get (v := .ref (A 42)) flX6_anchor_74 f3 (hA.2 42 rfl) dX6_anchor_79 ?_
          refine j_aload_n dX6_anchor_82 1 rfl ?_
          refine j_get (v := .int (nI ((anL pe k).length))) flX6_anchor_199 f3 h43 dX6_anchor_83 ?_
          refine j_aload_n dX6_anchor_86 1 rfl ?_
          refine j_get (v := .ref (A 35)) flX6_anchor_51 f3 (hA.2 35 rfl) dX6_anchor_87 ?_
          refine j_iload_n dX6_anchor_90 2 rfl ?_
          have f4 := (up_ne hw1 (AD.ne hAD 35 41 rfl rfl rfl) a35)
          refine j_ialdN (j := k) f4 rfl (by omega) (by omega) dX6_anchor_91 ?_
          have f5 := (up_ne hw1 (AD.ne hAD 42 41 rfl rfl rfl) a42)
          refine j_iastn (j := (anL pe k).length) (x := ti k) f5 rfl (by omega) (by omega) dX6_anchor_92 ?_
          refine j_w (fun w6 hw6 => ?_)
          have f7 : w6 (A 42) = some (.inl (0, 400, .inl (fun j9 => nI ((va_up aT ((anL pe k).length) (ti k)) j9)))) := up_at hw6
          refine j_aload_n dX6_anchor_93 1 rfl ?_
          refine j_dup dX6_anchor_94 rfl ?_
          have f8 := (up_ne hw6 (AD.mn hAD 42 rfl) f3)
          refine j_get (v := .int (nI ((anL pe k).length))) flX6_anchor_199 f8 h43 dX6_anchor_95 ?_
          refine j_iconst (v := nI 1) dX6_anchor_98 (by decide) ?_
          refine j_iaddN dX6_anchor_99 ?_
          refine j_putM fsX6_anchor_199 f8 rfl rfl (RA.lt hA (by decide)) dX6_anchor_100 (fun w9 fs10 sfs10 hw9 => ?_)
          have f11 : w9 mm = some (.inr (6, fs10)) := up_at hw9
          have rfs10 : RA A fs10 := RA.set hA sfs10 rfl
          have v12 := st_at sfs10 hA (by decide : 43 < 45)
          refine j_iinc (q := 2) (v := nI (k + 1)) (lv' := [(1, .int (nI (k + 1))), (2, .int (nI (pe (k + 1)))), (0, .ref mm)]) dX6_anchor_103 rfl (by first | exact nI_1 _ | exact nI_add _ _) (Nat.le_of_ble_eq_true rfl) rfl ?_
          refine j_goto 7 dX6_anchor_106 (by decide) ?_
          refine j_lv (lv' := [(0, .ref mm), (1, .int (nI (k + 1)))]) [2, 0] rfl ?_
          have hL : anL pe k = [] := List.eq_nil_of_length_eq_zero c45
          have hE : anL pe (k + 1) = [k + 1] := by
            show (if _ then _ else _) = _
            rw [if_neg (fun q => by omega), hL]
          have v13 := (st_ne sfs10 rfl h34)
          have f14 := (up_ne hw9 (AD.nm hAD 35 rfl) (up_ne hw6 (AD.ne hAD 35 42 rfl rfl rfl) f4))
          have f15 := (up_ne hw9 (AD.nm hAD 36 rfl) (up_ne hw6 (AD.ne hAD 36 42 rfl rfl rfl) (up_ne hw1 (AD.ne hAD 36 41 rfl rfl rfl) a36)))
          have f16 := (up_ne hw9 (AD.nm hAD 41 rfl) (up_ne hw6 (AD.ne hAD 41 42 rfl rfl rfl) f2))
          have f17 := (up_ne hw9 (AD.nm hAD 42 rfl) f7)
          exact ih _ _ (k + 1) _ _ (by omega) f11 rfs10 ((((FrI.mono hfr (by simp) rfl : FrI A [mm] [41, 42] w0 _).trans (FrI.ua hw1 rfl)).trans (FrI.ua hw6 rfl)).trans (FrI.ux hw9 (by simp))) ((FF.mono hff rfl : FF [43] fs0 _).trans (FF.set sfs10 rfl)) v13 (by rw [hE]; have q := v12; rw [show (anL pe k).length = 0 from c45] at q; exact q) f14 f15 f16 f17 (by omega) (by rw [hE, show (anL pe k).length = 0 from c45]; exact ANI.one)
        · skip
          refine j_iload_n dX6_anchor_48 0 rfl ?_
          refine j_aload_n dX6_anchor_49 1 rfl ?_
          refine j_get (v := .ref (A 41)) flX6_anchor_71 hmm (hA.2 41 rfl) dX6_anchor_50 ?_
          refine j_aload_n dX6_anchor_53 1 rfl ?_
          refine j_get (v := .int (nI ((anL pe k).length))) flX6_anchor_199 hmm h43 dX6_anchor_54 ?_
          refine j_iconst (v := nI 1) dX6_anchor_57 (by decide) ?_
          refine j_isubN (by omega) dX6_anchor_58 ?_
          refine j_ialdN (j := ((anL pe k).length) - 1) a41 rfl (by omega) (by omega) dX6_anchor_59 ?_
          obtain ⟨a0, l0, hL⟩ : ∃ a l, anL pe k = a :: l := by cases hq : anL pe k with | nil => rw [hq] at c45; simp at c45 | cons a l => exact ⟨a, l, rfl⟩
          have hae : ae ((anL pe k).length - 1) = pe a0 := by have q := (hN 0 a0 (by rw [hL]; rfl)).1; simpa using q
          have hal : pe a0 < 100 := hpe a0 (Nat.le_trans (anL_mem (pe := pe) (k := k) (by rw [hL]; exact List.mem_cons_self)) hk)
          refine j_eqi (y := nI (pe a0)) (by rw [hae]) ?_
          refine j_icmp_geN 68 (by omega) (by omega) dX6_anchor_60 (by decide) (fun c60 => ?_) (fun c60 => ?_)
          · skip
            refine j_aload_n dX6_anchor_68 1 rfl ?_
            refine j_get (v := .ref (A 41)) flX6_anchor_71 hmm (hA.2 41 rfl) dX6_anchor_69 ?_
            refine j_aload_n dX6_anchor_72 1 rfl ?_
            refine j_get (v := .int (nI ((anL pe k).length))) flX6_anchor_199 hmm h43 dX6_anchor_73 ?_
            refine j_iload_n dX6_anchor_76 0 rfl ?_
            refine j_iastn (j := (anL pe k).length) (x := pe (k + 1)) a41 rfl (by omega) (by omega) dX6_anchor_77 ?_
            refine j_w (fun w18 hw18 => ?_)
            have f19 : w18 (A 41) = some (.inl (0, 400, .inl (fun j9 => nI ((va_up ae ((anL pe k).length) (pe (k + 1))) j9)))) := up_at hw18
            refine j_aload_n dX6_anchor_78 1 rfl ?_
            have f20 := (up_ne hw18 (AD.mn hAD 41 rfl) hmm)
            refine j_get (v := .ref (A 42)) flX6_anchor_74 f20 (hA.2 42 rfl) dX6_anchor_79 ?_
            refine j_aload_n dX6_anchor_82 1 rfl ?_
            refine j_get (v := .int (nI ((anL pe k).length))) flX6_anchor_199 f20 h43 dX6_anchor_83 ?_
            refine j_aload_n dX6_anchor_86 1 rfl ?_
            refine j_get (v := .ref (A 35)) flX6_anchor_51 f20 (hA.2 35 rfl) dX6_anchor_87 ?_
            refine j_iload_n dX6_anchor_90 2 rfl ?_
            have f21 := (up_ne hw18 (AD.ne hAD 35 41 rfl rfl rfl) a35)
            refine j_ialdN (j := k) f21 rfl (by omega) (by omega) dX6_anchor_91 ?_
            have f22 := (up_ne hw18 (AD.ne hAD 42 41 rfl rfl rfl) a42)
            refine j_iastn (j := (anL pe k).length) (x := ti k) f22 rfl (by omega) (by omega) dX6_anchor_92 ?_
            refine j_w (fun w23 hw23 => ?_)
            have f24 : w23 (A 42) = some (.inl (0, 400, .inl (fun j9 => nI ((va_up aT ((anL pe k).length) (ti k)) j9)))) := up_at hw23
            refine j_aload_n dX6_anchor_93 1 rfl ?_
            refine j_dup dX6_anchor_94 rfl ?_
            have f25 := (up_ne hw23 (AD.mn hAD 42 rfl) f20)
            refine j_get (v := .int (nI ((anL pe k).length))) flX6_anchor_199 f25 h43 dX6_anchor_95 ?_
            refine j_iconst (v := nI 1) dX6_anchor_98 (by decide) ?_
            refine j_iaddN dX6_anchor_99 ?_
            refine j_putM fsX6_anchor_199 f25 rfl rfl (RA.lt hA (by decide)) dX6_anchor_100 (fun w26 fs27 sfs27 hw26 => ?_)
            have f28 : w26 mm = some (.inr (6, fs27)) := up_at hw26
            have rfs27 : RA A fs27 := RA.set hA sfs27 rfl
            have v29 := st_at sfs27 hA (by decide : 43 < 45)
            refine j_iinc (q := 2) (v := nI (k + 1)) (lv' := [(1, .int (nI (k + 1))), (2, .int (nI (pe (k + 1)))), (0, .ref mm)]) dX6_anchor_103 rfl (by first | exact nI_1 _ | exact nI_add _ _) (Nat.le_of_ble_eq_true rfl) rfl ?_
            refine j_goto 7 dX6_anchor_106 (by decide) ?_
            refine j_lv (lv' := [(0, .ref mm), (1, .int (nI (k + 1)))]) [2, 0] rfl ?_
            have hE : anL pe (k + 1) = (k + 1) :: anL pe k := by
              show (if _ then _ else _) = _
              rw [if_neg (fun q => by omega), hL]; simp only; rw [if_neg (by omega)]
            have v30 := (st_ne sfs27 rfl h34)
            have f31 := (up_ne hw26 (AD.nm hAD 35 rfl) (up_ne hw23 (AD.ne hAD 35 42 rfl rfl rfl) f21))
            have f32 := (up_ne hw26 (AD.nm hAD 36 rfl) (up_ne hw23 (AD.ne hAD 36 42 rfl rfl rfl) (up_ne hw18 (AD.ne hAD 36 41 rfl rfl rfl) a36)))
            have f33 := (up_ne hw26 (AD.nm hAD 41 rfl) (up_ne hw23 (AD.ne hAD 41 42 rfl rfl rfl) f19))
            have f34 := (up_ne hw26 (AD.nm hAD 42 rfl) f24)
            exact ih _ _ (k + 1) _ _ (by omega) f28 rfs27 ((((FrI.mono hfr (by simp) rfl : FrI A [mm] [41, 42] w0 _).trans (FrI.ua hw18 rfl)).trans (FrI.ua hw23 rfl)).trans (FrI.ux hw26 (by simp))) ((FF.mono hff rfl : FF [43] fs0 _).trans (FF.set sfs27 rfl)) v30 (by rw [hE]; exact v29) f31 f32 f33 f34 (by omega) (by rw [hE]; exact ANI.push hN)
          · skip
            refine j_aload_n dX6_anchor_63 1 rfl ?_
            refine j_iconst (v := nI 0) dX6_anchor_64 (by decide) ?_
            refine j_putM fsX6_anchor_199 hmm rfl rfl (RA.lt hA (by decide)) dX6_anchor_65 (fun w35 fs36 sfs36 hw35 => ?_)
            have f37 : w35 mm = some (.inr (6, fs36)) := up_at hw35
            have rfs36 : RA A fs36 := RA.set hA sfs36 rfl
            have v38 := st_at sfs36 hA (by decide : 43 < 45)
            refine j_aload_n dX6_anchor_68 1 rfl ?_
            refine j_get (v := .ref (A 41)) flX6_anchor_71 f37 (rfs36.2 41 rfl) dX6_anchor_69 ?_
            refine j_aload_n dX6_anchor_72 1 rfl ?_
            refine j_get (v := .int (nI 0)) flX6_anchor_199 f37 v38 dX6_anchor_73 ?_
            refine j_iload_n dX6_anchor_76 0 rfl ?_
            have f39 := (up_ne hw35 (AD.nm hAD 41 rfl) a41)
            refine j_iastn (j := 0) (x := pe (k + 1)) f39 rfl (by omega) (by omega) dX6_anchor_77 ?_
            refine j_w (fun w40 hw40 => ?_)
            have f41 : w40 (A 41) = some (.inl (0, 400, .inl (fun j9 => nI ((va_up ae 0 (pe (k + 1))) j9)))) := up_at hw40
            refine j_aload_n dX6_anchor_78 1 rfl ?_
            have f42 := (up_ne hw40 (AD.mn hAD 41 rfl) f37)
            refine j_get (v := .ref (A 42)) flX6_anchor_74 f42 (rfs36.2 42 rfl) dX6_anchor_79 ?_
            refine j_aload_n dX6_anchor_82 1 rfl ?_
            refine j_get (v := .int (nI 0)) flX6_anchor_199 f42 v38 dX6_anchor_83 ?_
            refine j_aload_n dX6_anchor_86 1 rfl ?_
            refine j_get (v := .ref (A 35)) flX6_anchor_51 f42 (rfs36.2 35 rfl) dX6_anchor_87 ?_
            refine j_iload_n dX6_anchor_90 2 rfl ?_
            have f43 := (up_ne hw40 (AD.ne hAD 35 41 rfl rfl rfl) (up_ne hw35 (AD.nm hAD 35 rfl) a35))
            refine j_ialdN (j := k) f43 rfl (by omega) (by omega) dX6_anchor_91 ?_
            have f44 := (up_ne hw40 (AD.ne hAD 42 41 rfl rfl rfl) (up_ne hw35 (AD.nm hAD 42 rfl) a42))
            refine j_iastn (j := 0) (x := ti k) f44 rfl (by omega) (by omega) dX6_anchor_92 ?_
            refine j_w (fun w45 hw45 => ?_)
            have f46 : w45 (A 42) = some (.inl (0, 400, .inl (fun j9 => nI ((va_up aT 0 (ti k)) j9)))) := up_at hw45
            refine j_aload_n dX6_anchor_93 1 rfl ?_
            refine j_dup dX6_anchor_94 rfl ?_
            have f47 := (up_ne hw45 (AD.mn hAD 42 rfl) f42)
            refine j_get (v := .int (nI 0)) flX6_anchor_199 f47 v38 dX6_anchor_95 ?_
            refine j_iconst (v := nI 1) dX6_anchor_98 (by decide) ?_
            refine j_iaddN dX6_anchor_99 ?_
            refine j_putM fsX6_anchor_199 f47 rfl rfl (RA.lt rfs36 (by decide)) dX6_anchor_100 (fun w48 fs49 sfs49 hw48 => ?_)
            have f50 : w48 mm = some (.inr (6, fs49)) := up_at hw48
            have rfs49 : RA A fs49 := RA.set rfs36 sfs49 rfl
            have v51 := st_at sfs49 rfs36 (by decide : 43 < 45)
            refine j_iinc (q := 2) (v := nI (k + 1)) (lv' := [(1, .int (nI (k + 1))), (2, .int (nI (pe (k + 1)))), (0, .ref mm)]) dX6_anchor_103 rfl (by first | exact nI_1 _ | exact nI_add _ _) (Nat.le_of_ble_eq_true rfl) rfl ?_
            refine j_goto 7 dX6_anchor_106 (by decide) ?_
            refine j_lv (lv' := [(0, .ref mm), (1, .int (nI (k + 1)))]) [2, 0] rfl ?_
            have hE : anL pe (k + 1) = [k + 1] := by
              show (if _ then _ else _) = _
              rw [if_neg (fun q => by omega), hL]; simp only; rw [if_pos c60]
            have v52 := (st_ne sfs49 rfl (st_ne sfs36 rfl h34))
            have f53 := (up_ne hw48 (AD.nm hAD 35 rfl) (up_ne hw45 (AD.ne hAD 35 42 rfl rfl rfl) f43))
            have f54 := (up_ne hw48 (AD.nm hAD 36 rfl) (up_ne hw45 (AD.ne hAD 36 42 rfl rfl rfl) (up_ne hw40 (AD.ne hAD 36 41 rfl rfl rfl) (up_ne hw35 (AD.nm hAD 36 rfl) a36))))
            have f55 := (up_ne hw48 (AD.nm hAD 41 rfl) (up_ne hw45 (AD.ne hAD 41 42 rfl rfl rfl) f41))
            have f56 := (up_ne hw48 (AD.nm hAD 42 rfl) f46)
            exact ih _ _ (k + 1) _ _ (by omega) f50 rfs49 (((((FrI.mono hfr (by simp) rfl : FrI A [mm] [41, 42] w0 _).trans (FrI.ux hw35 (by simp))).trans (FrI.ua hw40 rfl)).trans (FrI.ua hw45 rfl)).trans (FrI.ux hw48 (by simp))) (((FF.mono hff rfl : FF [43] fs0 _).trans (FF.set sfs36 rfl)).trans (FF.set sfs49 rfl)) v52 (by rw [hE]; exact v51) f53 f54 f55 f56 (by omega) (by rw [hE]; exact ANI.one)
      · skip
        refine j_iload_n dX6_anchor_28 0 rfl ?_
        refine j_aload_n dX6_anchor_29 1 rfl ?_
        refine j_get (v := .ref (A 36)) flX6_anchor_54 hmm (hA.2 36 rfl) dX6_anchor_30 ?_
        refine j_iload_n dX6_anchor_33 2 rfl ?_
        refine j_ialdN (j := k) a36 rfl (by omega) (by omega) dX6_anchor_34 ?_
        refine j_icmp_neN 41 (by omega) (by omega) dX6_anchor_35 (by decide) (fun c35 => ?_) (fun c35 => ?_)
        · skip
          refine j_aload_n dX6_anchor_41 1 rfl ?_
          refine j_get (v := .int (nI ((anL pe k).length))) flX6_anchor_199 hmm h43 dX6_anchor_42 ?_
          refine j_if_leN 68 (by omega) dX6_anchor_45 (by decide) (fun c45 => ?_) (fun c45 => ?_)
          · skip
            refine j_aload_n dX6_anchor_68 1 rfl ?_
            refine j_get (v := .ref (A 41)) flX6_anchor_71 hmm (hA.2 41 rfl) dX6_anchor_69 ?_
            refine j_aload_n dX6_anchor_72 1 rfl ?_
            refine j_get (v := .int (nI ((anL pe k).length))) flX6_anchor_199 hmm h43 dX6_anchor_73 ?_
            refine j_iload_n dX6_anchor_76 0 rfl ?_
            refine j_iastn (j := (anL pe k).length) (x := pe (k + 1)) a41 rfl (by omega) (by omega) dX6_anchor_77 ?_
            refine j_w (fun w57 hw57 => ?_)
            have f58 : w57 (A 41) = some (.inl (0, 400, .inl (fun j9 => nI ((va_up ae ((anL pe k).length) (pe (k + 1))) j9)))) := up_at hw57
            refine j_aload_n dX6_anchor_78 1 rfl ?_
            have f59 := (up_ne hw57 (AD.mn hAD 41 rfl) hmm)
            refine j_get (v := .ref (A 42)) flX6_anchor_74 f59 (hA.2 42 rfl) dX6_anchor_79 ?_
            refine j_aload_n dX6_anchor_82 1 rfl ?_
            refine j_get (v := .int (nI ((anL pe k).length))) flX6_anchor_199 f59 h43 dX6_anchor_83 ?_
            refine j_aload_n dX6_anchor_86 1 rfl ?_
            refine j_get (v := .ref (A 35)) flX6_anchor_51 f59 (hA.2 35 rfl) dX6_anchor_87 ?_
            refine j_iload_n dX6_anchor_90 2 rfl ?_
            have f60 := (up_ne hw57 (AD.ne hAD 35 41 rfl rfl rfl) a35)
            refine j_ialdN (j := k) f60 rfl (by omega) (by omega) dX6_anchor_91 ?_
            have f61 := (up_ne hw57 (AD.ne hAD 42 41 rfl rfl rfl) a42)
            refine j_iastn (j := (anL pe k).length) (x := ti k) f61 rfl (by omega) (by omega) dX6_anchor_92 ?_
            refine j_w (fun w62 hw62 => ?_)
            have f63 : w62 (A 42) = some (.inl (0, 400, .inl (fun j9 => nI ((va_up aT ((anL pe k).length) (ti k)) j9)))) := up_at hw62
            refine j_aload_n dX6_anchor_93 1 rfl ?_
            refine j_dup dX6_anchor_94 rfl ?_
            have f64 := (up_ne hw62 (AD.mn hAD 42 rfl) f59)
            refine j_get (v := .int (nI ((anL pe k).length))) flX6_anchor_199 f64 h43 dX6_anchor_95 ?_
            refine j_iconst (v := nI 1) dX6_anchor_98 (by decide) ?_
            refine j_iaddN dX6_anchor_99 ?_
            refine j_putM fsX6_anchor_199 f64 rfl rfl (RA.lt hA (by decide)) dX6_anchor_100 (fun w65 fs66 sfs66 hw65 => ?_)
            have f67 : w65 mm = some (.inr (6, fs66)) := up_at hw65
            have rfs66 : RA A fs66 := RA.set hA sfs66 rfl
            have v68 := st_at sfs66 hA (by decide : 43 < 45)
            refine j_iinc (q := 2) (v := nI (k + 1)) (lv' := [(1, .int (nI (k + 1))), (2, .int (nI (pe (k + 1)))), (0, .ref mm)]) dX6_anchor_103 rfl (by first | exact nI_1 _ | exact nI_add _ _) (Nat.le_of_ble_eq_true rfl) rfl ?_
            refine j_goto 7 dX6_anchor_106 (by decide) ?_
            refine j_lv (lv' := [(0, .ref mm), (1, .int (nI (k + 1)))]) [2, 0] rfl ?_
            have hL : anL pe k = [] := List.eq_nil_of_length_eq_zero c45
            have hE : anL pe (k + 1) = [k + 1] := by
              show (if _ then _ else _) = _
              rw [if_neg (fun q => c35 q.2), hL]
            have v69 := (st_ne sfs66 rfl h34)
            have f70 := (up_ne hw65 (AD.nm hAD 35 rfl) (up_ne hw62 (AD.ne hAD 35 42 rfl rfl rfl) f60))
            have f71 := (up_ne hw65 (AD.nm hAD 36 rfl) (up_ne hw62 (AD.ne hAD 36 42 rfl rfl rfl) (up_ne hw57 (AD.ne hAD 36 41 rfl rfl rfl) a36)))
            have f72 := (up_ne hw65 (AD.nm hAD 41 rfl) (up_ne hw62 (AD.ne hAD 41 42 rfl rfl rfl) f58))
            have f73 := (up_ne hw65 (AD.nm hAD 42 rfl) f63)
            exact ih _ _ (k + 1) _ _ (by omega) f67 rfs66 ((((FrI.mono hfr (by simp) rfl : FrI A [mm] [41, 42] w0 _).trans (FrI.ua hw57 rfl)).trans (FrI.ua hw62 rfl)).trans (FrI.ux hw65 (by simp))) ((FF.mono hff rfl : FF [43] fs0 _).trans (FF.set sfs66 rfl)) v69 (by rw [hE]; have q := v68; rw [show (anL pe k).length = 0 from c45] at q; exact q) f70 f71 f72 f73 (by omega) (by rw [hE, show (anL pe k).length = 0 from c45]; exact ANI.one)
          · skip
            refine j_iload_n dX6_anchor_48 0 rfl ?_
            refine j_aload_n dX6_anchor_49 1 rfl ?_
            refine j_get (v := .ref (A 41)) flX6_anchor_71 hmm (hA.2 41 rfl) dX6_anchor_50 ?_
            refine j_aload_n dX6_anchor_53 1 rfl ?_
            refine j_get (v := .int (nI ((anL pe k).length))) flX6_anchor_199 hmm h43 dX6_anchor_54 ?_
            refine j_iconst (v := nI 1) dX6_anchor_57 (by decide) ?_
            refine j_isubN (by omega) dX6_anchor_58 ?_
            refine j_ialdN (j := ((anL pe k).length) - 1) a41 rfl (by omega) (by omega) dX6_anchor_59 ?_
            obtain ⟨a0, l0, hL⟩ : ∃ a l, anL pe k = a :: l := by cases hq : anL pe k with | nil => rw [hq] at c45; simp at c45 | cons a l => exact ⟨a, l, rfl⟩
            have hae : ae ((anL pe k).length - 1) = pe a0 := by have q := (hN 0 a0 (by rw [hL]; rfl)).1; simpa using q
            have hal : pe a0 < 100 := hpe a0 (Nat.le_trans (anL_mem (pe := pe) (k := k) (by rw [hL]; exact List.mem_cons_self)) hk)
            refine j_eqi (y := nI (pe a0)) (by rw [hae]) ?_
            refine j_icmp_geN 68 (by omega) (by omega) dX6_anchor_60 (by decide) (fun c60 => ?_) (fun c60 => ?_)
            · skip
              refine j_aload_n dX6_anchor_68 1 rfl ?_
              refine j_get (v := .ref (A 41)) flX6_anchor_71 hmm (hA.2 41 rfl) dX6_anchor_69 ?_
              refine j_aload_n dX6_anchor_72 1 rfl ?_
              refine j_get (v := .int (nI ((anL pe k).length))) flX6_anchor_199 hmm h43 dX6_anchor_73 ?_
              refine j_iload_n dX6_anchor_76 0 rfl ?_
              refine j_iastn (j := (anL pe k).length) (x := pe (k + 1)) a41 rfl (by omega) (by omega) dX6_anchor_77 ?_
              refine j_w (fun w74 hw74 => ?_)
              have f75 : w74 (A 41) = some (.inl (0, 400, .inl (fun j9 => nI ((va_up ae ((anL pe k).length) (pe (k + 1))) j9)))) := up_at hw74
              refine j_aload_n dX6_anchor_78 1 rfl ?_
              have f76 := (up_ne hw74 (AD.mn hAD 41 rfl) hmm)
              refine j_get (v := .ref (A 42)) flX6_anchor_74 f76 (hA.2 42 rfl) dX6_anchor_79 ?_
              refine j_aload_n dX6_anchor_82 1 rfl ?_
              refine j_get (v := .int (nI ((anL pe k).length))) flX6_anchor_199 f76 h43 dX6_anchor_83 ?_
              refine j_aload_n dX6_anchor_86 1 rfl ?_
              refine j_get (v := .ref (A 35)) flX6_anchor_51 f76 (hA.2 35 rfl) dX6_anchor_87 ?_
              refine j_iload_n dX6_anchor_90 2 rfl ?_
              have f77 := (up_ne hw74 (AD.ne hAD 35 41 rfl rfl rfl) a35)
              refine j_ialdN (j := k) f77 rfl (by omega) (by omega) dX6_anchor_91 ?_
              have f78 := (up_ne hw74 (AD.ne hAD 42 41 rfl rfl rfl) a42)
              refine j_iastn (j := (anL pe k).length) (x := ti k) f78 rfl (by omega) (by omega) dX6_anchor_92 ?_
              refine j_w (fun w79 hw79 => ?_)
              have f80 : w79 (A 42) = some (.inl (0, 400, .inl (fun j9 => nI ((va_up aT ((anL pe k).length) (ti k)) j9)))) := up_at hw79
              refine j_aload_n dX6_anchor_93 1 rfl ?_
              refine j_dup dX6_anchor_94 rfl ?_
              have f81 := (up_ne hw79 (AD.mn hAD 42 rfl) f76)
              refine j_get (v := .int (nI ((anL pe k).length))) flX6_anchor_199 f81 h43 dX6_anchor_95 ?_
              refine j_iconst (v := nI 1) dX6_anchor_98 (by decide) ?_
              refine j_iaddN dX6_anchor_99 ?_
              refine j_putM fsX6_anchor_199 f81 rfl rfl (RA.lt hA (by decide)) dX6_anchor_100 (fun w82 fs83 sfs83 hw82 => ?_)
              have f84 : w82 mm = some (.inr (6, fs83)) := up_at hw82
              have rfs83 : RA A fs83 := RA.set hA sfs83 rfl
              have v85 := st_at sfs83 hA (by decide : 43 < 45)
              refine j_iinc (q := 2) (v := nI (k + 1)) (lv' := [(1, .int (nI (k + 1))), (2, .int (nI (pe (k + 1)))), (0, .ref mm)]) dX6_anchor_103 rfl (by first | exact nI_1 _ | exact nI_add _ _) (Nat.le_of_ble_eq_true rfl) rfl ?_
              refine j_goto 7 dX6_anchor_106 (by decide) ?_
              refine j_lv (lv' := [(0, .ref mm), (1, .int (nI (k + 1)))]) [2, 0] rfl ?_
              have hE : anL pe (k + 1) = (k + 1) :: anL pe k := by
                show (if _ then _ else _) = _
                rw [if_neg (fun q => c35 q.2), hL]; simp only; rw [if_neg (by omega)]
              have v86 := (st_ne sfs83 rfl h34)
              have f87 := (up_ne hw82 (AD.nm hAD 35 rfl) (up_ne hw79 (AD.ne hAD 35 42 rfl rfl rfl) f77))
              have f88 := (up_ne hw82 (AD.nm hAD 36 rfl) (up_ne hw79 (AD.ne hAD 36 42 rfl rfl rfl) (up_ne hw74 (AD.ne hAD 36 41 rfl rfl rfl) a36)))
              have f89 := (up_ne hw82 (AD.nm hAD 41 rfl) (up_ne hw79 (AD.ne hAD 41 42 rfl rfl rfl) f75))
              have f90 := (up_ne hw82 (AD.nm hAD 42 rfl) f80)
              exact ih _ _ (k + 1) _ _ (by omega) f84 rfs83 ((((FrI.mono hfr (by simp) rfl : FrI A [mm] [41, 42] w0 _).trans (FrI.ua hw74 rfl)).trans (FrI.ua hw79 rfl)).trans (FrI.ux hw82 (by simp))) ((FF.mono hff rfl : FF [43] fs0 _).trans (FF.set sfs83 rfl)) v86 (by rw [hE]; exact v85) f87 f88 f89 f90 (by omega) (by rw [hE]; exact ANI.push hN)
            · skip
              refine j_aload_n dX6_anchor_63 1 rfl ?_
              refine j_iconst (v := nI 0) dX6_anchor_64 (by decide) ?_
              refine j_putM fsX6_anchor_199 hmm rfl rfl (RA.lt hA (by decide)) dX6_anchor_65 (fun w91 fs92 sfs92 hw91 => ?_)
              have f93 : w91 mm = some (.inr (6, fs92)) := up_at hw91
              have rfs92 : RA A fs92 := RA.set hA sfs92 rfl
              have v94 := st_at sfs92 hA (by decide : 43 < 45)
              refine j_aload_n dX6_anchor_68 1 rfl ?_
              refine j_get (v := .ref (A 41)) flX6_anchor_71 f93 (rfs92.2 41 rfl) dX6_anchor_69 ?_
              refine j_aload_n dX6_anchor_72 1 rfl ?_
              refine j_get (v := .int (nI 0)) flX6_anchor_199 f93 v94 dX6_anchor_73 ?_
              refine j_iload_n dX6_anchor_76 0 rfl ?_
              have f95 := (up_ne hw91 (AD.nm hAD 41 rfl) a41)
              refine j_iastn (j := 0) (x := pe (k + 1)) f95 rfl (by omega) (by omega) dX6_anchor_77 ?_
              refine j_w (fun w96 hw96 => ?_)
              have f97 : w96 (A 41) = some (.inl (0, 400, .inl (fun j9 => nI ((va_up ae 0 (pe (k + 1))) j9)))) := up_at hw96
              refine j_aload_n dX6_anchor_78 1 rfl ?_
              have f98 := (up_ne hw96 (AD.mn hAD 41 rfl) f93)
              refine j_get (v := .ref (A 42)) flX6_anchor_74 f98 (rfs92.2 42 rfl) dX6_anchor_79 ?_
              refine j_aload_n dX6_anchor_82 1 rfl ?_
              refine j_get (v := .int (nI 0)) flX6_anchor_199 f98 v94 dX6_anchor_83 ?_
              refine j_aload_n dX6_anchor_86 1 rfl ?_
              refine j_get (v := .ref (A 35)) flX6_anchor_51 f98 (rfs92.2 35 rfl) dX6_anchor_87 ?_
              refine j_iload_n dX6_anchor_90 2 rfl ?_
              have f99 := (up_ne hw96 (AD.ne hAD 35 41 rfl rfl rfl) (up_ne hw91 (AD.nm hAD 35 rfl) a35))
              refine j_ialdN (j := k) f99 rfl (by omega) (by omega) dX6_anchor_91 ?_
              have f100 := (up_ne hw96 (AD.ne hAD 42 41 rfl rfl rfl) (up_ne hw91 (AD.nm hAD 42 rfl) a42))
              refine j_iastn (j := 0) (x := ti k) f100 rfl (by omega) (by omega) dX6_anchor_92 ?_
              refine j_w (fun w101 hw101 => ?_)
              have f102 : w101 (A 42) = some (.inl (0, 400, .inl (fun j9 => nI ((va_up aT 0 (ti k)) j9)))) := up_at hw101
              refine j_aload_n dX6_anchor_93 1 rfl ?_
              refine j_dup dX6_anchor_94 rfl ?_
              have f103 := (up_ne hw101 (AD.mn hAD 42 rfl) f98)
              refine j_get (v := .int (nI 0)) flX6_anchor_199 f103 v94 dX6_anchor_95 ?_
              refine j_iconst (v := nI 1) dX6_anchor_98 (by decide) ?_
              refine j_iaddN dX6_anchor_99 ?_
              refine j_putM fsX6_anchor_199 f103 rfl rfl (RA.lt rfs92 (by decide)) dX6_anchor_100 (fun w104 fs105 sfs105 hw104 => ?_)
              have f106 : w104 mm = some (.inr (6, fs105)) := up_at hw104
              have rfs105 : RA A fs105 := RA.set rfs92 sfs105 rfl
              have v107 := st_at sfs105 rfs92 (by decide : 43 < 45)
              refine j_iinc (q := 2) (v := nI (k + 1)) (lv' := [(1, .int (nI (k + 1))), (2, .int (nI (pe (k + 1)))), (0, .ref mm)]) dX6_anchor_103 rfl (by first | exact nI_1 _ | exact nI_add _ _) (Nat.le_of_ble_eq_true rfl) rfl ?_
              refine j_goto 7 dX6_anchor_106 (by decide) ?_
              refine j_lv (lv' := [(0, .ref mm), (1, .int (nI (k + 1)))]) [2, 0] rfl ?_
              have hE : anL pe (k + 1) = [k + 1] := by
                show (if _ then _ else _) = _
                rw [if_neg (fun q => c35 q.2), hL]; simp only; rw [if_pos c60]
              have v108 := (st_ne sfs105 rfl (st_ne sfs92 rfl h34))
              have f109 := (up_ne hw104 (AD.nm hAD 35 rfl) (up_ne hw101 (AD.ne hAD 35 42 rfl rfl rfl) f99))
              have f110 := (up_ne hw104 (AD.nm hAD 36 rfl) (up_ne hw101 (AD.ne hAD 36 42 rfl rfl rfl) (up_ne hw96 (AD.ne hAD 36 41 rfl rfl rfl) (up_ne hw91 (AD.nm hAD 36 rfl) a36))))
              have f111 := (up_ne hw104 (AD.nm hAD 41 rfl) (up_ne hw101 (AD.ne hAD 41 42 rfl rfl rfl) f97))
              have f112 := (up_ne hw104 (AD.nm hAD 42 rfl) f102)
              exact ih _ _ (k + 1) _ _ (by omega) f106 rfs105 (((((FrI.mono hfr (by simp) rfl : FrI A [mm] [41, 42] w0 _).trans (FrI.ux hw91 (by simp))).trans (FrI.ua hw96 rfl)).trans (FrI.ua hw101 rfl)).trans (FrI.ux hw104 (by simp))) (((FF.mono hff rfl : FF [43] fs0 _).trans (FF.set sfs92 rfl)).trans (FF.set sfs105 rfl)) v108 (by rw [hE]; exact v107) f109 f110 f111 f112 (by omega) (by rw [hE]; exact ANI.one)
        · skip
          refine j_goto 103 dX6_anchor_38 (by decide) ?_
          refine j_iinc (q := 2) (v := nI (k + 1)) (lv' := [(1, .int (nI (k + 1))), (2, .int (nI (pe (k + 1)))), (0, .ref mm)]) dX6_anchor_103 rfl (by first | exact nI_1 _ | exact nI_add _ _) (Nat.le_of_ble_eq_true rfl) rfl ?_
          refine j_goto 7 dX6_anchor_106 (by decide) ?_
          refine j_lv (lv' := [(0, .ref mm), (1, .int (nI (k + 1)))]) [2, 0] rfl ?_
          have hE : anL pe (k + 1) = anL pe k := if_pos ⟨by omega, c35⟩
          exact ih _ _ (k + 1) _ _ (by omega) hmm hA (FrI.mono hfr (by simp) rfl : FrI A [mm] [41, 42] w0 _) (FF.mono hff rfl : FF [43] fs0 _) h34 (by rw [hE]; exact h43) a35 a36 a41 a42 (by omega) (by rw [hE]; exact hN)
set_option maxHeartbeats 4000000 in
set_option maxRecDepth 100000 in
theorem m_anchor {pe ti ae aT : Nat → Nat} {nt : Nat} {w : pW} {A : Nat → Nat} {mm : Nat} {fs : List Value} (hAD : AD A mm) (hmm : w mm = some (.inr (6, fs))) (hA : RA A fs) (h34 : fs[34]? = some (.int (nI nt))) (a35 : w (A 35) = some (.inl (0, 400, .inl (fun j9 => nI (ti j9))))) (a36 : w (A 36) = some (.inl (0, 401, .inl (fun j9 => nI (pe j9))))) (a41 : w (A 41) = some (.inl (0, 400, .inl (fun j9 => nI (ae j9))))) (a42 : w (A 42) = some (.inl (0, 400, .inl (fun j9 => nI (aT j9))))) (hnt : nt ≤ 400) (hpe : ∀ j, j ≤ nt → pe j < 100) : Ct yX6_anchor wsX6_anchor rX6_anchor [.ref mm] w (fun o9 w9 => o9 = .inl none ∧ ∃ fs9 : List Value, MU A mm [41, 42] [43] w w9 fs fs9 ∧ fs9[43]? = some (.int (nI (anL pe nt).length)) ∧ ∃ ae9 aT9 : Nat → Nat, w9 (A 41) = some (.inl (0, 400, .inl (fun j9 => nI (ae9 j9)))) ∧ w9 (A 42) = some (.inl (0, 400, .inl (fun j9 => nI (aT9 j9)))) ∧ ANI pe ti (anL pe nt) ae9 aT9) := by
  refine Ct.of (cc := cX6_anchor) (own := RX6) (nm := "anchor") (nL := 3) (ret := none) (by decide +kernel) rfl rfl rfl (Nat.le_of_ble_eq_true rfl) ?_
  refine j_lvE (lv' := [(0, .ref mm)]) rfl ?_
  refine j_aload_n dX6_anchor_0 0 rfl ?_
  refine j_iconst (v := nI 0) dX6_anchor_1 (by decide) ?_
  refine j_putM fsX6_anchor_199 hmm rfl rfl (RA.lt hA (by decide)) dX6_anchor_2 (fun w1 fs2 sfs2 hw1 => ?_)
  have f3 : w1 mm = some (.inr (6, fs2)) := up_at hw1
  have rfs2 : RA A fs2 := RA.set hA sfs2 rfl
  have v4 := st_at sfs2 hA (by decide : 43 < 45)
  refine j_iconst (v := nI 0) dX6_anchor_5 (by decide) ?_
  refine j_istore_n (lv' := [(1, .int (nI 0)), (0, .ref mm)]) dX6_anchor_6 (Nat.le_of_ble_eq_true rfl) rfl ?_
  refine j_lv (lv' := [(0, .ref mm), (1, .int (nI 0))]) [1, 0] rfl ?_
  have v5 := (st_ne sfs2 rfl h34)
  have f6 := (up_ne hw1 (AD.nm hAD 35 rfl) a35)
  have f7 := (up_ne hw1 (AD.nm hAD 36 rfl) a36)
  have f8 := (up_ne hw1 (AD.nm hAD 41 rfl) a41)
  have f9 := (up_ne hw1 (AD.nm hAD 42 rfl) a42)
  exact l_anchor hAD hnt hpe _ _ _ 0 _ _ (Nat.lt_succ_self _) f3 rfs2 ((FrI.refl : FrI A [mm] [41, 42] w w).trans (FrI.ux hw1 (by simp))) ((FF.refl : FF [43] fs fs).trans (FF.set sfs2 rfl)) v5 v4 f6 f7 f8 f9 (Nat.zero_le _) (fun i a h => by simp [anL] at h)
