section MC
def MV (A : Nat → Nat) (mm r : Nat) (L l : List Nat) (w w9 : pW) (fs fs9 : List Value) : Prop := FrI A [mm, r] L w w9 ∧ w9 mm = some (.inr (6, fs9)) ∧ FF l fs fs9
/-- a reading looks at the text alone -/
theorem bA_cg {t t' : Nat → Nat} {ln : Nat} (h : ∀ j, j < ln → t j = t' j) (i : Nat) : bA t ln i = bA t' ln i := by
  by_cases hi : i < ln
  · rw [bA_in hi, bA_in hi, h i hi]
  · rw [bA_out (by omega), bA_out (by omega)]
theorem nvF_cg {t t' : Nat → Nat} {s : Nat} : ∀ {k : Nat}, (∀ m, m < k → t (s + m) = t' (s + m)) → nvF t s k = nvF t' s k
  | 0, _ => rfl
  | k + 1, h => by
    simp only [nvF]
    rw [nvF_cg (fun m hm => h m (by omega)), h k (by omega)]
theorem tk_cg {t t' : Nat → Nat} {ln : Nat} (h : ∀ j, j < ln → t j = t' j) (s : Nat) : tk t ln s = tk t' ln s := by
  have hb : bA t ln = bA t' ln := funext (bA_cg h)
  have hK : ptK t ln s = ptK t' ln s := by unfold ptK; rw [hb]
  have hV : ptV t ln s = ptV t' ln s := by unfold ptV; rw [hb]
  have hD : dgE t ln s = dgE t' ln s := by unfold dgE; rw [hb]
  have hO : ∀ p, ptO t ln p = ptO t' ln p := by
    intro p
    unfold ptO
    by_cases hp : p < ln
    · rw [h p hp]
    · rw [decide_eq_false (fun q => hp q.1), decide_eq_false (fun q => hp q.1)]
  unfold tk
  by_cases h0 : ln ≤ s
  · rw [if_pos h0, if_pos h0]
  · rw [if_neg h0, if_neg h0, h s (by omega), hK, hV, hD, hb, hO]
    split
    · by_cases hp : ptO t' ln (s + 1 + ptK t' ln s) = true
      · rw [if_pos hp, if_pos hp]
        have := of_decide_eq_true hp
        rw [h _ this.1]
      · rw [if_neg hp, if_neg hp]
    · split
      · by_cases h3 : 3 < dgE t' ln s - s
        · rw [if_pos h3, if_pos h3]
        · rw [if_neg h3, if_neg h3]
          have hbd := whl_bd (q := fun i => isD (bA t' ln i)) (k := ln - s) (p := s)
          rw [nvF_cg (fun m hm => h _ (by unfold dgE at hm; omega))]
      · rfl
theorem rRun_cg {t t' : Nat → Nat} {ln : Nat} (h : ∀ j, j < ln → t j = t' j) : ∀ (k a : Nat) (s : RSt), rRun t ln k a s = rRun t' ln k a s
  | 0, a, s => by simp only [rRun, tkK, tkV]; rw [tk_cg h]
  | k + 1, a, s => by
    have hb : bA t ln = bA t' ln := funext (bA_cg h)
    have hN : tkN t ln a = tkN t' ln a := by unfold tkN skB; rw [tk_cg h, hb]
    simp only [rRun]
    have hKK : tkK t ln a = tkK t' ln a := by unfold tkK; rw [tk_cg h]
    have hVV : tkV t ln a = tkV t' ln a := by unfold tkV; rw [tk_cg h]
    rw [hKK, hVV, hN, rRun_cg h k]
theorem rRead_cg {t t' : Nat → Nat} {ln : Nat} {f : Nat → Int32} (h : ∀ j, j < ln → t j = t' j) : rRead t ln f = rRead t' ln f := by
  unfold rRead
  have hb : bA t ln = bA t' ln := funext (bA_cg h)
  rw [rRun_cg h]
  unfold skB
  rw [hb]
theorem fil_lt {t o : Nat → Nat} {n : Nat} (ht : ∀ j, t j < 256) (ho : ∀ j, o j < 256) : ∀ j, fil t o n j < 256 := by
  intro j
  unfold fil
  split
  · exact ho j
  · exact ht j
end MC
abbrev rX6_begin : Room := { frames := 0, cells := 0, slots := 0, locals := 0 }
theorem flX6_begin_54 : FL wsX6_begin RX6 54 6 36 := ⟨RX6, TX6, 45, rfl, by decide, by decide +kernel, by decide +kernel⟩
theorem flX6_begin_57 : FL wsX6_begin RX6 57 6 37 := ⟨RX6, TX6, 45, rfl, by decide, by decide +kernel, by decide +kernel⟩
theorem flX6_begin_62 : FL wsX6_begin RX6 62 6 38 := ⟨RX6, TX6, 45, rfl, by decide, by decide +kernel, by decide +kernel⟩
set_option maxRecDepth 100000 in
theorem mX6_begin_0 : Cond.constant RX6 202 (268435456) ∈ wsX6_begin := by decide +kernel
set_option maxHeartbeats 4000000 in
set_option maxRecDepth 100000 in
theorem l_begin {c0 pe pb cr : Nat → Nat} {w0 : pW} {fs fs0 : List Value} {A : Nat → Nat} {mm : Nat} (hAD : AD A mm) (hA : RA A fs) (hff : FF [34, 43] fs0 fs) (h34 : fs[34]? = some (.int (nI 0))) (h43 : fs[43]? = some (.int (nI 0))) (hrw : RW A mm (cr 0)) : ∀ (m9 : Nat) (w : pW) (i : Nat), 1600 - i < m9 → (w mm = some (.inr (6, fs))) → (FrI A [mm, (cr 0)] [36, 37] w0 w) → (w (A 36) = some (.inl (0, 401, .inl (fun j9 => nI (pe j9))))) → (w (A 37) = some (.inl (0, 401, .inl (fun j9 => nI (pb j9))))) → (w (A 38) = some (.inl (4, 401, .inr (.inr (.inr (.inr (fun j9 => some (cr j9)))))))) → (w (cr 0) = some (.inl (0, 1600, .inl (fun j9 => nI ((fil c0 g00 i) j9))))) → (i ≤ 1600) → J ((cX6_begin, RX6, 2, wsX6_begin), (rX6_begin, none, "begin", []), fun o w9 => o = .inl none ∧ ∃ fs9 : List Value, MV A mm (cr 0) [36, 37] [34, 43] w0 w9 fs0 fs9 ∧ fs9[34]? = some (.int (nI 0)) ∧ fs9[43]? = some (.int (nI 0)) ∧ w9 (cr 0) = some (.inl (0, 1600, .inl (fun j9 => nI ((fil c0 g00 1600) j9)))) ∧ w9 (A 36) = some (.inl (0, 401, .inl (fun j9 => nI ((va_up pe 0 0) j9)))) ∧ w9 (A 37) = some (.inl (0, 401, .inl (fun j9 => nI ((va_up pb 0 0) j9)))), fun _ _ _ => True) 12 [(0, .ref mm), (1, .int (nI i))] [] w 0 0 := by
  intro m9
  induction m9 with
  | zero => intro w i h9; omega
  | succ m9 ih =>
    intro w i hm9 hmm hfr a36 a37 a38 hr0 hi
    refine j_iload_n dX6_begin_12 1 rfl ?_
    refine j_sipush (v := nI 1600) dX6_begin_13 (by decide) ?_
    refine j_icmp_geN 43 (by omega) (by omega) dX6_begin_16 (by decide) (fun c16 => ?_) (fun c16 => ?_)
    · skip
      refine j_aload_n dX6_begin_43 0 rfl ?_
      refine j_get (v := .ref (A 36)) flX6_begin_54 hmm (hA.2 36 rfl) dX6_begin_44 ?_
      refine j_iconst (v := nI 0) dX6_begin_47 (by decide) ?_
      refine j_iconst (v := nI 0) dX6_begin_48 (by decide) ?_
      refine j_iastn (j := 0) (x := 0) a36 rfl (by omega) (by omega) dX6_begin_49 ?_
      refine j_w (fun w1 hw1 => ?_)
      have f2 : w1 (A 36) = some (.inl (0, 401, .inl (fun j9 => nI ((va_up pe 0 0) j9)))) := up_at hw1
      refine j_aload_n dX6_begin_50 0 rfl ?_
      have f3 := (up_ne hw1 (AD.mn hAD 36 rfl) hmm)
      refine j_get (v := .ref (A 37)) flX6_begin_57 f3 (hA.2 37 rfl) dX6_begin_51 ?_
      refine j_iconst (v := nI 0) dX6_begin_54 (by decide) ?_
      refine j_iconst (v := nI 0) dX6_begin_55 (by decide) ?_
      have f4 := (up_ne hw1 (AD.ne hAD 37 36 rfl rfl rfl) a37)
      refine j_iastn (j := 0) (x := 0) f4 rfl (by omega) (by omega) dX6_begin_56 ?_
      refine j_w (fun w5 hw5 => ?_)
      have f6 : w5 (A 37) = some (.inl (0, 401, .inl (fun j9 => nI ((va_up pb 0 0) j9)))) := up_at hw5
      have f7 := (up_ne hw5 (AD.mn hAD 37 rfl) f3)
      have hi16 : i = 1600 := by omega
      subst hi16
      have f8 := (up_ne hw5 (hrw.2 37 rfl) (up_ne hw1 (hrw.2 36 rfl) hr0))
      have f9 := (up_ne hw5 (AD.ne hAD 36 37 rfl rfl rfl) f2)
      exact j_vret rfl ⟨rfl, _, ⟨(((FrI.mono hfr (by simp) rfl : FrI A [mm, (cr 0)] [36, 37] w0 _).trans (FrI.ua hw1 rfl)).trans (FrI.ua hw5 rfl)), f7, (FF.mono hff rfl : FF [34, 43] fs0 _)⟩, h34, h43, f8, f9, f6⟩ (show 0 ≤ 0 by omega) (show 0 ≤ 0 by omega) dX6_begin_57
    · skip
      refine j_aload_n dX6_begin_19 0 rfl ?_
      refine j_get (v := .ref (A 38)) flX6_begin_62 hmm (hA.2 38 rfl) dX6_begin_20 ?_
      refine j_iconst (v := nI 0) dX6_begin_23 (by decide) ?_
      refine j_aaldN (j := 0) a38 rfl (by omega) (by omega) dX6_begin_24 ?_
      refine j_after (st' := [.ref (cr 0)]) (k' := 0) (n' := 0) rfl rfl rfl ?_
      refine j_iload_n dX6_begin_25 1 rfl ?_
      refine j_iload_n dX6_begin_26 1 rfl ?_
      refine j_if_neN 34 (by omega) dX6_begin_27 (by decide) (fun c27 => ?_) (fun c27 => ?_)
      · skip
        refine j_ldc (v := nI 268435456) dX6_begin_34 mX6_begin_0 ?_
        have hg : g00 i = 268435456 := by unfold g00; rw [if_neg c27]
        refine j_eqi (y := nI (g00 i)) (by rw [hg]) ?_
        refine j_iastn (j := i) (x := g00 i) hr0 rfl (by omega) (by omega) dX6_begin_36 ?_
        refine j_w (fun w10 hw10 => ?_)
        have f11 : w10 (cr 0) = some (.inl (0, 1600, .inl (fun j9 => nI ((va_up (fil c0 g00 i) i (g00 i)) j9)))) := up_at hw10
        refine j_iinc (q := 1) (v := nI (i + 1)) (lv' := [(1, .int (nI (i + 1))), (0, .ref mm)]) dX6_begin_37 rfl (by first | exact nI_1 _ | exact nI_add _ _) (Nat.le_of_ble_eq_true rfl) rfl ?_
        refine j_goto 12 dX6_begin_40 (by decide) ?_
        refine j_lv (lv' := [(0, .ref mm), (1, .int (nI (i + 1)))]) [1, 0] rfl ?_
        have f12 := (up_ne hw10 (Ne.symm hrw.1) hmm)
        have f13 := (up_ne hw10 (Ne.symm (hrw.2 36 rfl)) a36)
        have f14 := (up_ne hw10 (Ne.symm (hrw.2 37 rfl)) a37)
        have f15 := (up_ne hw10 (Ne.symm (hrw.2 38 rfl)) a38)
        exact ih _ (i + 1) (by omega) f12 ((FrI.mono hfr (by simp) rfl : FrI A [mm, (cr 0)] [36, 37] w0 _).trans (FrI.ux hw10 (by simp))) f13 f14 f15 (by rw [← fil_s]; exact f11) (by omega)
      · skip
        refine j_iconst (v := nI 0) dX6_begin_30 (by decide) ?_
        refine j_goto 36 dX6_begin_31 (by decide) ?_
        have hg : g00 i = 0 := by unfold g00; rw [if_pos c27]
        refine j_eqi (y := nI (g00 i)) (by rw [hg]) ?_
        refine j_iastn (j := i) (x := g00 i) hr0 rfl (by omega) (by omega) dX6_begin_36 ?_
        refine j_w (fun w16 hw16 => ?_)
        have f17 : w16 (cr 0) = some (.inl (0, 1600, .inl (fun j9 => nI ((va_up (fil c0 g00 i) i (g00 i)) j9)))) := up_at hw16
        refine j_iinc (q := 1) (v := nI (i + 1)) (lv' := [(1, .int (nI (i + 1))), (0, .ref mm)]) dX6_begin_37 rfl (by first | exact nI_1 _ | exact nI_add _ _) (Nat.le_of_ble_eq_true rfl) rfl ?_
        refine j_goto 12 dX6_begin_40 (by decide) ?_
        refine j_lv (lv' := [(0, .ref mm), (1, .int (nI (i + 1)))]) [1, 0] rfl ?_
        have f18 := (up_ne hw16 (Ne.symm hrw.1) hmm)
        have f19 := (up_ne hw16 (Ne.symm (hrw.2 36 rfl)) a36)
        have f20 := (up_ne hw16 (Ne.symm (hrw.2 37 rfl)) a37)
        have f21 := (up_ne hw16 (Ne.symm (hrw.2 38 rfl)) a38)
        exact ih _ (i + 1) (by omega) f18 ((FrI.mono hfr (by simp) rfl : FrI A [mm, (cr 0)] [36, 37] w0 _).trans (FrI.ux hw16 (by simp))) f19 f20 f21 (by rw [← fil_s]; exact f17) (by omega)
theorem fsX6_begin_196 : FS wsX6_begin RX6 196 6 34 false (.int) := ⟨RX6, TX6, 45, tyX6, rfl, by decide, by decide +kernel, by decide +kernel, tyX6_ok, nmX6, rfl, rfl, rfl⟩
theorem fsX6_begin_199 : FS wsX6_begin RX6 199 6 43 false (.int) := ⟨RX6, TX6, 45, tyX6, rfl, by decide, by decide +kernel, by decide +kernel, tyX6_ok, nmX6, rfl, rfl, rfl⟩
set_option maxHeartbeats 4000000 in
set_option maxRecDepth 100000 in
theorem m_begin {c0 pe pb cr : Nat → Nat} {w : pW} {A : Nat → Nat} {mm : Nat} {fs : List Value} (hAD : AD A mm) (hmm : w mm = some (.inr (6, fs))) (hA : RA A fs) (a36 : w (A 36) = some (.inl (0, 401, .inl (fun j9 => nI (pe j9))))) (a37 : w (A 37) = some (.inl (0, 401, .inl (fun j9 => nI (pb j9))))) (a38 : w (A 38) = some (.inl (4, 401, .inr (.inr (.inr (.inr (fun j9 => some (cr j9)))))))) (hr0 : w (cr 0) = some (.inl (0, 1600, .inl (fun j9 => nI (c0 j9))))) (hrw : RW A mm (cr 0)) : Ct yX6_begin wsX6_begin rX6_begin [.ref mm] w (fun o w9 => o = .inl none ∧ ∃ fs9 : List Value, MV A mm (cr 0) [36, 37] [34, 43] w w9 fs fs9 ∧ fs9[34]? = some (.int (nI 0)) ∧ fs9[43]? = some (.int (nI 0)) ∧ w9 (cr 0) = some (.inl (0, 1600, .inl (fun j9 => nI ((fil c0 g00 1600) j9)))) ∧ w9 (A 36) = some (.inl (0, 401, .inl (fun j9 => nI ((va_up pe 0 0) j9)))) ∧ w9 (A 37) = some (.inl (0, 401, .inl (fun j9 => nI ((va_up pb 0 0) j9))))) := by
  refine Ct.of (cc := cX6_begin) (own := RX6) (nm := "begin") (nL := 2) (ret := none) (by decide +kernel) rfl rfl rfl (Nat.le_of_ble_eq_true rfl) ?_
  refine j_lvE (lv' := [(0, .ref mm)]) rfl ?_
  refine j_aload_n dX6_begin_0 0 rfl ?_
  refine j_iconst (v := nI 0) dX6_begin_1 (by decide) ?_
  refine j_putM fsX6_begin_196 hmm rfl rfl (RA.lt hA (by decide)) dX6_begin_2 (fun w1 fs2 sfs2 hw1 => ?_)
  have f3 : w1 mm = some (.inr (6, fs2)) := up_at hw1
  have rfs2 : RA A fs2 := RA.set hA sfs2 rfl
  have v4 := st_at sfs2 hA (by decide : 34 < 45)
  refine j_aload_n dX6_begin_5 0 rfl ?_
  refine j_iconst (v := nI 0) dX6_begin_6 (by decide) ?_
  refine j_putM fsX6_begin_199 f3 rfl rfl (RA.lt rfs2 (by decide)) dX6_begin_7 (fun w5 fs6 sfs6 hw5 => ?_)
  have f7 : w5 mm = some (.inr (6, fs6)) := up_at hw5
  have rfs6 : RA A fs6 := RA.set rfs2 sfs6 rfl
  have v8 := st_at sfs6 rfs2 (by decide : 43 < 45)
  refine j_iconst (v := nI 0) dX6_begin_10 (by decide) ?_
  refine j_istore_n (lv' := [(1, .int (nI 0)), (0, .ref mm)]) dX6_begin_11 (Nat.le_of_ble_eq_true rfl) rfl ?_
  refine j_lv (lv' := [(0, .ref mm), (1, .int (nI 0))]) [1, 0] rfl ?_
  have v9 := (st_ne sfs6 rfl v4)
  have f10 := (up_ne hw5 (AD.nm hAD 36 rfl) (up_ne hw1 (AD.nm hAD 36 rfl) a36))
  have f11 := (up_ne hw5 (AD.nm hAD 37 rfl) (up_ne hw1 (AD.nm hAD 37 rfl) a37))
  have f12 := (up_ne hw5 (AD.nm hAD 38 rfl) (up_ne hw1 (AD.nm hAD 38 rfl) a38))
  have f13 := (up_ne hw5 hrw.1 (up_ne hw1 hrw.1 hr0))
  exact l_begin hAD rfs6 (((FF.refl : FF [34, 43] fs fs).trans (FF.set sfs2 rfl)).trans (FF.set sfs6 rfl)) v9 v8 hrw _ _ 0 (Nat.lt_succ_self _) f7 (((FrI.refl : FrI A [mm, (cr 0)] [36, 37] w w).trans (FrI.ux hw1 (by simp))).trans (FrI.ux hw5 (by simp))) f10 f11 f12 (by rw [fil_0]; exact f13) (by omega)
abbrev rX6_again : Room := { frames := 1, cells := 0, slots := 0, locals := 21 }
theorem fsX6_again_80 : FS wsX6_again RX6 80 6 0 false (.int) := ⟨RX6, TX6, 45, tyX6, rfl, by decide, by decide +kernel, by decide +kernel, tyX6_ok, nmX6, rfl, rfl, rfl⟩
theorem flX6_again_196 : FL wsX6_again RX6 196 6 34 := ⟨RX6, TX6, 45, rfl, by decide, by decide +kernel, by decide +kernel⟩
set_option maxHeartbeats 4000000 in
set_option maxRecDepth 100000 in
theorem m_again {c0 pe pb cr : Nat → Nat} {nt : Nat} {w : pW} {A : Nat → Nat} {mm : Nat} {fs : List Value} (hAD : AD A mm) (hmm : w mm = some (.inr (6, fs))) (hA : RA A fs) (h34 : fs[34]? = some (.int (nI nt))) (a36 : w (A 36) = some (.inl (0, 401, .inl (fun j9 => nI (pe j9))))) (a37 : w (A 37) = some (.inl (0, 401, .inl (fun j9 => nI (pb j9))))) (a38 : w (A 38) = some (.inl (4, 401, .inr (.inr (.inr (.inr (fun j9 => some (cr j9)))))))) (hr0 : w (cr 0) = some (.inl (0, 1600, .inl (fun j9 => nI (c0 j9))))) (hrw : RW A mm (cr 0)) : Ct yX6_again wsX6_again rX6_again [.ref mm] w (fun o w9 => o = .inl (some (.int (nI nt))) ∧ ∃ fs9 : List Value, MV A mm (cr 0) [36, 37] [0, 34, 43] w w9 fs fs9 ∧ fs9[0]? = some (.int (nI 0)) ∧ fs9[34]? = some (.int (nI 0)) ∧ fs9[43]? = some (.int (nI 0)) ∧ w9 (cr 0) = some (.inl (0, 1600, .inl (fun j9 => nI ((fil c0 g00 1600) j9)))) ∧ w9 (A 36) = some (.inl (0, 401, .inl (fun j9 => nI ((va_up pe 0 0) j9)))) ∧ w9 (A 37) = some (.inl (0, 401, .inl (fun j9 => nI ((va_up pb 0 0) j9))))) := by
  refine Ct.of (cc := cX6_again) (own := RX6) (nm := "again") (nL := 2) (ret := (some .int)) (by decide +kernel) rfl rfl rfl (Nat.le_of_ble_eq_true rfl) ?_
  refine j_lvE (lv' := [(0, .ref mm)]) rfl ?_
  refine j_aload_n dX6_again_0 0 rfl ?_
  refine j_iconst (v := nI 0) dX6_again_1 (by decide) ?_
  refine j_putM fsX6_again_80 hmm rfl rfl (RA.lt hA (by decide)) dX6_again_2 (fun w1 fs2 sfs2 hw1 => ?_)
  have f3 : w1 mm = some (.inr (6, fs2)) := up_at hw1
  have rfs2 : RA A fs2 := RA.set hA sfs2 rfl
  have v4 := st_at sfs2 hA (by decide : 0 < 45)
  refine j_aload_n dX6_again_5 0 rfl ?_
  have v5 := (st_ne sfs2 rfl h34)
  refine j_get (v := .int (nI nt)) flX6_again_196 f3 v5 dX6_again_6 ?_
  refine j_istore_n (lv' := [(1, .int (nI nt)), (0, .ref mm)]) dX6_again_9 (Nat.le_of_ble_eq_true rfl) rfl ?_
  refine j_aload_n dX6_again_10 1 rfl ?_
  have f11 := (up_ne hw1 (AD.nm hAD 36 rfl) a36)
  have f12 := (up_ne hw1 (AD.nm hAD 37 rfl) a37)
  have f13 := (up_ne hw1 (AD.nm hAD 38 rfl) a38)
  have f14 := (up_ne hw1 hrw.1 hr0)
  refine j_callV (rm := rX6_begin) (As := []) (st := []) (b0 := mm) (ci := 6) (na := 0) (m_begin hAD f3 rfs2 f11 f12 f13 f14 hrw) (by intro E w9 h9; first | exact nomatch h9.1 | (obtain ⟨_, h9, _⟩ := h9; exact nomatch h9) | (obtain ⟨_, _, _, h9, _⟩ := h9; exact nomatch h9)) gX6_again_X6_begin rfl rfl f3 (by decide +kernel) rfl ⟨Nat.le_of_ble_eq_true rfl, Nat.le_of_ble_eq_true rfl⟩ rfl (Nat.le_of_ble_eq_true rfl) dX6_again_11 ⟨(show 0 + 0 ≤ 0 by omega), (show 0 + 0 ≤ 0 by omega)⟩ (fun v20 w21 h22 => ?_)
  obtain ⟨h19, fs15, ⟨hfr16, hm17, hff18⟩, v6, v7, f8, f9, f10⟩ := h22
  cases h19
  refine j_after (st' := []) (k' := 0) (n' := 0) rfl rfl rfl ?_
  have r23 : RA A fs15 := RA.ff rfs2 hff18 rfl
  refine j_iload_n dX6_again_14 0 rfl ?_
  have v24 := (FF.at hff18 rfl v4)
  exact j_iret rfl ⟨rfl, _, ⟨(((FrI.refl : FrI A [mm, (cr 0)] [36, 37] w w).trans (FrI.ux hw1 (by simp))).trans (FrI.mono hfr16 (by simp) rfl)), hm17, (((FF.refl : FF [0, 34, 43] fs fs).trans (FF.set sfs2 rfl)).trans (FF.mono hff18 rfl))⟩, v24, v6, v7, f8, f9, f10⟩ (show 0 ≤ 0 by omega) (show 0 ≤ 0 by omega) dX6_again_15
abbrev rX6_music : Room := { frames := 5, cells := 0, slots := 0, locals := 115 }
theorem fsX6_music_80 : FS wsX6_music RX6 80 6 0 false (.int) := ⟨RX6, TX6, 45, tyX6, rfl, by decide, by decide +kernel, by decide +kernel, tyX6_ok, nmX6, rfl, rfl, rfl⟩
theorem flX6_music_83 : FL wsX6_music RX6 83 6 2 := ⟨RX6, TX6, 45, rfl, by decide, by decide +kernel, by decide +kernel⟩
set_option maxHeartbeats 4000000 in
set_option maxRecDepth 100000 in
theorem m_musicBad {tl : Nat} {x : Int32} {w : pW} {A : Nat → Nat} {mm : Nat} {fs : List Value} (hAD : AD A mm) (hmm : w mm = some (.inr (6, fs))) (hA : RA A fs) (h2 : fs[2]? = some (.int (nI tl))) (hb : x < 0 ∨ nI tl < x) (htl : tl ≤ 2400) : Ct yX6_music wsX6_music rX6_music [.ref mm, .int x] w (fun o w9 => o = .inl (some (.int (nI 0))) ∧ ∃ fs9 : List Value, MU A mm [] [0] w w9 fs fs9 ∧ fs9[0]? = some (.int (nI 1))) := by
  refine Ct.of (cc := cX6_music) (own := RX6) (nm := "music") (nL := 3) (ret := (some .int)) (by decide +kernel) rfl rfl rfl (Nat.le_of_ble_eq_true rfl) ?_
  refine j_lvE (lv' := [(0, .ref mm), (1, .int x)]) rfl ?_
  refine j_aload_n dX6_music_0 0 rfl ?_
  refine j_iconst (v := nI 0) dX6_music_1 (by decide) ?_
  refine j_putM fsX6_music_80 hmm rfl rfl (RA.lt hA (by decide)) dX6_music_2 (fun w1 fs2 sfs2 hw1 => ?_)
  have f3 : w1 mm = some (.inr (6, fs2)) := up_at hw1
  have rfs2 : RA A fs2 := RA.set hA sfs2 rfl
  have v4 := st_at sfs2 hA (by decide : 0 < 45)
  refine j_iload_n dX6_music_5 1 rfl ?_
  refine j_if_lt 17 dX6_music_6 (by decide) (fun c6 => ?_) (fun c6 => ?_)
  · skip
    refine j_aload_n dX6_music_17 0 rfl ?_
    refine j_callV (rm := rX6_fail) (As := []) (st := []) (b0 := mm) (ci := 6) (na := 0) (m_fail hAD f3 rfs2) (by intro E w9 h9; first | exact nomatch h9.1 | (obtain ⟨_, h9, _⟩ := h9; exact nomatch h9) | (obtain ⟨_, _, _, h9, _⟩ := h9; exact nomatch h9)) gX6_music_X6_fail rfl rfl f3 (by decide +kernel) rfl ⟨Nat.le_of_ble_eq_true rfl, Nat.le_of_ble_eq_true rfl⟩ rfl (Nat.le_of_ble_eq_true rfl) dX6_music_18 ⟨(show 0 + 0 ≤ 0 by omega), (show 0 + 0 ≤ 0 by omega)⟩ (fun v11 w12 h13 => ?_)
    obtain ⟨h10, fs6, ⟨hfr7, hm8, hff9⟩, v5⟩ := h13
    cases h10
    refine j_after (st' := [.int (nI 0)]) (k' := 0) (n' := 0) rfl rfl rfl ?_
    have r14 : RA A fs6 := RA.ff rfs2 hff9 rfl
    exact j_iret rfl ⟨rfl, _, ⟨(((FrI.refl : FrI A [mm] [] w w).trans (FrI.ux hw1 (by simp))).trans (FrI.sub hfr7 rfl)), hm8, (((FF.refl : FF [0] fs fs).trans (FF.set sfs2 rfl)).trans (FF.mono hff9 rfl))⟩, v5⟩ (show 0 ≤ 0 by omega) (show 0 ≤ 0 by omega) dX6_music_21
  · skip
    refine j_iload_n dX6_music_9 1 rfl ?_
    refine j_aload_n dX6_music_10 0 rfl ?_
    have v15 := (st_ne sfs2 rfl h2)
    refine j_get (v := .int (nI tl)) flX6_music_83 f3 v15 dX6_music_11 ?_
    refine j_icmp_le 22 dX6_music_14 (by decide) (fun c14 => ?_) (fun c14 => ?_)
    · skip
      exact absurd (bad2 hb c6 c14) id
    · skip
      refine j_aload_n dX6_music_17 0 rfl ?_
      refine j_callV (rm := rX6_fail) (As := []) (st := []) (b0 := mm) (ci := 6) (na := 0) (m_fail hAD f3 rfs2) (by intro E w9 h9; first | exact nomatch h9.1 | (obtain ⟨_, h9, _⟩ := h9; exact nomatch h9) | (obtain ⟨_, _, _, h9, _⟩ := h9; exact nomatch h9)) gX6_music_X6_fail rfl rfl f3 (by decide +kernel) rfl ⟨Nat.le_of_ble_eq_true rfl, Nat.le_of_ble_eq_true rfl⟩ rfl (Nat.le_of_ble_eq_true rfl) dX6_music_18 ⟨(show 0 + 0 ≤ 0 by omega), (show 0 + 0 ≤ 0 by omega)⟩ (fun v22 w23 h24 => ?_)
      obtain ⟨h21, fs17, ⟨hfr18, hm19, hff20⟩, v16⟩ := h24
      cases h21
      refine j_after (st' := [.int (nI 0)]) (k' := 0) (n' := 0) rfl rfl rfl ?_
      have r25 : RA A fs17 := RA.ff rfs2 hff20 rfl
      exact j_iret rfl ⟨rfl, _, ⟨(((FrI.refl : FrI A [mm] [] w w).trans (FrI.ux hw1 (by simp))).trans (FrI.sub hfr18 rfl)), hm19, (((FF.refl : FF [0] fs fs).trans (FF.set sfs2 rfl)).trans (FF.mono hff20 rfl))⟩, v16⟩ (show 0 ≤ 0 by omega) (show 0 ≤ 0 by omega) dX6_music_21
theorem fsX6_music_190 : FS wsX6_music RX6 190 6 21 false (.int) := ⟨RX6, TX6, 45, tyX6, rfl, by decide, by decide +kernel, by decide +kernel, tyX6_ok, nmX6, rfl, rfl, rfl⟩
theorem flX6_music_48 : FL wsX6_music RX6 48 6 20 := ⟨RX6, TX6, 45, rfl, by decide, by decide +kernel, by decide +kernel⟩
theorem flX6_music_9 : FL wsX6_music RX6 9 6 1 := ⟨RX6, TX6, 45, rfl, by decide, by decide +kernel, by decide +kernel⟩
set_option maxHeartbeats 4000000 in
set_option maxRecDepth 100000 in
theorem l_mcopy {t ot c0 pe pb cr : Nat → Nat} {n : Nat} {nu : Int32} {R : Nat × Nat × RSt} {xk xm : Nat → Nat} {xp : Nat → Int32} {xb xs xe xg : Nat → Nat} {xl xi xc : Nat → Int32} {a9 sd9 mr9 cu9 rep9 np9 oc9 : Nat} {f9 : Nat → Int32} {ev9 be9 cq9 st9 me9 pa9 pg9 : Nat} {w0 : pW} {fs fs0 : List Value} {A : Nat → Nat} {mm : Nat} (hAD : AD A mm) (hA : RA A fs) (hff : FF [0, 2, 3, 4, 5, 6, 7, 8, 9, 21, 22, 23, 24, 25, 26, 27, 28, 29, 30, 31, 32, 33, 34, 43] fs0 fs) (h0 : fs[0]? = some (.int (nI 0))) (h2 : fs[2]? = some (.int (nI 0))) (h3 : fs[3]? = some (.int (nI 0))) (h4 : fs[4]? = some (.int ((-1)))) (h5 : fs[5]? = some (.int (nI ev9))) (h6 : fs[6]? = some (.int (nI me9))) (h7 : fs[7]? = some (.int (nI pg9))) (h8 : fs[8]? = some (.int (nI be9))) (h9 : fs[9]? = some (.int (nI cu9))) (h23 : fs[23]? = some (.int (nI n))) (h26 : fs[26]? = some (.int nu)) (hrw : RW A mm (cr 0)) (hn : n ≤ 2400) (hRe : R = (0, a9, (sd9, mr9, cu9, false, false, rep9, np9, oc9, f9, ev9, be9, cq9, st9, me9, pa9))) (hJ : RJ (sd9, mr9, cu9, false, false, rep9, np9, oc9, f9, ev9, be9, cq9, st9, me9, pa9)) (hsd : sd9 = 1 ∨ sd9 = 2) (hpg : pgI f9 ev9 pg9) (hTB : TBL xk xm xp xb xs xe xg xl xi xc f9 ev9) : ∀ (m9 : Nat) (w : pW) (i : Nat), n - i < m9 → (w mm = some (.inr (6, fs))) → (FrI A [mm, (cr 0)] [10, 11, 12, 13, 14, 15, 16, 17, 18, 19, 20, 36, 37] w0 w) → (w (A 1) = some (.inl (0, 2400, .inl (fun j9 => nI (t j9))))) → (w (A 10) = some (.inl (0, 100, .inl (fun j9 => nI (xk j9))))) → (w (A 11) = some (.inl (0, 100, .inl (fun j9 => nI (xm j9))))) → (w (A 12) = some (.inl (0, 400, .inl xp))) → (w (A 13) = some (.inl (0, 100, .inl (fun j9 => nI (xb j9))))) → (w (A 14) = some (.inl (0, 100, .inl (fun j9 => nI (xs j9))))) → (w (A 15) = some (.inl (0, 100, .inl (fun j9 => nI (xe j9))))) → (w (A 16) = some (.inl (0, 100, .inl (fun j9 => nI (xg j9))))) → (w (A 17) = some (.inl (0, 100, .inl xl))) → (w (A 18) = some (.inl (2, 100, .inl xi))) → (w (A 19) = some (.inl (2, 100, .inl xc))) → (w (A 36) = some (.inl (0, 401, .inl (fun j9 => nI (pe j9))))) → (w (A 37) = some (.inl (0, 401, .inl (fun j9 => nI (pb j9))))) → (w (A 38) = some (.inl (4, 401, .inr (.inr (.inr (.inr (fun j9 => some (cr j9)))))))) → (w (cr 0) = some (.inl (0, 1600, .inl (fun j9 => nI (c0 j9))))) → (w (A 20) = some (.inl (0, 2400, .inl (fun j9 => nI ((fil ot t i) j9))))) → (i ≤ n) → J ((cX6_music, RX6, 3, wsX6_music), (rX6_music, (some .int), "music", []), fun o w9 => o = .inl (some (.int (nI 0))) ∧ ∃ fs9 : List Value, MV A mm (cr 0) [10, 11, 12, 13, 14, 15, 16, 17, 18, 19, 20, 36, 37] [0, 2, 3, 4, 5, 6, 7, 8, 9, 21, 22, 23, 24, 25, 26, 27, 28, 29, 30, 31, 32, 33, 34, 43] w0 w9 fs0 fs9 ∧ fs9[0]? = some (.int (nI 0)) ∧ fs9[2]? = some (.int (nI 0)) ∧ fs9[3]? = some (.int (nI 0)) ∧ fs9[4]? = some (.int (-1)) ∧ fs9[21]? = some (.int (nI n)) ∧ fs9[23]? = some (.int (nI n)) ∧ fs9[34]? = some (.int (nI 0)) ∧ fs9[43]? = some (.int (nI 0)) ∧ (∃ nu9 : Int32, fs9[26]? = some (.int nu9)) ∧ w9 (A 20) = some (.inl (0, 2400, .inl (fun j9 => nI ((fil ot t n) j9)))) ∧ w9 (cr 0) = some (.inl (0, 1600, .inl (fun j9 => nI ((fil c0 g00 1600) j9)))) ∧ w9 (A 36) = some (.inl (0, 401, .inl (fun j9 => nI ((va_up pe 0 0) j9)))) ∧ w9 (A 37) = some (.inl (0, 401, .inl (fun j9 => nI ((va_up pb 0 0) j9)))) ∧ ∃ (xk xm : Nat → Nat) (xp : Nat → Int32) (xb xs xe xg : Nat → Nat) (xl xi xc : Nat → Int32), TA A w9 xk xm xp xb xs xe xg xl xi xc ∧ ∃ (a9 sd9 mr9 cu9 rep9 np9 oc9 : Nat) (f9 : Nat → Int32) (ev9 be9 cq9 st9 me9 pa9 pg9 : Nat), R = (0, a9, (sd9, mr9, cu9, false, false, rep9, np9, oc9, f9, ev9, be9, cq9, st9, me9, pa9)) ∧ RJ (sd9, mr9, cu9, false, false, rep9, np9, oc9, f9, ev9, be9, cq9, st9, me9, pa9) ∧ (sd9 = 1 ∨ sd9 = 2) ∧ fs9[5]? = some (.int (nI ev9)) ∧ fs9[6]? = some (.int (nI me9)) ∧ fs9[7]? = some (.int (nI pg9)) ∧ fs9[8]? = some (.int (nI be9)) ∧ fs9[9]? = some (.int (nI cu9)) ∧ pgI f9 ev9 pg9 ∧ TBL xk xm xp xb xs xe xg xl xi xc f9 ev9, fun _ _ _ => True) 72 [(0, .ref mm), (1, .int (nI n)), (2, .int (nI i))] [] w 0 0 := by
  intro m9
  induction m9 with
  | zero => intro w i h9; omega
  | succ m9 ih =>
    intro w i hm9 hmm hfr a1 a10 a11 a12 a13 a14 a15 a16 a17 a18 a19 a36 a37 a38 hr0 a20 hi
    refine j_iload_n dX6_music_72 2 rfl ?_
    refine j_iload_n dX6_music_73 1 rfl ?_
    refine j_icmp_geN 95 (by omega) (by omega) dX6_music_74 (by decide) (fun c74 => ?_) (fun c74 => ?_)
    · skip
      have hin : i = n := by omega
      subst hin
      refine j_aload_n dX6_music_95 0 rfl ?_
      refine j_iload_n dX6_music_96 1 rfl ?_
      refine j_putM fsX6_music_190 hmm rfl rfl (RA.lt hA (by decide)) dX6_music_97 (fun w1 fs2 sfs2 hw1 => ?_)
      have f3 : w1 mm = some (.inr (6, fs2)) := up_at hw1
      have rfs2 : RA A fs2 := RA.set hA sfs2 rfl
      have v4 := st_at sfs2 hA (by decide : 21 < 45)
      refine j_aload_n dX6_music_100 0 rfl ?_
      have f10 := (up_ne hw1 (AD.nm hAD 36 rfl) a36)
      have f11 := (up_ne hw1 (AD.nm hAD 37 rfl) a37)
      have f12 := (up_ne hw1 (AD.nm hAD 38 rfl) a38)
      have f13 := (up_ne hw1 hrw.1 hr0)
      refine j_callV (rm := rX6_begin) (As := []) (st := []) (b0 := mm) (ci := 6) (na := 0) (m_begin hAD f3 rfs2 f10 f11 f12 f13 hrw) (by intro E w9 h9; first | exact nomatch h9.1 | (obtain ⟨_, h9, _⟩ := h9; exact nomatch h9) | (obtain ⟨_, _, _, h9, _⟩ := h9; exact nomatch h9)) gX6_music_X6_begin rfl rfl f3 (by decide +kernel) rfl ⟨Nat.le_of_ble_eq_true rfl, Nat.le_of_ble_eq_true rfl⟩ rfl (Nat.le_of_ble_eq_true rfl) dX6_music_101 ⟨(show 0 + 0 ≤ 0 by omega), (show 0 + 0 ≤ 0 by omega)⟩ (fun v19 w20 h21 => ?_)
      obtain ⟨h18, fs14, ⟨hfr15, hm16, hff17⟩, v5, v6, f7, f8, f9⟩ := h21
      cases h18
      refine j_after (st' := []) (k' := 0) (n' := 0) rfl rfl rfl ?_
      have r22 : RA A fs14 := RA.ff rfs2 hff17 rfl
      refine j_iconst (v := nI 0) dX6_music_104 (by decide) ?_
      have v23 := (FF.at hff17 rfl (st_ne sfs2 rfl h0))
      have v24 := (FF.at hff17 rfl (st_ne sfs2 rfl h2))
      have v25 := (FF.at hff17 rfl (st_ne sfs2 rfl h3))
      have v26 := (FF.at hff17 rfl (st_ne sfs2 rfl h4))
      have v27 := (FF.at hff17 rfl v4)
      have v28 := (FF.at hff17 rfl (st_ne sfs2 rfl h23))
      have v29 := (FF.at hff17 rfl (st_ne sfs2 rfl h26))
      have f30 := (FrI.gen hfr15 (nm2 (AD.nm hAD 20 rfl) (Ne.symm (hrw.2 20 rfl))) (AD.nl hAD 20 rfl rfl rfl) (up_ne hw1 (AD.nm hAD 20 rfl) a20))
      have f31 := (FrI.gen hfr15 (nm2 (AD.nm hAD 10 rfl) (Ne.symm (hrw.2 10 rfl))) (AD.nl hAD 10 rfl rfl rfl) (up_ne hw1 (AD.nm hAD 10 rfl) a10))
      have f32 := (FrI.gen hfr15 (nm2 (AD.nm hAD 11 rfl) (Ne.symm (hrw.2 11 rfl))) (AD.nl hAD 11 rfl rfl rfl) (up_ne hw1 (AD.nm hAD 11 rfl) a11))
      have f33 := (FrI.gen hfr15 (nm2 (AD.nm hAD 12 rfl) (Ne.symm (hrw.2 12 rfl))) (AD.nl hAD 12 rfl rfl rfl) (up_ne hw1 (AD.nm hAD 12 rfl) a12))
      have f34 := (FrI.gen hfr15 (nm2 (AD.nm hAD 13 rfl) (Ne.symm (hrw.2 13 rfl))) (AD.nl hAD 13 rfl rfl rfl) (up_ne hw1 (AD.nm hAD 13 rfl) a13))
      have f35 := (FrI.gen hfr15 (nm2 (AD.nm hAD 14 rfl) (Ne.symm (hrw.2 14 rfl))) (AD.nl hAD 14 rfl rfl rfl) (up_ne hw1 (AD.nm hAD 14 rfl) a14))
      have f36 := (FrI.gen hfr15 (nm2 (AD.nm hAD 15 rfl) (Ne.symm (hrw.2 15 rfl))) (AD.nl hAD 15 rfl rfl rfl) (up_ne hw1 (AD.nm hAD 15 rfl) a15))
      have f37 := (FrI.gen hfr15 (nm2 (AD.nm hAD 16 rfl) (Ne.symm (hrw.2 16 rfl))) (AD.nl hAD 16 rfl rfl rfl) (up_ne hw1 (AD.nm hAD 16 rfl) a16))
      have f38 := (FrI.gen hfr15 (nm2 (AD.nm hAD 17 rfl) (Ne.symm (hrw.2 17 rfl))) (AD.nl hAD 17 rfl rfl rfl) (up_ne hw1 (AD.nm hAD 17 rfl) a17))
      have f39 := (FrI.gen hfr15 (nm2 (AD.nm hAD 18 rfl) (Ne.symm (hrw.2 18 rfl))) (AD.nl hAD 18 rfl rfl rfl) (up_ne hw1 (AD.nm hAD 18 rfl) a18))
      have f40 := (FrI.gen hfr15 (nm2 (AD.nm hAD 19 rfl) (Ne.symm (hrw.2 19 rfl))) (AD.nl hAD 19 rfl rfl rfl) (up_ne hw1 (AD.nm hAD 19 rfl) a19))
      have v41 := (FF.at hff17 rfl (st_ne sfs2 rfl h5))
      have v42 := (FF.at hff17 rfl (st_ne sfs2 rfl h6))
      have v43 := (FF.at hff17 rfl (st_ne sfs2 rfl h7))
      have v44 := (FF.at hff17 rfl (st_ne sfs2 rfl h8))
      have v45 := (FF.at hff17 rfl (st_ne sfs2 rfl h9))
      exact j_iret rfl ⟨rfl, _, ⟨(((FrI.mono hfr (by simp) rfl : FrI A [mm, (cr 0)] [10, 11, 12, 13, 14, 15, 16, 17, 18, 19, 20, 36, 37] w0 _).trans (FrI.ux hw1 (by simp))).trans (FrI.mono hfr15 (by simp) rfl)), hm16, (((FF.mono hff rfl : FF [0, 2, 3, 4, 5, 6, 7, 8, 9, 21, 22, 23, 24, 25, 26, 27, 28, 29, 30, 31, 32, 33, 34, 43] fs0 _).trans (FF.set sfs2 rfl)).trans (FF.mono hff17 rfl))⟩, v23, v24, v25, v26, v27, v28, v5, v6, ⟨_, v29⟩, f30, f7, f8, f9, _, _, _, _, _, _, _, _, _, _, ⟨f31, f32, f33, f34, f35, f36, f37, f38, f39, f40⟩, _, _, _, _, _, _, _, _, _, _, _, _, _, _, _, hRe, hJ, hsd, v41, v42, v43, v44, v45, hpg, hTB⟩ (show 0 ≤ 0 by omega) (show 0 ≤ 0 by omega) dX6_music_105
    · skip
      refine j_aload_n dX6_music_77 0 rfl ?_
      refine j_get (v := .ref (A 20)) flX6_music_48 hmm (hA.2 20 rfl) dX6_music_78 ?_
      refine j_iload_n dX6_music_81 2 rfl ?_
      refine j_aload_n dX6_music_82 0 rfl ?_
      refine j_get (v := .ref (A 1)) flX6_music_9 hmm (hA.2 1 rfl) dX6_music_83 ?_
      refine j_iload_n dX6_music_86 2 rfl ?_
      refine j_ialdN (j := i) a1 rfl (by omega) (by omega) dX6_music_87 ?_
      refine j_iastn (j := i) (x := t i) a20 rfl (by omega) (by omega) dX6_music_88 ?_
      refine j_w (fun w46 hw46 => ?_)
      have f47 : w46 (A 20) = some (.inl (0, 2400, .inl (fun j9 => nI ((va_up (fil ot t i) i (t i)) j9)))) := up_at hw46
      refine j_iinc (q := 2) (v := nI (i + 1)) (lv' := [(2, .int (nI (i + 1))), (0, .ref mm), (1, .int (nI n))]) dX6_music_89 rfl (by first | exact nI_1 _ | exact nI_add _ _) (Nat.le_of_ble_eq_true rfl) rfl ?_
      refine j_goto 72 dX6_music_92 (by decide) ?_
      refine j_lv (lv' := [(0, .ref mm), (1, .int (nI n)), (2, .int (nI (i + 1)))]) [1, 2, 0] rfl ?_
      have f48 := (up_ne hw46 (AD.mn hAD 20 rfl) hmm)
      have f49 := (up_ne hw46 (AD.ne hAD 1 20 rfl rfl rfl) a1)
      have f50 := (up_ne hw46 (AD.ne hAD 10 20 rfl rfl rfl) a10)
      have f51 := (up_ne hw46 (AD.ne hAD 11 20 rfl rfl rfl) a11)
      have f52 := (up_ne hw46 (AD.ne hAD 12 20 rfl rfl rfl) a12)
      have f53 := (up_ne hw46 (AD.ne hAD 13 20 rfl rfl rfl) a13)
      have f54 := (up_ne hw46 (AD.ne hAD 14 20 rfl rfl rfl) a14)
      have f55 := (up_ne hw46 (AD.ne hAD 15 20 rfl rfl rfl) a15)
      have f56 := (up_ne hw46 (AD.ne hAD 16 20 rfl rfl rfl) a16)
      have f57 := (up_ne hw46 (AD.ne hAD 17 20 rfl rfl rfl) a17)
      have f58 := (up_ne hw46 (AD.ne hAD 18 20 rfl rfl rfl) a18)
      have f59 := (up_ne hw46 (AD.ne hAD 19 20 rfl rfl rfl) a19)
      have f60 := (up_ne hw46 (AD.ne hAD 36 20 rfl rfl rfl) a36)
      have f61 := (up_ne hw46 (AD.ne hAD 37 20 rfl rfl rfl) a37)
      have f62 := (up_ne hw46 (AD.ne hAD 38 20 rfl rfl rfl) a38)
      have f63 := (up_ne hw46 (hrw.2 20 rfl) hr0)
      exact ih _ (i + 1) (by omega) f48 ((FrI.mono hfr (by simp) rfl : FrI A [mm, (cr 0)] [10, 11, 12, 13, 14, 15, 16, 17, 18, 19, 20, 36, 37] w0 _).trans (FrI.ua hw46 rfl)) f49 f50 f51 f52 f53 f54 f55 f56 f57 f58 f59 f60 f61 f62 f63 (by rw [← fil_s]; exact f47) (by omega)
theorem fsX6_music_83 : FS wsX6_music RX6 83 6 2 false (.int) := ⟨RX6, TX6, 45, tyX6, rfl, by decide, by decide +kernel, by decide +kernel, tyX6_ok, nmX6, rfl, rfl, rfl⟩
theorem fsX6_music_86 : FS wsX6_music RX6 86 6 23 false (.int) := ⟨RX6, TX6, 45, tyX6, rfl, by decide, by decide +kernel, by decide +kernel, tyX6_ok, nmX6, rfl, rfl, rfl⟩
theorem flX6_music_124 : FL wsX6_music RX6 124 6 29 := ⟨RX6, TX6, 45, rfl, by decide, by decide +kernel, by decide +kernel⟩
theorem fsX6_music_187 : FS wsX6_music RX6 187 6 3 false (.int) := ⟨RX6, TX6, 45, tyX6, rfl, by decide, by decide +kernel, by decide +kernel, tyX6_ok, nmX6, rfl, rfl, rfl⟩
theorem fsX6_music_13 : FS wsX6_music RX6 13 6 4 false (.int) := ⟨RX6, TX6, 45, tyX6, rfl, by decide, by decide +kernel, by decide +kernel, tyX6_ok, nmX6, rfl, rfl, rfl⟩
set_option maxHeartbeats 4000000 in
set_option maxRecDepth 100000 in
theorem m_musicOk {t ot c0 pe pb cr : Nat → Nat} {tl n os : Nat} {nu : Int32} {R : Nat × Nat × RSt} {f : Nat → Int32} {xk xm : Nat → Nat} {xp : Nat → Int32} {xb xs xe xg : Nat → Nat} {xl xi xc : Nat → Int32} {w : pW} {A : Nat → Nat} {mm : Nat} {fs : List Value} (hAD : AD A mm) (hmm : w mm = some (.inr (6, fs))) (hA : RA A fs) (h2 : fs[2]? = some (.int (nI tl))) (h21 : fs[21]? = some (.int (nI os))) (h26 : fs[26]? = some (.int nu)) (a1 : w (A 1) = some (.inl (0, 2400, .inl (fun j9 => nI (t j9))))) (a10 : w (A 10) = some (.inl (0, 100, .inl (fun j9 => nI (xk j9))))) (a11 : w (A 11) = some (.inl (0, 100, .inl (fun j9 => nI (xm j9))))) (a12 : w (A 12) = some (.inl (0, 400, .inl xp))) (a13 : w (A 13) = some (.inl (0, 100, .inl (fun j9 => nI (xb j9))))) (a14 : w (A 14) = some (.inl (0, 100, .inl (fun j9 => nI (xs j9))))) (a15 : w (A 15) = some (.inl (0, 100, .inl (fun j9 => nI (xe j9))))) (a16 : w (A 16) = some (.inl (0, 100, .inl (fun j9 => nI (xg j9))))) (a17 : w (A 17) = some (.inl (0, 100, .inl xl))) (a18 : w (A 18) = some (.inl (2, 100, .inl xi))) (a19 : w (A 19) = some (.inl (2, 100, .inl xc))) (a20 : w (A 20) = some (.inl (0, 2400, .inl (fun j9 => nI (ot j9))))) (a36 : w (A 36) = some (.inl (0, 401, .inl (fun j9 => nI (pe j9))))) (a37 : w (A 37) = some (.inl (0, 401, .inl (fun j9 => nI (pb j9))))) (a38 : w (A 38) = some (.inl (4, 401, .inr (.inr (.inr (.inr (fun j9 => some (cr j9)))))))) (hr0 : w (cr 0) = some (.inl (0, 1600, .inl (fun j9 => nI (c0 j9))))) (hrw : RW A mm (cr 0)) (ht : ∀ j, t j < 256) (hn : n ≤ tl) (htl : tl ≤ 2400) (hR : R = rRead t n f) (hR0 : R.1 = 0) : Ct yX6_music wsX6_music rX6_music [.ref mm, .int (nI n)] w (fun o w9 => o = .inl (some (.int (nI 0))) ∧ ∃ fs9 : List Value, MV A mm (cr 0) [10, 11, 12, 13, 14, 15, 16, 17, 18, 19, 20, 36, 37] [0, 2, 3, 4, 5, 6, 7, 8, 9, 21, 22, 23, 24, 25, 26, 27, 28, 29, 30, 31, 32, 33, 34, 43] w w9 fs fs9 ∧ fs9[0]? = some (.int (nI 0)) ∧ fs9[2]? = some (.int (nI 0)) ∧ fs9[3]? = some (.int (nI 0)) ∧ fs9[4]? = some (.int (-1)) ∧ fs9[21]? = some (.int (nI n)) ∧ fs9[23]? = some (.int (nI n)) ∧ fs9[34]? = some (.int (nI 0)) ∧ fs9[43]? = some (.int (nI 0)) ∧ (∃ nu9 : Int32, fs9[26]? = some (.int nu9)) ∧ w9 (A 20) = some (.inl (0, 2400, .inl (fun j9 => nI ((fil ot t n) j9)))) ∧ w9 (cr 0) = some (.inl (0, 1600, .inl (fun j9 => nI ((fil c0 g00 1600) j9)))) ∧ w9 (A 36) = some (.inl (0, 401, .inl (fun j9 => nI ((va_up pe 0 0) j9)))) ∧ w9 (A 37) = some (.inl (0, 401, .inl (fun j9 => nI ((va_up pb 0 0) j9)))) ∧ ∃ (xk xm : Nat → Nat) (xp : Nat → Int32) (xb xs xe xg : Nat → Nat) (xl xi xc : Nat → Int32), TA A w9 xk xm xp xb xs xe xg xl xi xc ∧ ∃ (a9 sd9 mr9 cu9 rep9 np9 oc9 : Nat) (f9 : Nat → Int32) (ev9 be9 cq9 st9 me9 pa9 pg9 : Nat), R = (0, a9, (sd9, mr9, cu9, false, false, rep9, np9, oc9, f9, ev9, be9, cq9, st9, me9, pa9)) ∧ RJ (sd9, mr9, cu9, false, false, rep9, np9, oc9, f9, ev9, be9, cq9, st9, me9, pa9) ∧ (sd9 = 1 ∨ sd9 = 2) ∧ fs9[5]? = some (.int (nI ev9)) ∧ fs9[6]? = some (.int (nI me9)) ∧ fs9[7]? = some (.int (nI pg9)) ∧ fs9[8]? = some (.int (nI be9)) ∧ fs9[9]? = some (.int (nI cu9)) ∧ pgI f9 ev9 pg9 ∧ TBL xk xm xp xb xs xe xg xl xi xc f9 ev9) := by
  refine Ct.of (cc := cX6_music) (own := RX6) (nm := "music") (nL := 3) (ret := (some .int)) (by decide +kernel) rfl rfl rfl (Nat.le_of_ble_eq_true rfl) ?_
  refine j_lvE (lv' := [(0, .ref mm), (1, .int (nI n))]) rfl ?_
  refine j_aload_n dX6_music_0 0 rfl ?_
  refine j_iconst (v := nI 0) dX6_music_1 (by decide) ?_
  refine j_putM fsX6_music_80 hmm rfl rfl (RA.lt hA (by decide)) dX6_music_2 (fun w1 fs2 sfs2 hw1 => ?_)
  have f3 : w1 mm = some (.inr (6, fs2)) := up_at hw1
  have rfs2 : RA A fs2 := RA.set hA sfs2 rfl
  have v4 := st_at sfs2 hA (by decide : 0 < 45)
  refine j_iload_n dX6_music_5 1 rfl ?_
  refine j_if_ltN (by omega) dX6_music_6 (by decide : _ = ((17 : Nat) : Int)) ?_
  refine j_iload_n dX6_music_9 1 rfl ?_
  refine j_aload_n dX6_music_10 0 rfl ?_
  have v5 := (st_ne sfs2 rfl h2)
  refine j_get (v := .int (nI tl)) flX6_music_83 f3 v5 dX6_music_11 ?_
  refine j_icmp_leN 22 (by omega) (by omega) dX6_music_14 (by decide) (fun c14 => ?_) (fun c14 => ?_)
  · skip
    refine j_aload_n dX6_music_22 0 rfl ?_
    refine j_iconst (v := nI 0) dX6_music_23 (by decide) ?_
    refine j_putM fsX6_music_83 f3 rfl rfl (RA.lt rfs2 (by decide)) dX6_music_24 (fun w6 fs7 sfs7 hw6 => ?_)
    have f8 : w6 mm = some (.inr (6, fs7)) := up_at hw6
    have rfs7 : RA A fs7 := RA.set rfs2 sfs7 rfl
    have v9 := st_at sfs7 rfs2 (by decide : 2 < 45)
    refine j_aload_n dX6_music_27 0 rfl ?_
    refine j_iload_n dX6_music_28 1 rfl ?_
    refine j_putM fsX6_music_86 f8 rfl rfl (RA.lt rfs7 (by decide)) dX6_music_29 (fun w10 fs11 sfs11 hw10 => ?_)
    have f12 : w10 mm = some (.inr (6, fs11)) := up_at hw10
    have rfs11 : RA A fs11 := RA.set rfs7 sfs11 rfl
    have v13 := st_at sfs11 rfs7 (by decide : 23 < 45)
    refine j_aload_n dX6_music_32 0 rfl ?_
    have v37 := (st_ne sfs11 rfl (st_ne sfs7 rfl (st_ne sfs2 rfl h26)))
    have f38 := (up_ne hw10 (AD.nm hAD 1 rfl) (up_ne hw6 (AD.nm hAD 1 rfl) (up_ne hw1 (AD.nm hAD 1 rfl) a1)))
    have f39 := (up_ne hw10 (AD.nm hAD 10 rfl) (up_ne hw6 (AD.nm hAD 10 rfl) (up_ne hw1 (AD.nm hAD 10 rfl) a10)))
    have f40 := (up_ne hw10 (AD.nm hAD 11 rfl) (up_ne hw6 (AD.nm hAD 11 rfl) (up_ne hw1 (AD.nm hAD 11 rfl) a11)))
    have f41 := (up_ne hw10 (AD.nm hAD 12 rfl) (up_ne hw6 (AD.nm hAD 12 rfl) (up_ne hw1 (AD.nm hAD 12 rfl) a12)))
    have f42 := (up_ne hw10 (AD.nm hAD 13 rfl) (up_ne hw6 (AD.nm hAD 13 rfl) (up_ne hw1 (AD.nm hAD 13 rfl) a13)))
    have f43 := (up_ne hw10 (AD.nm hAD 14 rfl) (up_ne hw6 (AD.nm hAD 14 rfl) (up_ne hw1 (AD.nm hAD 14 rfl) a14)))
    have f44 := (up_ne hw10 (AD.nm hAD 15 rfl) (up_ne hw6 (AD.nm hAD 15 rfl) (up_ne hw1 (AD.nm hAD 15 rfl) a15)))
    have f45 := (up_ne hw10 (AD.nm hAD 16 rfl) (up_ne hw6 (AD.nm hAD 16 rfl) (up_ne hw1 (AD.nm hAD 16 rfl) a16)))
    have f46 := (up_ne hw10 (AD.nm hAD 17 rfl) (up_ne hw6 (AD.nm hAD 17 rfl) (up_ne hw1 (AD.nm hAD 17 rfl) a17)))
    have f47 := (up_ne hw10 (AD.nm hAD 18 rfl) (up_ne hw6 (AD.nm hAD 18 rfl) (up_ne hw1 (AD.nm hAD 18 rfl) a18)))
    have f48 := (up_ne hw10 (AD.nm hAD 19 rfl) (up_ne hw6 (AD.nm hAD 19 rfl) (up_ne hw1 (AD.nm hAD 19 rfl) a19)))
    refine j_callV (rm := rX6_readAll) (As := []) (st := []) (b0 := mm) (ci := 6) (na := 0) (m_readAll hAD f12 rfs11 v13 v37 f38 f39 f40 f41 f42 f43 f44 f45 f46 f47 f48 ht (by omega) hR) (by intro E w9 h9; first | exact nomatch h9.1 | (obtain ⟨_, h9, _⟩ := h9; exact nomatch h9) | (obtain ⟨_, _, _, h9, _⟩ := h9; exact nomatch h9)) gX6_music_X6_readAll rfl rfl f12 (by decide +kernel) rfl ⟨Nat.le_of_ble_eq_true rfl, Nat.le_of_ble_eq_true rfl⟩ rfl (Nat.le_of_ble_eq_true rfl) dX6_music_33 ⟨(show 0 + 0 ≤ 0 by omega), (show 0 + 0 ≤ 0 by omega)⟩ (fun v54 w55 h56 => ?_)
    obtain ⟨h53, fs49, ⟨hfr50, hm51, hff52⟩, xk14, xm15, xp16, xb17, xs18, xe19, xg20, xl21, xi22, xc23, ⟨f24, f25, f26, f27, f28, f29, f30, f31, f32, f33⟩, ⟨nu35, v36⟩, hcase34⟩ := h56
    cases h53
    refine j_after (st' := []) (k' := 0) (n' := 0) rfl rfl rfl ?_
    have r57 : RA A fs49 := RA.ff rfs11 hff52 rfl
    rcases hcase34 with hF | ⟨a9, sd9, mr9, cu9, rep9, np9, oc9, f9, ev9, be9, cq9, st9, me9, pa9, pg9, hRe, hJ, hsd, v58, v59, v60, v61, v62, v63, hpg, hTB⟩
    · exact absurd hR0 hF.1
    refine j_aload_n dX6_music_36 0 rfl ?_
    refine j_aload_n dX6_music_37 0 rfl ?_
    refine j_get (v := .int (nI 0)) flX6_music_124 hm51 v63 dX6_music_38 ?_
    refine j_putM fsX6_music_187 hm51 rfl rfl (RA.lt r57 (by decide)) dX6_music_41 (fun w64 fs65 sfs65 hw64 => ?_)
    have f66 : w64 mm = some (.inr (6, fs65)) := up_at hw64
    have rfs65 : RA A fs65 := RA.set r57 sfs65 rfl
    have v67 := st_at sfs65 r57 (by decide : 3 < 45)
    refine j_aload_n dX6_music_44 0 rfl ?_
    refine j_aload_n dX6_music_45 0 rfl ?_
    have v68 := (st_ne sfs65 rfl v63)
    refine j_get (v := .int (nI 0)) flX6_music_124 f66 v68 dX6_music_46 ?_
    refine j_if_neN 56 (by decide) dX6_music_49 (by decide) (fun h9 => absurd rfl h9) (fun _ => ?_)
    refine j_iconst (v := (-1)) dX6_music_52 (by decide) ?_
    refine j_goto 60 dX6_music_53 (by decide) ?_
    refine j_putM fsX6_music_13 f66 rfl rfl (RA.lt rfs65 (by decide)) dX6_music_60 (fun w69 fs70 sfs70 hw69 => ?_)
    have f71 : w69 mm = some (.inr (6, fs70)) := up_at hw69
    have rfs70 : RA A fs70 := RA.set rfs65 sfs70 rfl
    have v72 := st_at sfs70 rfs65 (by decide : 4 < 45)
    refine j_aload_n dX6_music_63 0 rfl ?_
    have v73 := (st_ne sfs70 rfl v68)
    refine j_get (v := .int (nI 0)) flX6_music_124 f71 v73 dX6_music_64 ?_
    refine j_if_neN 106 (by decide) dX6_music_67 (by decide) (fun h9 => absurd rfl h9) (fun _ => ?_)
    refine j_iconst (v := nI 0) dX6_music_70 (by decide) ?_
    refine j_istore_n (lv' := [(2, .int (nI 0)), (0, .ref mm), (1, .int (nI n))]) dX6_music_71 (Nat.le_of_ble_eq_true rfl) rfl ?_
    refine j_lv (lv' := [(0, .ref mm), (1, .int (nI n)), (2, .int (nI 0))]) [1, 2, 0] rfl ?_
    have v74 := (st_ne sfs70 rfl (st_ne sfs65 rfl (FF.at hff52 rfl (st_ne sfs11 rfl (st_ne sfs7 rfl v4)))))
    have v75 := (st_ne sfs70 rfl (st_ne sfs65 rfl (FF.at hff52 rfl (st_ne sfs11 rfl v9))))
    have v76 := (st_ne sfs70 rfl v67)
    have v77 := (st_ne sfs70 rfl (st_ne sfs65 rfl v58))
    have v78 := (st_ne sfs70 rfl (st_ne sfs65 rfl v59))
    have v79 := (st_ne sfs70 rfl (st_ne sfs65 rfl v60))
    have v80 := (st_ne sfs70 rfl (st_ne sfs65 rfl v61))
    have v81 := (st_ne sfs70 rfl (st_ne sfs65 rfl v62))
    have v82 := (st_ne sfs70 rfl (st_ne sfs65 rfl (FF.at hff52 rfl v13)))
    have v83 := (st_ne sfs70 rfl (st_ne sfs65 rfl v36))
    have f84 := (up_ne hw69 (AD.nm hAD 1 rfl) (up_ne hw64 (AD.nm hAD 1 rfl) (FrI.gen hfr50 (nm1 (AD.nm hAD 1 rfl)) (AD.nl hAD 1 rfl rfl rfl) f38)))
    have f85 := (up_ne hw69 (AD.nm hAD 10 rfl) (up_ne hw64 (AD.nm hAD 10 rfl) f24))
    have f86 := (up_ne hw69 (AD.nm hAD 11 rfl) (up_ne hw64 (AD.nm hAD 11 rfl) f25))
    have f87 := (up_ne hw69 (AD.nm hAD 12 rfl) (up_ne hw64 (AD.nm hAD 12 rfl) f26))
    have f88 := (up_ne hw69 (AD.nm hAD 13 rfl) (up_ne hw64 (AD.nm hAD 13 rfl) f27))
    have f89 := (up_ne hw69 (AD.nm hAD 14 rfl) (up_ne hw64 (AD.nm hAD 14 rfl) f28))
    have f90 := (up_ne hw69 (AD.nm hAD 15 rfl) (up_ne hw64 (AD.nm hAD 15 rfl) f29))
    have f91 := (up_ne hw69 (AD.nm hAD 16 rfl) (up_ne hw64 (AD.nm hAD 16 rfl) f30))
    have f92 := (up_ne hw69 (AD.nm hAD 17 rfl) (up_ne hw64 (AD.nm hAD 17 rfl) f31))
    have f93 := (up_ne hw69 (AD.nm hAD 18 rfl) (up_ne hw64 (AD.nm hAD 18 rfl) f32))
    have f94 := (up_ne hw69 (AD.nm hAD 19 rfl) (up_ne hw64 (AD.nm hAD 19 rfl) f33))
    have f95 := (up_ne hw69 (AD.nm hAD 36 rfl) (up_ne hw64 (AD.nm hAD 36 rfl) (FrI.gen hfr50 (nm1 (AD.nm hAD 36 rfl)) (AD.nl hAD 36 rfl rfl rfl) (up_ne hw10 (AD.nm hAD 36 rfl) (up_ne hw6 (AD.nm hAD 36 rfl) (up_ne hw1 (AD.nm hAD 36 rfl) a36))))))
    have f96 := (up_ne hw69 (AD.nm hAD 37 rfl) (up_ne hw64 (AD.nm hAD 37 rfl) (FrI.gen hfr50 (nm1 (AD.nm hAD 37 rfl)) (AD.nl hAD 37 rfl rfl rfl) (up_ne hw10 (AD.nm hAD 37 rfl) (up_ne hw6 (AD.nm hAD 37 rfl) (up_ne hw1 (AD.nm hAD 37 rfl) a37))))))
    have f97 := (up_ne hw69 (AD.nm hAD 38 rfl) (up_ne hw64 (AD.nm hAD 38 rfl) (FrI.gen hfr50 (nm1 (AD.nm hAD 38 rfl)) (AD.nl hAD 38 rfl rfl rfl) (up_ne hw10 (AD.nm hAD 38 rfl) (up_ne hw6 (AD.nm hAD 38 rfl) (up_ne hw1 (AD.nm hAD 38 rfl) a38))))))
    have f98 := (up_ne hw69 hrw.1 (up_ne hw64 hrw.1 (FrI.gen hfr50 (nm1 hrw.1) (RW.nl hrw rfl) (up_ne hw10 hrw.1 (up_ne hw6 hrw.1 (up_ne hw1 hrw.1 hr0))))))
    have f99 := (up_ne hw69 (AD.nm hAD 20 rfl) (up_ne hw64 (AD.nm hAD 20 rfl) (FrI.gen hfr50 (nm1 (AD.nm hAD 20 rfl)) (AD.nl hAD 20 rfl rfl rfl) (up_ne hw10 (AD.nm hAD 20 rfl) (up_ne hw6 (AD.nm hAD 20 rfl) (up_ne hw1 (AD.nm hAD 20 rfl) a20))))))
    exact l_mcopy (t := t) (ot := ot) (n := n) hAD rfs70 (((((((FF.refl : FF [0, 2, 3, 4, 5, 6, 7, 8, 9, 21, 22, 23, 24, 25, 26, 27, 28, 29, 30, 31, 32, 33, 34, 43] fs fs).trans (FF.set sfs2 rfl)).trans (FF.set sfs7 rfl)).trans (FF.set sfs11 rfl)).trans (FF.mono hff52 rfl)).trans (FF.set sfs65 rfl)).trans (FF.set sfs70 rfl)) v74 v75 v76 v72 v77 v78 v79 v80 v81 v82 v83 hrw (by omega) hRe hJ hsd hpg hTB _ _ 0 (Nat.lt_succ_self _) f71 (((((((FrI.refl : FrI A [mm, (cr 0)] [10, 11, 12, 13, 14, 15, 16, 17, 18, 19, 20, 36, 37] w w).trans (FrI.ux hw1 (by simp))).trans (FrI.ux hw6 (by simp))).trans (FrI.ux hw10 (by simp))).trans (FrI.mono hfr50 (by simp) rfl)).trans (FrI.ux hw64 (by simp))).trans (FrI.ux hw69 (by simp))) f84 f85 f86 f87 f88 f89 f90 f91 f92 f93 f94 f95 f96 f97 f98 (by rw [fil_0]; exact f99) (by omega)
  · skip
    exfalso; omega
theorem flX6_music_190 : FL wsX6_music RX6 190 6 21 := ⟨RX6, TX6, 45, rfl, by decide, by decide +kernel, by decide +kernel⟩
theorem flX6_music_187 : FL wsX6_music RX6 187 6 3 := ⟨RX6, TX6, 45, rfl, by decide, by decide +kernel, by decide +kernel⟩
set_option maxHeartbeats 4000000 in
set_option maxRecDepth 100000 in
theorem l_mback {t ot : Nat → Nat} {n os : Nat} {nu : Int32} {R R2 : Nat × Nat × RSt} {f2 : Nat → Int32} {xk xm : Nat → Nat} {xp : Nat → Int32} {xb xs xe xg : Nat → Nat} {xl xi xc : Nat → Int32} {w0 : pW} {fs fs0 : List Value} {A : Nat → Nat} {mm : Nat} (hAD : AD A mm) (hA : RA A fs) (hff : FF [0, 2, 3, 4, 5, 6, 7, 8, 9, 22, 23, 24, 25, 26, 27, 28, 29, 30, 31, 32, 33] fs0 fs) (h0 : fs[0]? = some (.int (nI 0))) (h2 : fs[2]? = some (.int (nI 0))) (h3 : fs[3]? = some (.int (nI R.1))) (h4 : fs[4]? = some (.int (nI R.2.1))) (h21 : fs[21]? = some (.int (nI os))) (h26 : fs[26]? = some (.int nu)) (ht : ∀ j, t j < 256) (hot : ∀ j, ot j < 256) (hos : os ≤ 2400) (hR2 : R2 = rRead (fil t ot os) os f2) (hR20 : R2.1 = 0) : ∀ (m9 : Nat) (w : pW) (i : Nat), os - i < m9 → (w mm = some (.inr (6, fs))) → (FrI A [mm] [10, 11, 12, 13, 14, 15, 16, 17, 18, 19, 1] w0 w) → (w (A 10) = some (.inl (0, 100, .inl (fun j9 => nI (xk j9))))) → (w (A 11) = some (.inl (0, 100, .inl (fun j9 => nI (xm j9))))) → (w (A 12) = some (.inl (0, 400, .inl xp))) → (w (A 13) = some (.inl (0, 100, .inl (fun j9 => nI (xb j9))))) → (w (A 14) = some (.inl (0, 100, .inl (fun j9 => nI (xs j9))))) → (w (A 15) = some (.inl (0, 100, .inl (fun j9 => nI (xe j9))))) → (w (A 16) = some (.inl (0, 100, .inl (fun j9 => nI (xg j9))))) → (w (A 17) = some (.inl (0, 100, .inl xl))) → (w (A 18) = some (.inl (2, 100, .inl xi))) → (w (A 19) = some (.inl (2, 100, .inl xc))) → (w (A 20) = some (.inl (0, 2400, .inl (fun j9 => nI (ot j9))))) → (w (A 1) = some (.inl (0, 2400, .inl (fun j9 => nI ((fil t ot i) j9))))) → (i ≤ os) → J ((cX6_music, RX6, 3, wsX6_music), (rX6_music, (some .int), "music", []), fun o w9 => o = .inl (some (.int (nI R.1))) ∧ ∃ fs9 : List Value, MU A mm [10, 11, 12, 13, 14, 15, 16, 17, 18, 19, 1] [0, 2, 3, 4, 5, 6, 7, 8, 9, 22, 23, 24, 25, 26, 27, 28, 29, 30, 31, 32, 33] w0 w9 fs0 fs9 ∧ fs9[0]? = some (.int (nI 0)) ∧ fs9[2]? = some (.int (nI 0)) ∧ fs9[3]? = some (.int (nI R.1)) ∧ fs9[4]? = some (.int (nI R.2.1)) ∧ fs9[23]? = some (.int (nI os)) ∧ (∃ nu9 : Int32, fs9[26]? = some (.int nu9)) ∧ w9 (A 1) = some (.inl (0, 2400, .inl (fun j9 => nI ((fil t ot os) j9)))) ∧ ∃ (xk xm : Nat → Nat) (xp : Nat → Int32) (xb xs xe xg : Nat → Nat) (xl xi xc : Nat → Int32), TA A w9 xk xm xp xb xs xe xg xl xi xc ∧ ∃ (a9 sd9 mr9 cu9 rep9 np9 oc9 : Nat) (f9 : Nat → Int32) (ev9 be9 cq9 st9 me9 pa9 pg9 : Nat), R2 = (0, a9, (sd9, mr9, cu9, false, false, rep9, np9, oc9, f9, ev9, be9, cq9, st9, me9, pa9)) ∧ RJ (sd9, mr9, cu9, false, false, rep9, np9, oc9, f9, ev9, be9, cq9, st9, me9, pa9) ∧ (sd9 = 1 ∨ sd9 = 2) ∧ fs9[5]? = some (.int (nI ev9)) ∧ fs9[6]? = some (.int (nI me9)) ∧ fs9[7]? = some (.int (nI pg9)) ∧ fs9[8]? = some (.int (nI be9)) ∧ fs9[9]? = some (.int (nI cu9)) ∧ pgI f9 ev9 pg9 ∧ TBL xk xm xp xb xs xe xg xl xi xc f9 ev9, fun _ _ _ => True) 108 [(0, .ref mm), (1, .int (nI n)), (2, .int (nI i))] [] w 0 0 := by
  intro m9
  induction m9 with
  | zero => intro w i h9; omega
  | succ m9 ih =>
    intro w i hm9 hmm hfr a10 a11 a12 a13 a14 a15 a16 a17 a18 a19 a20 a1 hi
    refine j_iload_n dX6_music_108 2 rfl ?_
    refine j_aload_n dX6_music_109 0 rfl ?_
    refine j_get (v := .int (nI os)) flX6_music_190 hmm h21 dX6_music_110 ?_
    refine j_icmp_geN 134 (by omega) (by omega) dX6_music_113 (by decide) (fun c113 => ?_) (fun c113 => ?_)
    · skip
      have hin : i = os := by omega
      subst hin
      refine j_aload_n dX6_music_134 0 rfl ?_
      refine j_aload_n dX6_music_135 0 rfl ?_
      refine j_get (v := .int (nI i)) flX6_music_190 hmm h21 dX6_music_136 ?_
      refine j_putM fsX6_music_86 hmm rfl rfl (RA.lt hA (by decide)) dX6_music_139 (fun w1 fs2 sfs2 hw1 => ?_)
      have f3 : w1 mm = some (.inr (6, fs2)) := up_at hw1
      have rfs2 : RA A fs2 := RA.set hA sfs2 rfl
      have v4 := st_at sfs2 hA (by decide : 23 < 45)
      refine j_aload_n dX6_music_142 0 rfl ?_
      have v28 := (st_ne sfs2 rfl h26)
      have f29 := (up_ne hw1 (AD.nm hAD 1 rfl) a1)
      have f30 := (up_ne hw1 (AD.nm hAD 10 rfl) a10)
      have f31 := (up_ne hw1 (AD.nm hAD 11 rfl) a11)
      have f32 := (up_ne hw1 (AD.nm hAD 12 rfl) a12)
      have f33 := (up_ne hw1 (AD.nm hAD 13 rfl) a13)
      have f34 := (up_ne hw1 (AD.nm hAD 14 rfl) a14)
      have f35 := (up_ne hw1 (AD.nm hAD 15 rfl) a15)
      have f36 := (up_ne hw1 (AD.nm hAD 16 rfl) a16)
      have f37 := (up_ne hw1 (AD.nm hAD 17 rfl) a17)
      have f38 := (up_ne hw1 (AD.nm hAD 18 rfl) a18)
      have f39 := (up_ne hw1 (AD.nm hAD 19 rfl) a19)
      refine j_callV (rm := rX6_readAll) (As := []) (st := []) (b0 := mm) (ci := 6) (na := 0) (m_readAll hAD f3 rfs2 v4 v28 f29 f30 f31 f32 f33 f34 f35 f36 f37 f38 f39 (fil_lt ht hot) (by omega) hR2) (by intro E w9 h9; first | exact nomatch h9.1 | (obtain ⟨_, h9, _⟩ := h9; exact nomatch h9) | (obtain ⟨_, _, _, h9, _⟩ := h9; exact nomatch h9)) gX6_music_X6_readAll rfl rfl f3 (by decide +kernel) rfl ⟨Nat.le_of_ble_eq_true rfl, Nat.le_of_ble_eq_true rfl⟩ rfl (Nat.le_of_ble_eq_true rfl) dX6_music_143 ⟨(show 0 + 0 ≤ 0 by omega), (show 0 + 0 ≤ 0 by omega)⟩ (fun v45 w46 h47 => ?_)
      obtain ⟨h44, fs40, ⟨hfr41, hm42, hff43⟩, xk5, xm6, xp7, xb8, xs9, xe10, xg11, xl12, xi13, xc14, ⟨f15, f16, f17, f18, f19, f20, f21, f22, f23, f24⟩, ⟨nu26, v27⟩, hcase25⟩ := h47
      cases h44
      refine j_after (st' := []) (k' := 0) (n' := 0) rfl rfl rfl ?_
      have r48 : RA A fs40 := RA.ff rfs2 hff43 rfl
      rcases hcase25 with hF | ⟨a9, sd9, mr9, cu9, rep9, np9, oc9, f9, ev9, be9, cq9, st9, me9, pa9, pg9, hRe, hJ, hsd, v49, v50, v51, v52, v53, v54, hpg, hTB⟩
      · exact absurd hR20 hF.1
      refine j_aload_n dX6_music_146 0 rfl ?_
      have v55 := (FF.at hff43 rfl (st_ne sfs2 rfl h3))
      refine j_get (v := .int (nI R.1)) flX6_music_187 hm42 v55 dX6_music_147 ?_
      have v56 := (FF.at hff43 rfl (st_ne sfs2 rfl h0))
      have v57 := (FF.at hff43 rfl (st_ne sfs2 rfl h2))
      have v58 := (FF.at hff43 rfl (st_ne sfs2 rfl h4))
      have v59 := (FF.at hff43 rfl v4)
      have f60 := (FrI.gen hfr41 (nm1 (AD.nm hAD 1 rfl)) (AD.nl hAD 1 rfl rfl rfl) f29)
      exact j_iret rfl ⟨rfl, _, ⟨(((FrI.mono hfr (by simp) rfl : FrI A [mm] [10, 11, 12, 13, 14, 15, 16, 17, 18, 19, 1] w0 _).trans (FrI.ux hw1 (by simp))).trans (FrI.sub hfr41 rfl)), hm42, (((FF.mono hff rfl : FF [0, 2, 3, 4, 5, 6, 7, 8, 9, 22, 23, 24, 25, 26, 27, 28, 29, 30, 31, 32, 33] fs0 _).trans (FF.set sfs2 rfl)).trans (FF.mono hff43 rfl))⟩, v56, v57, v55, v58, v59, ⟨_, v27⟩, f60, _, _, _, _, _, _, _, _, _, _, ⟨f15, f16, f17, f18, f19, f20, f21, f22, f23, f24⟩, _, _, _, _, _, _, _, _, _, _, _, _, _, _, _, hRe, hJ, hsd, v49, v50, v51, v52, v53, hpg, hTB⟩ (show 0 ≤ 0 by omega) (show 0 ≤ 0 by omega) dX6_music_150
    · skip
      refine j_aload_n dX6_music_116 0 rfl ?_
      refine j_get (v := .ref (A 1)) flX6_music_9 hmm (hA.2 1 rfl) dX6_music_117 ?_
      refine j_iload_n dX6_music_120 2 rfl ?_
      refine j_aload_n dX6_music_121 0 rfl ?_
      refine j_get (v := .ref (A 20)) flX6_music_48 hmm (hA.2 20 rfl) dX6_music_122 ?_
      refine j_iload_n dX6_music_125 2 rfl ?_
      refine j_ialdN (j := i) a20 rfl (by omega) (by omega) dX6_music_126 ?_
      refine j_iastn (j := i) (x := ot i) a1 rfl (by omega) (by omega) dX6_music_127 ?_
      refine j_w (fun w61 hw61 => ?_)
      have f62 : w61 (A 1) = some (.inl (0, 2400, .inl (fun j9 => nI ((va_up (fil t ot i) i (ot i)) j9)))) := up_at hw61
      refine j_iinc (q := 2) (v := nI (i + 1)) (lv' := [(2, .int (nI (i + 1))), (0, .ref mm), (1, .int (nI n))]) dX6_music_128 rfl (by first | exact nI_1 _ | exact nI_add _ _) (Nat.le_of_ble_eq_true rfl) rfl ?_
      refine j_goto 108 dX6_music_131 (by decide) ?_
      refine j_lv (lv' := [(0, .ref mm), (1, .int (nI n)), (2, .int (nI (i + 1)))]) [1, 2, 0] rfl ?_
      have f63 := (up_ne hw61 (AD.mn hAD 1 rfl) hmm)
      have f64 := (up_ne hw61 (AD.ne hAD 10 1 rfl rfl rfl) a10)
      have f65 := (up_ne hw61 (AD.ne hAD 11 1 rfl rfl rfl) a11)
      have f66 := (up_ne hw61 (AD.ne hAD 12 1 rfl rfl rfl) a12)
      have f67 := (up_ne hw61 (AD.ne hAD 13 1 rfl rfl rfl) a13)
      have f68 := (up_ne hw61 (AD.ne hAD 14 1 rfl rfl rfl) a14)
      have f69 := (up_ne hw61 (AD.ne hAD 15 1 rfl rfl rfl) a15)
      have f70 := (up_ne hw61 (AD.ne hAD 16 1 rfl rfl rfl) a16)
      have f71 := (up_ne hw61 (AD.ne hAD 17 1 rfl rfl rfl) a17)
      have f72 := (up_ne hw61 (AD.ne hAD 18 1 rfl rfl rfl) a18)
      have f73 := (up_ne hw61 (AD.ne hAD 19 1 rfl rfl rfl) a19)
      have f74 := (up_ne hw61 (AD.ne hAD 20 1 rfl rfl rfl) a20)
      exact ih _ (i + 1) (by omega) f63 ((FrI.mono hfr (by simp) rfl : FrI A [mm] [10, 11, 12, 13, 14, 15, 16, 17, 18, 19, 1] w0 _).trans (FrI.ua hw61 rfl)) f64 f65 f66 f67 f68 f69 f70 f71 f72 f73 f74 (by rw [← fil_s]; exact f62) (by omega)
theorem flX6_music_127 : FL wsX6_music RX6 127 6 30 := ⟨RX6, TX6, 45, rfl, by decide, by decide +kernel, by decide +kernel⟩
set_option maxHeartbeats 4000000 in
set_option maxRecDepth 100000 in
theorem m_musicF {t ot : Nat → Nat} {tl n os : Nat} {nu : Int32} {R R2 : Nat × Nat × RSt} {f f2 : Nat → Int32} {xk xm : Nat → Nat} {xp : Nat → Int32} {xb xs xe xg : Nat → Nat} {xl xi xc : Nat → Int32} {w : pW} {A : Nat → Nat} {mm : Nat} {fs : List Value} (hAD : AD A mm) (hmm : w mm = some (.inr (6, fs))) (hA : RA A fs) (h2 : fs[2]? = some (.int (nI tl))) (h21 : fs[21]? = some (.int (nI os))) (h26 : fs[26]? = some (.int nu)) (a1 : w (A 1) = some (.inl (0, 2400, .inl (fun j9 => nI (t j9))))) (a10 : w (A 10) = some (.inl (0, 100, .inl (fun j9 => nI (xk j9))))) (a11 : w (A 11) = some (.inl (0, 100, .inl (fun j9 => nI (xm j9))))) (a12 : w (A 12) = some (.inl (0, 400, .inl xp))) (a13 : w (A 13) = some (.inl (0, 100, .inl (fun j9 => nI (xb j9))))) (a14 : w (A 14) = some (.inl (0, 100, .inl (fun j9 => nI (xs j9))))) (a15 : w (A 15) = some (.inl (0, 100, .inl (fun j9 => nI (xe j9))))) (a16 : w (A 16) = some (.inl (0, 100, .inl (fun j9 => nI (xg j9))))) (a17 : w (A 17) = some (.inl (0, 100, .inl xl))) (a18 : w (A 18) = some (.inl (2, 100, .inl xi))) (a19 : w (A 19) = some (.inl (2, 100, .inl xc))) (a20 : w (A 20) = some (.inl (0, 2400, .inl (fun j9 => nI (ot j9))))) (ht : ∀ j, t j < 256) (hot : ∀ j, ot j < 256) (hos : os ≤ 2400) (hn : n ≤ tl) (htl : tl ≤ 2400) (hR : R = rRead t n f) (hRn : R.1 ≠ 0) (hR2 : R2 = rRead ot os f2) (hR20 : R2.1 = 0) : Ct yX6_music wsX6_music rX6_music [.ref mm, .int (nI n)] w (fun o w9 => o = .inl (some (.int (nI R.1))) ∧ ∃ fs9 : List Value, MU A mm [10, 11, 12, 13, 14, 15, 16, 17, 18, 19, 1] [0, 2, 3, 4, 5, 6, 7, 8, 9, 22, 23, 24, 25, 26, 27, 28, 29, 30, 31, 32, 33] w w9 fs fs9 ∧ fs9[0]? = some (.int (nI 0)) ∧ fs9[2]? = some (.int (nI 0)) ∧ fs9[3]? = some (.int (nI R.1)) ∧ fs9[4]? = some (.int (nI R.2.1)) ∧ fs9[23]? = some (.int (nI os)) ∧ (∃ nu9 : Int32, fs9[26]? = some (.int nu9)) ∧ w9 (A 1) = some (.inl (0, 2400, .inl (fun j9 => nI ((fil t ot os) j9)))) ∧ ∃ (xk xm : Nat → Nat) (xp : Nat → Int32) (xb xs xe xg : Nat → Nat) (xl xi xc : Nat → Int32), TA A w9 xk xm xp xb xs xe xg xl xi xc ∧ ∃ (a9 sd9 mr9 cu9 rep9 np9 oc9 : Nat) (f9 : Nat → Int32) (ev9 be9 cq9 st9 me9 pa9 pg9 : Nat), R2 = (0, a9, (sd9, mr9, cu9, false, false, rep9, np9, oc9, f9, ev9, be9, cq9, st9, me9, pa9)) ∧ RJ (sd9, mr9, cu9, false, false, rep9, np9, oc9, f9, ev9, be9, cq9, st9, me9, pa9) ∧ (sd9 = 1 ∨ sd9 = 2) ∧ fs9[5]? = some (.int (nI ev9)) ∧ fs9[6]? = some (.int (nI me9)) ∧ fs9[7]? = some (.int (nI pg9)) ∧ fs9[8]? = some (.int (nI be9)) ∧ fs9[9]? = some (.int (nI cu9)) ∧ pgI f9 ev9 pg9 ∧ TBL xk xm xp xb xs xe xg xl xi xc f9 ev9) := by
  refine Ct.of (cc := cX6_music) (own := RX6) (nm := "music") (nL := 3) (ret := (some .int)) (by decide +kernel) rfl rfl rfl (Nat.le_of_ble_eq_true rfl) ?_
  refine j_lvE (lv' := [(0, .ref mm), (1, .int (nI n))]) rfl ?_
  refine j_aload_n dX6_music_0 0 rfl ?_
  refine j_iconst (v := nI 0) dX6_music_1 (by decide) ?_
  refine j_putM fsX6_music_80 hmm rfl rfl (RA.lt hA (by decide)) dX6_music_2 (fun w1 fs2 sfs2 hw1 => ?_)
  have f3 : w1 mm = some (.inr (6, fs2)) := up_at hw1
  have rfs2 : RA A fs2 := RA.set hA sfs2 rfl
  have v4 := st_at sfs2 hA (by decide : 0 < 45)
  refine j_iload_n dX6_music_5 1 rfl ?_
  refine j_if_ltN (by omega) dX6_music_6 (by decide : _ = ((17 : Nat) : Int)) ?_
  refine j_iload_n dX6_music_9 1 rfl ?_
  refine j_aload_n dX6_music_10 0 rfl ?_
  have v5 := (st_ne sfs2 rfl h2)
  refine j_get (v := .int (nI tl)) flX6_music_83 f3 v5 dX6_music_11 ?_
  refine j_icmp_leN 22 (by omega) (by omega) dX6_music_14 (by decide) (fun c14 => ?_) (fun c14 => ?_)
  · skip
    refine j_aload_n dX6_music_22 0 rfl ?_
    refine j_iconst (v := nI 0) dX6_music_23 (by decide) ?_
    refine j_putM fsX6_music_83 f3 rfl rfl (RA.lt rfs2 (by decide)) dX6_music_24 (fun w6 fs7 sfs7 hw6 => ?_)
    have f8 : w6 mm = some (.inr (6, fs7)) := up_at hw6
    have rfs7 : RA A fs7 := RA.set rfs2 sfs7 rfl
    have v9 := st_at sfs7 rfs2 (by decide : 2 < 45)
    refine j_aload_n dX6_music_27 0 rfl ?_
    refine j_iload_n dX6_music_28 1 rfl ?_
    refine j_putM fsX6_music_86 f8 rfl rfl (RA.lt rfs7 (by decide)) dX6_music_29 (fun w10 fs11 sfs11 hw10 => ?_)
    have f12 : w10 mm = some (.inr (6, fs11)) := up_at hw10
    have rfs11 : RA A fs11 := RA.set rfs7 sfs11 rfl
    have v13 := st_at sfs11 rfs7 (by decide : 23 < 45)
    refine j_aload_n dX6_music_32 0 rfl ?_
    have v37 := (st_ne sfs11 rfl (st_ne sfs7 rfl (st_ne sfs2 rfl h26)))
    have f38 := (up_ne hw10 (AD.nm hAD 1 rfl) (up_ne hw6 (AD.nm hAD 1 rfl) (up_ne hw1 (AD.nm hAD 1 rfl) a1)))
    have f39 := (up_ne hw10 (AD.nm hAD 10 rfl) (up_ne hw6 (AD.nm hAD 10 rfl) (up_ne hw1 (AD.nm hAD 10 rfl) a10)))
    have f40 := (up_ne hw10 (AD.nm hAD 11 rfl) (up_ne hw6 (AD.nm hAD 11 rfl) (up_ne hw1 (AD.nm hAD 11 rfl) a11)))
    have f41 := (up_ne hw10 (AD.nm hAD 12 rfl) (up_ne hw6 (AD.nm hAD 12 rfl) (up_ne hw1 (AD.nm hAD 12 rfl) a12)))
    have f42 := (up_ne hw10 (AD.nm hAD 13 rfl) (up_ne hw6 (AD.nm hAD 13 rfl) (up_ne hw1 (AD.nm hAD 13 rfl) a13)))
    have f43 := (up_ne hw10 (AD.nm hAD 14 rfl) (up_ne hw6 (AD.nm hAD 14 rfl) (up_ne hw1 (AD.nm hAD 14 rfl) a14)))
    have f44 := (up_ne hw10 (AD.nm hAD 15 rfl) (up_ne hw6 (AD.nm hAD 15 rfl) (up_ne hw1 (AD.nm hAD 15 rfl) a15)))
    have f45 := (up_ne hw10 (AD.nm hAD 16 rfl) (up_ne hw6 (AD.nm hAD 16 rfl) (up_ne hw1 (AD.nm hAD 16 rfl) a16)))
    have f46 := (up_ne hw10 (AD.nm hAD 17 rfl) (up_ne hw6 (AD.nm hAD 17 rfl) (up_ne hw1 (AD.nm hAD 17 rfl) a17)))
    have f47 := (up_ne hw10 (AD.nm hAD 18 rfl) (up_ne hw6 (AD.nm hAD 18 rfl) (up_ne hw1 (AD.nm hAD 18 rfl) a18)))
    have f48 := (up_ne hw10 (AD.nm hAD 19 rfl) (up_ne hw6 (AD.nm hAD 19 rfl) (up_ne hw1 (AD.nm hAD 19 rfl) a19)))
    refine j_callV (rm := rX6_readAll) (As := []) (st := []) (b0 := mm) (ci := 6) (na := 0) (m_readAll hAD f12 rfs11 v13 v37 f38 f39 f40 f41 f42 f43 f44 f45 f46 f47 f48 ht (by omega) hR) (by intro E w9 h9; first | exact nomatch h9.1 | (obtain ⟨_, h9, _⟩ := h9; exact nomatch h9) | (obtain ⟨_, _, _, h9, _⟩ := h9; exact nomatch h9)) gX6_music_X6_readAll rfl rfl f12 (by decide +kernel) rfl ⟨Nat.le_of_ble_eq_true rfl, Nat.le_of_ble_eq_true rfl⟩ rfl (Nat.le_of_ble_eq_true rfl) dX6_music_33 ⟨(show 0 + 0 ≤ 0 by omega), (show 0 + 0 ≤ 0 by omega)⟩ (fun v54 w55 h56 => ?_)
    obtain ⟨h53, fs49, ⟨hfr50, hm51, hff52⟩, xk14, xm15, xp16, xb17, xs18, xe19, xg20, xl21, xi22, xc23, ⟨f24, f25, f26, f27, f28, f29, f30, f31, f32, f33⟩, ⟨nu35, v36⟩, hcase34⟩ := h56
    cases h53
    refine j_after (st' := []) (k' := 0) (n' := 0) rfl rfl rfl ?_
    have r57 : RA A fs49 := RA.ff rfs11 hff52 rfl
    rcases hcase34 with ⟨hF1, hF2, hF3, hF4⟩ | ⟨a9, sd9, mr9, cu9, rep9, np9, oc9, f9, ev9, be9, cq9, st9, me9, pa9, pg9, hRe, -⟩
    · skip
      refine j_aload_n dX6_music_36 0 rfl ?_
      refine j_aload_n dX6_music_37 0 rfl ?_
      refine j_get (v := .int (nI R.1)) flX6_music_124 hm51 hF3 dX6_music_38 ?_
      refine j_putM fsX6_music_187 hm51 rfl rfl (RA.lt r57 (by decide)) dX6_music_41 (fun w58 fs59 sfs59 hw58 => ?_)
      have f60 : w58 mm = some (.inr (6, fs59)) := up_at hw58
      have rfs59 : RA A fs59 := RA.set r57 sfs59 rfl
      have v61 := st_at sfs59 r57 (by decide : 3 < 45)
      refine j_aload_n dX6_music_44 0 rfl ?_
      refine j_aload_n dX6_music_45 0 rfl ?_
      have v62 := (st_ne sfs59 rfl hF3)
      refine j_get (v := .int (nI R.1)) flX6_music_124 f60 v62 dX6_music_46 ?_
      refine j_if_neN 56 (by omega) dX6_music_49 (by decide) (fun c49 => ?_) (fun c49 => ?_)
      · skip
        refine j_aload_n dX6_music_56 0 rfl ?_
        have v63 := (st_ne sfs59 rfl hF4)
        refine j_get (v := .int (nI R.2.1)) flX6_music_127 f60 v63 dX6_music_57 ?_
        refine j_putM fsX6_music_13 f60 rfl rfl (RA.lt rfs59 (by decide)) dX6_music_60 (fun w64 fs65 sfs65 hw64 => ?_)
        have f66 : w64 mm = some (.inr (6, fs65)) := up_at hw64
        have rfs65 : RA A fs65 := RA.set rfs59 sfs65 rfl
        have v67 := st_at sfs65 rfs59 (by decide : 4 < 45)
        refine j_aload_n dX6_music_63 0 rfl ?_
        have v68 := (st_ne sfs65 rfl v62)
        refine j_get (v := .int (nI R.1)) flX6_music_124 f66 v68 dX6_music_64 ?_
        refine j_if_neN 106 (by omega) dX6_music_67 (by decide) (fun c67 => ?_) (fun c67 => ?_)
        · skip
          refine j_iconst (v := nI 0) dX6_music_106 (by decide) ?_
          refine j_istore_n (lv' := [(2, .int (nI 0)), (0, .ref mm), (1, .int (nI n))]) dX6_music_107 (Nat.le_of_ble_eq_true rfl) rfl ?_
          refine j_lv (lv' := [(0, .ref mm), (1, .int (nI n)), (2, .int (nI 0))]) [1, 2, 0] rfl ?_
          have v69 := (st_ne sfs65 rfl (st_ne sfs59 rfl (FF.at hff52 rfl (st_ne sfs11 rfl (st_ne sfs7 rfl v4)))))
          have v70 := (st_ne sfs65 rfl (st_ne sfs59 rfl (FF.at hff52 rfl (st_ne sfs11 rfl v9))))
          have v71 := (st_ne sfs65 rfl v61)
          have v72 := (st_ne sfs65 rfl (st_ne sfs59 rfl (FF.at hff52 rfl (st_ne sfs11 rfl (st_ne sfs7 rfl (st_ne sfs2 rfl h21))))))
          have v73 := (st_ne sfs65 rfl (st_ne sfs59 rfl v36))
          have f74 := (up_ne hw64 (AD.nm hAD 10 rfl) (up_ne hw58 (AD.nm hAD 10 rfl) f24))
          have f75 := (up_ne hw64 (AD.nm hAD 11 rfl) (up_ne hw58 (AD.nm hAD 11 rfl) f25))
          have f76 := (up_ne hw64 (AD.nm hAD 12 rfl) (up_ne hw58 (AD.nm hAD 12 rfl) f26))
          have f77 := (up_ne hw64 (AD.nm hAD 13 rfl) (up_ne hw58 (AD.nm hAD 13 rfl) f27))
          have f78 := (up_ne hw64 (AD.nm hAD 14 rfl) (up_ne hw58 (AD.nm hAD 14 rfl) f28))
          have f79 := (up_ne hw64 (AD.nm hAD 15 rfl) (up_ne hw58 (AD.nm hAD 15 rfl) f29))
          have f80 := (up_ne hw64 (AD.nm hAD 16 rfl) (up_ne hw58 (AD.nm hAD 16 rfl) f30))
          have f81 := (up_ne hw64 (AD.nm hAD 17 rfl) (up_ne hw58 (AD.nm hAD 17 rfl) f31))
          have f82 := (up_ne hw64 (AD.nm hAD 18 rfl) (up_ne hw58 (AD.nm hAD 18 rfl) f32))
          have f83 := (up_ne hw64 (AD.nm hAD 19 rfl) (up_ne hw58 (AD.nm hAD 19 rfl) f33))
          have f84 := (up_ne hw64 (AD.nm hAD 20 rfl) (up_ne hw58 (AD.nm hAD 20 rfl) (FrI.gen hfr50 (nm1 (AD.nm hAD 20 rfl)) (AD.nl hAD 20 rfl rfl rfl) (up_ne hw10 (AD.nm hAD 20 rfl) (up_ne hw6 (AD.nm hAD 20 rfl) (up_ne hw1 (AD.nm hAD 20 rfl) a20))))))
          have f85 := (up_ne hw64 (AD.nm hAD 1 rfl) (up_ne hw58 (AD.nm hAD 1 rfl) (FrI.gen hfr50 (nm1 (AD.nm hAD 1 rfl)) (AD.nl hAD 1 rfl rfl rfl) f38)))
          exact l_mback (t := t) (ot := ot) (os := os) hAD rfs65 (((((((FF.refl : FF [0, 2, 3, 4, 5, 6, 7, 8, 9, 22, 23, 24, 25, 26, 27, 28, 29, 30, 31, 32, 33] fs fs).trans (FF.set sfs2 rfl)).trans (FF.set sfs7 rfl)).trans (FF.set sfs11 rfl)).trans (FF.mono hff52 rfl)).trans (FF.set sfs59 rfl)).trans (FF.set sfs65 rfl)) v69 v70 v71 v67 v72 v73 ht hot hos ((hR2.trans (rRead_cg (fun j hj => (if_pos hj).symm)))) hR20 _ _ 0 (Nat.lt_succ_self _) f66 (((((((FrI.refl : FrI A [mm] [10, 11, 12, 13, 14, 15, 16, 17, 18, 19, 1] w w).trans (FrI.ux hw1 (by simp))).trans (FrI.ux hw6 (by simp))).trans (FrI.ux hw10 (by simp))).trans (FrI.sub hfr50 rfl)).trans (FrI.ux hw58 (by simp))).trans (FrI.ux hw64 (by simp))) f74 f75 f76 f77 f78 f79 f80 f81 f82 f83 f84 (by rw [fil_0]; exact f85) (by omega)
        · skip
          exfalso; omega
      · skip
        exfalso; omega
    · exact absurd (by rw [hRe]) hRn
  · skip
    exfalso; omega
