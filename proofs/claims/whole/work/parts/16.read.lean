section RR
/-- kind, value and successor of the token that starts at a -/
def tkK (t : Nat → Nat) (ln a : Nat) : Nat := (tk t ln a).2.1
def tkV (t : Nat → Nat) (ln a : Nat) : Int32 := (tk t ln a).2.2
def tkN (t : Nat → Nat) (ln a : Nat) : Nat := skB t ln (tk t ln a).1
theorem tk_k {t : Nat → Nat} {ln a : Nat} (ht : ∀ j, t j < 256) : (tk t ln a).2.1 < 256 := by
  have h := ht a
  unfold tk
  split
  · simp only; omega
  · split
    · split <;> (simp only; omega)
    · split
      · simp only; omega
      · split
        · simp only; omega
        · split
          · simp only; omega
          · split <;> (simp only; omega)
theorem nI_cl0 {x : Nat} (h : x < 2 ^ 31) : nI x = nI (nI x).toNatClampNeg := by rw [nI_clamp h]
theorem tk_3 {t : Nat → Nat} {ln a : Nat} (ht : ∀ j, t j < 256) (hk : (tk t ln a).2.1 = 3) : ∃ x, x ≤ 300 * 111 ∧ (tk t ln a).2.2 = nI x := by
  unfold tk at hk ⊢
  split
  · exact ⟨0, by omega, rfl⟩
  · split
    · rename_i h1 h2
      rw [if_neg h1, if_pos h2] at hk
      split at hk
      · cases hk
      · cases hk
    · split
      · simp only
        split
        · exact ⟨0, by omega, rfl⟩
        · exact ⟨_, nvF_le ht (by omega), rfl⟩
      · split
        · exact ⟨0, by omega, rfl⟩
        · split
          · exact ⟨0, by omega, rfl⟩
          · split <;> exact ⟨0, by omega, rfl⟩
theorem skB_bd {t : Nat → Nat} {ln p : Nat} : p ≤ skB t ln p ∧ skB t ln p ≤ max p ln := by
  have := whl_bd (q := fun i => isB (bA t ln i)) (k := ln - p) (p := p)
  unfold skB
  omega
theorem tkN_bd {t : Nat → Nat} {ln a : Nat} (ha : a ≤ ln + 1) : tkN t ln a ≤ ln + 1 ∧ (tk t ln a).1 ≤ ln + 1 ∧ a ≤ tkN t ln a ∧ (a < ln → a < tkN t ln a) := by
  have h1 := tk_bd (t := t) (ln := ln) (s := a)
  have h2 := skB_bd (t := t) (ln := ln) (p := (tk t ln a).1)
  unfold tkN
  refine ⟨by omega, by omega, by omega, fun h => ?_⟩
  have := h1.2.1 h
  omega
/-- the reading: from the token at a on, at most k tokens more: the fault, where, the state -/
def rRun (t : Nat → Nat) (ln : Nat) : Nat → Nat → RSt → Nat × Nat × RSt
  | 0, a, s => (rFault (tkK t ln a) (tkV t ln a) s, a, s)
  | k + 1, a, s => if rFault (tkK t ln a) (tkV t ln a) s = 0 ∧ tkK t ln a ≠ 0 then rRun t ln k (tkN t ln a) (rTake (tkK t ln a) (tkV t ln a) s) else (rFault (tkK t ln a) (tkV t ln a) s, a, s)
theorem rRun_step {t : Nat → Nat} {ln i a : Nat} {s : RSt} (hi : i < ln) (h : rFault (tkK t ln a) (tkV t ln a) s = 0) (hk : tkK t ln a ≠ 0) : rRun t ln (ln - i) a s = rRun t ln (ln - (i + 1)) (tkN t ln a) (rTake (tkK t ln a) (tkV t ln a) s) := by
  obtain ⟨k, hk9⟩ : ∃ k, ln - i = k + 1 := ⟨ln - i - 1, by omega⟩
  rw [hk9, show ln - (i + 1) = k by omega]
  exact if_pos ⟨h, hk⟩
theorem rRun_stop {t : Nat → Nat} {ln k a : Nat} {s : RSt} (h : ¬ (rFault (tkK t ln a) (tkV t ln a) s = 0 ∧ tkK t ln a ≠ 0)) : rRun t ln k a s = (rFault (tkK t ln a) (tkV t ln a) s, a, s) := by
  cases k with
  | zero => rfl
  | succ k => exact if_neg h
theorem rRun_end {t : Nat → Nat} {ln i a : Nat} {s : RSt} (h : ln ≤ i) : rRun t ln (ln - i) a s = (rFault (tkK t ln a) (tkV t ln a) s, a, s) := by
  rw [show ln - i = 0 by omega]; rfl
/-- the state at the start, over the old table -/
def rS0 (f : Nat → Int32) : RSt := (1, 0, 0, false, false, 0, 0, 0, f, 0, 0, 0, 0, 0, 0)
def rRead (t : Nat → Nat) (ln : Nat) (f : Nat → Int32) : Nat × Nat × RSt := rRun t ln ln (skB t ln 0) (rS0 f)
def fpR (R : Nat × Nat × RSt) : Int32 := if R.1 = 0 then -1 else nI R.2.1
def rdC (to sc flt : Nat) (fp : Int32) : RSt → pE
  | (sd, mr, cu, mkd, cud, rep, _, _, _, _, _, _, _, _, _) => .inr (2, [.ref to, .ref sc, .int (nI sd), .int (nI mr), .int (nI cu), .int (zb mkd), .int (zb cud), .int (nI rep), .int (nI flt), .int fp])
def scC (fa : Nat) : RSt → pE
  | (_, _, _, _, _, _, _, _, _, ev, be, cq, st, me, pa) => .inr (3, [.ref fa, .int (nI ev), .int (nI be), .int (nI cq), .int (nI st), .int (nI me), .int (nI pa)])
def faC : RSt → pE
  | (_, _, _, _, _, _, _, _, f, _, _, _, _, _, _) => .inl (0, 1400, .inl f)
def toC (tx : Nat) (t : Nat → Nat) (ln a : Nat) : pE := .inr (4, [.ref tx, .int (nI ln), .int (nI (tk t ln a).1), .int (nI (tk t ln a).2.1), .int (nI a), .int (tk t ln a).2.2])
theorem RI_0 (f : Nat → Int32) : RI (1, 0, 0, false, false, 0, 0, 0, f, 0, 0, 0, 0, 0, 0) := ⟨Or.inl rfl, by omega, fun h => by omega, fun h => by omega, by omega, by omega, by omega⟩
theorem opF_7 (f : Nat → Int32) {ev k be me pa st : Nat} {a b : Int32} : opF f ev k be me pa st a b (ev * 14 + 7) = b := by
  unfold opF
  simp only [upd]
  simp
theorem RI_open {s : RSt} {k b : Nat} (h : RI s) (hb : b = 64 ∨ b = 128 ∨ b = 512) (hev : s.2.2.2.2.2.2.2.2.2.1 < 100) : RI (rOpen k b s) := by
  obtain ⟨sd, mr, cu, mkd, cud, rep, np, oc, f, ev, be, cq, st, me, pa⟩ := s
  obtain ⟨h1, h2, h3, h4, h5, h6, h7⟩ := h
  refine ⟨by omega, h2, fun _ => ⟨hev, by omega, opF_1 f, ?_, ?_⟩, fun q => by omega, h5, h6, h7⟩
  · rw [opF_7]; cases cud <;> rfl
  · cases cud <;> decide
theorem adF_7 (f : Nat → Int32) {ev np : Nat} {p : Int32} (h : np ≤ 4) : adF f ev np p (ev * 14 + 7) = f (ev * 14 + 7) := by
  unfold adF
  rw [upd, if_neg (by omega), upd, if_neg (by omega)]
theorem adF_1 (f : Nat → Int32) {ev np : Nat} {p : Int32} : adF f ev np p (ev * 14 + 1) = nI (np + 1) := by
  unfold adF
  rw [upd, if_pos rfl]
theorem RI_add {s : RSt} {va : Int32} {b : Nat} (h : RI s) (hb : b = 256 ∨ b = 512) (hs : 64 ≤ s.1) (hn : s.2.2.2.2.2.2.1 < 4) : RI (rAdd va b s) := by
  obtain ⟨sd, mr, cu, mkd, cud, rep, np, oc, f, ev, be, cq, st, me, pa⟩ := s
  obtain ⟨h1, h2, h3, h4, h5, h6, h7⟩ := h
  obtain ⟨o1, o2, o3, o4, o5⟩ := h3 hs
  replace hn : np < 4 := hn
  exact ⟨by omega, h2, fun _ => ⟨o1, hn, adF_1 f, (adF_7 f o2).trans o4, o5⟩, fun q => by omega, h5, h6, h7⟩
theorem kd_of {sd kd : Nat} (h : sd &&& stA kd ≠ 0) : kd = 0 ∨ kd = 2 ∨ kd = 3 ∨ kd = 4 ∨ kd = 5 ∨ kd = 33 ∨ kd = 37 ∨ kd = 40 ∨ kd = 41 ∨ kd = 58 ∨ kd = 64 ∨ kd = 114 ∨ kd = 124 ∨ kd = 126 := by
  apply Decidable.byContradiction
  intro q
  simp only [not_or] at q
  obtain ⟨q0, q2, q3, q4, q5, q33, q37, q40, q41, q58, q64, q114, q124, q126⟩ := q
  apply h
  simp only [stA, q0, q2, q3, q4, q5, q33, q37, q40, q41, q58, q64, q114, q124, q126, if_false, Nat.and_zero]
theorem RI_take {s : RSt} {kd : Nat} {va : Int32} (h : RI s) (hf : rFault kd va s = 0) (hk0 : kd ≠ 0) : RI (rTake kd va s) := by
  obtain ⟨hfit, hto⟩ := rF0 hf
  have hRI := h
  obtain ⟨sd, mr, cu, mkd, cud, rep, np, oc, f, ev, be, cq, st, me, pa⟩ := s
  obtain ⟨h1, h2, h3, h4, h5, h6, h7⟩ := h
  replace hfit : sd &&& stA kd ≠ 0 := hfit
  rcases kd_of hfit with rfl | rfl | rfl | rfl | rfl | rfl | rfl | rfl | rfl | rfl | rfl | rfl | rfl | rfl
  · exact absurd rfl hk0
  · show RI (rAdd va (if sd &&& 384 = 0 then 512 else 256) (if sd &&& 63 = 0 then _ else rOpen 0 512 _))
    by_cases hz : sd &&& 63 = 0
    · rw [if_pos hz]
      refine RI_add hRI (by split <;> simp) (sd64 h1 hz hfit) (tooM_b hto rfl hz)
    · rw [if_neg hz]
      exact RI_add (RI_open hRI (by simp) (tooM_a hto rfl hz)) (by split <;> simp) (by show 64 ≤ 512; omega) (by show 0 < 4; omega)
  · have e := sd1024 h1 hfit
    have o := h3 (by omega)
    exact ⟨by simp, by omega, fun q => by omega, fun _ => by omega, h5, h6, by omega⟩
  · exact ⟨by simp, h2, fun q => by omega, fun q => by omega, h5, h6, Nat.le_refl _⟩
  · exact ⟨by simp, h2, fun q => by omega, fun q => by omega, h5, h6, Nat.le_refl _⟩
  · have q : ¬ 20 ≤ cu := of_decide_eq_false hto
    exact ⟨by simp, h2, fun q => by omega, fun q => by omega, h5, by omega, h7⟩
  · exact ⟨by simp, h2, fun q => by omega, fun q => by omega, h5, h6, h7⟩
  · exact RI_open hRI (by simp) (tooM_c hto (by simp))
  · have : sd = 256 := by rcases h1 with rfl | rfl | rfl | rfl | rfl | rfl | rfl | rfl | rfl | rfl | rfl <;> first | rfl | exact absurd (by decide) hfit
    exact ⟨by simp, h2, fun _ => h3 (by omega), fun q => by omega, h5, h6, h7⟩
  · have : sd = 512 := by rcases h1 with rfl | rfl | rfl | rfl | rfl | rfl | rfl | rfl | rfl | rfl | rfl <;> first | rfl | exact absurd (by decide) hfit
    exact ⟨by simp, h2, fun _ => h3 (by omega), fun q => by omega, h5, h6, h7⟩
  · have q : ¬ 10 ≤ mr := of_decide_eq_false hto
    exact ⟨by simp, h2, fun q => by omega, fun q => by omega, by omega, h6, h7⟩
  · exact RI_open hRI (by simp) (tooM_c hto (by simp))
  · exact ⟨by simp, h2, fun q => by omega, fun q => by omega, h5, h6, h7⟩
  · exact RI_open hRI (by simp) (tooM_c hto (by simp))
end RR
abbrev rX2_read : Room := { frames := 6, cells := 0, slots := 0, locals := 134 }
theorem flX2_read_25 : FL wsX2_read RX2 25 2 8 := ⟨RX2, TX2, 10, rfl, by decide, by decide +kernel, by decide +kernel⟩
theorem flX2_read_14 : FL wsX2_read RX2 14 2 0 := ⟨RX2, TX2, 10, rfl, by decide, by decide +kernel, by decide +kernel⟩
theorem flX2_read_71 : FL wsX2_read RX2 71 4 4 := ⟨RX4, TX4, 6, rfl, by decide, by decide +kernel, by decide +kernel⟩
theorem fsX2_read_29 : FS wsX2_read RX2 29 2 9 false (.int) := ⟨RX2, TX2, 10, tyX2, rfl, by decide, by decide +kernel, by decide +kernel, tyX2_ok, nmX2, rfl, rfl, rfl⟩
theorem flX2_read_62 : FL wsX2_read RX2 62 4 3 := ⟨RX4, TX4, 6, rfl, by decide, by decide +kernel, by decide +kernel⟩
theorem fsX2_read_25 : FS wsX2_read RX2 25 2 8 false (.int) := ⟨RX2, TX2, 10, tyX2, rfl, by decide, by decide +kernel, by decide +kernel, tyX2_ok, nmX2, rfl, rfl, rfl⟩
set_option maxHeartbeats 4000000 in
set_option maxRecDepth 100000 in
theorem l_read {w : pW} {rd to sc fa tx ln tn : Nat} {fp : Int32} {t : Nat → Nat} {R9 : Nat × Nat × RSt} (hne : (tx ≠ rd ∧ tx ≠ sc ∧ tx ≠ fa ∧ tx ≠ to)) (htx : w tx = some (.inl (1, tn, .inl (fun j9 => sb_b (t j9))))) (ht : ∀ j, t j < 256) (hln : ln ≤ tn) (hln2 : ln ≤ 2400) (htn : tn ≤ 100000) : ∀ (m9 : Nat) (i : Nat) (a : Nat) (sd : Nat) (mr : Nat) (cu : Nat) (mkd : Bool) (cud : Bool) (rep : Nat) (np : Nat) (oc : Nat) (f : Nat → Int32) (ev : Nat) (be : Nat) (cq : Nat) (st : Nat) (me : Nat) (pa : Nat) (wl : pW), ln - i < m9 → (i ≤ ln) → (a ≤ ln + 1) → (RI (sd, mr, cu, mkd, cud, rep, np, oc, f, ev, be, cq, st, me, pa)) → (rRun t ln (ln - i) a (sd, mr, cu, mkd, cud, rep, np, oc, f, ev, be, cq, st, me, pa) = R9) → (Fr [rd, sc, fa, to] w wl) → (wl rd = some (.inr (2, [.ref to, .ref sc, .int (nI sd), .int (nI mr), .int (nI cu), .int (zb mkd), .int (zb cud), .int (nI rep), .int (nI (rFault (tk t ln a).2.1 (tk t ln a).2.2 (sd, mr, cu, mkd, cud, rep, np, oc, f, ev, be, cq, st, me, pa))), .int fp]))) → (wl sc = some (.inr (3, [.ref fa, .int (nI ev), .int (nI be), .int (nI cq), .int (nI st), .int (nI me), .int (nI pa)]))) → (wl fa = some (.inl (0, 1400, .inl f))) → (wl to = some (.inr (4, [.ref tx, .int (nI ln), .int (nI ((tk t ln a).1)), .int (nI ((tk t ln a).2.1)), .int (nI a), .int ((tk t ln a).2.2)]))) → J ((cX2_read, RX2, 4, wsX2_read), (rX2_read, (some .int), "read", []), fun o w9 => o = .inl (some (.int (nI R9.1))) ∧ Fr [rd, sc, fa, to] w w9 ∧ w9 rd = some (rdC to sc R9.1 (fpR R9) R9.2.2) ∧ w9 sc = some (scC fa R9.2.2) ∧ w9 fa = some (faC R9.2.2) ∧ w9 to = some (toC tx t ln R9.2.1), fun _ _ _ => True) 56 [(0, .ref rd), (1, .ref tx), (2, .int (nI ln)), (3, .int (nI i))] [] wl 0 0 := by
  intro m9
  induction m9 with
  | zero => intro i a sd mr cu mkd cud rep np oc f ev be cq st me pa wl h9; omega
  | succ m9 ih =>
    intro i a sd mr cu mkd cud rep np oc f ev be cq st me pa wl hm9 hi ha hRI hr hF g_rd g_sc g_fa g_to
    have g_tx := (hF tx (by simp only [List.mem_cons, List.not_mem_nil, or_false, not_or]; exact ⟨hne.1, hne.2.1, hne.2.2.1, hne.2.2.2⟩)).trans htx
    have hk9 := tk_k (ln := ln) (a := a) ht
    have hff : rFault (tk t ln a).2.1 (tk t ln a).2.2 (sd, mr, cu, mkd, cud, rep, np, oc, f, ev, be, cq, st, me, pa) ≤ 3 := by unfold rFault; (repeat' split) <;> omega
    refine j_iload_n dX2_read_56 3 rfl ?_
    refine j_iload_n dX2_read_57 2 rfl ?_
    refine j_icmp_geN 103 (by omega) (by omega) dX2_read_58 (by decide) (fun c58 => ?_) (fun c58 => ?_)
    · skip
      refine j_aload_n dX2_read_103 0 rfl ?_
      refine j_aload_n dX2_read_104 0 rfl ?_
      refine j_get flX2_read_25 g_rd rfl dX2_read_105 ?_
      refine j_if_neN 115 (by omega) dX2_read_108 (by decide) (fun c108 => ?_) (fun c108 => ?_)
      · skip
        refine j_aload_n dX2_read_115 0 rfl ?_
        refine j_get flX2_read_14 g_rd rfl dX2_read_116 ?_
        refine j_get flX2_read_71 g_to rfl dX2_read_119 ?_
        refine j_put (fs9 := [.ref to, .ref sc, .int (nI sd), .int (nI mr), .int (nI cu), .int (zb mkd), .int (zb cud), .int (nI rep), .int (nI (rFault (tk t ln a).2.1 (tk t ln a).2.2 (sd, mr, cu, mkd, cud, rep, np, oc, f, ev, be, cq, st, me, pa))), .int (nI a)]) fsX2_read_29 g_rd rfl rfl (Nat.le_of_ble_eq_true rfl) rfl dX2_read_122 ?_
        refine j_w (fun w1 hw1 => ?_)
        have f2 : w1 rd = some (.inr (2, [.ref to, .ref sc, .int (nI sd), .int (nI mr), .int (nI cu), .int (zb mkd), .int (zb cud), .int (nI rep), .int (nI (rFault (tk t ln a).2.1 (tk t ln a).2.2 (sd, mr, cu, mkd, cud, rep, np, oc, f, ev, be, cq, st, me, pa))), .int (nI a)])) := up_at hw1
        have f3 := up_ne hw1 (fk g_sc g_rd rfl) g_sc
        have f4 := up_ne hw1 (fk g_fa g_rd rfl) g_fa
        have f5 := up_ne hw1 (fk g_to g_rd rfl) g_to
        have f6 := up_ne hw1 (fk g_tx g_rd rfl) g_tx
        refine j_aload_n dX2_read_125 0 rfl ?_
        refine j_get flX2_read_25 f2 rfl dX2_read_126 ?_
        exact j_iret rfl (by rw [show R9 = (rFault (tk t ln a).2.1 (tk t ln a).2.2 (sd, mr, cu, mkd, cud, rep, np, oc, f, ev, be, cq, st, me, pa), a, (sd, mr, cu, mkd, cud, rep, np, oc, f, ev, be, cq, st, me, pa)) from hr.symm.trans (rRun_end (by omega))]; exact ⟨rfl, hF.trans ((Fr.refl : Fr [rd, sc, fa, to] wl wl).trans (Fr.up hw1 (by simp))), by rw [f2]; unfold fpR; rw [if_neg c108]; rfl, f3, f4, f5⟩) (show 0 ≤ 0 by omega) (show 0 ≤ 0 by omega) dX2_read_129
      · skip
        refine j_iconst (v := (-1)) dX2_read_111 (by decide) ?_
        refine j_goto 122 dX2_read_112 (by decide) ?_
        refine j_topi (fun x7 ex7 => ?_)
        refine j_put (fs9 := [.ref to, .ref sc, .int (nI sd), .int (nI mr), .int (nI cu), .int (zb mkd), .int (zb cud), .int (nI rep), .int (nI (rFault (tk t ln a).2.1 (tk t ln a).2.2 (sd, mr, cu, mkd, cud, rep, np, oc, f, ev, be, cq, st, me, pa))), .int x7]) fsX2_read_29 g_rd rfl rfl (Nat.le_of_ble_eq_true rfl) rfl dX2_read_122 ?_
        refine j_w (fun w8 hw8 => ?_)
        have f9 : w8 rd = some (.inr (2, [.ref to, .ref sc, .int (nI sd), .int (nI mr), .int (nI cu), .int (zb mkd), .int (zb cud), .int (nI rep), .int (nI (rFault (tk t ln a).2.1 (tk t ln a).2.2 (sd, mr, cu, mkd, cud, rep, np, oc, f, ev, be, cq, st, me, pa))), .int x7])) := up_at hw8
        have f10 := up_ne hw8 (fk g_sc g_rd rfl) g_sc
        have f11 := up_ne hw8 (fk g_fa g_rd rfl) g_fa
        have f12 := up_ne hw8 (fk g_to g_rd rfl) g_to
        have f13 := up_ne hw8 (fk g_tx g_rd rfl) g_tx
        refine j_aload_n dX2_read_125 0 rfl ?_
        refine j_get flX2_read_25 f9 rfl dX2_read_126 ?_
        exact j_iret rfl (by rw [show R9 = (rFault (tk t ln a).2.1 (tk t ln a).2.2 (sd, mr, cu, mkd, cud, rep, np, oc, f, ev, be, cq, st, me, pa), a, (sd, mr, cu, mkd, cud, rep, np, oc, f, ev, be, cq, st, me, pa)) from hr.symm.trans (rRun_end (by omega))]; exact ⟨rfl, hF.trans ((Fr.refl : Fr [rd, sc, fa, to] wl wl).trans (Fr.up hw8 (by simp))), by rw [f9]; unfold fpR; rw [if_pos c108]; subst_vars; rfl, f10, f11, f12⟩) (show 0 ≤ 0 by omega) (show 0 ≤ 0 by omega) dX2_read_129
    · skip
      refine j_aload_n dX2_read_61 0 rfl ?_
      refine j_get flX2_read_25 g_rd rfl dX2_read_62 ?_
      refine j_if_neN 103 (by omega) dX2_read_65 (by decide) (fun c65 => ?_) (fun c65 => ?_)
      · skip
        refine j_aload_n dX2_read_103 0 rfl ?_
        refine j_aload_n dX2_read_104 0 rfl ?_
        refine j_get flX2_read_25 g_rd rfl dX2_read_105 ?_
        refine j_if_neN 115 (by omega) dX2_read_108 (by decide) (fun c108 => ?_) (fun c108 => ?_)
        · skip
          refine j_aload_n dX2_read_115 0 rfl ?_
          refine j_get flX2_read_14 g_rd rfl dX2_read_116 ?_
          refine j_get flX2_read_71 g_to rfl dX2_read_119 ?_
          refine j_put (fs9 := [.ref to, .ref sc, .int (nI sd), .int (nI mr), .int (nI cu), .int (zb mkd), .int (zb cud), .int (nI rep), .int (nI (rFault (tk t ln a).2.1 (tk t ln a).2.2 (sd, mr, cu, mkd, cud, rep, np, oc, f, ev, be, cq, st, me, pa))), .int (nI a)]) fsX2_read_29 g_rd rfl rfl (Nat.le_of_ble_eq_true rfl) rfl dX2_read_122 ?_
          refine j_w (fun w14 hw14 => ?_)
          have f15 : w14 rd = some (.inr (2, [.ref to, .ref sc, .int (nI sd), .int (nI mr), .int (nI cu), .int (zb mkd), .int (zb cud), .int (nI rep), .int (nI (rFault (tk t ln a).2.1 (tk t ln a).2.2 (sd, mr, cu, mkd, cud, rep, np, oc, f, ev, be, cq, st, me, pa))), .int (nI a)])) := up_at hw14
          have f16 := up_ne hw14 (fk g_sc g_rd rfl) g_sc
          have f17 := up_ne hw14 (fk g_fa g_rd rfl) g_fa
          have f18 := up_ne hw14 (fk g_to g_rd rfl) g_to
          have f19 := up_ne hw14 (fk g_tx g_rd rfl) g_tx
          refine j_aload_n dX2_read_125 0 rfl ?_
          refine j_get flX2_read_25 f15 rfl dX2_read_126 ?_
          exact j_iret rfl (by rw [show R9 = (rFault (tk t ln a).2.1 (tk t ln a).2.2 (sd, mr, cu, mkd, cud, rep, np, oc, f, ev, be, cq, st, me, pa), a, (sd, mr, cu, mkd, cud, rep, np, oc, f, ev, be, cq, st, me, pa)) from hr.symm.trans (rRun_stop (fun q => c65 q.1))]; exact ⟨rfl, hF.trans ((Fr.refl : Fr [rd, sc, fa, to] wl wl).trans (Fr.up hw14 (by simp))), by rw [f15]; unfold fpR; rw [if_neg c108]; rfl, f16, f17, f18⟩) (show 0 ≤ 0 by omega) (show 0 ≤ 0 by omega) dX2_read_129
        · skip
          refine j_iconst (v := (-1)) dX2_read_111 (by decide) ?_
          refine j_goto 122 dX2_read_112 (by decide) ?_
          refine j_topi (fun x20 ex20 => ?_)
          refine j_put (fs9 := [.ref to, .ref sc, .int (nI sd), .int (nI mr), .int (nI cu), .int (zb mkd), .int (zb cud), .int (nI rep), .int (nI (rFault (tk t ln a).2.1 (tk t ln a).2.2 (sd, mr, cu, mkd, cud, rep, np, oc, f, ev, be, cq, st, me, pa))), .int x20]) fsX2_read_29 g_rd rfl rfl (Nat.le_of_ble_eq_true rfl) rfl dX2_read_122 ?_
          refine j_w (fun w21 hw21 => ?_)
          have f22 : w21 rd = some (.inr (2, [.ref to, .ref sc, .int (nI sd), .int (nI mr), .int (nI cu), .int (zb mkd), .int (zb cud), .int (nI rep), .int (nI (rFault (tk t ln a).2.1 (tk t ln a).2.2 (sd, mr, cu, mkd, cud, rep, np, oc, f, ev, be, cq, st, me, pa))), .int x20])) := up_at hw21
          have f23 := up_ne hw21 (fk g_sc g_rd rfl) g_sc
          have f24 := up_ne hw21 (fk g_fa g_rd rfl) g_fa
          have f25 := up_ne hw21 (fk g_to g_rd rfl) g_to
          have f26 := up_ne hw21 (fk g_tx g_rd rfl) g_tx
          refine j_aload_n dX2_read_125 0 rfl ?_
          refine j_get flX2_read_25 f22 rfl dX2_read_126 ?_
          exact j_iret rfl (by rw [show R9 = (rFault (tk t ln a).2.1 (tk t ln a).2.2 (sd, mr, cu, mkd, cud, rep, np, oc, f, ev, be, cq, st, me, pa), a, (sd, mr, cu, mkd, cud, rep, np, oc, f, ev, be, cq, st, me, pa)) from hr.symm.trans (rRun_stop (fun q => c65 q.1))]; exact ⟨rfl, hF.trans ((Fr.refl : Fr [rd, sc, fa, to] wl wl).trans (Fr.up hw21 (by simp))), by rw [f22]; unfold fpR; rw [if_pos c108]; subst_vars; rfl, f23, f24, f25⟩) (show 0 ≤ 0 by omega) (show 0 ≤ 0 by omega) dX2_read_129
      · skip
        have hfl : rFault (tk t ln a).2.1 (tk t ln a).2.2 (sd, mr, cu, mkd, cud, rep, np, oc, f, ev, be, cq, st, me, pa) = 0 := c65
        refine j_aload_n dX2_read_68 0 rfl ?_
        refine j_get flX2_read_14 g_rd rfl dX2_read_69 ?_
        refine j_get flX2_read_62 g_to rfl dX2_read_72 ?_
        refine j_if_eqN 103 (by omega) dX2_read_75 (by decide) (fun c75 => ?_) (fun c75 => ?_)
        · skip
          refine j_aload_n dX2_read_103 0 rfl ?_
          refine j_aload_n dX2_read_104 0 rfl ?_
          refine j_get flX2_read_25 g_rd rfl dX2_read_105 ?_
          refine j_if_neN 115 (by omega) dX2_read_108 (by decide) (fun c108 => ?_) (fun c108 => ?_)
          · skip
            refine j_aload_n dX2_read_115 0 rfl ?_
            refine j_get flX2_read_14 g_rd rfl dX2_read_116 ?_
            refine j_get flX2_read_71 g_to rfl dX2_read_119 ?_
            refine j_put (fs9 := [.ref to, .ref sc, .int (nI sd), .int (nI mr), .int (nI cu), .int (zb mkd), .int (zb cud), .int (nI rep), .int (nI (rFault (tk t ln a).2.1 (tk t ln a).2.2 (sd, mr, cu, mkd, cud, rep, np, oc, f, ev, be, cq, st, me, pa))), .int (nI a)]) fsX2_read_29 g_rd rfl rfl (Nat.le_of_ble_eq_true rfl) rfl dX2_read_122 ?_
            refine j_w (fun w27 hw27 => ?_)
            have f28 : w27 rd = some (.inr (2, [.ref to, .ref sc, .int (nI sd), .int (nI mr), .int (nI cu), .int (zb mkd), .int (zb cud), .int (nI rep), .int (nI (rFault (tk t ln a).2.1 (tk t ln a).2.2 (sd, mr, cu, mkd, cud, rep, np, oc, f, ev, be, cq, st, me, pa))), .int (nI a)])) := up_at hw27
            have f29 := up_ne hw27 (fk g_sc g_rd rfl) g_sc
            have f30 := up_ne hw27 (fk g_fa g_rd rfl) g_fa
            have f31 := up_ne hw27 (fk g_to g_rd rfl) g_to
            have f32 := up_ne hw27 (fk g_tx g_rd rfl) g_tx
            refine j_aload_n dX2_read_125 0 rfl ?_
            refine j_get flX2_read_25 f28 rfl dX2_read_126 ?_
            exact j_iret rfl (by rw [show R9 = (rFault (tk t ln a).2.1 (tk t ln a).2.2 (sd, mr, cu, mkd, cud, rep, np, oc, f, ev, be, cq, st, me, pa), a, (sd, mr, cu, mkd, cud, rep, np, oc, f, ev, be, cq, st, me, pa)) from hr.symm.trans (rRun_stop (fun q => q.2 c75))]; exact ⟨rfl, hF.trans ((Fr.refl : Fr [rd, sc, fa, to] wl wl).trans (Fr.up hw27 (by simp))), by rw [f28]; unfold fpR; rw [if_neg c108]; rfl, f29, f30, f31⟩) (show 0 ≤ 0 by omega) (show 0 ≤ 0 by omega) dX2_read_129
          · skip
            refine j_iconst (v := (-1)) dX2_read_111 (by decide) ?_
            refine j_goto 122 dX2_read_112 (by decide) ?_
            refine j_topi (fun x33 ex33 => ?_)
            refine j_put (fs9 := [.ref to, .ref sc, .int (nI sd), .int (nI mr), .int (nI cu), .int (zb mkd), .int (zb cud), .int (nI rep), .int (nI (rFault (tk t ln a).2.1 (tk t ln a).2.2 (sd, mr, cu, mkd, cud, rep, np, oc, f, ev, be, cq, st, me, pa))), .int x33]) fsX2_read_29 g_rd rfl rfl (Nat.le_of_ble_eq_true rfl) rfl dX2_read_122 ?_
            refine j_w (fun w34 hw34 => ?_)
            have f35 : w34 rd = some (.inr (2, [.ref to, .ref sc, .int (nI sd), .int (nI mr), .int (nI cu), .int (zb mkd), .int (zb cud), .int (nI rep), .int (nI (rFault (tk t ln a).2.1 (tk t ln a).2.2 (sd, mr, cu, mkd, cud, rep, np, oc, f, ev, be, cq, st, me, pa))), .int x33])) := up_at hw34
            have f36 := up_ne hw34 (fk g_sc g_rd rfl) g_sc
            have f37 := up_ne hw34 (fk g_fa g_rd rfl) g_fa
            have f38 := up_ne hw34 (fk g_to g_rd rfl) g_to
            have f39 := up_ne hw34 (fk g_tx g_rd rfl) g_tx
            refine j_aload_n dX2_read_125 0 rfl ?_
            refine j_get flX2_read_25 f35 rfl dX2_read_126 ?_
            exact j_iret rfl (by rw [show R9 = (rFault (tk t ln a).2.1 (tk t ln a).2.2 (sd, mr, cu, mkd, cud, rep, np, oc, f, ev, be, cq, st, me, pa), a, (sd, mr, cu, mkd, cud, rep, np, oc, f, ev, be, cq, st, me, pa)) from hr.symm.trans (rRun_stop (fun q => q.2 c75))]; exact ⟨rfl, hF.trans ((Fr.refl : Fr [rd, sc, fa, to] wl wl).trans (Fr.up hw34 (by simp))), by rw [f35]; unfold fpR; rw [if_pos c108]; subst_vars; rfl, f36, f37, f38⟩) (show 0 ≤ 0 by omega) (show 0 ≤ 0 by omega) dX2_read_129
        · skip
          refine j_aload_n dX2_read_78 0 rfl ?_
          refine j_callV (rm := rX2_takeToken) (As := []) (st := []) (b0 := rd) (ci := 2) (na := 0) (c_takeToken (np := np) (oc := oc) g_rd g_sc g_fa g_to (tk_k ht) hRI hfl (fun q => by obtain ⟨x, hx, hy⟩ := tk_3 ht q; rw [hy]; exact nI_cl0 (by omega))) (by intro E w9 h9; first | exact nomatch h9.1 | (obtain ⟨_, h9, _⟩ := h9; exact nomatch h9) | (obtain ⟨_, _, _, h9, _⟩ := h9; exact nomatch h9)) gX2_read_X2_takeToken rfl rfl g_rd (by decide +kernel) rfl ⟨Nat.le_of_ble_eq_true rfl, Nat.le_of_ble_eq_true rfl⟩ rfl (Nat.le_of_ble_eq_true rfl) dX2_read_79 ⟨(show 0 + 0 ≤ 0 by omega), (show 0 + 0 ≤ 0 by omega)⟩ (fun v40 w41 h42 => ?_)
          obtain ⟨h42, hw9⟩ := h42
          cases h42
          obtain ⟨⟨sdA, mrA, cuA, mkdA, cudA, repA, npA, ocA, fA, evA, beA, cqA, stA, meA, paA⟩, hs1⟩ : ∃ s1, s1 = rTake (tk t ln a).2.1 (tk t ln a).2.2 (sd, mr, cu, mkd, cud, rep, np, oc, f, ev, be, cq, st, me, pa) := ⟨_, rfl⟩
          rw [← hs1] at hw9
          have hRI1 : RI (sdA, mrA, cuA, mkdA, cudA, repA, npA, ocA, fA, evA, beA, cqA, stA, meA, paA) := hs1 ▸ RI_take hRI hfl c75
          refine j_after (st' := []) (k' := 0) (n' := 0) rfl rfl rfl ?_
          have f43 : w41 rd = some (.inr (2, [.ref to, .ref sc, .int (nI sdA), .int (nI mrA), .int (nI cuA), .int (zb mkdA), .int (zb cudA), .int (nI repA), .int (nI (rFault (tk t ln a).2.1 (tk t ln a).2.2 (sd, mr, cu, mkd, cud, rep, np, oc, f, ev, be, cq, st, me, pa))), .int fp])) := by rw [hw9]; exact va_up_self _ _ _
          have f44 : w41 sc = some (.inr (3, [.ref fa, .int (nI evA), .int (nI beA), .int (nI cqA), .int (nI stA), .int (nI meA), .int (nI paA)])) := by rw [hw9]; exact (va_up_ne _ _ (fk g_sc g_rd rfl)).trans (va_up_self _ _ _)
          have f45 : w41 fa = some (.inl (0, 1400, .inl fA)) := by rw [hw9]; exact (va_up_ne _ _ (fk g_fa g_rd rfl)).trans ((va_up_ne _ _ (fk g_fa g_sc rfl)).trans (va_up_self _ _ _))
          have f46 : w41 to = some (.inr (4, [.ref tx, .int (nI ln), .int (nI ((tk t ln a).1)), .int (nI ((tk t ln a).2.1)), .int (nI a), .int ((tk t ln a).2.2)])) := by rw [hw9]; exact (va_up_ne _ _ (fk g_to g_rd rfl)).trans ((va_up_ne _ _ (fk g_to g_sc rfl)).trans ((va_up_ne _ _ (fk g_to g_fa rfl)).trans (g_to)))
          have f47 : w41 tx = some (.inl (1, tn, .inl (fun j9 => sb_b (t j9)))) := by rw [hw9]; exact (va_up_ne _ _ (fk g_tx g_rd rfl)).trans ((va_up_ne _ _ (fk g_tx g_sc rfl)).trans ((va_up_ne _ _ (fk g_tx g_fa rfl)).trans (g_tx)))
          have hbd := tkN_bd (t := t) (ln := ln) (a := a) (by omega)
          refine j_aload_n dX2_read_82 0 rfl ?_
          refine j_get flX2_read_14 f43 rfl dX2_read_83 ?_
          refine j_callV (rm := rX4_advance) (As := []) (st := []) (b0 := to) (ci := 4) (na := 0) (c_advance f46 f47 ht (by omega) (by omega) (by omega) (by omega)) (by intro E w9 h9; first | exact nomatch h9.1 | (obtain ⟨_, h9, _⟩ := h9; exact nomatch h9) | (obtain ⟨_, _, _, h9, _⟩ := h9; exact nomatch h9)) gX2_read_X4_advance rfl rfl f46 (by decide +kernel) rfl ⟨Nat.le_of_ble_eq_true rfl, Nat.le_of_ble_eq_true rfl⟩ rfl (Nat.le_of_ble_eq_true rfl) dX2_read_86 ⟨(show 0 + 0 ≤ 0 by omega), (show 0 + 0 ≤ 0 by omega)⟩ (fun v48 w49 h50 => ?_)
          obtain ⟨h50, h51⟩ := h50
          cases h50
          -- w49
          refine j_after (st' := []) (k' := 0) (n' := 0) rfl rfl rfl ?_
          have f52 : w49 rd = some (.inr (2, [.ref to, .ref sc, .int (nI sdA), .int (nI mrA), .int (nI cuA), .int (zb mkdA), .int (zb cudA), .int (nI repA), .int (nI (rFault (tk t ln a).2.1 (tk t ln a).2.2 (sd, mr, cu, mkd, cud, rep, np, oc, f, ev, be, cq, st, me, pa))), .int fp])) := by rw [h51]; exact (va_up_ne _ _ (fk f43 f46 rfl)).trans (f43)
          have f53 : w49 sc = some (.inr (3, [.ref fa, .int (nI evA), .int (nI beA), .int (nI cqA), .int (nI stA), .int (nI meA), .int (nI paA)])) := by rw [h51]; exact (va_up_ne _ _ (fk f44 f46 rfl)).trans (f44)
          have f54 : w49 fa = some (.inl (0, 1400, .inl fA)) := by rw [h51]; exact (va_up_ne _ _ (fk f45 f46 rfl)).trans (f45)
          have f55 : w49 to = some (.inr (4, [.ref tx, .int (nI ln), .int (nI ((tk t ln (skB t ln ((tk t ln a).1))).1)), .int (nI ((tk t ln (skB t ln ((tk t ln a).1))).2.1)), .int (nI (skB t ln ((tk t ln a).1))), .int ((tk t ln (skB t ln ((tk t ln a).1))).2.2)])) := by rw [h51]; exact va_up_self _ _ _
          have f56 : w49 tx = some (.inl (1, tn, .inl (fun j9 => sb_b (t j9)))) := by rw [h51]; exact (va_up_ne _ _ (fk f47 f46 rfl)).trans (f47)
          refine j_aload_n dX2_read_89 0 rfl ?_
          refine j_aload_n dX2_read_90 0 rfl ?_
          refine j_callV (rm := rX2_faultOfToken) (As := []) (st := [.ref rd]) (b0 := rd) (ci := 2) (na := 0) (c_faultOfToken (np := npA) (oc := ocA) f52 f53 f54 f55 (tk_k ht) hRI1) (by intro E w9 h9; first | exact nomatch h9.1 | (obtain ⟨_, h9, _⟩ := h9; exact nomatch h9) | (obtain ⟨_, _, _, h9, _⟩ := h9; exact nomatch h9)) gX2_read_X2_faultOfToken rfl rfl f52 (by decide +kernel) rfl ⟨Nat.le_of_ble_eq_true rfl, Nat.le_of_ble_eq_true rfl⟩ rfl (Nat.le_of_ble_eq_true rfl) dX2_read_91 ⟨(show 0 + 0 ≤ 0 by omega), (show 0 + 0 ≤ 0 by omega)⟩ (fun v57 w58 h59 => ?_)
          obtain ⟨h59, h60⟩ := h59
          cases h59
          subst w58
          refine j_after (st' := [.int (nI (rFault (tk t ln (skB t ln (tk t ln a).1)).2.1 (tk t ln (skB t ln (tk t ln a).1)).2.2 (sdA, mrA, cuA, mkdA, cudA, repA, npA, ocA, fA, evA, beA, cqA, stA, meA, paA))), .ref rd]) (k' := 0) (n' := 0) rfl rfl rfl ?_
          refine j_put (fs9 := [.ref to, .ref sc, .int (nI sdA), .int (nI mrA), .int (nI cuA), .int (zb mkdA), .int (zb cudA), .int (nI repA), .int (nI (rFault (tk t ln (skB t ln (tk t ln a).1)).2.1 (tk t ln (skB t ln (tk t ln a).1)).2.2 (sdA, mrA, cuA, mkdA, cudA, repA, npA, ocA, fA, evA, beA, cqA, stA, meA, paA))), .int fp]) fsX2_read_25 f52 rfl rfl (Nat.le_of_ble_eq_true rfl) rfl dX2_read_94 ?_
          refine j_w (fun w61 hw61 => ?_)
          have f62 : w61 rd = some (.inr (2, [.ref to, .ref sc, .int (nI sdA), .int (nI mrA), .int (nI cuA), .int (zb mkdA), .int (zb cudA), .int (nI repA), .int (nI (rFault (tk t ln (skB t ln (tk t ln a).1)).2.1 (tk t ln (skB t ln (tk t ln a).1)).2.2 (sdA, mrA, cuA, mkdA, cudA, repA, npA, ocA, fA, evA, beA, cqA, stA, meA, paA))), .int fp])) := up_at hw61
          have f63 := up_ne hw61 (fk f53 f52 rfl) f53
          have f64 := up_ne hw61 (fk f54 f52 rfl) f54
          have f65 := up_ne hw61 (fk f55 f52 rfl) f55
          have f66 := up_ne hw61 (fk f56 f52 rfl) f56
          refine j_iinc (q := 3) (v := nI (i + 1)) (lv' := [(3, .int (nI (i + 1))), (0, .ref rd), (1, .ref tx), (2, .int (nI ln))]) dX2_read_97 rfl (by first | exact nI_1 _ | exact nI_add _ _) (Nat.le_of_ble_eq_true rfl) rfl ?_
          refine j_goto 56 dX2_read_100 (by decide) ?_
          refine j_lv (lv' := [(0, .ref rd), (1, .ref tx), (2, .int (nI ln)), (3, .int (nI (i + 1)))]) [1, 2, 3, 0] rfl ?_
          exact ih (i + 1) (skB t ln (tk t ln a).1) sdA mrA cuA mkdA cudA repA npA ocA fA evA beA cqA stA meA paA _ (by omega) (by omega) (by show tkN t ln a ≤ ln + 1; omega) hRI1 (by rw [← hr, rRun_step (by omega) hfl c75, hs1]; rfl) (hF.trans ((((Fr.refl : Fr [rd, sc, fa, to] wl wl).trans ((FrW hw9).mono (by simp))).trans (Fr.up h51 (by simp))).trans (Fr.up hw61 (by simp)))) f62 f63 f64 f65
theorem fsX2_read_32 : FS wsX2_read RX2 32 2 2 false (.int) := ⟨RX2, TX2, 10, tyX2, rfl, by decide, by decide +kernel, by decide +kernel, tyX2_ok, nmX2, rfl, rfl, rfl⟩
theorem fsX2_read_35 : FS wsX2_read RX2 35 2 3 false (.int) := ⟨RX2, TX2, 10, tyX2, rfl, by decide, by decide +kernel, by decide +kernel, tyX2_ok, nmX2, rfl, rfl, rfl⟩
theorem fsX2_read_38 : FS wsX2_read RX2 38 2 4 false (.int) := ⟨RX2, TX2, 10, tyX2, rfl, by decide, by decide +kernel, by decide +kernel, tyX2_ok, nmX2, rfl, rfl, rfl⟩
theorem fsX2_read_41 : FS wsX2_read RX2 41 2 5 false (.boolean) := ⟨RX2, TX2, 10, tyX2, rfl, by decide, by decide +kernel, by decide +kernel, tyX2_ok, nmX2, rfl, rfl, rfl⟩
theorem fsX2_read_45 : FS wsX2_read RX2 45 2 6 false (.boolean) := ⟨RX2, TX2, 10, tyX2, rfl, by decide, by decide +kernel, by decide +kernel, tyX2_ok, nmX2, rfl, rfl, rfl⟩
theorem fsX2_read_48 : FS wsX2_read RX2 48 2 7 false (.int) := ⟨RX2, TX2, 10, tyX2, rfl, by decide, by decide +kernel, by decide +kernel, tyX2_ok, nmX2, rfl, rfl, rfl⟩
theorem flX2_read_21 : FL wsX2_read RX2 21 2 1 := ⟨RX2, TX2, 10, rfl, by decide, by decide +kernel, by decide +kernel⟩
set_option maxHeartbeats 4000000 in
set_option maxRecDepth 100000 in
theorem c_read {w : pW} {rd to sc fa tx tx0 ln0 nx kd sa sd mr cu rep ev be cq st me pa flt ln tn : Nat} {mkd cud : Bool} {fp va : Int32} {f : Nat → Int32} {t : Nat → Nat} (hrd : w rd = some (.inr (2, [.ref to, .ref sc, .int (nI sd), .int (nI mr), .int (nI cu), .int (zb mkd), .int (zb cud), .int (nI rep), .int (nI flt), .int fp]))) (hsc : w sc = some (.inr (3, [.ref fa, .int (nI ev), .int (nI be), .int (nI cq), .int (nI st), .int (nI me), .int (nI pa)]))) (hfa : w fa = some (.inl (0, 1400, .inl f))) (hto : w to = some (.inr (4, [.ref tx0, .int (nI ln0), .int (nI nx), .int (nI kd), .int (nI sa), .int va]))) (htx : w tx = some (.inl (1, tn, .inl (fun j9 => sb_b (t j9))))) (ht : ∀ j, t j < 256) (hln : ln ≤ tn) (hln2 : ln ≤ 2400) (htn : tn ≤ 100000) : Ct yX2_read wsX2_read rX2_read [.ref rd, .ref tx, .int (nI ln)] w (fun o w9 => o = .inl (some (.int (nI (rRead t ln f).1))) ∧ Fr [rd, sc, fa, to] w w9 ∧ w9 rd = some (rdC to sc (rRead t ln f).1 (fpR (rRead t ln f)) (rRead t ln f).2.2) ∧ w9 sc = some (scC fa (rRead t ln f).2.2) ∧ w9 fa = some (faC (rRead t ln f).2.2) ∧ w9 to = some (toC tx t ln (rRead t ln f).2.1)) := by
  refine Ct.of (cc := cX2_read) (own := RX2) (nm := "read") (nL := 4) (ret := (some .int)) (by decide +kernel) rfl rfl rfl (Nat.le_of_ble_eq_true rfl) ?_
  refine j_lvE (lv' := [(0, .ref rd), (1, .ref tx), (2, .int (nI ln))]) rfl ?_
  refine j_aload_n dX2_read_0 0 rfl ?_
  refine j_iconst (v := nI 1) dX2_read_1 (by decide) ?_
  refine j_put (fs9 := [.ref to, .ref sc, .int (nI 1), .int (nI mr), .int (nI cu), .int (zb mkd), .int (zb cud), .int (nI rep), .int (nI flt), .int fp]) fsX2_read_32 hrd rfl rfl (Nat.le_of_ble_eq_true rfl) rfl dX2_read_2 ?_
  refine j_w (fun w1 hw1 => ?_)
  have f2 : w1 rd = some (.inr (2, [.ref to, .ref sc, .int (nI 1), .int (nI mr), .int (nI cu), .int (zb mkd), .int (zb cud), .int (nI rep), .int (nI flt), .int fp])) := up_at hw1
  have f3 := up_ne hw1 (fk hsc hrd rfl) hsc
  have f4 := up_ne hw1 (fk hfa hrd rfl) hfa
  have f5 := up_ne hw1 (fk hto hrd rfl) hto
  have f6 := up_ne hw1 (fk htx hrd rfl) htx
  refine j_aload_n dX2_read_5 0 rfl ?_
  refine j_iconst (v := nI 0) dX2_read_6 (by decide) ?_
  refine j_put (fs9 := [.ref to, .ref sc, .int (nI 1), .int (nI 0), .int (nI cu), .int (zb mkd), .int (zb cud), .int (nI rep), .int (nI flt), .int fp]) fsX2_read_35 f2 rfl rfl (Nat.le_of_ble_eq_true rfl) rfl dX2_read_7 ?_
  refine j_w (fun w7 hw7 => ?_)
  have f8 : w7 rd = some (.inr (2, [.ref to, .ref sc, .int (nI 1), .int (nI 0), .int (nI cu), .int (zb mkd), .int (zb cud), .int (nI rep), .int (nI flt), .int fp])) := up_at hw7
  have f9 := up_ne hw7 (fk f3 f2 rfl) f3
  have f10 := up_ne hw7 (fk f4 f2 rfl) f4
  have f11 := up_ne hw7 (fk f5 f2 rfl) f5
  have f12 := up_ne hw7 (fk f6 f2 rfl) f6
  refine j_aload_n dX2_read_10 0 rfl ?_
  refine j_iconst (v := nI 0) dX2_read_11 (by decide) ?_
  refine j_put (fs9 := [.ref to, .ref sc, .int (nI 1), .int (nI 0), .int (nI 0), .int (zb mkd), .int (zb cud), .int (nI rep), .int (nI flt), .int fp]) fsX2_read_38 f8 rfl rfl (Nat.le_of_ble_eq_true rfl) rfl dX2_read_12 ?_
  refine j_w (fun w13 hw13 => ?_)
  have f14 : w13 rd = some (.inr (2, [.ref to, .ref sc, .int (nI 1), .int (nI 0), .int (nI 0), .int (zb mkd), .int (zb cud), .int (nI rep), .int (nI flt), .int fp])) := up_at hw13
  have f15 := up_ne hw13 (fk f9 f8 rfl) f9
  have f16 := up_ne hw13 (fk f10 f8 rfl) f10
  have f17 := up_ne hw13 (fk f11 f8 rfl) f11
  have f18 := up_ne hw13 (fk f12 f8 rfl) f12
  refine j_aload_n dX2_read_15 0 rfl ?_
  refine j_iconst (v := nI 0) dX2_read_16 (by decide) ?_
  refine j_put (fs9 := [.ref to, .ref sc, .int (nI 1), .int (nI 0), .int (nI 0), .int (nI 0), .int (zb cud), .int (nI rep), .int (nI flt), .int fp]) fsX2_read_41 f14 rfl rfl (Nat.le_of_ble_eq_true rfl) rfl dX2_read_17 ?_
  refine j_w (fun w19 hw19 => ?_)
  have f20 : w19 rd = some (.inr (2, [.ref to, .ref sc, .int (nI 1), .int (nI 0), .int (nI 0), .int (nI 0), .int (zb cud), .int (nI rep), .int (nI flt), .int fp])) := up_at hw19
  have f21 := up_ne hw19 (fk f15 f14 rfl) f15
  have f22 := up_ne hw19 (fk f16 f14 rfl) f16
  have f23 := up_ne hw19 (fk f17 f14 rfl) f17
  have f24 := up_ne hw19 (fk f18 f14 rfl) f18
  refine j_aload_n dX2_read_20 0 rfl ?_
  refine j_iconst (v := nI 0) dX2_read_21 (by decide) ?_
  refine j_put (fs9 := [.ref to, .ref sc, .int (nI 1), .int (nI 0), .int (nI 0), .int (nI 0), .int (nI 0), .int (nI rep), .int (nI flt), .int fp]) fsX2_read_45 f20 rfl rfl (Nat.le_of_ble_eq_true rfl) rfl dX2_read_22 ?_
  refine j_w (fun w25 hw25 => ?_)
  have f26 : w25 rd = some (.inr (2, [.ref to, .ref sc, .int (nI 1), .int (nI 0), .int (nI 0), .int (nI 0), .int (nI 0), .int (nI rep), .int (nI flt), .int fp])) := up_at hw25
  have f27 := up_ne hw25 (fk f21 f20 rfl) f21
  have f28 := up_ne hw25 (fk f22 f20 rfl) f22
  have f29 := up_ne hw25 (fk f23 f20 rfl) f23
  have f30 := up_ne hw25 (fk f24 f20 rfl) f24
  refine j_aload_n dX2_read_25 0 rfl ?_
  refine j_iconst (v := nI 0) dX2_read_26 (by decide) ?_
  refine j_put (fs9 := [.ref to, .ref sc, .int (nI 1), .int (nI 0), .int (nI 0), .int (nI 0), .int (nI 0), .int (nI 0), .int (nI flt), .int fp]) fsX2_read_48 f26 rfl rfl (Nat.le_of_ble_eq_true rfl) rfl dX2_read_27 ?_
  refine j_w (fun w31 hw31 => ?_)
  have f32 : w31 rd = some (.inr (2, [.ref to, .ref sc, .int (nI 1), .int (nI 0), .int (nI 0), .int (nI 0), .int (nI 0), .int (nI 0), .int (nI flt), .int fp])) := up_at hw31
  have f33 := up_ne hw31 (fk f27 f26 rfl) f27
  have f34 := up_ne hw31 (fk f28 f26 rfl) f28
  have f35 := up_ne hw31 (fk f29 f26 rfl) f29
  have f36 := up_ne hw31 (fk f30 f26 rfl) f30
  refine j_aload_n dX2_read_30 0 rfl ?_
  refine j_get flX2_read_21 f32 rfl dX2_read_31 ?_
  refine j_callV (rm := rX3_clear) (As := []) (st := []) (b0 := sc) (ci := 3) (na := 0) (c_clear f33 f34) (by intro E w9 h9; first | exact nomatch h9.1 | (obtain ⟨_, h9, _⟩ := h9; exact nomatch h9) | (obtain ⟨_, _, _, h9, _⟩ := h9; exact nomatch h9)) gX2_read_X3_clear rfl rfl f33 (by decide +kernel) rfl ⟨Nat.le_of_ble_eq_true rfl, Nat.le_of_ble_eq_true rfl⟩ rfl (Nat.le_of_ble_eq_true rfl) dX2_read_34 ⟨(show 0 + 0 ≤ 0 by omega), (show 0 + 0 ≤ 0 by omega)⟩ (fun v37 w38 h39 => ?_)
  obtain ⟨h39, h40⟩ := h39
  cases h39
  -- w38
  refine j_after (st' := []) (k' := 0) (n' := 0) rfl rfl rfl ?_
  have f41 : w38 rd = some (.inr (2, [.ref to, .ref sc, .int (nI 1), .int (nI 0), .int (nI 0), .int (nI 0), .int (nI 0), .int (nI 0), .int (nI flt), .int fp])) := by rw [h40]; exact (va_up_ne _ _ (fk f32 f33 rfl)).trans (f32)
  have f42 : w38 sc = some (.inr (3, [.ref fa, .int (nI 0), .int (nI 0), .int (nI 0), .int (nI 0), .int (nI 0), .int (nI 0)])) := by rw [h40]; exact va_up_self _ _ _
  have f43 : w38 fa = some (.inl (0, 1400, .inl f)) := by rw [h40]; exact (va_up_ne _ _ (fk f34 f33 rfl)).trans (f34)
  have f44 : w38 to = some (.inr (4, [.ref tx0, .int (nI ln0), .int (nI nx), .int (nI kd), .int (nI sa), .int va])) := by rw [h40]; exact (va_up_ne _ _ (fk f35 f33 rfl)).trans (f35)
  have f45 : w38 tx = some (.inl (1, tn, .inl (fun j9 => sb_b (t j9)))) := by rw [h40]; exact (va_up_ne _ _ (fk f36 f33 rfl)).trans (f36)
  refine j_aload_n dX2_read_37 0 rfl ?_
  refine j_get flX2_read_14 f41 rfl dX2_read_38 ?_
  refine j_aload_n dX2_read_41 1 rfl ?_
  refine j_iload_n dX2_read_42 2 rfl ?_
  refine j_callV (rm := rX4_begin) (As := [.ref tx, .int (nI ln)]) (st := []) (b0 := to) (ci := 4) (na := 2) (c_beginT f44 f45 ht (by omega) (by omega) (by omega)) (by intro E w9 h9; first | exact nomatch h9.1 | (obtain ⟨_, h9, _⟩ := h9; exact nomatch h9) | (obtain ⟨_, _, _, h9, _⟩ := h9; exact nomatch h9)) gX2_read_X4_begin rfl rfl f44 (by decide +kernel) rfl ⟨Nat.le_of_ble_eq_true rfl, Nat.le_of_ble_eq_true rfl⟩ rfl (Nat.le_of_ble_eq_true rfl) dX2_read_43 ⟨(show 0 + 0 ≤ 0 by omega), (show 0 + 0 ≤ 0 by omega)⟩ (fun v46 w47 h48 => ?_)
  obtain ⟨h48, h49⟩ := h48
  cases h48
  -- w47
  refine j_after (st' := []) (k' := 0) (n' := 0) rfl rfl rfl ?_
  have f50 : w47 rd = some (.inr (2, [.ref to, .ref sc, .int (nI 1), .int (nI 0), .int (nI 0), .int (nI 0), .int (nI 0), .int (nI 0), .int (nI flt), .int fp])) := by rw [h49]; exact (va_up_ne _ _ (fk f41 f44 rfl)).trans (f41)
  have f51 : w47 sc = some (.inr (3, [.ref fa, .int (nI 0), .int (nI 0), .int (nI 0), .int (nI 0), .int (nI 0), .int (nI 0)])) := by rw [h49]; exact (va_up_ne _ _ (fk f42 f44 rfl)).trans (f42)
  have f52 : w47 fa = some (.inl (0, 1400, .inl f)) := by rw [h49]; exact (va_up_ne _ _ (fk f43 f44 rfl)).trans (f43)
  have f53 : w47 to = some (.inr (4, [.ref tx, .int (nI ln), .int (nI ((tk t ln (skB t ln 0)).1)), .int (nI ((tk t ln (skB t ln 0)).2.1)), .int (nI (skB t ln 0)), .int ((tk t ln (skB t ln 0)).2.2)])) := by rw [h49]; exact va_up_self _ _ _
  have f54 : w47 tx = some (.inl (1, tn, .inl (fun j9 => sb_b (t j9)))) := by rw [h49]; exact (va_up_ne _ _ (fk f45 f44 rfl)).trans (f45)
  have g9 : w47 rd = some (.inr (2, [.ref to, .ref sc, .int (nI 1), .int (nI 0), .int (nI 0), .int (zb false), .int (zb false), .int (nI 0), .int (nI flt), .int fp])) := f50
  refine j_aload_n dX2_read_46 0 rfl ?_
  refine j_aload_n dX2_read_47 0 rfl ?_
  refine j_callV (rm := rX2_faultOfToken) (As := []) (st := [.ref rd]) (b0 := rd) (ci := 2) (na := 0) (c_faultOfToken (mkd := false) (cud := false) (np := 0) (oc := 0) g9 f51 f52 f53 (tk_k ht) (RI_0 f)) (by intro E w9 h9; first | exact nomatch h9.1 | (obtain ⟨_, h9, _⟩ := h9; exact nomatch h9) | (obtain ⟨_, _, _, h9, _⟩ := h9; exact nomatch h9)) gX2_read_X2_faultOfToken rfl rfl g9 (by decide +kernel) rfl ⟨Nat.le_of_ble_eq_true rfl, Nat.le_of_ble_eq_true rfl⟩ rfl (Nat.le_of_ble_eq_true rfl) dX2_read_48 ⟨(show 0 + 0 ≤ 0 by omega), (show 0 + 0 ≤ 0 by omega)⟩ (fun v55 w56 h57 => ?_)
  obtain ⟨h57, h58⟩ := h57
  cases h57
  subst w56
  refine j_after (st' := [.int (nI (rFault (tk t ln (skB t ln 0)).2.1 (tk t ln (skB t ln 0)).2.2 (1, 0, 0, false, false, 0, 0, 0, f, 0, 0, 0, 0, 0, 0))), .ref rd]) (k' := 0) (n' := 0) rfl rfl rfl ?_
  refine j_put (fs9 := [.ref to, .ref sc, .int (nI 1), .int (nI 0), .int (nI 0), .int (zb false), .int (zb false), .int (nI 0), .int (nI (rFault (tk t ln (skB t ln 0)).2.1 (tk t ln (skB t ln 0)).2.2 (1, 0, 0, false, false, 0, 0, 0, f, 0, 0, 0, 0, 0, 0))), .int fp]) fsX2_read_25 g9 rfl rfl (Nat.le_of_ble_eq_true rfl) rfl dX2_read_51 ?_
  refine j_w (fun w59 hw59 => ?_)
  have f60 : w59 rd = some (.inr (2, [.ref to, .ref sc, .int (nI 1), .int (nI 0), .int (nI 0), .int (zb false), .int (zb false), .int (nI 0), .int (nI (rFault (tk t ln (skB t ln 0)).2.1 (tk t ln (skB t ln 0)).2.2 (1, 0, 0, false, false, 0, 0, 0, f, 0, 0, 0, 0, 0, 0))), .int fp])) := up_at hw59
  have f61 := up_ne hw59 (fk f51 g9 rfl) f51
  have f62 := up_ne hw59 (fk f52 g9 rfl) f52
  have f63 := up_ne hw59 (fk f53 g9 rfl) f53
  have f64 := up_ne hw59 (fk f54 g9 rfl) f54
  refine j_iconst (v := nI 0) dX2_read_54 (by decide) ?_
  refine j_istore_n (lv' := [(3, .int (nI 0)), (0, .ref rd), (1, .ref tx), (2, .int (nI ln))]) dX2_read_55 (Nat.le_of_ble_eq_true rfl) rfl ?_
  refine j_lv (lv' := [(0, .ref rd), (1, .ref tx), (2, .int (nI ln)), (3, .int (nI 0))]) [1, 2, 3, 0] rfl ?_
  exact l_read ⟨fk htx hrd rfl, fk htx hsc rfl, fk htx hfa rfl, fk htx hto rfl⟩ htx ht hln hln2 htn (ln + 1) 0 (skB t ln 0) 1 0 0 false false 0 0 0 f 0 0 0 0 0 0 _ (by omega) (by omega) (by have := skB_bd (t := t) (ln := ln) (p := 0); omega) (RI_0 f) rfl ((((((((((Fr.refl : Fr [rd, sc, fa, to] w w).trans (Fr.up hw1 (by simp))).trans (Fr.up hw7 (by simp))).trans (Fr.up hw13 (by simp))).trans (Fr.up hw19 (by simp))).trans (Fr.up hw25 (by simp))).trans (Fr.up hw31 (by simp))).trans (Fr.up h40 (by simp))).trans (Fr.up h49 (by simp))).trans (Fr.up hw59 (by simp))) f60 f61 f62 f63
abbrev rX2_trade : Room := { frames := 0, cells := 0, slots := 0, locals := 0 }
theorem flX2_trade_21 : FL wsX2_trade RX2 21 2 1 := ⟨RX2, TX2, 10, rfl, by decide, by decide +kernel, by decide +kernel⟩
theorem fsX2_trade_21 : FS wsX2_trade RX2 21 2 1 false (.object "PageTurner$Score") := ⟨RX2, TX2, 10, tyX2, rfl, by decide, by decide +kernel, by decide +kernel, tyX2_ok, nmX2, rfl, rfl, rfl⟩
set_option maxHeartbeats 4000000 in
set_option maxRecDepth 100000 in
theorem c_trade {w : pW} {rd so to sc sd mr cu rep flt : Nat} {mkd cud : Bool} {fp : Int32} (hrd : w rd = some (.inr (2, [.ref to, .ref sc, .int (nI sd), .int (nI mr), .int (nI cu), .int (zb mkd), .int (zb cud), .int (nI rep), .int (nI flt), .int fp]))) : Ct yX2_trade wsX2_trade rX2_trade [.ref rd, .ref so] w (fun o w9 => o = .inl (some (.ref sc)) ∧ w9 = va_up w rd (some (.inr (2, [.ref to, .ref so, .int (nI sd), .int (nI mr), .int (nI cu), .int (zb mkd), .int (zb cud), .int (nI rep), .int (nI flt), .int fp])))) := by
  refine Ct.of (cc := cX2_trade) (own := RX2) (nm := "trade") (nL := 3) (ret := (some (.object "PageTurner$Score"))) (by decide +kernel) rfl rfl rfl (Nat.le_of_ble_eq_true rfl) ?_
  refine j_lvE (lv' := [(0, .ref rd), (1, .ref so)]) rfl ?_
  refine j_aload_n dX2_trade_0 0 rfl ?_
  refine j_get flX2_trade_21 hrd rfl dX2_trade_1 ?_
  refine j_astore_n (lv' := [(2, .ref sc), (0, .ref rd), (1, .ref so)]) dX2_trade_4 (Nat.le_of_ble_eq_true rfl) rfl ?_
  refine j_aload_n dX2_trade_5 1 rfl ?_
  refine j_aload_n dX2_trade_6 2 rfl ?_
  refine j_put (fs9 := [.ref to, .ref so, .int (nI sd), .int (nI mr), .int (nI cu), .int (zb mkd), .int (zb cud), .int (nI rep), .int (nI flt), .int fp]) fsX2_trade_21 hrd rfl rfl (Nat.le_of_ble_eq_true rfl) rfl dX2_trade_7 ?_
  refine j_w (fun w1 hw1 => ?_)
  have f2 : w1 rd = some (.inr (2, [.ref to, .ref so, .int (nI sd), .int (nI mr), .int (nI cu), .int (zb mkd), .int (zb cud), .int (nI rep), .int (nI flt), .int fp])) := up_at hw1
  refine j_aload_n dX2_trade_10 0 rfl ?_
  exact j_aret (r := some sc) rfl (Or.inl ⟨_, rfl⟩) ⟨rfl, hw1⟩ (show 0 ≤ 0 by omega) (show 0 ≤ 0 by omega) dX2_trade_11
