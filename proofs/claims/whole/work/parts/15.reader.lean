section RP
/-- the reader's state: stand, marks, cues, marked, cued, where a repeat goes to, pitches and cue of the open event, the table, events, beats, cues, states, measure, page -/
abbrev RSt : Type := Nat × Nat × Nat × Bool × Bool × Nat × Nat × Nat × (Nat → Int32) × Nat × Nat × Nat × Nat × Nat × Nat
def stA (kd : Nat) : Nat :=
  if kd = 0 then 3 else if kd = 2 then 511 else if kd = 3 then 1024 else if kd = 4 then 3 else if kd = 5 then 8 else if kd = 33 then 31 else if kd = 37 then 2 else if kd = 40 then 63 else if kd = 41 then 256 else if kd = 58 then 512 else if kd = 64 then 15 else if kd = 114 then 63 else if kd = 124 then 8 else if kd = 126 then 63 else 0
def tooM (kd : Nat) (va : Int32) : RSt → Bool
  | (sd, mr, cu, _, _, _, np, _, _, ev, _, _, _, _, _) =>
    if kd = 2 then (if sd &&& 63 = 0 then decide (4 ≤ np) else decide (100 ≤ ev)) else if kd = 3 then decide (va = 0) else if kd = 33 then decide (20 ≤ cu) else if kd = 40 then decide (100 ≤ ev) else if kd = 64 then decide (10 ≤ mr) else if kd = 114 then decide (100 ≤ ev) else if kd = 126 then decide (100 ≤ ev) else false
def rFault (kd : Nat) (va : Int32) (s : RSt) : Nat :=
  if s.1 &&& stA kd = 0 then 1 else if tooM kd va s then 2 else if kd = 2 ∧ s.1 &&& 384 ≠ 0 ∧ (hasP s.2.2.2.2.2.2.2.2.1 s.2.2.2.2.2.2.2.2.2.1 s.2.2.2.2.2.2.1 va).isSome then 3 else 0
def rOpen (k b : Nat) : RSt → RSt
  | (_, mr, cu, mkd, cud, rep, _, _, f, ev, be, cq, st, me, pa) => (b, mr, cu, false, false, rep, 0, (if cud then 1 else 0), opF f ev k be me pa st (zb mkd) (zb cud), ev, be, cq, st, me, pa)
def rAdd (va : Int32) (b : Nat) : RSt → RSt
  | (_, mr, cu, mkd, cud, rep, np, oc, f, ev, be, cq, st, me, pa) => (b, mr, cu, mkd, cud, rep, np + 1, oc, adF f ev np va, ev, be, cq, st, me, pa)
def rBar (kd : Nat) : RSt → RSt
  | (sd, mr, cu, mkd, cud, rep, np, oc, f, ev, be, cq, st, me, pa) =>
    if kd = 4 then (4, mr, cu, mkd, cud, ev, np, oc, f, ev, be, cq, st, me, pa)
    else if kd = 5 then (2, mr, cu, mkd, cud, ev, np, oc, upd f ((ev - 1) * 14 + 8) (nI rep), ev, be, cq, st, me + 1, pa)
    else if kd = 37 then (1, mr, cu, mkd, cud, rep, np, oc, f, ev, be, cq, st, me, pa + 1)
    else if kd = 124 then (2, mr, cu, mkd, cud, rep, np, oc, f, ev, be, cq, st, me + 1, pa)
    else (sd, mr, cu, mkd, cud, rep, np, oc, f, ev, be, cq, st, me, pa)
def rTake (kd : Nat) (va : Int32) : RSt → RSt
  | (sd, mr, cu, mkd, cud, rep, np, oc, f, ev, be, cq, st, me, pa) =>
    if kd = 2 then rAdd va (if sd &&& 384 = 0 then 512 else 256) (if sd &&& 63 = 0 then (sd, mr, cu, mkd, cud, rep, np, oc, f, ev, be, cq, st, me, pa) else rOpen 0 512 (sd, mr, cu, mkd, cud, rep, np, oc, f, ev, be, cq, st, me, pa))
    else if kd = 3 then (8, mr, cu, mkd, cud, rep, np, oc, upd f (ev * 14 + 3) (nI va.toNatClampNeg), ev + 1, be + va.toNatClampNeg, cq + oc, st + (2 ^ np - 1 + 1), me, pa)
    else if kd = 33 then (32, mr, cu + 1, mkd, true, rep, np, oc, f, ev, be, cq, st, me, pa)
    else if kd = 40 then rOpen 1 128 (sd, mr, cu, mkd, cud, rep, np, oc, f, ev, be, cq, st, me, pa)
    else if kd = 41 then (512, mr, cu, mkd, cud, rep, np, oc, f, ev, be, cq, st, me, pa)
    else if kd = 58 then (1024, mr, cu, mkd, cud, rep, np, oc, f, ev, be, cq, st, me, pa)
    else if kd = 64 then (16, mr + 1, cu, true, cud, rep, np, oc, f, ev, be, cq, st, me, pa)
    else if kd = 114 then rOpen 3 512 (sd, mr, cu, mkd, cud, rep, np, oc, f, ev, be, cq, st, me, pa)
    else if kd = 126 then rOpen 2 64 (sd, mr, cu, mkd, cud, rep, np, oc, f, ev, be, cq, st, me, pa)
    else rBar kd (sd, mr, cu, mkd, cud, rep, np, oc, f, ev, be, cq, st, me, pa)
/-- what holds of the state while nothing was faulty -/
def RI : RSt → Prop
  | (sd, mr, cu, _, _, rep, np, oc, f, ev, _, _, _, _, _) => (sd = 1 ∨ sd = 2 ∨ sd = 4 ∨ sd = 8 ∨ sd = 16 ∨ sd = 32 ∨ sd = 64 ∨ sd = 128 ∨ sd = 256 ∨ sd = 512 ∨ sd = 1024) ∧ ev ≤ 100 ∧ (64 ≤ sd → ev < 100 ∧ np ≤ 4 ∧ f (ev * 14 + 1) = nI np ∧ f (ev * 14 + 7) = nI oc ∧ oc ≤ 1) ∧ (sd = 8 → rep < ev) ∧ mr ≤ 10 ∧ cu ≤ 20 ∧ rep ≤ ev
/-- the reader, its draft and the table of it -/
def wR (w : pW) (rd to sc fa flt : Nat) (fp : Int32) : RSt → pW
  | (sd, mr, cu, mkd, cud, rep, _, _, f, ev, be, cq, st, me, pa) => va_up (va_up (va_up w fa (some (.inl (0, 1400, .inl f)))) sc (some (.inr (3, [.ref fa, .int (nI ev), .int (nI be), .int (nI cq), .int (nI st), .int (nI me), .int (nI pa)])))) rd (some (.inr (2, [.ref to, .ref sc, .int (nI sd), .int (nI mr), .int (nI cu), .int (zb mkd), .int (zb cud), .int (nI rep), .int (nI flt), .int fp])))
theorem wR_eq {w w9 : pW} {rd to sc fa flt sd mr cu rep np oc ev be cq st me pa : Nat} {mkd cud : Bool} {fp : Int32} {f : Nat → Int32} (hF : Fr [rd, sc, fa] w w9) (h1 : w9 fa = some (.inl (0, 1400, .inl f))) (h2 : w9 sc = some (.inr (3, [.ref fa, .int (nI ev), .int (nI be), .int (nI cq), .int (nI st), .int (nI me), .int (nI pa)]))) (h3 : w9 rd = some (.inr (2, [.ref to, .ref sc, .int (nI sd), .int (nI mr), .int (nI cu), .int (zb mkd), .int (zb cud), .int (nI rep), .int (nI flt), .int fp]))) : w9 = wR w rd to sc fa flt fp (sd, mr, cu, mkd, cud, rep, np, oc, f, ev, be, cq, st, me, pa) := by
  funext x
  show w9 x = va_up (va_up (va_up w fa _) sc _) rd _ x
  by_cases a1 : x = rd
  · subst a1; rw [va_up_self]; exact h3
  rw [va_up_ne _ _ a1]
  by_cases a2 : x = sc
  · subst a2; rw [va_up_self]; exact h2
  rw [va_up_ne _ _ a2]
  by_cases a3 : x = fa
  · subst a3; rw [va_up_self]; exact h1
  rw [va_up_ne _ _ a3]
  exact hF x (by simp only [List.mem_cons, List.not_mem_nil, or_false, not_or]; exact ⟨a1, a2, a3⟩)
theorem FrW {w w1 : pW} {rd to sc fa flt : Nat} {fp : Int32} {s : RSt} (h : w1 = wR w rd to sc fa flt fp s) : Fr [rd, sc, fa] w w1 := by
  obtain ⟨sd, mr, cu, mkd, cud, rep, np, oc, f, ev, be, cq, st, me, pa⟩ := s
  intro x hx
  simp only [List.mem_cons, List.not_mem_nil, or_false, not_or] at hx
  rw [h]
  exact (va_up_ne _ _ hx.1).trans ((va_up_ne _ _ hx.2.1).trans (va_up_ne _ _ hx.2.2))
theorem lkD {ps : List (Int × Int)} {d : Int} {kd : Nat} (hk : kd < 2 ^ 31) (h : ps.all (fun q => q.1 != (kd : Int)) = true) : Op.lookupswitch.offset ps d (nI kd).toInt = d := by
  refine Op.lookupswitch.offset_none ?_
  rw [List.find?_eq_none]
  intro q hq
  have h1 := List.all_eq_true.mp h q hq
  rw [show (nI kd).toInt = (kd : Int) from Int32.toInt_ofNat_of_lt hk]
  simpa using h1
end RP
abbrev rX2_standsIn : Room := { frames := 0, cells := 0, slots := 0, locals := 0 }
theorem flX2_standsIn_32 : FL wsX2_standsIn RX2 32 2 2 := ⟨RX2, TX2, 10, rfl, by decide, by decide +kernel, by decide +kernel⟩
set_option maxHeartbeats 4000000 in
set_option maxRecDepth 100000 in
theorem c_standsIn {w : pW} {rd to sc fa tx ln nx kd sa sd mr cu rep np oc ev be cq st me pa flt : Nat} {mkd cud : Bool} {fp va : Int32} {f : Nat → Int32} (hrd : w rd = some (.inr (2, [.ref to, .ref sc, .int (nI sd), .int (nI mr), .int (nI cu), .int (zb mkd), .int (zb cud), .int (nI rep), .int (nI flt), .int fp]))) (hsc : w sc = some (.inr (3, [.ref fa, .int (nI ev), .int (nI be), .int (nI cq), .int (nI st), .int (nI me), .int (nI pa)]))) (hfa : w fa = some (.inl (0, 1400, .inl f))) (hto : w to = some (.inr (4, [.ref tx, .int (nI ln), .int (nI nx), .int (nI kd), .int (nI sa), .int va]))) (hkd : kd < 256) (hRI : RI (sd, mr, cu, mkd, cud, rep, np, oc, f, ev, be, cq, st, me, pa)) {m : Nat} (hm : m < 2 ^ 31) : Ct yX2_standsIn wsX2_standsIn rX2_standsIn [.ref rd, .int (nI m)] w (fun o w9 => o = .inl (some (.int (zb (decide (sd &&& m ≠ 0))))) ∧ w9 = w) := by
  refine Ct.of (cc := cX2_standsIn) (own := RX2) (nm := "standsIn") (nL := 2) (ret := (some .boolean)) (by decide +kernel) rfl rfl rfl (Nat.le_of_ble_eq_true rfl) ?_
  refine j_lvE (lv' := [(0, .ref rd), (1, .int (nI m))]) rfl ?_
  refine j_aload_n dX2_standsIn_0 0 rfl ?_
  refine j_get flX2_standsIn_32 hrd rfl dX2_standsIn_1 ?_
  refine j_iload_n dX2_standsIn_4 1 rfl ?_
  refine j_iand dX2_standsIn_5 ?_
  refine j_eqi (y := nI (sd &&& m)) (fa_and _ _) ?_
  have hq := Nat.and_le_right (n := sd) (m := m)
  refine j_if_eqN 13 (by omega) dX2_standsIn_6 (by decide) (fun c6 => ?_) (fun c6 => ?_)
  · skip
    refine j_iconst (v := nI 0) dX2_standsIn_13 (by decide) ?_
    exact j_zret rfl (Or.inl rfl) ⟨by rw [zb_f (decide_eq_false (fun h => h c6))]; rfl, rfl⟩ (show 0 ≤ 0 by omega) (show 0 ≤ 0 by omega) dX2_standsIn_14
  · skip
    refine j_iconst (v := nI 1) dX2_standsIn_9 (by decide) ?_
    refine j_goto 14 dX2_standsIn_10 (by decide) ?_
    exact j_zret rfl (Or.inr rfl) ⟨by rw [zb_t (decide_eq_true c6)]; rfl, rfl⟩ (show 0 ≤ 0 by omega) (show 0 ≤ 0 by omega) dX2_standsIn_14
theorem stA_lt {kd : Nat} : stA kd < 2 ^ 31 := by
  rcases Nat.lt_or_ge kd 127 with h | h
  · exact (by decide +kernel : ∀ k : Fin 127, stA k.1 < 2 ^ 31) ⟨kd, h⟩
  · unfold stA
    rw [if_neg (by omega), if_neg (by omega), if_neg (by omega), if_neg (by omega), if_neg (by omega), if_neg (by omega), if_neg (by omega), if_neg (by omega), if_neg (by omega), if_neg (by omega), if_neg (by omega), if_neg (by omega), if_neg (by omega), if_neg (by omega)]
    decide
abbrev rX2_standsAhead : Room := { frames := 0, cells := 0, slots := 0, locals := 0 }
set_option maxHeartbeats 4000000 in
set_option maxRecDepth 100000 in
theorem c_standsAhead {w : pW} {kd : Nat} (hkd : kd < 256) : Ct yX2_standsAhead wsX2_standsAhead rX2_standsAhead [.int (nI kd)] w (fun o w9 => o = .inl (some (.int (nI (stA kd)))) ∧ w9 = w) := by
  refine Ct.of (cc := cX2_standsAhead) (own := RX2) (nm := "standsAhead") (nL := 1) (ret := (some .int)) (by decide +kernel) rfl rfl rfl (Nat.le_of_ble_eq_true rfl) ?_
  refine j_lvE (lv' := [(0, .int (nI kd))]) rfl ?_
  refine j_iload_n dX2_standsAhead_0 0 rfl ?_
  by_cases k0 : kd = 0
  · skip
    refine j_lookup 124 dX2_standsAhead_1 (by decide) (show Op.lookupswitch.offset _ _ (nI kd).toInt = (123) by rw [k0]; decide) (by decide) ?_
    refine j_iconst (v := nI 3) dX2_standsAhead_124 (by decide) ?_
    exact j_iret rfl ⟨by subst k0; rfl, rfl⟩ (show 0 ≤ 0 by omega) (show 0 ≤ 0 by omega) dX2_standsAhead_125
  by_cases k2 : kd = 2
  · skip
    refine j_lookup 135 dX2_standsAhead_1 (by decide) (show Op.lookupswitch.offset _ _ (nI kd).toInt = (134) by rw [k2]; decide) (by decide) ?_
    refine j_sipush (v := nI 511) dX2_standsAhead_135 (by decide) ?_
    exact j_iret rfl ⟨by subst k2; rfl, rfl⟩ (show 0 ≤ 0 by omega) (show 0 ≤ 0 by omega) dX2_standsAhead_138
  by_cases k3 : kd = 3
  · skip
    refine j_lookup 147 dX2_standsAhead_1 (by decide) (show Op.lookupswitch.offset _ _ (nI kd).toInt = (146) by rw [k3]; decide) (by decide) ?_
    refine j_sipush (v := nI 1024) dX2_standsAhead_147 (by decide) ?_
    exact j_iret rfl ⟨by subst k3; rfl, rfl⟩ (show 0 ≤ 0 by omega) (show 0 ≤ 0 by omega) dX2_standsAhead_150
  by_cases k4 : kd = 4
  · skip
    refine j_lookup 124 dX2_standsAhead_1 (by decide) (show Op.lookupswitch.offset _ _ (nI kd).toInt = (123) by rw [k4]; decide) (by decide) ?_
    refine j_iconst (v := nI 3) dX2_standsAhead_124 (by decide) ?_
    exact j_iret rfl ⟨by subst k4; rfl, rfl⟩ (show 0 ≤ 0 by omega) (show 0 ≤ 0 by omega) dX2_standsAhead_125
  by_cases k5 : kd = 5
  · skip
    refine j_lookup 151 dX2_standsAhead_1 (by decide) (show Op.lookupswitch.offset _ _ (nI kd).toInt = (150) by rw [k5]; decide) (by decide) ?_
    refine j_bipush (v := nI 8) dX2_standsAhead_151 (by decide) ?_
    exact j_iret rfl ⟨by subst k5; rfl, rfl⟩ (show 0 ≤ 0 by omega) (show 0 ≤ 0 by omega) dX2_standsAhead_153
  by_cases k33 : kd = 33
  · skip
    refine j_lookup 129 dX2_standsAhead_1 (by decide) (show Op.lookupswitch.offset _ _ (nI kd).toInt = (128) by rw [k33]; decide) (by decide) ?_
    refine j_bipush (v := nI 31) dX2_standsAhead_129 (by decide) ?_
    exact j_iret rfl ⟨by subst k33; rfl, rfl⟩ (show 0 ≤ 0 by omega) (show 0 ≤ 0 by omega) dX2_standsAhead_131
  by_cases k37 : kd = 37
  · skip
    refine j_lookup 154 dX2_standsAhead_1 (by decide) (show Op.lookupswitch.offset _ _ (nI kd).toInt = (153) by rw [k37]; decide) (by decide) ?_
    refine j_iconst (v := nI 2) dX2_standsAhead_154 (by decide) ?_
    exact j_iret rfl ⟨by subst k37; rfl, rfl⟩ (show 0 ≤ 0 by omega) (show 0 ≤ 0 by omega) dX2_standsAhead_155
  by_cases k40 : kd = 40
  · skip
    refine j_lookup 132 dX2_standsAhead_1 (by decide) (show Op.lookupswitch.offset _ _ (nI kd).toInt = (131) by rw [k40]; decide) (by decide) ?_
    refine j_bipush (v := nI 63) dX2_standsAhead_132 (by decide) ?_
    exact j_iret rfl ⟨by subst k40; rfl, rfl⟩ (show 0 ≤ 0 by omega) (show 0 ≤ 0 by omega) dX2_standsAhead_134
  by_cases k41 : kd = 41
  · skip
    refine j_lookup 139 dX2_standsAhead_1 (by decide) (show Op.lookupswitch.offset _ _ (nI kd).toInt = (138) by rw [k41]; decide) (by decide) ?_
    refine j_sipush (v := nI 256) dX2_standsAhead_139 (by decide) ?_
    exact j_iret rfl ⟨by subst k41; rfl, rfl⟩ (show 0 ≤ 0 by omega) (show 0 ≤ 0 by omega) dX2_standsAhead_142
  by_cases k58 : kd = 58
  · skip
    refine j_lookup 143 dX2_standsAhead_1 (by decide) (show Op.lookupswitch.offset _ _ (nI kd).toInt = (142) by rw [k58]; decide) (by decide) ?_
    refine j_sipush (v := nI 512) dX2_standsAhead_143 (by decide) ?_
    exact j_iret rfl ⟨by subst k58; rfl, rfl⟩ (show 0 ≤ 0 by omega) (show 0 ≤ 0 by omega) dX2_standsAhead_146
  by_cases k64 : kd = 64
  · skip
    refine j_lookup 126 dX2_standsAhead_1 (by decide) (show Op.lookupswitch.offset _ _ (nI kd).toInt = (125) by rw [k64]; decide) (by decide) ?_
    refine j_bipush (v := nI 15) dX2_standsAhead_126 (by decide) ?_
    exact j_iret rfl ⟨by subst k64; rfl, rfl⟩ (show 0 ≤ 0 by omega) (show 0 ≤ 0 by omega) dX2_standsAhead_128
  by_cases k114 : kd = 114
  · skip
    refine j_lookup 132 dX2_standsAhead_1 (by decide) (show Op.lookupswitch.offset _ _ (nI kd).toInt = (131) by rw [k114]; decide) (by decide) ?_
    refine j_bipush (v := nI 63) dX2_standsAhead_132 (by decide) ?_
    exact j_iret rfl ⟨by subst k114; rfl, rfl⟩ (show 0 ≤ 0 by omega) (show 0 ≤ 0 by omega) dX2_standsAhead_134
  by_cases k124 : kd = 124
  · skip
    refine j_lookup 151 dX2_standsAhead_1 (by decide) (show Op.lookupswitch.offset _ _ (nI kd).toInt = (150) by rw [k124]; decide) (by decide) ?_
    refine j_bipush (v := nI 8) dX2_standsAhead_151 (by decide) ?_
    exact j_iret rfl ⟨by subst k124; rfl, rfl⟩ (show 0 ≤ 0 by omega) (show 0 ≤ 0 by omega) dX2_standsAhead_153
  by_cases k126 : kd = 126
  · skip
    refine j_lookup 132 dX2_standsAhead_1 (by decide) (show Op.lookupswitch.offset _ _ (nI kd).toInt = (131) by rw [k126]; decide) (by decide) ?_
    refine j_bipush (v := nI 63) dX2_standsAhead_132 (by decide) ?_
    exact j_iret rfl ⟨by subst k126; rfl, rfl⟩ (show 0 ≤ 0 by omega) (show 0 ≤ 0 by omega) dX2_standsAhead_134
  refine j_lookup 156 dX2_standsAhead_1 (by decide) (lkD (kd := kd) (by omega) (by simp; omega)) (by decide) ?_
  refine j_iconst (v := nI 0) dX2_standsAhead_156 (by decide) ?_
  exact j_iret rfl ⟨by simp only [stA, k0, k2, k3, k4, k5, k33, k37, k40, k41, k58, k64, k114, k124, k126, if_false], rfl⟩ (show 0 ≤ 0 by omega) (show 0 ≤ 0 by omega) dX2_standsAhead_157
abbrev rX2_isTooMuch : Room := { frames := 2, cells := 0, slots := 0, locals := 42 }
theorem sd64 {sd : Nat} (h : sd = 1 ∨ sd = 2 ∨ sd = 4 ∨ sd = 8 ∨ sd = 16 ∨ sd = 32 ∨ sd = 64 ∨ sd = 128 ∨ sd = 256 ∨ sd = 512 ∨ sd = 1024) (h1 : sd &&& 63 = 0) (h2 : sd &&& stA 2 ≠ 0) : 64 ≤ sd := by
  rcases h with rfl | rfl | rfl | rfl | rfl | rfl | rfl | rfl | rfl | rfl | rfl <;> first | omega | exact absurd h1 (by decide)
theorem flX2_isTooMuch_14 : FL wsX2_isTooMuch RX2 14 2 0 := ⟨RX2, TX2, 10, rfl, by decide, by decide +kernel, by decide +kernel⟩
theorem flX2_isTooMuch_62 : FL wsX2_isTooMuch RX2 62 4 3 := ⟨RX4, TX4, 6, rfl, by decide, by decide +kernel, by decide +kernel⟩
theorem flX2_isTooMuch_21 : FL wsX2_isTooMuch RX2 21 2 1 := ⟨RX2, TX2, 10, rfl, by decide, by decide +kernel, by decide +kernel⟩
theorem flX2_isTooMuch_86 : FL wsX2_isTooMuch RX2 86 4 5 := ⟨RX4, TX4, 6, rfl, by decide, by decide +kernel, by decide +kernel⟩
theorem flX2_isTooMuch_38 : FL wsX2_isTooMuch RX2 38 2 4 := ⟨RX2, TX2, 10, rfl, by decide, by decide +kernel, by decide +kernel⟩
theorem flX2_isTooMuch_35 : FL wsX2_isTooMuch RX2 35 2 3 := ⟨RX2, TX2, 10, rfl, by decide, by decide +kernel, by decide +kernel⟩
set_option maxHeartbeats 4000000 in
set_option maxRecDepth 100000 in
theorem c_isTooMuch {w : pW} {rd to sc fa tx ln nx kd sa sd mr cu rep np oc ev be cq st me pa flt : Nat} {mkd cud : Bool} {fp va : Int32} {f : Nat → Int32} (hrd : w rd = some (.inr (2, [.ref to, .ref sc, .int (nI sd), .int (nI mr), .int (nI cu), .int (zb mkd), .int (zb cud), .int (nI rep), .int (nI flt), .int fp]))) (hsc : w sc = some (.inr (3, [.ref fa, .int (nI ev), .int (nI be), .int (nI cq), .int (nI st), .int (nI me), .int (nI pa)]))) (hfa : w fa = some (.inl (0, 1400, .inl f))) (hto : w to = some (.inr (4, [.ref tx, .int (nI ln), .int (nI nx), .int (nI kd), .int (nI sa), .int va]))) (hkd : kd < 256) (hRI : RI (sd, mr, cu, mkd, cud, rep, np, oc, f, ev, be, cq, st, me, pa)) (hfit : sd &&& stA kd ≠ 0) : Ct yX2_isTooMuch wsX2_isTooMuch rX2_isTooMuch [.ref rd] w (fun o w9 => o = .inl (some (.int (zb (tooM kd va (sd, mr, cu, mkd, cud, rep, np, oc, f, ev, be, cq, st, me, pa))))) ∧ w9 = w) := by
  refine Ct.of (cc := cX2_isTooMuch) (own := RX2) (nm := "isTooMuch") (nL := 1) (ret := (some .boolean)) (by decide +kernel) rfl rfl rfl (Nat.le_of_ble_eq_true rfl) ?_
  refine j_lvE (lv' := [(0, .ref rd)]) rfl ?_
  obtain ⟨hsd, hev, hop, hs8, hmr, hcu, hrep⟩ := id hRI
  refine j_aload_n dX2_isTooMuch_0 0 rfl ?_
  refine j_get flX2_isTooMuch_14 hrd rfl dX2_isTooMuch_1 ?_
  refine j_get flX2_isTooMuch_62 hto rfl dX2_isTooMuch_4 ?_
  by_cases k2 : kd = 2
  · skip
    refine j_lookup 110 dX2_isTooMuch_7 (by decide) (show Op.lookupswitch.offset _ _ (nI kd).toInt = (103) by rw [k2]; decide) (by decide) ?_
    refine j_aload_n dX2_isTooMuch_110 0 rfl ?_
    refine j_bipush (v := nI 63) dX2_isTooMuch_111 (by decide) ?_
    refine j_callV (rm := rX2_standsIn) (As := [.int (nI 63)]) (st := []) (b0 := rd) (ci := 2) (na := 1) (c_standsIn (m := 63) hrd hsc hfa hto (by omega) hRI (by first | omega | exact stA_lt)) (by intro E w9 h9; first | exact nomatch h9.1 | (obtain ⟨_, h9, _⟩ := h9; exact nomatch h9) | (obtain ⟨_, _, _, h9, _⟩ := h9; exact nomatch h9)) gX2_isTooMuch_X2_standsIn rfl rfl hrd (by decide +kernel) rfl ⟨Nat.le_of_ble_eq_true rfl, Nat.le_of_ble_eq_true rfl⟩ rfl (Nat.le_of_ble_eq_true rfl) dX2_isTooMuch_113 ⟨(show 0 + 0 ≤ 0 by omega), (show 0 + 0 ≤ 0 by omega)⟩ (fun v1 w2 h3 => ?_)
    obtain ⟨h3, h4⟩ := h3
    cases h3
    subst w2
    refine j_after (st' := [.int (zb (decide (sd &&& 63 ≠ 0)))]) (k' := 0) (n' := 0) rfl rfl rfl ?_
    refine j_if_eq 127 dX2_isTooMuch_116 (by decide) (fun c116 => ?_) (fun c116 => ?_)
    · skip
      refine j_aload_n dX2_isTooMuch_127 0 rfl ?_
      refine j_get flX2_isTooMuch_21 hrd rfl dX2_isTooMuch_128 ?_
      have hz := of_decide_eq_false (zb_0 c116)
      have ho := hop (sd64 hsd (by omega) (by rw [k2] at hfit; exact hfit))
      refine j_callV (rm := rX3_openPitches) (As := []) (st := []) (b0 := sc) (ci := 3) (na := 0) (c_openPitches hsc hfa (by omega)) (by intro E w9 h9; first | exact nomatch h9.1 | (obtain ⟨_, h9, _⟩ := h9; exact nomatch h9) | (obtain ⟨_, _, _, h9, _⟩ := h9; exact nomatch h9)) gX2_isTooMuch_X3_openPitches rfl rfl hsc (by decide +kernel) rfl ⟨Nat.le_of_ble_eq_true rfl, Nat.le_of_ble_eq_true rfl⟩ rfl (Nat.le_of_ble_eq_true rfl) dX2_isTooMuch_131 ⟨(show 0 + 0 ≤ 0 by omega), (show 0 + 0 ≤ 0 by omega)⟩ (fun v5 w6 h7 => ?_)
      obtain ⟨h7, h8⟩ := h7
      cases h7
      subst w6
      refine j_after (st' := [.int (f (ev * 14 + 1))]) (k' := 0) (n' := 0) rfl rfl rfl ?_
      refine j_eqi (y := nI np) (ho.2.2.1) ?_
      refine j_iconst (v := nI 4) dX2_isTooMuch_134 (by decide) ?_
      refine j_icmp_ltN 142 (by omega) (by omega) dX2_isTooMuch_135 (by decide) (fun c135 => ?_) (fun c135 => ?_)
      · skip
        refine j_iconst (v := nI 0) dX2_isTooMuch_142 (by decide) ?_
        exact j_zret rfl (Or.inl rfl) ⟨by subst k2; show _ = Sum.inl (some (Value.int (zb (if sd &&& 63 = 0 then decide (4 ≤ np) else decide (100 ≤ ev))))); rw [if_pos (by omega), (zb_f (decide_eq_false (by omega)))]; rfl, rfl⟩ (show 0 ≤ 0 by omega) (show 0 ≤ 0 by omega) dX2_isTooMuch_143
      · skip
        refine j_iconst (v := nI 1) dX2_isTooMuch_138 (by decide) ?_
        refine j_goto 143 dX2_isTooMuch_139 (by decide) ?_
        exact j_zret rfl (Or.inr rfl) ⟨by subst k2; show _ = Sum.inl (some (Value.int (zb (if sd &&& 63 = 0 then decide (4 ≤ np) else decide (100 ≤ ev))))); rw [if_pos (by omega), (zb_t (decide_eq_true (by omega)))]; rfl, rfl⟩ (show 0 ≤ 0 by omega) (show 0 ≤ 0 by omega) dX2_isTooMuch_143
    · skip
      refine j_aload_n dX2_isTooMuch_119 0 rfl ?_
      refine j_get flX2_isTooMuch_21 hrd rfl dX2_isTooMuch_120 ?_
      refine j_callV (rm := rX3_isFull) (As := []) (st := []) (b0 := sc) (ci := 3) (na := 0) (c_isFull hsc hfa (by omega)) (by intro E w9 h9; first | exact nomatch h9.1 | (obtain ⟨_, h9, _⟩ := h9; exact nomatch h9) | (obtain ⟨_, _, _, h9, _⟩ := h9; exact nomatch h9)) gX2_isTooMuch_X3_isFull rfl rfl hsc (by decide +kernel) rfl ⟨Nat.le_of_ble_eq_true rfl, Nat.le_of_ble_eq_true rfl⟩ rfl (Nat.le_of_ble_eq_true rfl) dX2_isTooMuch_123 ⟨(show 0 + 0 ≤ 0 by omega), (show 0 + 0 ≤ 0 by omega)⟩ (fun v9 w10 h11 => ?_)
      obtain ⟨h11, h12⟩ := h11
      cases h11
      subst w10
      refine j_after (st' := [.int (zb (decide (100 ≤ ev)))]) (k' := 0) (n' := 0) rfl rfl rfl ?_
      exact j_zret rfl (zb_01 _) ⟨by subst k2; show _ = Sum.inl (some (Value.int (zb (if sd &&& 63 = 0 then decide (4 ≤ np) else decide (100 ≤ ev))))); rw [if_neg (of_decide_eq_true (zb_n' c116))], rfl⟩ (show 0 ≤ 0 by omega) (show 0 ≤ 0 by omega) dX2_isTooMuch_126
  by_cases k3 : kd = 3
  · skip
    refine j_lookup 144 dX2_isTooMuch_7 (by decide) (show Op.lookupswitch.offset _ _ (nI kd).toInt = (137) by rw [k3]; decide) (by decide) ?_
    refine j_aload_n dX2_isTooMuch_144 0 rfl ?_
    refine j_get flX2_isTooMuch_14 hrd rfl dX2_isTooMuch_145 ?_
    refine j_get flX2_isTooMuch_86 hto rfl dX2_isTooMuch_148 ?_
    refine j_if_ne 158 dX2_isTooMuch_151 (by decide) (fun c151 => ?_) (fun c151 => ?_)
    · skip
      refine j_iconst (v := nI 0) dX2_isTooMuch_158 (by decide) ?_
      exact j_zret rfl (Or.inl rfl) ⟨by subst k3; show _ = Sum.inl (some (Value.int (zb (decide (va = 0))))); rw [(zb_f (decide_eq_false c151))]; rfl, rfl⟩ (show 0 ≤ 0 by omega) (show 0 ≤ 0 by omega) dX2_isTooMuch_159
    · skip
      refine j_iconst (v := nI 1) dX2_isTooMuch_154 (by decide) ?_
      refine j_goto 159 dX2_isTooMuch_155 (by decide) ?_
      exact j_zret rfl (Or.inr rfl) ⟨by subst k3; show _ = Sum.inl (some (Value.int (zb (decide (va = 0))))); rw [(zb_t (decide_eq_true c151))]; rfl, rfl⟩ (show 0 ≤ 0 by omega) (show 0 ≤ 0 by omega) dX2_isTooMuch_159
  by_cases k33 : kd = 33
  · skip
    refine j_lookup 87 dX2_isTooMuch_7 (by decide) (show Op.lookupswitch.offset _ _ (nI kd).toInt = (80) by rw [k33]; decide) (by decide) ?_
    refine j_aload_n dX2_isTooMuch_87 0 rfl ?_
    refine j_get flX2_isTooMuch_38 hrd rfl dX2_isTooMuch_88 ?_
    refine j_bipush (v := nI 20) dX2_isTooMuch_91 (by decide) ?_
    refine j_icmp_ltN 100 (by omega) (by omega) dX2_isTooMuch_93 (by decide) (fun c93 => ?_) (fun c93 => ?_)
    · skip
      refine j_iconst (v := nI 0) dX2_isTooMuch_100 (by decide) ?_
      exact j_zret rfl (Or.inl rfl) ⟨by subst k33; show _ = Sum.inl (some (Value.int (zb (decide (20 ≤ cu))))); rw [(zb_f (decide_eq_false (by omega)))]; rfl, rfl⟩ (show 0 ≤ 0 by omega) (show 0 ≤ 0 by omega) dX2_isTooMuch_101
    · skip
      refine j_iconst (v := nI 1) dX2_isTooMuch_96 (by decide) ?_
      refine j_goto 101 dX2_isTooMuch_97 (by decide) ?_
      exact j_zret rfl (Or.inr rfl) ⟨by subst k33; show _ = Sum.inl (some (Value.int (zb (decide (20 ≤ cu))))); rw [(zb_t (decide_eq_true (by omega)))]; rfl, rfl⟩ (show 0 ≤ 0 by omega) (show 0 ≤ 0 by omega) dX2_isTooMuch_101
  by_cases k40 : kd = 40
  · skip
    refine j_lookup 102 dX2_isTooMuch_7 (by decide) (show Op.lookupswitch.offset _ _ (nI kd).toInt = (95) by rw [k40]; decide) (by decide) ?_
    refine j_aload_n dX2_isTooMuch_102 0 rfl ?_
    refine j_get flX2_isTooMuch_21 hrd rfl dX2_isTooMuch_103 ?_
    refine j_callV (rm := rX3_isFull) (As := []) (st := []) (b0 := sc) (ci := 3) (na := 0) (c_isFull hsc hfa (by omega)) (by intro E w9 h9; first | exact nomatch h9.1 | (obtain ⟨_, h9, _⟩ := h9; exact nomatch h9) | (obtain ⟨_, _, _, h9, _⟩ := h9; exact nomatch h9)) gX2_isTooMuch_X3_isFull rfl rfl hsc (by decide +kernel) rfl ⟨Nat.le_of_ble_eq_true rfl, Nat.le_of_ble_eq_true rfl⟩ rfl (Nat.le_of_ble_eq_true rfl) dX2_isTooMuch_106 ⟨(show 0 + 0 ≤ 0 by omega), (show 0 + 0 ≤ 0 by omega)⟩ (fun v13 w14 h15 => ?_)
    obtain ⟨h15, h16⟩ := h15
    cases h15
    subst w14
    refine j_after (st' := [.int (zb (decide (100 ≤ ev)))]) (k' := 0) (n' := 0) rfl rfl rfl ?_
    exact j_zret rfl (zb_01 _) ⟨by subst k40; rfl, rfl⟩ (show 0 ≤ 0 by omega) (show 0 ≤ 0 by omega) dX2_isTooMuch_109
  by_cases k64 : kd = 64
  · skip
    refine j_lookup 72 dX2_isTooMuch_7 (by decide) (show Op.lookupswitch.offset _ _ (nI kd).toInt = (65) by rw [k64]; decide) (by decide) ?_
    refine j_aload_n dX2_isTooMuch_72 0 rfl ?_
    refine j_get flX2_isTooMuch_35 hrd rfl dX2_isTooMuch_73 ?_
    refine j_bipush (v := nI 10) dX2_isTooMuch_76 (by decide) ?_
    refine j_icmp_ltN 85 (by omega) (by omega) dX2_isTooMuch_78 (by decide) (fun c78 => ?_) (fun c78 => ?_)
    · skip
      refine j_iconst (v := nI 0) dX2_isTooMuch_85 (by decide) ?_
      exact j_zret rfl (Or.inl rfl) ⟨by subst k64; show _ = Sum.inl (some (Value.int (zb (decide (10 ≤ mr))))); rw [(zb_f (decide_eq_false (by omega)))]; rfl, rfl⟩ (show 0 ≤ 0 by omega) (show 0 ≤ 0 by omega) dX2_isTooMuch_86
    · skip
      refine j_iconst (v := nI 1) dX2_isTooMuch_81 (by decide) ?_
      refine j_goto 86 dX2_isTooMuch_82 (by decide) ?_
      exact j_zret rfl (Or.inr rfl) ⟨by subst k64; show _ = Sum.inl (some (Value.int (zb (decide (10 ≤ mr))))); rw [(zb_t (decide_eq_true (by omega)))]; rfl, rfl⟩ (show 0 ≤ 0 by omega) (show 0 ≤ 0 by omega) dX2_isTooMuch_86
  by_cases k114 : kd = 114
  · skip
    refine j_lookup 102 dX2_isTooMuch_7 (by decide) (show Op.lookupswitch.offset _ _ (nI kd).toInt = (95) by rw [k114]; decide) (by decide) ?_
    refine j_aload_n dX2_isTooMuch_102 0 rfl ?_
    refine j_get flX2_isTooMuch_21 hrd rfl dX2_isTooMuch_103 ?_
    refine j_callV (rm := rX3_isFull) (As := []) (st := []) (b0 := sc) (ci := 3) (na := 0) (c_isFull hsc hfa (by omega)) (by intro E w9 h9; first | exact nomatch h9.1 | (obtain ⟨_, h9, _⟩ := h9; exact nomatch h9) | (obtain ⟨_, _, _, h9, _⟩ := h9; exact nomatch h9)) gX2_isTooMuch_X3_isFull rfl rfl hsc (by decide +kernel) rfl ⟨Nat.le_of_ble_eq_true rfl, Nat.le_of_ble_eq_true rfl⟩ rfl (Nat.le_of_ble_eq_true rfl) dX2_isTooMuch_106 ⟨(show 0 + 0 ≤ 0 by omega), (show 0 + 0 ≤ 0 by omega)⟩ (fun v17 w18 h19 => ?_)
    obtain ⟨h19, h20⟩ := h19
    cases h19
    subst w18
    refine j_after (st' := [.int (zb (decide (100 ≤ ev)))]) (k' := 0) (n' := 0) rfl rfl rfl ?_
    exact j_zret rfl (zb_01 _) ⟨by subst k114; rfl, rfl⟩ (show 0 ≤ 0 by omega) (show 0 ≤ 0 by omega) dX2_isTooMuch_109
  by_cases k126 : kd = 126
  · skip
    refine j_lookup 102 dX2_isTooMuch_7 (by decide) (show Op.lookupswitch.offset _ _ (nI kd).toInt = (95) by rw [k126]; decide) (by decide) ?_
    refine j_aload_n dX2_isTooMuch_102 0 rfl ?_
    refine j_get flX2_isTooMuch_21 hrd rfl dX2_isTooMuch_103 ?_
    refine j_callV (rm := rX3_isFull) (As := []) (st := []) (b0 := sc) (ci := 3) (na := 0) (c_isFull hsc hfa (by omega)) (by intro E w9 h9; first | exact nomatch h9.1 | (obtain ⟨_, h9, _⟩ := h9; exact nomatch h9) | (obtain ⟨_, _, _, h9, _⟩ := h9; exact nomatch h9)) gX2_isTooMuch_X3_isFull rfl rfl hsc (by decide +kernel) rfl ⟨Nat.le_of_ble_eq_true rfl, Nat.le_of_ble_eq_true rfl⟩ rfl (Nat.le_of_ble_eq_true rfl) dX2_isTooMuch_106 ⟨(show 0 + 0 ≤ 0 by omega), (show 0 + 0 ≤ 0 by omega)⟩ (fun v21 w22 h23 => ?_)
    obtain ⟨h23, h24⟩ := h23
    cases h23
    subst w22
    refine j_after (st' := [.int (zb (decide (100 ≤ ev)))]) (k' := 0) (n' := 0) rfl rfl rfl ?_
    exact j_zret rfl (zb_01 _) ⟨by subst k126; rfl, rfl⟩ (show 0 ≤ 0 by omega) (show 0 ≤ 0 by omega) dX2_isTooMuch_109
  refine j_lookup 160 dX2_isTooMuch_7 (by decide) (lkD (kd := kd) (by omega) (by simp; omega)) (by decide) ?_
  refine j_iconst (v := nI 0) dX2_isTooMuch_160 (by decide) ?_
  exact j_zret rfl (Or.inl rfl) ⟨by simp only [tooM, k2, k3, k33, k40, k64, k114, k126, if_false]; rfl, rfl⟩ (show 0 ≤ 0 by omega) (show 0 ≤ 0 by omega) dX2_isTooMuch_161
abbrev rX2_faultOfToken : Room := { frames := 3, cells := 0, slots := 0, locals := 65 }
theorem sd384 {sd : Nat} (h : sd = 1 ∨ sd = 2 ∨ sd = 4 ∨ sd = 8 ∨ sd = 16 ∨ sd = 32 ∨ sd = 64 ∨ sd = 128 ∨ sd = 256 ∨ sd = 512 ∨ sd = 1024) (h1 : sd &&& 384 ≠ 0) : 64 ≤ sd := by
  rcases h with rfl | rfl | rfl | rfl | rfl | rfl | rfl | rfl | rfl | rfl | rfl <;> first | omega | exact absurd (by decide) h1
theorem flX2_faultOfToken_14 : FL wsX2_faultOfToken RX2 14 2 0 := ⟨RX2, TX2, 10, rfl, by decide, by decide +kernel, by decide +kernel⟩
theorem flX2_faultOfToken_62 : FL wsX2_faultOfToken RX2 62 4 3 := ⟨RX4, TX4, 6, rfl, by decide, by decide +kernel, by decide +kernel⟩
theorem flX2_faultOfToken_21 : FL wsX2_faultOfToken RX2 21 2 1 := ⟨RX2, TX2, 10, rfl, by decide, by decide +kernel, by decide +kernel⟩
theorem flX2_faultOfToken_86 : FL wsX2_faultOfToken RX2 86 4 5 := ⟨RX4, TX4, 6, rfl, by decide, by decide +kernel, by decide +kernel⟩
set_option maxHeartbeats 4000000 in
set_option maxRecDepth 100000 in
theorem c_faultOfToken {w : pW} {rd to sc fa tx ln nx kd sa sd mr cu rep np oc ev be cq st me pa flt : Nat} {mkd cud : Bool} {fp va : Int32} {f : Nat → Int32} (hrd : w rd = some (.inr (2, [.ref to, .ref sc, .int (nI sd), .int (nI mr), .int (nI cu), .int (zb mkd), .int (zb cud), .int (nI rep), .int (nI flt), .int fp]))) (hsc : w sc = some (.inr (3, [.ref fa, .int (nI ev), .int (nI be), .int (nI cq), .int (nI st), .int (nI me), .int (nI pa)]))) (hfa : w fa = some (.inl (0, 1400, .inl f))) (hto : w to = some (.inr (4, [.ref tx, .int (nI ln), .int (nI nx), .int (nI kd), .int (nI sa), .int va]))) (hkd : kd < 256) (hRI : RI (sd, mr, cu, mkd, cud, rep, np, oc, f, ev, be, cq, st, me, pa)) : Ct yX2_faultOfToken wsX2_faultOfToken rX2_faultOfToken [.ref rd] w (fun o w9 => o = .inl (some (.int (nI (rFault kd va (sd, mr, cu, mkd, cud, rep, np, oc, f, ev, be, cq, st, me, pa))))) ∧ w9 = w) := by
  refine Ct.of (cc := cX2_faultOfToken) (own := RX2) (nm := "faultOfToken") (nL := 2) (ret := (some .int)) (by decide +kernel) rfl rfl rfl (Nat.le_of_ble_eq_true rfl) ?_
  refine j_lvE (lv' := [(0, .ref rd)]) rfl ?_
  obtain ⟨hsd, hev, hop, hs8, hmr, hcu, hrep⟩ := id hRI
  refine j_aload_n dX2_faultOfToken_0 0 rfl ?_
  refine j_aload_n dX2_faultOfToken_1 0 rfl ?_
  refine j_get flX2_faultOfToken_14 hrd rfl dX2_faultOfToken_2 ?_
  refine j_get flX2_faultOfToken_62 hto rfl dX2_faultOfToken_5 ?_
  refine j_callS (rm := rX2_standsAhead) (As := [.int (nI kd)]) (st := [.ref rd]) (na := 1) (c_standsAhead (kd := kd) (by omega)) (by intro E w9 h9; first | exact nomatch h9.1 | (obtain ⟨_, h9, _⟩ := h9; exact nomatch h9) | (obtain ⟨_, _, _, h9, _⟩ := h9; exact nomatch h9)) gX2_faultOfToken_X2_standsAhead rfl (by decide +kernel) rfl ⟨Nat.le_of_ble_eq_true rfl, Nat.le_of_ble_eq_true rfl⟩ rfl (Nat.le_of_ble_eq_true rfl) dX2_faultOfToken_8 ⟨(show 0 + 0 ≤ 0 by omega), (show 0 + 0 ≤ 0 by omega)⟩ (fun v1 w2 h3 => ?_)
  obtain ⟨h3, h4⟩ := h3
  cases h3
  subst w2
  refine j_after (st' := [.int (nI (stA kd)), .ref rd]) (k' := 0) (n' := 0) rfl rfl rfl ?_
  refine j_callV (rm := rX2_standsIn) (As := [.int (nI (stA kd))]) (st := []) (b0 := rd) (ci := 2) (na := 1) (c_standsIn (m := (stA kd)) hrd hsc hfa hto (by omega) hRI (by first | omega | exact stA_lt)) (by intro E w9 h9; first | exact nomatch h9.1 | (obtain ⟨_, h9, _⟩ := h9; exact nomatch h9) | (obtain ⟨_, _, _, h9, _⟩ := h9; exact nomatch h9)) gX2_faultOfToken_X2_standsIn rfl rfl hrd (by decide +kernel) rfl ⟨Nat.le_of_ble_eq_true rfl, Nat.le_of_ble_eq_true rfl⟩ rfl (Nat.le_of_ble_eq_true rfl) dX2_faultOfToken_11 ⟨(show 0 + 0 ≤ 0 by omega), (show 0 + 0 ≤ 0 by omega)⟩ (fun v5 w6 h7 => ?_)
  obtain ⟨h7, h8⟩ := h7
  cases h7
  subst w6
  refine j_after (st' := [.int (zb (decide (sd &&& (stA kd) ≠ 0)))]) (k' := 0) (n' := 0) rfl rfl rfl ?_
  refine j_if_ne 19 dX2_faultOfToken_14 (by decide) (fun c14 => ?_) (fun c14 => ?_)
  · skip
    refine j_aload_n dX2_faultOfToken_19 0 rfl ?_
    refine j_callV (rm := rX2_isTooMuch) (As := []) (st := []) (b0 := rd) (ci := 2) (na := 0) (c_isTooMuch (np := np) (oc := oc) hrd hsc hfa hto (by omega) hRI (of_decide_eq_true (zb_n' c14))) (by intro E w9 h9; first | exact nomatch h9.1 | (obtain ⟨_, h9, _⟩ := h9; exact nomatch h9) | (obtain ⟨_, _, _, h9, _⟩ := h9; exact nomatch h9)) gX2_faultOfToken_X2_isTooMuch rfl rfl hrd (by decide +kernel) rfl ⟨Nat.le_of_ble_eq_true rfl, Nat.le_of_ble_eq_true rfl⟩ rfl (Nat.le_of_ble_eq_true rfl) dX2_faultOfToken_20 ⟨(show 0 + 0 ≤ 0 by omega), (show 0 + 0 ≤ 0 by omega)⟩ (fun v9 w10 h11 => ?_)
    obtain ⟨h11, h12⟩ := h11
    cases h11
    subst w10
    refine j_after (st' := [.int (zb (tooM kd va (sd, mr, cu, mkd, cud, rep, np, oc, f, ev, be, cq, st, me, pa)))]) (k' := 0) (n' := 0) rfl rfl rfl ?_
    refine j_if_eq 28 dX2_faultOfToken_23 (by decide) (fun c23 => ?_) (fun c23 => ?_)
    · skip
      refine j_aload_n dX2_faultOfToken_28 0 rfl ?_
      refine j_get flX2_faultOfToken_14 hrd rfl dX2_faultOfToken_29 ?_
      refine j_get flX2_faultOfToken_62 hto rfl dX2_faultOfToken_32 ?_
      refine j_iconst (v := nI 2) dX2_faultOfToken_35 (by decide) ?_
      refine j_icmp_neN 53 (by omega) (by omega) dX2_faultOfToken_36 (by decide) (fun c36 => ?_) (fun c36 => ?_)
      · skip
        refine j_iconst (v := nI 0) dX2_faultOfToken_53 (by decide) ?_
        refine j_istore_n (lv' := [(1, .int (nI 0)), (0, .ref rd)]) dX2_faultOfToken_54 (Nat.le_of_ble_eq_true rfl) rfl ?_
        refine j_iload_n dX2_faultOfToken_55 0 rfl ?_
        refine j_if_eqN 80 (by decide) dX2_faultOfToken_56 (by decide) (fun _ => ?_) (fun h9 => absurd rfl h9)
        refine j_iconst (v := nI 0) dX2_faultOfToken_80 (by decide) ?_
        exact j_iret rfl ⟨by unfold rFault; rw [if_neg (of_decide_eq_true (zb_n' c14)), if_neg (by rw [zb_0 c23]; decide), if_neg (fun h => c36 h.1)], rfl⟩ (show 0 ≤ 0 by omega) (show 0 ≤ 0 by omega) dX2_faultOfToken_81
      · skip
        refine j_aload_n dX2_faultOfToken_39 0 rfl ?_
        refine j_sipush (v := nI 384) dX2_faultOfToken_40 (by decide) ?_
        refine j_callV (rm := rX2_standsIn) (As := [.int (nI 384)]) (st := []) (b0 := rd) (ci := 2) (na := 1) (c_standsIn (m := 384) hrd hsc hfa hto (by omega) hRI (by first | omega | exact stA_lt)) (by intro E w9 h9; first | exact nomatch h9.1 | (obtain ⟨_, h9, _⟩ := h9; exact nomatch h9) | (obtain ⟨_, _, _, h9, _⟩ := h9; exact nomatch h9)) gX2_faultOfToken_X2_standsIn rfl rfl hrd (by decide +kernel) rfl ⟨Nat.le_of_ble_eq_true rfl, Nat.le_of_ble_eq_true rfl⟩ rfl (Nat.le_of_ble_eq_true rfl) dX2_faultOfToken_43 ⟨(show 0 + 0 ≤ 0 by omega), (show 0 + 0 ≤ 0 by omega)⟩ (fun v13 w14 h15 => ?_)
        obtain ⟨h15, h16⟩ := h15
        cases h15
        subst w14
        refine j_after (st' := [.int (zb (decide (sd &&& 384 ≠ 0)))]) (k' := 0) (n' := 0) rfl rfl rfl ?_
        refine j_if_eq 53 dX2_faultOfToken_46 (by decide) (fun c46 => ?_) (fun c46 => ?_)
        · skip
          refine j_iconst (v := nI 0) dX2_faultOfToken_53 (by decide) ?_
          refine j_istore_n (lv' := [(1, .int (nI 0)), (0, .ref rd)]) dX2_faultOfToken_54 (Nat.le_of_ble_eq_true rfl) rfl ?_
          refine j_iload_n dX2_faultOfToken_55 0 rfl ?_
          refine j_if_eqN 80 (by decide) dX2_faultOfToken_56 (by decide) (fun _ => ?_) (fun h9 => absurd rfl h9)
          refine j_iconst (v := nI 0) dX2_faultOfToken_80 (by decide) ?_
          exact j_iret rfl ⟨by unfold rFault; rw [if_neg (of_decide_eq_true (zb_n' c14)), if_neg (by rw [zb_0 c23]; decide), if_neg (fun h => absurd h.2.1 (of_decide_eq_false (zb_0 c46)))], rfl⟩ (show 0 ≤ 0 by omega) (show 0 ≤ 0 by omega) dX2_faultOfToken_81
        · skip
          refine j_iconst (v := nI 1) dX2_faultOfToken_49 (by decide) ?_
          refine j_goto 54 dX2_faultOfToken_50 (by decide) ?_
          refine j_istore_n (lv' := [(1, .int (nI 1)), (0, .ref rd)]) dX2_faultOfToken_54 (Nat.le_of_ble_eq_true rfl) rfl ?_
          refine j_iload_n dX2_faultOfToken_55 0 rfl ?_
          refine j_if_eqN 80 (by decide) dX2_faultOfToken_56 (by decide) (fun h9 => absurd h9 (by decide)) (fun _ => ?_)
          refine j_aload_n dX2_faultOfToken_59 1 rfl ?_
          refine j_get flX2_faultOfToken_21 hrd rfl dX2_faultOfToken_60 ?_
          refine j_aload_n dX2_faultOfToken_63 1 rfl ?_
          refine j_get flX2_faultOfToken_14 hrd rfl dX2_faultOfToken_64 ?_
          refine j_get flX2_faultOfToken_86 hto rfl dX2_faultOfToken_67 ?_
          have h384 : sd &&& 384 ≠ 0 := of_decide_eq_true (zb_n' c46)
          have ho := hop (sd384 hsd h384)
          have ho4 := ho.2.1
          refine j_callV (rm := rX3_openHasPitch) (As := [.int va]) (st := []) (b0 := sc) (ci := 3) (na := 1) (c_openHasPitch (np := np) (p := va) hsc hfa (by omega) (by omega) ho.2.2.1) (by intro E w9 h9; first | exact nomatch h9.1 | (obtain ⟨_, h9, _⟩ := h9; exact nomatch h9) | (obtain ⟨_, _, _, h9, _⟩ := h9; exact nomatch h9)) gX2_faultOfToken_X3_openHasPitch rfl rfl hsc (by decide +kernel) rfl ⟨Nat.le_of_ble_eq_true rfl, Nat.le_of_ble_eq_true rfl⟩ rfl (Nat.le_of_ble_eq_true rfl) dX2_faultOfToken_70 ⟨(show 0 + 0 ≤ 0 by omega), (show 0 + 0 ≤ 0 by omega)⟩ (fun v17 w18 h19 => ?_)
          obtain ⟨h19, h20⟩ := h19
          cases h19
          subst w18
          refine j_after (st' := [.int (zb (hasP f ev np va).isSome)]) (k' := 0) (n' := 0) rfl rfl rfl ?_
          refine j_if_eq 80 dX2_faultOfToken_73 (by decide) (fun c73 => ?_) (fun c73 => ?_)
          · skip
            refine j_iconst (v := nI 0) dX2_faultOfToken_80 (by decide) ?_
            exact j_iret rfl ⟨by unfold rFault; rw [if_neg (of_decide_eq_true (zb_n' c14)), if_neg (by rw [zb_0 c23]; decide), if_neg (fun h => by rw [zb_0 c73] at h; exact absurd h.2.2 (by decide))], rfl⟩ (show 0 ≤ 0 by omega) (show 0 ≤ 0 by omega) dX2_faultOfToken_81
          · skip
            refine j_iconst (v := nI 3) dX2_faultOfToken_76 (by decide) ?_
            refine j_goto 81 dX2_faultOfToken_77 (by decide) ?_
            exact j_iret rfl ⟨by unfold rFault; rw [if_neg (of_decide_eq_true (zb_n' c14)), if_neg (by rw [zb_0 c23]; decide), if_pos ⟨c36, h384, zb_n' c73⟩], rfl⟩ (show 0 ≤ 0 by omega) (show 0 ≤ 0 by omega) dX2_faultOfToken_81
    · skip
      refine j_iconst (v := nI 2) dX2_faultOfToken_26 (by decide) ?_
      exact j_iret rfl ⟨by unfold rFault; rw [if_neg (of_decide_eq_true (zb_n' c14)), if_pos (zb_n' c23)], rfl⟩ (show 0 ≤ 0 by omega) (show 0 ≤ 0 by omega) dX2_faultOfToken_27
  · skip
    refine j_iconst (v := nI 1) dX2_faultOfToken_17 (by decide) ?_
    exact j_iret rfl ⟨by unfold rFault; rw [if_pos (Decidable.not_not.mp (of_decide_eq_false (zb_0 c14)))], rfl⟩ (show 0 ≤ 0 by omega) (show 0 ≤ 0 by omega) dX2_faultOfToken_18
abbrev rX2_takeMark : Room := { frames := 0, cells := 0, slots := 0, locals := 0 }
theorem fsX2_takeMark_41 : FS wsX2_takeMark RX2 41 2 5 false (.boolean) := ⟨RX2, TX2, 10, tyX2, rfl, by decide, by decide +kernel, by decide +kernel, tyX2_ok, nmX2, rfl, rfl, rfl⟩
theorem flX2_takeMark_35 : FL wsX2_takeMark RX2 35 2 3 := ⟨RX2, TX2, 10, rfl, by decide, by decide +kernel, by decide +kernel⟩
theorem fsX2_takeMark_35 : FS wsX2_takeMark RX2 35 2 3 false (.int) := ⟨RX2, TX2, 10, tyX2, rfl, by decide, by decide +kernel, by decide +kernel, tyX2_ok, nmX2, rfl, rfl, rfl⟩
theorem fsX2_takeMark_32 : FS wsX2_takeMark RX2 32 2 2 false (.int) := ⟨RX2, TX2, 10, tyX2, rfl, by decide, by decide +kernel, by decide +kernel, tyX2_ok, nmX2, rfl, rfl, rfl⟩
set_option maxHeartbeats 4000000 in
set_option maxRecDepth 100000 in
theorem c_takeMark {w : pW} {rd to sc fa tx ln nx kd sa sd mr cu rep np oc ev be cq st me pa flt : Nat} {mkd cud : Bool} {fp va : Int32} {f : Nat → Int32} (hrd : w rd = some (.inr (2, [.ref to, .ref sc, .int (nI sd), .int (nI mr), .int (nI cu), .int (zb mkd), .int (zb cud), .int (nI rep), .int (nI flt), .int fp]))) (hsc : w sc = some (.inr (3, [.ref fa, .int (nI ev), .int (nI be), .int (nI cq), .int (nI st), .int (nI me), .int (nI pa)]))) (hfa : w fa = some (.inl (0, 1400, .inl f))) (hto : w to = some (.inr (4, [.ref tx, .int (nI ln), .int (nI nx), .int (nI kd), .int (nI sa), .int va]))) (hkd : kd < 256) (hRI : RI (sd, mr, cu, mkd, cud, rep, np, oc, f, ev, be, cq, st, me, pa)) : Ct yX2_takeMark wsX2_takeMark rX2_takeMark [.ref rd] w (fun o w9 => o = .inl none ∧ w9 = wR w rd to sc fa flt fp ((16, mr + 1, cu, true, cud, rep, np, oc, f, ev, be, cq, st, me, pa))) := by
  refine Ct.of (cc := cX2_takeMark) (own := RX2) (nm := "takeMark") (nL := 1) (ret := none) (by decide +kernel) rfl rfl rfl (Nat.le_of_ble_eq_true rfl) ?_
  refine j_lvE (lv' := [(0, .ref rd)]) rfl ?_
  refine j_aload_n dX2_takeMark_0 0 rfl ?_
  refine j_iconst (v := nI 1) dX2_takeMark_1 (by decide) ?_
  refine j_put (fs9 := [.ref to, .ref sc, .int (nI sd), .int (nI mr), .int (nI cu), .int (nI 1), .int (zb cud), .int (nI rep), .int (nI flt), .int fp]) fsX2_takeMark_41 hrd rfl rfl (Nat.le_of_ble_eq_true rfl) rfl dX2_takeMark_2 ?_
  refine j_w (fun w1 hw1 => ?_)
  have f2 : w1 rd = some (.inr (2, [.ref to, .ref sc, .int (nI sd), .int (nI mr), .int (nI cu), .int (nI 1), .int (zb cud), .int (nI rep), .int (nI flt), .int fp])) := up_at hw1
  have f3 := up_ne hw1 (fk hsc hrd rfl) hsc
  have f4 := up_ne hw1 (fk hfa hrd rfl) hfa
  have f5 := up_ne hw1 (fk hto hrd rfl) hto
  refine j_aload_n dX2_takeMark_5 0 rfl ?_
  refine j_dup dX2_takeMark_6 rfl ?_
  refine j_get flX2_takeMark_35 f2 rfl dX2_takeMark_7 ?_
  refine j_iconst (v := nI 1) dX2_takeMark_10 (by decide) ?_
  refine j_iaddN dX2_takeMark_11 ?_
  refine j_put (fs9 := [.ref to, .ref sc, .int (nI sd), .int (nI (mr + 1)), .int (nI cu), .int (nI 1), .int (zb cud), .int (nI rep), .int (nI flt), .int fp]) fsX2_takeMark_35 f2 rfl rfl (Nat.le_of_ble_eq_true rfl) rfl dX2_takeMark_12 ?_
  refine j_w (fun w6 hw6 => ?_)
  have f7 : w6 rd = some (.inr (2, [.ref to, .ref sc, .int (nI sd), .int (nI (mr + 1)), .int (nI cu), .int (nI 1), .int (zb cud), .int (nI rep), .int (nI flt), .int fp])) := up_at hw6
  have f8 := up_ne hw6 (fk f3 f2 rfl) f3
  have f9 := up_ne hw6 (fk f4 f2 rfl) f4
  have f10 := up_ne hw6 (fk f5 f2 rfl) f5
  refine j_aload_n dX2_takeMark_15 0 rfl ?_
  refine j_bipush (v := nI 16) dX2_takeMark_16 (by decide) ?_
  refine j_put (fs9 := [.ref to, .ref sc, .int (nI 16), .int (nI (mr + 1)), .int (nI cu), .int (nI 1), .int (zb cud), .int (nI rep), .int (nI flt), .int fp]) fsX2_takeMark_32 f7 rfl rfl (Nat.le_of_ble_eq_true rfl) rfl dX2_takeMark_18 ?_
  refine j_w (fun w11 hw11 => ?_)
  have f12 : w11 rd = some (.inr (2, [.ref to, .ref sc, .int (nI 16), .int (nI (mr + 1)), .int (nI cu), .int (nI 1), .int (zb cud), .int (nI rep), .int (nI flt), .int fp])) := up_at hw11
  have f13 := up_ne hw11 (fk f8 f7 rfl) f8
  have f14 := up_ne hw11 (fk f9 f7 rfl) f9
  have f15 := up_ne hw11 (fk f10 f7 rfl) f10
  exact j_vret rfl ⟨rfl, by skip; exact wR_eq (np := np) (oc := oc) ((((Fr.refl : Fr [rd, sc, fa] w w).trans (Fr.up hw1 (by simp))).trans (Fr.up hw6 (by simp))).trans (Fr.up hw11 (by simp))) f14 f13 f12⟩ (show 0 ≤ 0 by omega) (show 0 ≤ 0 by omega) dX2_takeMark_21
abbrev rX2_takeCue : Room := { frames := 0, cells := 0, slots := 0, locals := 0 }
theorem fsX2_takeCue_45 : FS wsX2_takeCue RX2 45 2 6 false (.boolean) := ⟨RX2, TX2, 10, tyX2, rfl, by decide, by decide +kernel, by decide +kernel, tyX2_ok, nmX2, rfl, rfl, rfl⟩
theorem flX2_takeCue_38 : FL wsX2_takeCue RX2 38 2 4 := ⟨RX2, TX2, 10, rfl, by decide, by decide +kernel, by decide +kernel⟩
theorem fsX2_takeCue_38 : FS wsX2_takeCue RX2 38 2 4 false (.int) := ⟨RX2, TX2, 10, tyX2, rfl, by decide, by decide +kernel, by decide +kernel, tyX2_ok, nmX2, rfl, rfl, rfl⟩
theorem fsX2_takeCue_32 : FS wsX2_takeCue RX2 32 2 2 false (.int) := ⟨RX2, TX2, 10, tyX2, rfl, by decide, by decide +kernel, by decide +kernel, tyX2_ok, nmX2, rfl, rfl, rfl⟩
set_option maxHeartbeats 4000000 in
set_option maxRecDepth 100000 in
theorem c_takeCue {w : pW} {rd to sc fa tx ln nx kd sa sd mr cu rep np oc ev be cq st me pa flt : Nat} {mkd cud : Bool} {fp va : Int32} {f : Nat → Int32} (hrd : w rd = some (.inr (2, [.ref to, .ref sc, .int (nI sd), .int (nI mr), .int (nI cu), .int (zb mkd), .int (zb cud), .int (nI rep), .int (nI flt), .int fp]))) (hsc : w sc = some (.inr (3, [.ref fa, .int (nI ev), .int (nI be), .int (nI cq), .int (nI st), .int (nI me), .int (nI pa)]))) (hfa : w fa = some (.inl (0, 1400, .inl f))) (hto : w to = some (.inr (4, [.ref tx, .int (nI ln), .int (nI nx), .int (nI kd), .int (nI sa), .int va]))) (hkd : kd < 256) (hRI : RI (sd, mr, cu, mkd, cud, rep, np, oc, f, ev, be, cq, st, me, pa)) : Ct yX2_takeCue wsX2_takeCue rX2_takeCue [.ref rd] w (fun o w9 => o = .inl none ∧ w9 = wR w rd to sc fa flt fp ((32, mr, cu + 1, mkd, true, rep, np, oc, f, ev, be, cq, st, me, pa))) := by
  refine Ct.of (cc := cX2_takeCue) (own := RX2) (nm := "takeCue") (nL := 1) (ret := none) (by decide +kernel) rfl rfl rfl (Nat.le_of_ble_eq_true rfl) ?_
  refine j_lvE (lv' := [(0, .ref rd)]) rfl ?_
  refine j_aload_n dX2_takeCue_0 0 rfl ?_
  refine j_iconst (v := nI 1) dX2_takeCue_1 (by decide) ?_
  refine j_put (fs9 := [.ref to, .ref sc, .int (nI sd), .int (nI mr), .int (nI cu), .int (zb mkd), .int (nI 1), .int (nI rep), .int (nI flt), .int fp]) fsX2_takeCue_45 hrd rfl rfl (Nat.le_of_ble_eq_true rfl) rfl dX2_takeCue_2 ?_
  refine j_w (fun w1 hw1 => ?_)
  have f2 : w1 rd = some (.inr (2, [.ref to, .ref sc, .int (nI sd), .int (nI mr), .int (nI cu), .int (zb mkd), .int (nI 1), .int (nI rep), .int (nI flt), .int fp])) := up_at hw1
  have f3 := up_ne hw1 (fk hsc hrd rfl) hsc
  have f4 := up_ne hw1 (fk hfa hrd rfl) hfa
  have f5 := up_ne hw1 (fk hto hrd rfl) hto
  refine j_aload_n dX2_takeCue_5 0 rfl ?_
  refine j_dup dX2_takeCue_6 rfl ?_
  refine j_get flX2_takeCue_38 f2 rfl dX2_takeCue_7 ?_
  refine j_iconst (v := nI 1) dX2_takeCue_10 (by decide) ?_
  refine j_iaddN dX2_takeCue_11 ?_
  refine j_put (fs9 := [.ref to, .ref sc, .int (nI sd), .int (nI mr), .int (nI (cu + 1)), .int (zb mkd), .int (nI 1), .int (nI rep), .int (nI flt), .int fp]) fsX2_takeCue_38 f2 rfl rfl (Nat.le_of_ble_eq_true rfl) rfl dX2_takeCue_12 ?_
  refine j_w (fun w6 hw6 => ?_)
  have f7 : w6 rd = some (.inr (2, [.ref to, .ref sc, .int (nI sd), .int (nI mr), .int (nI (cu + 1)), .int (zb mkd), .int (nI 1), .int (nI rep), .int (nI flt), .int fp])) := up_at hw6
  have f8 := up_ne hw6 (fk f3 f2 rfl) f3
  have f9 := up_ne hw6 (fk f4 f2 rfl) f4
  have f10 := up_ne hw6 (fk f5 f2 rfl) f5
  refine j_aload_n dX2_takeCue_15 0 rfl ?_
  refine j_bipush (v := nI 32) dX2_takeCue_16 (by decide) ?_
  refine j_put (fs9 := [.ref to, .ref sc, .int (nI 32), .int (nI mr), .int (nI (cu + 1)), .int (zb mkd), .int (nI 1), .int (nI rep), .int (nI flt), .int fp]) fsX2_takeCue_32 f7 rfl rfl (Nat.le_of_ble_eq_true rfl) rfl dX2_takeCue_18 ?_
  refine j_w (fun w11 hw11 => ?_)
  have f12 : w11 rd = some (.inr (2, [.ref to, .ref sc, .int (nI 32), .int (nI mr), .int (nI (cu + 1)), .int (zb mkd), .int (nI 1), .int (nI rep), .int (nI flt), .int fp])) := up_at hw11
  have f13 := up_ne hw11 (fk f8 f7 rfl) f8
  have f14 := up_ne hw11 (fk f9 f7 rfl) f9
  have f15 := up_ne hw11 (fk f10 f7 rfl) f10
  exact j_vret rfl ⟨rfl, by skip; exact wR_eq (np := np) (oc := oc) ((((Fr.refl : Fr [rd, sc, fa] w w).trans (Fr.up hw1 (by simp))).trans (Fr.up hw6 (by simp))).trans (Fr.up hw11 (by simp))) f14 f13 f12⟩ (show 0 ≤ 0 by omega) (show 0 ≤ 0 by omega) dX2_takeCue_21
abbrev rX2_openEvent : Room := { frames := 2, cells := 0, slots := 0, locals := 46 }
theorem flX2_openEvent_21 : FL wsX2_openEvent RX2 21 2 1 := ⟨RX2, TX2, 10, rfl, by decide, by decide +kernel, by decide +kernel⟩
theorem flX2_openEvent_41 : FL wsX2_openEvent RX2 41 2 5 := ⟨RX2, TX2, 10, rfl, by decide, by decide +kernel, by decide +kernel⟩
theorem flX2_openEvent_45 : FL wsX2_openEvent RX2 45 2 6 := ⟨RX2, TX2, 10, rfl, by decide, by decide +kernel, by decide +kernel⟩
theorem fsX2_openEvent_41 : FS wsX2_openEvent RX2 41 2 5 false (.boolean) := ⟨RX2, TX2, 10, tyX2, rfl, by decide, by decide +kernel, by decide +kernel, tyX2_ok, nmX2, rfl, rfl, rfl⟩
theorem fsX2_openEvent_45 : FS wsX2_openEvent RX2 45 2 6 false (.boolean) := ⟨RX2, TX2, 10, tyX2, rfl, by decide, by decide +kernel, by decide +kernel, tyX2_ok, nmX2, rfl, rfl, rfl⟩
theorem fsX2_openEvent_32 : FS wsX2_openEvent RX2 32 2 2 false (.int) := ⟨RX2, TX2, 10, tyX2, rfl, by decide, by decide +kernel, by decide +kernel, tyX2_ok, nmX2, rfl, rfl, rfl⟩
set_option maxHeartbeats 4000000 in
set_option maxRecDepth 100000 in
theorem c_openEventR {w : pW} {rd to sc fa tx ln nx kd sa sd mr cu rep np oc ev be cq st me pa flt : Nat} {mkd cud : Bool} {fp va : Int32} {f : Nat → Int32} (hrd : w rd = some (.inr (2, [.ref to, .ref sc, .int (nI sd), .int (nI mr), .int (nI cu), .int (zb mkd), .int (zb cud), .int (nI rep), .int (nI flt), .int fp]))) (hsc : w sc = some (.inr (3, [.ref fa, .int (nI ev), .int (nI be), .int (nI cq), .int (nI st), .int (nI me), .int (nI pa)]))) (hfa : w fa = some (.inl (0, 1400, .inl f))) (hto : w to = some (.inr (4, [.ref tx, .int (nI ln), .int (nI nx), .int (nI kd), .int (nI sa), .int va]))) (hkd : kd < 256) (hRI : RI (sd, mr, cu, mkd, cud, rep, np, oc, f, ev, be, cq, st, me, pa)) {k b : Nat} (hev9 : ev < 100) : Ct yX2_openEvent wsX2_openEvent rX2_openEvent [.ref rd, .int (nI k), .int (nI b)] w (fun o w9 => o = .inl none ∧ w9 = wR w rd to sc fa flt fp (rOpen k b (sd, mr, cu, mkd, cud, rep, np, oc, f, ev, be, cq, st, me, pa))) := by
  refine Ct.of (cc := cX2_openEvent) (own := RX2) (nm := "openEvent") (nL := 3) (ret := none) (by decide +kernel) rfl rfl rfl (Nat.le_of_ble_eq_true rfl) ?_
  refine j_lvE (lv' := [(0, .ref rd), (1, .int (nI k)), (2, .int (nI b))]) rfl ?_
  obtain ⟨hsd, hev, hop, hs8, hmr, hcu, hrep⟩ := id hRI
  refine j_aload_n dX2_openEvent_0 0 rfl ?_
  refine j_get flX2_openEvent_21 hrd rfl dX2_openEvent_1 ?_
  refine j_iload_n dX2_openEvent_4 1 rfl ?_
  refine j_aload_n dX2_openEvent_5 0 rfl ?_
  refine j_get flX2_openEvent_41 hrd rfl dX2_openEvent_6 ?_
  refine j_aload_n dX2_openEvent_9 0 rfl ?_
  refine j_get flX2_openEvent_45 hrd rfl dX2_openEvent_10 ?_
  refine j_callV (rm := rX3_openEvent) (As := [.int (nI k), .int (zb mkd), .int (zb cud)]) (st := []) (b0 := sc) (ci := 3) (na := 3) (c_openEvent (kd := k) (mk := mkd) (cq := cud) hsc hfa (by omega)) (by intro E w9 h9; first | exact nomatch h9.1 | (obtain ⟨_, h9, _⟩ := h9; exact nomatch h9) | (obtain ⟨_, _, _, h9, _⟩ := h9; exact nomatch h9)) gX2_openEvent_X3_openEvent rfl rfl hsc (by decide +kernel) rfl ⟨Nat.le_of_ble_eq_true rfl, Nat.le_of_ble_eq_true rfl⟩ rfl (Nat.le_of_ble_eq_true rfl) dX2_openEvent_13 ⟨(show 0 + 0 ≤ 0 by omega), (show 0 + 0 ≤ 0 by omega)⟩ (fun v1 w2 h3 => ?_)
  obtain ⟨h3, h4⟩ := h3
  cases h3
  -- w2
  refine j_after (st' := []) (k' := 0) (n' := 0) rfl rfl rfl ?_
  have f5 : w2 rd = some (.inr (2, [.ref to, .ref sc, .int (nI sd), .int (nI mr), .int (nI cu), .int (zb mkd), .int (zb cud), .int (nI rep), .int (nI flt), .int fp])) := by rw [h4]; exact (va_up_ne _ _ (fk hrd hfa rfl)).trans (hrd)
  have f6 : w2 sc = some (.inr (3, [.ref fa, .int (nI ev), .int (nI be), .int (nI cq), .int (nI st), .int (nI me), .int (nI pa)])) := by rw [h4]; exact (va_up_ne _ _ (fk hsc hfa rfl)).trans (hsc)
  have f7 : w2 fa = some (.inl (0, 1400, .inl (opF f ev k be me pa st (zb mkd) (zb cud)))) := by rw [h4]; exact va_up_self _ _ _
  have f8 : w2 to = some (.inr (4, [.ref tx, .int (nI ln), .int (nI nx), .int (nI kd), .int (nI sa), .int va])) := by rw [h4]; exact (va_up_ne _ _ (fk hto hfa rfl)).trans (hto)
  refine j_aload_n dX2_openEvent_16 0 rfl ?_
  refine j_iconst (v := nI 0) dX2_openEvent_17 (by decide) ?_
  refine j_put (fs9 := [.ref to, .ref sc, .int (nI sd), .int (nI mr), .int (nI cu), .int (nI 0), .int (zb cud), .int (nI rep), .int (nI flt), .int fp]) fsX2_openEvent_41 f5 rfl rfl (Nat.le_of_ble_eq_true rfl) rfl dX2_openEvent_18 ?_
  refine j_w (fun w9 hw9 => ?_)
  have f10 : w9 rd = some (.inr (2, [.ref to, .ref sc, .int (nI sd), .int (nI mr), .int (nI cu), .int (nI 0), .int (zb cud), .int (nI rep), .int (nI flt), .int fp])) := up_at hw9
  have f11 := up_ne hw9 (fk f6 f5 rfl) f6
  have f12 := up_ne hw9 (fk f7 f5 rfl) f7
  have f13 := up_ne hw9 (fk f8 f5 rfl) f8
  refine j_aload_n dX2_openEvent_21 0 rfl ?_
  refine j_iconst (v := nI 0) dX2_openEvent_22 (by decide) ?_
  refine j_put (fs9 := [.ref to, .ref sc, .int (nI sd), .int (nI mr), .int (nI cu), .int (nI 0), .int (nI 0), .int (nI rep), .int (nI flt), .int fp]) fsX2_openEvent_45 f10 rfl rfl (Nat.le_of_ble_eq_true rfl) rfl dX2_openEvent_23 ?_
  refine j_w (fun w14 hw14 => ?_)
  have f15 : w14 rd = some (.inr (2, [.ref to, .ref sc, .int (nI sd), .int (nI mr), .int (nI cu), .int (nI 0), .int (nI 0), .int (nI rep), .int (nI flt), .int fp])) := up_at hw14
  have f16 := up_ne hw14 (fk f11 f10 rfl) f11
  have f17 := up_ne hw14 (fk f12 f10 rfl) f12
  have f18 := up_ne hw14 (fk f13 f10 rfl) f13
  refine j_aload_n dX2_openEvent_26 0 rfl ?_
  refine j_iload_n dX2_openEvent_27 2 rfl ?_
  refine j_put (fs9 := [.ref to, .ref sc, .int (nI b), .int (nI mr), .int (nI cu), .int (nI 0), .int (nI 0), .int (nI rep), .int (nI flt), .int fp]) fsX2_openEvent_32 f15 rfl rfl (Nat.le_of_ble_eq_true rfl) rfl dX2_openEvent_28 ?_
  refine j_w (fun w19 hw19 => ?_)
  have f20 : w19 rd = some (.inr (2, [.ref to, .ref sc, .int (nI b), .int (nI mr), .int (nI cu), .int (nI 0), .int (nI 0), .int (nI rep), .int (nI flt), .int fp])) := up_at hw19
  have f21 := up_ne hw19 (fk f16 f15 rfl) f16
  have f22 := up_ne hw19 (fk f17 f15 rfl) f17
  have f23 := up_ne hw19 (fk f18 f15 rfl) f18
  exact j_vret rfl ⟨rfl, by skip; exact wR_eq (np := 0) (oc := (if cud then 1 else 0)) (((((Fr.refl : Fr [rd, sc, fa] w w).trans (Fr.up h4 (by simp))).trans (Fr.up hw9 (by simp))).trans (Fr.up hw14 (by simp))).trans (Fr.up hw19 (by simp))) f22 f21 f20⟩ (show 0 ≤ 0 by omega) (show 0 ≤ 0 by omega) dX2_openEvent_31
abbrev rX2_takePitch : Room := { frames := 3, cells := 0, slots := 0, locals := 68 }
theorem opF_1 (f : Nat → Int32) {ev k be me pa st : Nat} {a b : Int32} : opF f ev k be me pa st a b (ev * 14 + 1) = nI 0 := by
  unfold opF
  simp only [upd]
  simp
theorem flX2_takePitch_21 : FL wsX2_takePitch RX2 21 2 1 := ⟨RX2, TX2, 10, rfl, by decide, by decide +kernel, by decide +kernel⟩
theorem flX2_takePitch_14 : FL wsX2_takePitch RX2 14 2 0 := ⟨RX2, TX2, 10, rfl, by decide, by decide +kernel, by decide +kernel⟩
theorem flX2_takePitch_86 : FL wsX2_takePitch RX2 86 4 5 := ⟨RX4, TX4, 6, rfl, by decide, by decide +kernel, by decide +kernel⟩
theorem fsX2_takePitch_32 : FS wsX2_takePitch RX2 32 2 2 false (.int) := ⟨RX2, TX2, 10, tyX2, rfl, by decide, by decide +kernel, by decide +kernel, tyX2_ok, nmX2, rfl, rfl, rfl⟩
set_option maxHeartbeats 4000000 in
set_option maxRecDepth 100000 in
theorem c_takePitchR {w : pW} {rd to sc fa tx ln nx kd sa sd mr cu rep np oc ev be cq st me pa flt : Nat} {mkd cud : Bool} {fp va : Int32} {f : Nat → Int32} (hrd : w rd = some (.inr (2, [.ref to, .ref sc, .int (nI sd), .int (nI mr), .int (nI cu), .int (zb mkd), .int (zb cud), .int (nI rep), .int (nI flt), .int fp]))) (hsc : w sc = some (.inr (3, [.ref fa, .int (nI ev), .int (nI be), .int (nI cq), .int (nI st), .int (nI me), .int (nI pa)]))) (hfa : w fa = some (.inl (0, 1400, .inl f))) (hto : w to = some (.inr (4, [.ref tx, .int (nI ln), .int (nI nx), .int (nI kd), .int (nI sa), .int va]))) (hkd : kd < 256) (hRI : RI (sd, mr, cu, mkd, cud, rep, np, oc, f, ev, be, cq, st, me, pa)) (hev0 : sd &&& 63 ≠ 0 → ev < 100) (hnp9 : sd &&& 63 = 0 → ev < 100 ∧ np < 4 ∧ f (ev * 14 + 1) = nI np) : Ct yX2_takePitch wsX2_takePitch rX2_takePitch [.ref rd] w (fun o w9 => o = .inl none ∧ w9 = wR w rd to sc fa flt fp (rAdd va (if sd &&& 384 = 0 then 512 else 256) (if sd &&& 63 = 0 then (sd, mr, cu, mkd, cud, rep, np, oc, f, ev, be, cq, st, me, pa) else rOpen 0 512 (sd, mr, cu, mkd, cud, rep, np, oc, f, ev, be, cq, st, me, pa)))) := by
  refine Ct.of (cc := cX2_takePitch) (own := RX2) (nm := "takePitch") (nL := 2) (ret := none) (by decide +kernel) rfl rfl rfl (Nat.le_of_ble_eq_true rfl) ?_
  refine j_lvE (lv' := [(0, .ref rd)]) rfl ?_
  obtain ⟨hsd, hev, hop, hs8, hmr, hcu, hrep⟩ := id hRI
  refine j_aload_n dX2_takePitch_0 0 rfl ?_
  refine j_sipush (v := nI 384) dX2_takePitch_1 (by decide) ?_
  refine j_callV (rm := rX2_standsIn) (As := [.int (nI 384)]) (st := []) (b0 := rd) (ci := 2) (na := 1) (c_standsIn (m := 384) hrd hsc hfa hto (by omega) hRI (by first | omega | exact stA_lt)) (by intro E w9 h9; first | exact nomatch h9.1 | (obtain ⟨_, h9, _⟩ := h9; exact nomatch h9) | (obtain ⟨_, _, _, h9, _⟩ := h9; exact nomatch h9)) gX2_takePitch_X2_standsIn rfl rfl hrd (by decide +kernel) rfl ⟨Nat.le_of_ble_eq_true rfl, Nat.le_of_ble_eq_true rfl⟩ rfl (Nat.le_of_ble_eq_true rfl) dX2_takePitch_4 ⟨(show 0 + 0 ≤ 0 by omega), (show 0 + 0 ≤ 0 by omega)⟩ (fun v1 w2 h3 => ?_)
  obtain ⟨h3, h4⟩ := h3
  cases h3
  subst w2
  refine j_after (st' := [.int (zb (decide (sd &&& 384 ≠ 0)))]) (k' := 0) (n' := 0) rfl rfl rfl ?_
  refine j_topi (fun x5 ex5 => ?_)
  refine j_istore_n (lv' := [(1, .int x5), (0, .ref rd)]) dX2_takePitch_7 (Nat.le_of_ble_eq_true rfl) rfl ?_
  refine j_aload_n dX2_takePitch_8 1 rfl ?_
  refine j_bipush (v := nI 63) dX2_takePitch_9 (by decide) ?_
  refine j_callV (rm := rX2_standsIn) (As := [.int (nI 63)]) (st := []) (b0 := rd) (ci := 2) (na := 1) (c_standsIn (m := 63) hrd hsc hfa hto (by omega) hRI (by first | omega | exact stA_lt)) (by intro E w9 h9; first | exact nomatch h9.1 | (obtain ⟨_, h9, _⟩ := h9; exact nomatch h9) | (obtain ⟨_, _, _, h9, _⟩ := h9; exact nomatch h9)) gX2_takePitch_X2_standsIn rfl rfl hrd (by decide +kernel) rfl ⟨Nat.le_of_ble_eq_true rfl, Nat.le_of_ble_eq_true rfl⟩ rfl (Nat.le_of_ble_eq_true rfl) dX2_takePitch_11 ⟨(show 0 + 0 ≤ 0 by omega), (show 0 + 0 ≤ 0 by omega)⟩ (fun v6 w7 h8 => ?_)
  obtain ⟨h8, h9⟩ := h8
  cases h8
  subst w7
  refine j_after (st' := [.int (zb (decide (sd &&& 63 ≠ 0)))]) (k' := 0) (n' := 0) rfl rfl rfl ?_
  refine j_if_eq 25 dX2_takePitch_14 (by decide) (fun c14 => ?_) (fun c14 => ?_)
  · skip
    refine j_aload_n dX2_takePitch_25 1 rfl ?_
    refine j_get flX2_takePitch_21 hrd rfl dX2_takePitch_26 ?_
    refine j_aload_n dX2_takePitch_29 1 rfl ?_
    refine j_get flX2_takePitch_14 hrd rfl dX2_takePitch_30 ?_
    refine j_get flX2_takePitch_86 hto rfl dX2_takePitch_33 ?_
    have hz := Decidable.not_not.mp (of_decide_eq_false (zb_0 c14))
    have ho := hnp9 hz
    have ho2 := ho.2.1
    refine j_callV (rm := rX3_addPitch) (As := [.int va]) (st := []) (b0 := sc) (ci := 3) (na := 1) (c_addPitch (np := np) (p := va) hsc hfa (by omega) (by omega) ho.2.2) (by intro E w9 h9; first | exact nomatch h9.1 | (obtain ⟨_, h9, _⟩ := h9; exact nomatch h9) | (obtain ⟨_, _, _, h9, _⟩ := h9; exact nomatch h9)) gX2_takePitch_X3_addPitch rfl rfl hsc (by decide +kernel) rfl ⟨Nat.le_of_ble_eq_true rfl, Nat.le_of_ble_eq_true rfl⟩ rfl (Nat.le_of_ble_eq_true rfl) dX2_takePitch_36 ⟨(show 0 + 0 ≤ 0 by omega), (show 0 + 0 ≤ 0 by omega)⟩ (fun v10 w11 h12 => ?_)
    obtain ⟨h12, h13⟩ := h12
    cases h12
    -- w11
    refine j_after (st' := []) (k' := 0) (n' := 0) rfl rfl rfl ?_
    have f14 : w11 rd = some (.inr (2, [.ref to, .ref sc, .int (nI sd), .int (nI mr), .int (nI cu), .int (zb mkd), .int (zb cud), .int (nI rep), .int (nI flt), .int fp])) := by rw [h13]; exact (va_up_ne _ _ (fk hrd hfa rfl)).trans (hrd)
    have f15 : w11 sc = some (.inr (3, [.ref fa, .int (nI ev), .int (nI be), .int (nI cq), .int (nI st), .int (nI me), .int (nI pa)])) := by rw [h13]; exact (va_up_ne _ _ (fk hsc hfa rfl)).trans (hsc)
    have f16 : w11 fa = some (.inl (0, 1400, .inl (adF f ev np va))) := by rw [h13]; exact va_up_self _ _ _
    have f17 : w11 to = some (.inr (4, [.ref tx, .int (nI ln), .int (nI nx), .int (nI kd), .int (nI sa), .int va])) := by rw [h13]; exact (va_up_ne _ _ (fk hto hfa rfl)).trans (hto)
    refine j_aload_n dX2_takePitch_39 1 rfl ?_
    refine j_iload_n dX2_takePitch_40 0 rfl ?_
    refine j_if_eq 50 dX2_takePitch_41 (by decide) (fun c41 => ?_) (fun c41 => ?_)
    · skip
      refine j_sipush (v := nI 512) dX2_takePitch_50 (by decide) ?_
      refine j_put (fs9 := [.ref to, .ref sc, .int (nI 512), .int (nI mr), .int (nI cu), .int (zb mkd), .int (zb cud), .int (nI rep), .int (nI flt), .int fp]) fsX2_takePitch_32 f14 rfl rfl (Nat.le_of_ble_eq_true rfl) rfl dX2_takePitch_53 ?_
      refine j_w (fun w18 hw18 => ?_)
      have f19 : w18 rd = some (.inr (2, [.ref to, .ref sc, .int (nI 512), .int (nI mr), .int (nI cu), .int (zb mkd), .int (zb cud), .int (nI rep), .int (nI flt), .int fp])) := up_at hw18
      have f20 := up_ne hw18 (fk f15 f14 rfl) f15
      have f21 := up_ne hw18 (fk f16 f14 rfl) f16
      have f22 := up_ne hw18 (fk f17 f14 rfl) f17
      exact j_vret rfl ⟨rfl, by rw [if_pos hz, if_pos (Decidable.not_not.mp (of_decide_eq_false (zb_0 (ex5 ▸ c41))))]; exact wR_eq (np := np + 1) (oc := oc) (((Fr.refl : Fr [rd, sc, fa] w w).trans (Fr.up h13 (by simp))).trans (Fr.up hw18 (by simp))) f21 f20 f19⟩ (show 0 ≤ 0 by omega) (show 0 ≤ 0 by omega) dX2_takePitch_56
    · skip
      refine j_sipush (v := nI 256) dX2_takePitch_44 (by decide) ?_
      refine j_goto 53 dX2_takePitch_47 (by decide) ?_
      refine j_put (fs9 := [.ref to, .ref sc, .int (nI 256), .int (nI mr), .int (nI cu), .int (zb mkd), .int (zb cud), .int (nI rep), .int (nI flt), .int fp]) fsX2_takePitch_32 f14 rfl rfl (Nat.le_of_ble_eq_true rfl) rfl dX2_takePitch_53 ?_
      refine j_w (fun w23 hw23 => ?_)
      have f24 : w23 rd = some (.inr (2, [.ref to, .ref sc, .int (nI 256), .int (nI mr), .int (nI cu), .int (zb mkd), .int (zb cud), .int (nI rep), .int (nI flt), .int fp])) := up_at hw23
      have f25 := up_ne hw23 (fk f15 f14 rfl) f15
      have f26 := up_ne hw23 (fk f16 f14 rfl) f16
      have f27 := up_ne hw23 (fk f17 f14 rfl) f17
      exact j_vret rfl ⟨rfl, by rw [if_pos hz, if_neg (of_decide_eq_true (zb_n' (ex5 ▸ c41)))]; exact wR_eq (np := np + 1) (oc := oc) (((Fr.refl : Fr [rd, sc, fa] w w).trans (Fr.up h13 (by simp))).trans (Fr.up hw23 (by simp))) f26 f25 f24⟩ (show 0 ≤ 0 by omega) (show 0 ≤ 0 by omega) dX2_takePitch_56
  · skip
    have hz := of_decide_eq_true (zb_n' c14)
    have hev9 := hev0 hz
    refine j_aload_n dX2_takePitch_17 1 rfl ?_
    refine j_iconst (v := nI 0) dX2_takePitch_18 (by decide) ?_
    refine j_sipush (v := nI 512) dX2_takePitch_19 (by decide) ?_
    refine j_callV (rm := rX2_openEvent) (As := [.int (nI 0), .int (nI 512)]) (st := []) (b0 := rd) (ci := 2) (na := 2) (c_openEventR (np := np) (oc := oc) (k := 0) (b := 512) hrd hsc hfa hto (by omega) hRI (by omega)) (by intro E w9 h9; first | exact nomatch h9.1 | (obtain ⟨_, h9, _⟩ := h9; exact nomatch h9) | (obtain ⟨_, _, _, h9, _⟩ := h9; exact nomatch h9)) gX2_takePitch_X2_openEvent rfl rfl hrd (by decide +kernel) rfl ⟨Nat.le_of_ble_eq_true rfl, Nat.le_of_ble_eq_true rfl⟩ rfl (Nat.le_of_ble_eq_true rfl) dX2_takePitch_22 ⟨(show 0 + 0 ≤ 0 by omega), (show 0 + 0 ≤ 0 by omega)⟩ (fun v28 w29 h30 => ?_)
    obtain ⟨h30, h31⟩ := h30
    cases h30
    -- w29
    refine j_after (st' := []) (k' := 0) (n' := 0) rfl rfl rfl ?_
    have f32 : w29 rd = some (.inr (2, [.ref to, .ref sc, .int (nI 512), .int (nI mr), .int (nI cu), .int (zb false), .int (zb false), .int (nI rep), .int (nI flt), .int fp])) := by rw [h31]; exact va_up_self _ _ _
    have f33 : w29 sc = some (.inr (3, [.ref fa, .int (nI ev), .int (nI be), .int (nI cq), .int (nI st), .int (nI me), .int (nI pa)])) := by rw [h31]; exact (va_up_ne _ _ (fk hsc hrd rfl)).trans (va_up_self _ _ _)
    have f34 : w29 fa = some (.inl (0, 1400, .inl (opF f ev 0 be me pa st (zb mkd) (zb cud)))) := by rw [h31]; exact (va_up_ne _ _ (fk hfa hrd rfl)).trans ((va_up_ne _ _ (fk hfa hsc rfl)).trans (va_up_self _ _ _))
    have f35 : w29 to = some (.inr (4, [.ref tx, .int (nI ln), .int (nI nx), .int (nI kd), .int (nI sa), .int va])) := by rw [h31]; exact (va_up_ne _ _ (fk hto hrd rfl)).trans ((va_up_ne _ _ (fk hto hsc rfl)).trans ((va_up_ne _ _ (fk hto hfa rfl)).trans (hto)))
    refine j_aload_n dX2_takePitch_25 1 rfl ?_
    refine j_get flX2_takePitch_21 f32 rfl dX2_takePitch_26 ?_
    refine j_aload_n dX2_takePitch_29 1 rfl ?_
    refine j_get flX2_takePitch_14 f32 rfl dX2_takePitch_30 ?_
    refine j_get flX2_takePitch_86 f35 rfl dX2_takePitch_33 ?_
    refine j_callV (rm := rX3_addPitch) (As := [.int va]) (st := []) (b0 := sc) (ci := 3) (na := 1) (c_addPitch (np := 0) (p := va) f33 f34 (by omega) (by omega) (opF_1 f)) (by intro E w9 h9; first | exact nomatch h9.1 | (obtain ⟨_, h9, _⟩ := h9; exact nomatch h9) | (obtain ⟨_, _, _, h9, _⟩ := h9; exact nomatch h9)) gX2_takePitch_X3_addPitch rfl rfl f33 (by decide +kernel) rfl ⟨Nat.le_of_ble_eq_true rfl, Nat.le_of_ble_eq_true rfl⟩ rfl (Nat.le_of_ble_eq_true rfl) dX2_takePitch_36 ⟨(show 0 + 0 ≤ 0 by omega), (show 0 + 0 ≤ 0 by omega)⟩ (fun v36 w37 h38 => ?_)
    obtain ⟨h38, h39⟩ := h38
    cases h38
    -- w37
    refine j_after (st' := []) (k' := 0) (n' := 0) rfl rfl rfl ?_
    have f40 : w37 rd = some (.inr (2, [.ref to, .ref sc, .int (nI 512), .int (nI mr), .int (nI cu), .int (zb false), .int (zb false), .int (nI rep), .int (nI flt), .int fp])) := by rw [h39]; exact (va_up_ne _ _ (fk f32 f34 rfl)).trans (f32)
    have f41 : w37 sc = some (.inr (3, [.ref fa, .int (nI ev), .int (nI be), .int (nI cq), .int (nI st), .int (nI me), .int (nI pa)])) := by rw [h39]; exact (va_up_ne _ _ (fk f33 f34 rfl)).trans (f33)
    have f42 : w37 fa = some (.inl (0, 1400, .inl (adF (opF f ev 0 be me pa st (zb mkd) (zb cud)) ev 0 va))) := by rw [h39]; exact va_up_self _ _ _
    have f43 : w37 to = some (.inr (4, [.ref tx, .int (nI ln), .int (nI nx), .int (nI kd), .int (nI sa), .int va])) := by rw [h39]; exact (va_up_ne _ _ (fk f35 f34 rfl)).trans (f35)
    refine j_aload_n dX2_takePitch_39 1 rfl ?_
    refine j_iload_n dX2_takePitch_40 0 rfl ?_
    refine j_if_eq 50 dX2_takePitch_41 (by decide) (fun c41 => ?_) (fun c41 => ?_)
    · skip
      refine j_sipush (v := nI 512) dX2_takePitch_50 (by decide) ?_
      refine j_put (fs9 := [.ref to, .ref sc, .int (nI 512), .int (nI mr), .int (nI cu), .int (zb false), .int (zb false), .int (nI rep), .int (nI flt), .int fp]) fsX2_takePitch_32 f40 rfl rfl (Nat.le_of_ble_eq_true rfl) rfl dX2_takePitch_53 ?_
      refine j_w (fun w44 hw44 => ?_)
      have f45 : w44 rd = some (.inr (2, [.ref to, .ref sc, .int (nI 512), .int (nI mr), .int (nI cu), .int (zb false), .int (zb false), .int (nI rep), .int (nI flt), .int fp])) := up_at hw44
      have f46 := up_ne hw44 (fk f41 f40 rfl) f41
      have f47 := up_ne hw44 (fk f42 f40 rfl) f42
      have f48 := up_ne hw44 (fk f43 f40 rfl) f43
      exact j_vret rfl ⟨rfl, by rw [if_neg hz, if_pos (Decidable.not_not.mp (of_decide_eq_false (zb_0 (ex5 ▸ c41))))]; exact wR_eq (np := 0 + 1) (oc := (if cud then 1 else 0)) ((((Fr.refl : Fr [rd, sc, fa] w w).trans ((FrW h31).mono (by simp))).trans (Fr.up h39 (by simp))).trans (Fr.up hw44 (by simp))) f47 f46 f45⟩ (show 0 ≤ 0 by omega) (show 0 ≤ 0 by omega) dX2_takePitch_56
    · skip
      refine j_sipush (v := nI 256) dX2_takePitch_44 (by decide) ?_
      refine j_goto 53 dX2_takePitch_47 (by decide) ?_
      refine j_put (fs9 := [.ref to, .ref sc, .int (nI 256), .int (nI mr), .int (nI cu), .int (zb false), .int (zb false), .int (nI rep), .int (nI flt), .int fp]) fsX2_takePitch_32 f40 rfl rfl (Nat.le_of_ble_eq_true rfl) rfl dX2_takePitch_53 ?_
      refine j_w (fun w49 hw49 => ?_)
      have f50 : w49 rd = some (.inr (2, [.ref to, .ref sc, .int (nI 256), .int (nI mr), .int (nI cu), .int (zb false), .int (zb false), .int (nI rep), .int (nI flt), .int fp])) := up_at hw49
      have f51 := up_ne hw49 (fk f41 f40 rfl) f41
      have f52 := up_ne hw49 (fk f42 f40 rfl) f42
      have f53 := up_ne hw49 (fk f43 f40 rfl) f43
      exact j_vret rfl ⟨rfl, by rw [if_neg hz, if_neg (of_decide_eq_true (zb_n' (ex5 ▸ c41)))]; exact wR_eq (np := 0 + 1) (oc := (if cud then 1 else 0)) ((((Fr.refl : Fr [rd, sc, fa] w w).trans ((FrW h31).mono (by simp))).trans (Fr.up h39 (by simp))).trans (Fr.up hw49 (by simp))) f52 f51 f50⟩ (show 0 ≤ 0 by omega) (show 0 ≤ 0 by omega) dX2_takePitch_56
abbrev rX2_takeBarOrPage : Room := { frames := 2, cells := 0, slots := 0, locals := 44 }
theorem flX2_takeBarOrPage_14 : FL wsX2_takeBarOrPage RX2 14 2 0 := ⟨RX2, TX2, 10, rfl, by decide, by decide +kernel, by decide +kernel⟩
theorem flX2_takeBarOrPage_62 : FL wsX2_takeBarOrPage RX2 62 4 3 := ⟨RX4, TX4, 6, rfl, by decide, by decide +kernel, by decide +kernel⟩
theorem flX2_takeBarOrPage_21 : FL wsX2_takeBarOrPage RX2 21 2 1 := ⟨RX2, TX2, 10, rfl, by decide, by decide +kernel, by decide +kernel⟩
theorem flX2_takeBarOrPage_124 : FL wsX2_takeBarOrPage RX2 124 3 1 := ⟨RX3, TX3, 7, rfl, by decide, by decide +kernel, by decide +kernel⟩
theorem fsX2_takeBarOrPage_48 : FS wsX2_takeBarOrPage RX2 48 2 7 false (.int) := ⟨RX2, TX2, 10, tyX2, rfl, by decide, by decide +kernel, by decide +kernel, tyX2_ok, nmX2, rfl, rfl, rfl⟩
theorem fsX2_takeBarOrPage_32 : FS wsX2_takeBarOrPage RX2 32 2 2 false (.int) := ⟨RX2, TX2, 10, tyX2, rfl, by decide, by decide +kernel, by decide +kernel, tyX2_ok, nmX2, rfl, rfl, rfl⟩
theorem flX2_takeBarOrPage_48 : FL wsX2_takeBarOrPage RX2 48 2 7 := ⟨RX2, TX2, 10, rfl, by decide, by decide +kernel, by decide +kernel⟩
set_option maxHeartbeats 4000000 in
set_option maxRecDepth 100000 in
theorem c_takeBarOrPage {w : pW} {rd to sc fa tx ln nx kd sa sd mr cu rep np oc ev be cq st me pa flt : Nat} {mkd cud : Bool} {fp va : Int32} {f : Nat → Int32} (hrd : w rd = some (.inr (2, [.ref to, .ref sc, .int (nI sd), .int (nI mr), .int (nI cu), .int (zb mkd), .int (zb cud), .int (nI rep), .int (nI flt), .int fp]))) (hsc : w sc = some (.inr (3, [.ref fa, .int (nI ev), .int (nI be), .int (nI cq), .int (nI st), .int (nI me), .int (nI pa)]))) (hfa : w fa = some (.inl (0, 1400, .inl f))) (hto : w to = some (.inr (4, [.ref tx, .int (nI ln), .int (nI nx), .int (nI kd), .int (nI sa), .int va]))) (hkd : kd < 256) (hRI : RI (sd, mr, cu, mkd, cud, rep, np, oc, f, ev, be, cq, st, me, pa)) (h59 : kd = 5 → 1 ≤ ev) : Ct yX2_takeBarOrPage wsX2_takeBarOrPage rX2_takeBarOrPage [.ref rd] w (fun o w9 => o = .inl none ∧ w9 = wR w rd to sc fa flt fp (rBar kd (sd, mr, cu, mkd, cud, rep, np, oc, f, ev, be, cq, st, me, pa))) := by
  refine Ct.of (cc := cX2_takeBarOrPage) (own := RX2) (nm := "takeBarOrPage") (nL := 1) (ret := none) (by decide +kernel) rfl rfl rfl (Nat.le_of_ble_eq_true rfl) ?_
  refine j_lvE (lv' := [(0, .ref rd)]) rfl ?_
  obtain ⟨hsd, hev, hop, hs8, hmr, hcu, hrep⟩ := id hRI
  refine j_aload_n dX2_takeBarOrPage_0 0 rfl ?_
  refine j_get flX2_takeBarOrPage_14 hrd rfl dX2_takeBarOrPage_1 ?_
  refine j_get flX2_takeBarOrPage_62 hto rfl dX2_takeBarOrPage_4 ?_
  by_cases k4 : kd = 4
  · skip
    refine j_lookup 48 dX2_takeBarOrPage_7 (by decide) (show Op.lookupswitch.offset _ _ (nI kd).toInt = (41) by rw [k4]; decide) (by decide) ?_
    refine j_aload_n dX2_takeBarOrPage_48 0 rfl ?_
    refine j_aload_n dX2_takeBarOrPage_49 0 rfl ?_
    refine j_get flX2_takeBarOrPage_21 hrd rfl dX2_takeBarOrPage_50 ?_
    refine j_get flX2_takeBarOrPage_124 hsc rfl dX2_takeBarOrPage_53 ?_
    refine j_put (fs9 := [.ref to, .ref sc, .int (nI sd), .int (nI mr), .int (nI cu), .int (zb mkd), .int (zb cud), .int (nI ev), .int (nI flt), .int fp]) fsX2_takeBarOrPage_48 hrd rfl rfl (Nat.le_of_ble_eq_true rfl) rfl dX2_takeBarOrPage_56 ?_
    refine j_w (fun w1 hw1 => ?_)
    have f2 : w1 rd = some (.inr (2, [.ref to, .ref sc, .int (nI sd), .int (nI mr), .int (nI cu), .int (zb mkd), .int (zb cud), .int (nI ev), .int (nI flt), .int fp])) := up_at hw1
    have f3 := up_ne hw1 (fk hsc hrd rfl) hsc
    have f4 := up_ne hw1 (fk hfa hrd rfl) hfa
    have f5 := up_ne hw1 (fk hto hrd rfl) hto
    refine j_aload_n dX2_takeBarOrPage_59 0 rfl ?_
    refine j_iconst (v := nI 4) dX2_takeBarOrPage_60 (by decide) ?_
    refine j_put (fs9 := [.ref to, .ref sc, .int (nI 4), .int (nI mr), .int (nI cu), .int (zb mkd), .int (zb cud), .int (nI ev), .int (nI flt), .int fp]) fsX2_takeBarOrPage_32 f2 rfl rfl (Nat.le_of_ble_eq_true rfl) rfl dX2_takeBarOrPage_61 ?_
    refine j_w (fun w6 hw6 => ?_)
    have f7 : w6 rd = some (.inr (2, [.ref to, .ref sc, .int (nI 4), .int (nI mr), .int (nI cu), .int (zb mkd), .int (zb cud), .int (nI ev), .int (nI flt), .int fp])) := up_at hw6
    have f8 := up_ne hw6 (fk f3 f2 rfl) f3
    have f9 := up_ne hw6 (fk f4 f2 rfl) f4
    have f10 := up_ne hw6 (fk f5 f2 rfl) f5
    exact j_vret rfl ⟨rfl, by subst k4; exact wR_eq (np := np) (oc := oc) (((Fr.refl : Fr [rd, sc, fa] w w).trans (Fr.up hw1 (by simp))).trans (Fr.up hw6 (by simp))) f9 f8 f7⟩ (show 0 ≤ 0 by omega) (show 0 ≤ 0 by omega) dX2_takeBarOrPage_64
  by_cases k5 : kd = 5
  · skip
    refine j_lookup 65 dX2_takeBarOrPage_7 (by decide) (show Op.lookupswitch.offset _ _ (nI kd).toInt = (58) by rw [k5]; decide) (by decide) ?_
    refine j_aload_n dX2_takeBarOrPage_65 0 rfl ?_
    refine j_get flX2_takeBarOrPage_21 hrd rfl dX2_takeBarOrPage_66 ?_
    refine j_aload_n dX2_takeBarOrPage_69 0 rfl ?_
    refine j_get flX2_takeBarOrPage_48 hrd rfl dX2_takeBarOrPage_70 ?_
    have h1ev := h59 k5
    refine j_callV (rm := rX3_repeatFrom) (As := [.int (nI rep)]) (st := []) (b0 := sc) (ci := 3) (na := 1) (c_repeatFrom (v := nI rep) hsc hfa (by omega) (by omega)) (by intro E w9 h9; first | exact nomatch h9.1 | (obtain ⟨_, h9, _⟩ := h9; exact nomatch h9) | (obtain ⟨_, _, _, h9, _⟩ := h9; exact nomatch h9)) gX2_takeBarOrPage_X3_repeatFrom rfl rfl hsc (by decide +kernel) rfl ⟨Nat.le_of_ble_eq_true rfl, Nat.le_of_ble_eq_true rfl⟩ rfl (Nat.le_of_ble_eq_true rfl) dX2_takeBarOrPage_73 ⟨(show 0 + 0 ≤ 0 by omega), (show 0 + 0 ≤ 0 by omega)⟩ (fun v11 w12 h13 => ?_)
    obtain ⟨h13, h14⟩ := h13
    cases h13
    -- w12
    refine j_after (st' := []) (k' := 0) (n' := 0) rfl rfl rfl ?_
    have f15 : w12 rd = some (.inr (2, [.ref to, .ref sc, .int (nI sd), .int (nI mr), .int (nI cu), .int (zb mkd), .int (zb cud), .int (nI rep), .int (nI flt), .int fp])) := by rw [h14]; exact (va_up_ne _ _ (fk hrd hfa rfl)).trans (hrd)
    have f16 : w12 sc = some (.inr (3, [.ref fa, .int (nI ev), .int (nI be), .int (nI cq), .int (nI st), .int (nI me), .int (nI pa)])) := by rw [h14]; exact (va_up_ne _ _ (fk hsc hfa rfl)).trans (hsc)
    have f17 : w12 fa = some (.inl (0, 1400, .inl (upd f ((ev - 1) * 14 + 8) (nI rep)))) := by rw [h14]; exact va_up_self _ _ _
    have f18 : w12 to = some (.inr (4, [.ref tx, .int (nI ln), .int (nI nx), .int (nI kd), .int (nI sa), .int va])) := by rw [h14]; exact (va_up_ne _ _ (fk hto hfa rfl)).trans (hto)
    refine j_aload_n dX2_takeBarOrPage_76 0 rfl ?_
    refine j_get flX2_takeBarOrPage_21 f15 rfl dX2_takeBarOrPage_77 ?_
    refine j_callV (rm := rX3_endMeasure) (As := []) (st := []) (b0 := sc) (ci := 3) (na := 0) (c_endMeasure f16 f17) (by intro E w9 h9; first | exact nomatch h9.1 | (obtain ⟨_, h9, _⟩ := h9; exact nomatch h9) | (obtain ⟨_, _, _, h9, _⟩ := h9; exact nomatch h9)) gX2_takeBarOrPage_X3_endMeasure rfl rfl f16 (by decide +kernel) rfl ⟨Nat.le_of_ble_eq_true rfl, Nat.le_of_ble_eq_true rfl⟩ rfl (Nat.le_of_ble_eq_true rfl) dX2_takeBarOrPage_80 ⟨(show 0 + 0 ≤ 0 by omega), (show 0 + 0 ≤ 0 by omega)⟩ (fun v19 w20 h21 => ?_)
    obtain ⟨h21, h22⟩ := h21
    cases h21
    -- w20
    refine j_after (st' := []) (k' := 0) (n' := 0) rfl rfl rfl ?_
    have f23 : w20 rd = some (.inr (2, [.ref to, .ref sc, .int (nI sd), .int (nI mr), .int (nI cu), .int (zb mkd), .int (zb cud), .int (nI rep), .int (nI flt), .int fp])) := by rw [h22]; exact (va_up_ne _ _ (fk f15 f16 rfl)).trans (f15)
    have f24 : w20 sc = some (.inr (3, [.ref fa, .int (nI ev), .int (nI be), .int (nI cq), .int (nI st), .int (nI (me + 1)), .int (nI pa)])) := by rw [h22]; exact va_up_self _ _ _
    have f25 : w20 fa = some (.inl (0, 1400, .inl (upd f ((ev - 1) * 14 + 8) (nI rep)))) := by rw [h22]; exact (va_up_ne _ _ (fk f17 f16 rfl)).trans (f17)
    have f26 : w20 to = some (.inr (4, [.ref tx, .int (nI ln), .int (nI nx), .int (nI kd), .int (nI sa), .int va])) := by rw [h22]; exact (va_up_ne _ _ (fk f18 f16 rfl)).trans (f18)
    refine j_aload_n dX2_takeBarOrPage_83 0 rfl ?_
    refine j_aload_n dX2_takeBarOrPage_84 0 rfl ?_
    refine j_get flX2_takeBarOrPage_21 f23 rfl dX2_takeBarOrPage_85 ?_
    refine j_get flX2_takeBarOrPage_124 f24 rfl dX2_takeBarOrPage_88 ?_
    refine j_put (fs9 := [.ref to, .ref sc, .int (nI sd), .int (nI mr), .int (nI cu), .int (zb mkd), .int (zb cud), .int (nI ev), .int (nI flt), .int fp]) fsX2_takeBarOrPage_48 f23 rfl rfl (Nat.le_of_ble_eq_true rfl) rfl dX2_takeBarOrPage_91 ?_
    refine j_w (fun w27 hw27 => ?_)
    have f28 : w27 rd = some (.inr (2, [.ref to, .ref sc, .int (nI sd), .int (nI mr), .int (nI cu), .int (zb mkd), .int (zb cud), .int (nI ev), .int (nI flt), .int fp])) := up_at hw27
    have f29 := up_ne hw27 (fk f24 f23 rfl) f24
    have f30 := up_ne hw27 (fk f25 f23 rfl) f25
    have f31 := up_ne hw27 (fk f26 f23 rfl) f26
    refine j_aload_n dX2_takeBarOrPage_94 0 rfl ?_
    refine j_iconst (v := nI 2) dX2_takeBarOrPage_95 (by decide) ?_
    refine j_put (fs9 := [.ref to, .ref sc, .int (nI 2), .int (nI mr), .int (nI cu), .int (zb mkd), .int (zb cud), .int (nI ev), .int (nI flt), .int fp]) fsX2_takeBarOrPage_32 f28 rfl rfl (Nat.le_of_ble_eq_true rfl) rfl dX2_takeBarOrPage_96 ?_
    refine j_w (fun w32 hw32 => ?_)
    have f33 : w32 rd = some (.inr (2, [.ref to, .ref sc, .int (nI 2), .int (nI mr), .int (nI cu), .int (zb mkd), .int (zb cud), .int (nI ev), .int (nI flt), .int fp])) := up_at hw32
    have f34 := up_ne hw32 (fk f29 f28 rfl) f29
    have f35 := up_ne hw32 (fk f30 f28 rfl) f30
    have f36 := up_ne hw32 (fk f31 f28 rfl) f31
    exact j_vret rfl ⟨rfl, by subst k5; exact wR_eq (np := np) (oc := oc) (((((Fr.refl : Fr [rd, sc, fa] w w).trans (Fr.up h14 (by simp))).trans (Fr.up h22 (by simp))).trans (Fr.up hw27 (by simp))).trans (Fr.up hw32 (by simp))) f35 f34 f33⟩ (show 0 ≤ 0 by omega) (show 0 ≤ 0 by omega) dX2_takeBarOrPage_99
  by_cases k37 : kd = 37
  · skip
    refine j_lookup 113 dX2_takeBarOrPage_7 (by decide) (show Op.lookupswitch.offset _ _ (nI kd).toInt = (106) by rw [k37]; decide) (by decide) ?_
    refine j_aload_n dX2_takeBarOrPage_113 0 rfl ?_
    refine j_get flX2_takeBarOrPage_21 hrd rfl dX2_takeBarOrPage_114 ?_
    refine j_callV (rm := rX3_endPage) (As := []) (st := []) (b0 := sc) (ci := 3) (na := 0) (c_endPage hsc hfa) (by intro E w9 h9; first | exact nomatch h9.1 | (obtain ⟨_, h9, _⟩ := h9; exact nomatch h9) | (obtain ⟨_, _, _, h9, _⟩ := h9; exact nomatch h9)) gX2_takeBarOrPage_X3_endPage rfl rfl hsc (by decide +kernel) rfl ⟨Nat.le_of_ble_eq_true rfl, Nat.le_of_ble_eq_true rfl⟩ rfl (Nat.le_of_ble_eq_true rfl) dX2_takeBarOrPage_117 ⟨(show 0 + 0 ≤ 0 by omega), (show 0 + 0 ≤ 0 by omega)⟩ (fun v37 w38 h39 => ?_)
    obtain ⟨h39, h40⟩ := h39
    cases h39
    -- w38
    refine j_after (st' := []) (k' := 0) (n' := 0) rfl rfl rfl ?_
    have f41 : w38 rd = some (.inr (2, [.ref to, .ref sc, .int (nI sd), .int (nI mr), .int (nI cu), .int (zb mkd), .int (zb cud), .int (nI rep), .int (nI flt), .int fp])) := by rw [h40]; exact (va_up_ne _ _ (fk hrd hsc rfl)).trans (hrd)
    have f42 : w38 sc = some (.inr (3, [.ref fa, .int (nI ev), .int (nI be), .int (nI cq), .int (nI st), .int (nI me), .int (nI (pa + 1))])) := by rw [h40]; exact va_up_self _ _ _
    have f43 : w38 fa = some (.inl (0, 1400, .inl f)) := by rw [h40]; exact (va_up_ne _ _ (fk hfa hsc rfl)).trans (hfa)
    have f44 : w38 to = some (.inr (4, [.ref tx, .int (nI ln), .int (nI nx), .int (nI kd), .int (nI sa), .int va])) := by rw [h40]; exact (va_up_ne _ _ (fk hto hsc rfl)).trans (hto)
    refine j_aload_n dX2_takeBarOrPage_120 0 rfl ?_
    refine j_iconst (v := nI 1) dX2_takeBarOrPage_121 (by decide) ?_
    refine j_put (fs9 := [.ref to, .ref sc, .int (nI 1), .int (nI mr), .int (nI cu), .int (zb mkd), .int (zb cud), .int (nI rep), .int (nI flt), .int fp]) fsX2_takeBarOrPage_32 f41 rfl rfl (Nat.le_of_ble_eq_true rfl) rfl dX2_takeBarOrPage_122 ?_
    refine j_w (fun w45 hw45 => ?_)
    have f46 : w45 rd = some (.inr (2, [.ref to, .ref sc, .int (nI 1), .int (nI mr), .int (nI cu), .int (zb mkd), .int (zb cud), .int (nI rep), .int (nI flt), .int fp])) := up_at hw45
    have f47 := up_ne hw45 (fk f42 f41 rfl) f42
    have f48 := up_ne hw45 (fk f43 f41 rfl) f43
    have f49 := up_ne hw45 (fk f44 f41 rfl) f44
    exact j_vret rfl ⟨rfl, by subst k37; exact wR_eq (np := np) (oc := oc) (((Fr.refl : Fr [rd, sc, fa] w w).trans (Fr.up h40 (by simp))).trans (Fr.up hw45 (by simp))) f48 f47 f46⟩ (show 0 ≤ 0 by omega) (show 0 ≤ 0 by omega) dX2_takeBarOrPage_125
  by_cases k124 : kd = 124
  · skip
    refine j_lookup 100 dX2_takeBarOrPage_7 (by decide) (show Op.lookupswitch.offset _ _ (nI kd).toInt = (93) by rw [k124]; decide) (by decide) ?_
    refine j_aload_n dX2_takeBarOrPage_100 0 rfl ?_
    refine j_get flX2_takeBarOrPage_21 hrd rfl dX2_takeBarOrPage_101 ?_
    refine j_callV (rm := rX3_endMeasure) (As := []) (st := []) (b0 := sc) (ci := 3) (na := 0) (c_endMeasure hsc hfa) (by intro E w9 h9; first | exact nomatch h9.1 | (obtain ⟨_, h9, _⟩ := h9; exact nomatch h9) | (obtain ⟨_, _, _, h9, _⟩ := h9; exact nomatch h9)) gX2_takeBarOrPage_X3_endMeasure rfl rfl hsc (by decide +kernel) rfl ⟨Nat.le_of_ble_eq_true rfl, Nat.le_of_ble_eq_true rfl⟩ rfl (Nat.le_of_ble_eq_true rfl) dX2_takeBarOrPage_104 ⟨(show 0 + 0 ≤ 0 by omega), (show 0 + 0 ≤ 0 by omega)⟩ (fun v50 w51 h52 => ?_)
    obtain ⟨h52, h53⟩ := h52
    cases h52
    -- w51
    refine j_after (st' := []) (k' := 0) (n' := 0) rfl rfl rfl ?_
    have f54 : w51 rd = some (.inr (2, [.ref to, .ref sc, .int (nI sd), .int (nI mr), .int (nI cu), .int (zb mkd), .int (zb cud), .int (nI rep), .int (nI flt), .int fp])) := by rw [h53]; exact (va_up_ne _ _ (fk hrd hsc rfl)).trans (hrd)
    have f55 : w51 sc = some (.inr (3, [.ref fa, .int (nI ev), .int (nI be), .int (nI cq), .int (nI st), .int (nI (me + 1)), .int (nI pa)])) := by rw [h53]; exact va_up_self _ _ _
    have f56 : w51 fa = some (.inl (0, 1400, .inl f)) := by rw [h53]; exact (va_up_ne _ _ (fk hfa hsc rfl)).trans (hfa)
    have f57 : w51 to = some (.inr (4, [.ref tx, .int (nI ln), .int (nI nx), .int (nI kd), .int (nI sa), .int va])) := by rw [h53]; exact (va_up_ne _ _ (fk hto hsc rfl)).trans (hto)
    refine j_aload_n dX2_takeBarOrPage_107 0 rfl ?_
    refine j_iconst (v := nI 2) dX2_takeBarOrPage_108 (by decide) ?_
    refine j_put (fs9 := [.ref to, .ref sc, .int (nI 2), .int (nI mr), .int (nI cu), .int (zb mkd), .int (zb cud), .int (nI rep), .int (nI flt), .int fp]) fsX2_takeBarOrPage_32 f54 rfl rfl (Nat.le_of_ble_eq_true rfl) rfl dX2_takeBarOrPage_109 ?_
    refine j_w (fun w58 hw58 => ?_)
    have f59 : w58 rd = some (.inr (2, [.ref to, .ref sc, .int (nI 2), .int (nI mr), .int (nI cu), .int (zb mkd), .int (zb cud), .int (nI rep), .int (nI flt), .int fp])) := up_at hw58
    have f60 := up_ne hw58 (fk f55 f54 rfl) f55
    have f61 := up_ne hw58 (fk f56 f54 rfl) f56
    have f62 := up_ne hw58 (fk f57 f54 rfl) f57
    exact j_vret rfl ⟨rfl, by subst k124; exact wR_eq (np := np) (oc := oc) (((Fr.refl : Fr [rd, sc, fa] w w).trans (Fr.up h53 (by simp))).trans (Fr.up hw58 (by simp))) f61 f60 f59⟩ (show 0 ≤ 0 by omega) (show 0 ≤ 0 by omega) dX2_takeBarOrPage_112
  refine j_lookup 126 dX2_takeBarOrPage_7 (by decide) (lkD (kd := kd) (by omega) (by simp; omega)) (by decide) ?_
  exact j_vret rfl ⟨rfl, by simp only [rBar, k4, k5, k37, k124, if_false]; exact wR_eq (np := np) (oc := oc) (Fr.refl : Fr [rd, sc, fa] w w) hfa hsc hrd⟩ (show 0 ≤ 0 by omega) (show 0 ≤ 0 by omega) dX2_takeBarOrPage_126
abbrev rX2_takeToken : Room := { frames := 4, cells := 0, slots := 0, locals := 89 }
theorem sd8 {sd : Nat} (h : sd = 1 ∨ sd = 2 ∨ sd = 4 ∨ sd = 8 ∨ sd = 16 ∨ sd = 32 ∨ sd = 64 ∨ sd = 128 ∨ sd = 256 ∨ sd = 512 ∨ sd = 1024) (h1 : sd &&& stA 5 ≠ 0) : sd = 8 := by
  rcases h with rfl | rfl | rfl | rfl | rfl | rfl | rfl | rfl | rfl | rfl | rfl <;> first | rfl | exact absurd (by decide) h1
theorem sd1024 {sd : Nat} (h : sd = 1 ∨ sd = 2 ∨ sd = 4 ∨ sd = 8 ∨ sd = 16 ∨ sd = 32 ∨ sd = 64 ∨ sd = 128 ∨ sd = 256 ∨ sd = 512 ∨ sd = 1024) (h1 : sd &&& stA 3 ≠ 0) : sd = 1024 := by
  rcases h with rfl | rfl | rfl | rfl | rfl | rfl | rfl | rfl | rfl | rfl | rfl <;> first | rfl | exact absurd (by decide) h1
theorem rF0 {kd : Nat} {va : Int32} {s : RSt} (h : rFault kd va s = 0) : s.1 &&& stA kd ≠ 0 ∧ tooM kd va s = false := by
  unfold rFault at h
  split at h
  · cases h
  · rename_i h1
    split at h
    · cases h
    · rename_i h2
      exact ⟨h1, by simpa using h2⟩
theorem tooM_a {kd sd mr cu rep np oc ev be cq st me pa : Nat} {mkd cud : Bool} {va : Int32} {f : Nat → Int32} (h : tooM kd va (sd, mr, cu, mkd, cud, rep, np, oc, f, ev, be, cq, st, me, pa) = false) (hk : kd = 2) (hq : sd &&& 63 ≠ 0) : ev < 100 := by
  subst hk
  have h1 : (if sd &&& 63 = 0 then decide (4 ≤ np) else decide (100 ≤ ev)) = false := h
  rw [if_neg hq] at h1
  exact Nat.not_le.mp (of_decide_eq_false h1)
theorem tooM_b {kd sd mr cu rep np oc ev be cq st me pa : Nat} {mkd cud : Bool} {va : Int32} {f : Nat → Int32} (h : tooM kd va (sd, mr, cu, mkd, cud, rep, np, oc, f, ev, be, cq, st, me, pa) = false) (hk : kd = 2) (hq : sd &&& 63 = 0) : np < 4 := by
  subst hk
  have h1 : (if sd &&& 63 = 0 then decide (4 ≤ np) else decide (100 ≤ ev)) = false := h
  rw [if_pos hq] at h1
  exact Nat.not_le.mp (of_decide_eq_false h1)
theorem tooM_c {kd sd mr cu rep np oc ev be cq st me pa : Nat} {mkd cud : Bool} {va : Int32} {f : Nat → Int32} (h : tooM kd va (sd, mr, cu, mkd, cud, rep, np, oc, f, ev, be, cq, st, me, pa) = false) (hk : kd = 40 ∨ kd = 114 ∨ kd = 126) : ev < 100 := by
  rcases hk with rfl | rfl | rfl <;> exact Nat.not_le.mp (of_decide_eq_false h)
theorem flX2_takeToken_14 : FL wsX2_takeToken RX2 14 2 0 := ⟨RX2, TX2, 10, rfl, by decide, by decide +kernel, by decide +kernel⟩
theorem flX2_takeToken_62 : FL wsX2_takeToken RX2 62 4 3 := ⟨RX4, TX4, 6, rfl, by decide, by decide +kernel, by decide +kernel⟩
theorem flX2_takeToken_21 : FL wsX2_takeToken RX2 21 2 1 := ⟨RX2, TX2, 10, rfl, by decide, by decide +kernel, by decide +kernel⟩
theorem flX2_takeToken_86 : FL wsX2_takeToken RX2 86 4 5 := ⟨RX4, TX4, 6, rfl, by decide, by decide +kernel, by decide +kernel⟩
theorem fsX2_takeToken_32 : FS wsX2_takeToken RX2 32 2 2 false (.int) := ⟨RX2, TX2, 10, tyX2, rfl, by decide, by decide +kernel, by decide +kernel, tyX2_ok, nmX2, rfl, rfl, rfl⟩
set_option maxHeartbeats 4000000 in
set_option maxRecDepth 100000 in
theorem c_takeToken {w : pW} {rd to sc fa tx ln nx kd sa sd mr cu rep np oc ev be cq st me pa flt : Nat} {mkd cud : Bool} {fp va : Int32} {f : Nat → Int32} (hrd : w rd = some (.inr (2, [.ref to, .ref sc, .int (nI sd), .int (nI mr), .int (nI cu), .int (zb mkd), .int (zb cud), .int (nI rep), .int (nI flt), .int fp]))) (hsc : w sc = some (.inr (3, [.ref fa, .int (nI ev), .int (nI be), .int (nI cq), .int (nI st), .int (nI me), .int (nI pa)]))) (hfa : w fa = some (.inl (0, 1400, .inl f))) (hto : w to = some (.inr (4, [.ref tx, .int (nI ln), .int (nI nx), .int (nI kd), .int (nI sa), .int va]))) (hkd : kd < 256) (hRI : RI (sd, mr, cu, mkd, cud, rep, np, oc, f, ev, be, cq, st, me, pa)) (hfl : rFault kd va (sd, mr, cu, mkd, cud, rep, np, oc, f, ev, be, cq, st, me, pa) = 0) (hva : kd = 3 → va = nI va.toNatClampNeg) : Ct yX2_takeToken wsX2_takeToken rX2_takeToken [.ref rd] w (fun o w9 => o = .inl none ∧ w9 = wR w rd to sc fa flt fp (rTake kd va (sd, mr, cu, mkd, cud, rep, np, oc, f, ev, be, cq, st, me, pa))) := by
  refine Ct.of (cc := cX2_takeToken) (own := RX2) (nm := "takeToken") (nL := 1) (ret := none) (by decide +kernel) rfl rfl rfl (Nat.le_of_ble_eq_true rfl) ?_
  refine j_lvE (lv' := [(0, .ref rd)]) rfl ?_
  obtain ⟨hsd, hev, hop, hs8, hmr, hcu, hrep⟩ := id hRI
  obtain ⟨hfit, hto9⟩ := rF0 hfl
  replace hfit : sd &&& stA kd ≠ 0 := hfit
  refine j_aload_n dX2_takeToken_0 0 rfl ?_
  refine j_get flX2_takeToken_14 hrd rfl dX2_takeToken_1 ?_
  refine j_get flX2_takeToken_62 hto rfl dX2_takeToken_4 ?_
  by_cases k2 : kd = 2
  · skip
    refine j_lookup 124 dX2_takeToken_7 (by decide) (show Op.lookupswitch.offset _ _ (nI kd).toInt = (117) by rw [k2]; decide) (by decide) ?_
    refine j_aload_n dX2_takeToken_124 0 rfl ?_
    have h9a : sd &&& 63 ≠ 0 → ev < 100 := fun q => tooM_a hto9 k2 q
    have h9b : sd &&& 63 = 0 → ev < 100 ∧ np < 4 ∧ f (ev * 14 + 1) = nI np := fun q => (fun z => ⟨z.1, tooM_b hto9 k2 q, z.2.2.1⟩) (hop (sd64 hsd q (k2 ▸ hfit)))
    refine j_callV (rm := rX2_takePitch) (As := []) (st := []) (b0 := rd) (ci := 2) (na := 0) (c_takePitchR (np := np) (oc := oc) hrd hsc hfa hto (by omega) hRI h9a h9b) (by intro E w9 h9; first | exact nomatch h9.1 | (obtain ⟨_, h9, _⟩ := h9; exact nomatch h9) | (obtain ⟨_, _, _, h9, _⟩ := h9; exact nomatch h9)) gX2_takeToken_X2_takePitch rfl rfl hrd (by decide +kernel) rfl ⟨Nat.le_of_ble_eq_true rfl, Nat.le_of_ble_eq_true rfl⟩ rfl (Nat.le_of_ble_eq_true rfl) dX2_takeToken_125 ⟨(show 0 + 0 ≤ 0 by omega), (show 0 + 0 ≤ 0 by omega)⟩ (fun v1 w2 h3 => ?_)
    obtain ⟨h3, hw9⟩ := h3
    cases h3
    refine j_after (st' := []) (k' := 0) (n' := 0) rfl rfl rfl ?_
    exact j_vret rfl ⟨rfl, by rw [hw9]; subst k2; rfl⟩ (show 0 ≤ 0 by omega) (show 0 ≤ 0 by omega) dX2_takeToken_128
  by_cases k3 : kd = 3
  · skip
    refine j_lookup 145 dX2_takeToken_7 (by decide) (show Op.lookupswitch.offset _ _ (nI kd).toInt = (138) by rw [k3]; decide) (by decide) ?_
    refine j_aload_n dX2_takeToken_145 0 rfl ?_
    refine j_get flX2_takeToken_21 hrd rfl dX2_takeToken_146 ?_
    have ho := hop (by have := sd1024 hsd (k3 ▸ hfit); omega)
    have ho4 := ho.2.1
    have ho1 := ho.1
    refine j_aload_n dX2_takeToken_149 0 rfl ?_
    refine j_get flX2_takeToken_14 hrd rfl dX2_takeToken_150 ?_
    refine j_get flX2_takeToken_86 hto rfl dX2_takeToken_153 ?_
    refine j_eqi (y := nI va.toNatClampNeg) (hva k3) ?_
    refine j_callV (rm := rX3_closeEvent) (As := [.int (nI va.toNatClampNeg)]) (st := []) (b0 := sc) (ci := 3) (na := 1) (c_closeEvent (nu := va.toNatClampNeg) (np := np) (cq := oc) hsc hfa (by omega) (by omega) ho.2.2.1 ho.2.2.2.1) (by intro E w9 h9; first | exact nomatch h9.1 | (obtain ⟨_, h9, _⟩ := h9; exact nomatch h9) | (obtain ⟨_, _, _, h9, _⟩ := h9; exact nomatch h9)) gX2_takeToken_X3_closeEvent rfl rfl hsc (by decide +kernel) rfl ⟨Nat.le_of_ble_eq_true rfl, Nat.le_of_ble_eq_true rfl⟩ rfl (Nat.le_of_ble_eq_true rfl) dX2_takeToken_156 ⟨(show 0 + 0 ≤ 0 by omega), (show 0 + 0 ≤ 0 by omega)⟩ (fun v4 w5 h6 => ?_)
    obtain ⟨h6, h7⟩ := h6
    cases h6
    -- w5
    refine j_after (st' := []) (k' := 0) (n' := 0) rfl rfl rfl ?_
    have f8 : w5 rd = some (.inr (2, [.ref to, .ref sc, .int (nI sd), .int (nI mr), .int (nI cu), .int (zb mkd), .int (zb cud), .int (nI rep), .int (nI flt), .int fp])) := by rw [h7]; exact (va_up_ne _ _ (fk hrd hsc rfl)).trans ((va_up_ne _ _ (fk hrd hfa rfl)).trans (hrd))
    have f9 : w5 sc = some (.inr (3, [.ref fa, .int (nI (ev + 1)), .int (nI (be + va.toNatClampNeg)), .int (nI (cq + oc)), .int (nI (st + (2 ^ np - 1 + 1))), .int (nI me), .int (nI pa)])) := by rw [h7]; exact va_up_self _ _ _
    have f10 : w5 fa = some (.inl (0, 1400, .inl (upd f (ev * 14 + 3) (nI va.toNatClampNeg)))) := by rw [h7]; exact (va_up_ne _ _ (fk hfa hsc rfl)).trans (va_up_self _ _ _)
    have f11 : w5 to = some (.inr (4, [.ref tx, .int (nI ln), .int (nI nx), .int (nI kd), .int (nI sa), .int va])) := by rw [h7]; exact (va_up_ne _ _ (fk hto hsc rfl)).trans ((va_up_ne _ _ (fk hto hfa rfl)).trans (hto))
    refine j_aload_n dX2_takeToken_159 0 rfl ?_
    refine j_bipush (v := nI 8) dX2_takeToken_160 (by decide) ?_
    refine j_put (fs9 := [.ref to, .ref sc, .int (nI 8), .int (nI mr), .int (nI cu), .int (zb mkd), .int (zb cud), .int (nI rep), .int (nI flt), .int fp]) fsX2_takeToken_32 f8 rfl rfl (Nat.le_of_ble_eq_true rfl) rfl dX2_takeToken_162 ?_
    refine j_w (fun w12 hw12 => ?_)
    have f13 : w12 rd = some (.inr (2, [.ref to, .ref sc, .int (nI 8), .int (nI mr), .int (nI cu), .int (zb mkd), .int (zb cud), .int (nI rep), .int (nI flt), .int fp])) := up_at hw12
    have f14 := up_ne hw12 (fk f9 f8 rfl) f9
    have f15 := up_ne hw12 (fk f10 f8 rfl) f10
    have f16 := up_ne hw12 (fk f11 f8 rfl) f11
    exact j_vret rfl ⟨rfl, by subst k3; exact wR_eq (np := np) (oc := oc) (((Fr.refl : Fr [rd, sc, fa] w w).trans (Fr.up2 h7 (by simp) (by simp))).trans (Fr.up hw12 (by simp))) f15 f14 f13⟩ (show 0 ≤ 0 by omega) (show 0 ≤ 0 by omega) dX2_takeToken_165
  by_cases k33 : kd = 33
  · skip
    refine j_lookup 93 dX2_takeToken_7 (by decide) (show Op.lookupswitch.offset _ _ (nI kd).toInt = (86) by rw [k33]; decide) (by decide) ?_
    refine j_aload_n dX2_takeToken_93 0 rfl ?_
    refine j_callV (rm := rX2_takeCue) (As := []) (st := []) (b0 := rd) (ci := 2) (na := 0) (c_takeCue (np := np) (oc := oc) hrd hsc hfa hto (by omega) hRI) (by intro E w9 h9; first | exact nomatch h9.1 | (obtain ⟨_, h9, _⟩ := h9; exact nomatch h9) | (obtain ⟨_, _, _, h9, _⟩ := h9; exact nomatch h9)) gX2_takeToken_X2_takeCue rfl rfl hrd (by decide +kernel) rfl ⟨Nat.le_of_ble_eq_true rfl, Nat.le_of_ble_eq_true rfl⟩ rfl (Nat.le_of_ble_eq_true rfl) dX2_takeToken_94 ⟨(show 0 + 0 ≤ 0 by omega), (show 0 + 0 ≤ 0 by omega)⟩ (fun v17 w18 h19 => ?_)
    obtain ⟨h19, h20⟩ := h19
    cases h19
    -- w18
    refine j_after (st' := []) (k' := 0) (n' := 0) rfl rfl rfl ?_
    have f21 : w18 rd = some (.inr (2, [.ref to, .ref sc, .int (nI 32), .int (nI mr), .int (nI (cu + 1)), .int (zb mkd), .int (zb true), .int (nI rep), .int (nI flt), .int fp])) := by rw [h20]; exact va_up_self _ _ _
    have f22 : w18 sc = some (.inr (3, [.ref fa, .int (nI ev), .int (nI be), .int (nI cq), .int (nI st), .int (nI me), .int (nI pa)])) := by rw [h20]; exact (va_up_ne _ _ (fk hsc hrd rfl)).trans (va_up_self _ _ _)
    have f23 : w18 fa = some (.inl (0, 1400, .inl f)) := by rw [h20]; exact (va_up_ne _ _ (fk hfa hrd rfl)).trans ((va_up_ne _ _ (fk hfa hsc rfl)).trans (va_up_self _ _ _))
    have f24 : w18 to = some (.inr (4, [.ref tx, .int (nI ln), .int (nI nx), .int (nI kd), .int (nI sa), .int va])) := by rw [h20]; exact (va_up_ne _ _ (fk hto hrd rfl)).trans ((va_up_ne _ _ (fk hto hsc rfl)).trans ((va_up_ne _ _ (fk hto hfa rfl)).trans (hto)))
    exact j_vret rfl ⟨rfl, by subst k33; exact wR_eq (np := np) (oc := oc) ((Fr.refl : Fr [rd, sc, fa] w w).trans ((FrW h20).mono (by simp))) f23 f22 f21⟩ (show 0 ≤ 0 by omega) (show 0 ≤ 0 by omega) dX2_takeToken_97
  by_cases k40 : kd = 40
  · skip
    refine j_lookup 98 dX2_takeToken_7 (by decide) (show Op.lookupswitch.offset _ _ (nI kd).toInt = (91) by rw [k40]; decide) (by decide) ?_
    have hev9 := tooM_c hto9 (by simp [k40])
    refine j_aload_n dX2_takeToken_98 0 rfl ?_
    refine j_iconst (v := nI 1) dX2_takeToken_99 (by decide) ?_
    refine j_sipush (v := nI 128) dX2_takeToken_100 (by decide) ?_
    refine j_callV (rm := rX2_openEvent) (As := [.int (nI 1), .int (nI 128)]) (st := []) (b0 := rd) (ci := 2) (na := 2) (c_openEventR (np := np) (oc := oc) (k := 1) (b := 128) hrd hsc hfa hto (by omega) hRI (by omega)) (by intro E w9 h9; first | exact nomatch h9.1 | (obtain ⟨_, h9, _⟩ := h9; exact nomatch h9) | (obtain ⟨_, _, _, h9, _⟩ := h9; exact nomatch h9)) gX2_takeToken_X2_openEvent rfl rfl hrd (by decide +kernel) rfl ⟨Nat.le_of_ble_eq_true rfl, Nat.le_of_ble_eq_true rfl⟩ rfl (Nat.le_of_ble_eq_true rfl) dX2_takeToken_103 ⟨(show 0 + 0 ≤ 0 by omega), (show 0 + 0 ≤ 0 by omega)⟩ (fun v25 w26 h27 => ?_)
    obtain ⟨h27, h28⟩ := h27
    cases h27
    -- w26
    refine j_after (st' := []) (k' := 0) (n' := 0) rfl rfl rfl ?_
    have f29 : w26 rd = some (.inr (2, [.ref to, .ref sc, .int (nI 128), .int (nI mr), .int (nI cu), .int (zb false), .int (zb false), .int (nI rep), .int (nI flt), .int fp])) := by rw [h28]; exact va_up_self _ _ _
    have f30 : w26 sc = some (.inr (3, [.ref fa, .int (nI ev), .int (nI be), .int (nI cq), .int (nI st), .int (nI me), .int (nI pa)])) := by rw [h28]; exact (va_up_ne _ _ (fk hsc hrd rfl)).trans (va_up_self _ _ _)
    have f31 : w26 fa = some (.inl (0, 1400, .inl (opF f ev 1 be me pa st (zb mkd) (zb cud)))) := by rw [h28]; exact (va_up_ne _ _ (fk hfa hrd rfl)).trans ((va_up_ne _ _ (fk hfa hsc rfl)).trans (va_up_self _ _ _))
    have f32 : w26 to = some (.inr (4, [.ref tx, .int (nI ln), .int (nI nx), .int (nI kd), .int (nI sa), .int va])) := by rw [h28]; exact (va_up_ne _ _ (fk hto hrd rfl)).trans ((va_up_ne _ _ (fk hto hsc rfl)).trans ((va_up_ne _ _ (fk hto hfa rfl)).trans (hto)))
    exact j_vret rfl ⟨rfl, by rw [h28]; subst k40; rfl⟩ (show 0 ≤ 0 by omega) (show 0 ≤ 0 by omega) dX2_takeToken_106
  by_cases k41 : kd = 41
  · skip
    refine j_lookup 129 dX2_takeToken_7 (by decide) (show Op.lookupswitch.offset _ _ (nI kd).toInt = (122) by rw [k41]; decide) (by decide) ?_
    refine j_aload_n dX2_takeToken_129 0 rfl ?_
    refine j_sipush (v := nI 512) dX2_takeToken_130 (by decide) ?_
    refine j_put (fs9 := [.ref to, .ref sc, .int (nI 512), .int (nI mr), .int (nI cu), .int (zb mkd), .int (zb cud), .int (nI rep), .int (nI flt), .int fp]) fsX2_takeToken_32 hrd rfl rfl (Nat.le_of_ble_eq_true rfl) rfl dX2_takeToken_133 ?_
    refine j_w (fun w33 hw33 => ?_)
    have f34 : w33 rd = some (.inr (2, [.ref to, .ref sc, .int (nI 512), .int (nI mr), .int (nI cu), .int (zb mkd), .int (zb cud), .int (nI rep), .int (nI flt), .int fp])) := up_at hw33
    have f35 := up_ne hw33 (fk hsc hrd rfl) hsc
    have f36 := up_ne hw33 (fk hfa hrd rfl) hfa
    have f37 := up_ne hw33 (fk hto hrd rfl) hto
    exact j_vret rfl ⟨rfl, by subst k41; exact wR_eq (np := np) (oc := oc) ((Fr.refl : Fr [rd, sc, fa] w w).trans (Fr.up hw33 (by simp))) f36 f35 f34⟩ (show 0 ≤ 0 by omega) (show 0 ≤ 0 by omega) dX2_takeToken_136
  by_cases k58 : kd = 58
  · skip
    refine j_lookup 137 dX2_takeToken_7 (by decide) (show Op.lookupswitch.offset _ _ (nI kd).toInt = (130) by rw [k58]; decide) (by decide) ?_
    refine j_aload_n dX2_takeToken_137 0 rfl ?_
    refine j_sipush (v := nI 1024) dX2_takeToken_138 (by decide) ?_
    refine j_put (fs9 := [.ref to, .ref sc, .int (nI 1024), .int (nI mr), .int (nI cu), .int (zb mkd), .int (zb cud), .int (nI rep), .int (nI flt), .int fp]) fsX2_takeToken_32 hrd rfl rfl (Nat.le_of_ble_eq_true rfl) rfl dX2_takeToken_141 ?_
    refine j_w (fun w38 hw38 => ?_)
    have f39 : w38 rd = some (.inr (2, [.ref to, .ref sc, .int (nI 1024), .int (nI mr), .int (nI cu), .int (zb mkd), .int (zb cud), .int (nI rep), .int (nI flt), .int fp])) := up_at hw38
    have f40 := up_ne hw38 (fk hsc hrd rfl) hsc
    have f41 := up_ne hw38 (fk hfa hrd rfl) hfa
    have f42 := up_ne hw38 (fk hto hrd rfl) hto
    exact j_vret rfl ⟨rfl, by subst k58; exact wR_eq (np := np) (oc := oc) ((Fr.refl : Fr [rd, sc, fa] w w).trans (Fr.up hw38 (by simp))) f41 f40 f39⟩ (show 0 ≤ 0 by omega) (show 0 ≤ 0 by omega) dX2_takeToken_144
  by_cases k64 : kd = 64
  · skip
    refine j_lookup 88 dX2_takeToken_7 (by decide) (show Op.lookupswitch.offset _ _ (nI kd).toInt = (81) by rw [k64]; decide) (by decide) ?_
    refine j_aload_n dX2_takeToken_88 0 rfl ?_
    refine j_callV (rm := rX2_takeMark) (As := []) (st := []) (b0 := rd) (ci := 2) (na := 0) (c_takeMark (np := np) (oc := oc) hrd hsc hfa hto (by omega) hRI) (by intro E w9 h9; first | exact nomatch h9.1 | (obtain ⟨_, h9, _⟩ := h9; exact nomatch h9) | (obtain ⟨_, _, _, h9, _⟩ := h9; exact nomatch h9)) gX2_takeToken_X2_takeMark rfl rfl hrd (by decide +kernel) rfl ⟨Nat.le_of_ble_eq_true rfl, Nat.le_of_ble_eq_true rfl⟩ rfl (Nat.le_of_ble_eq_true rfl) dX2_takeToken_89 ⟨(show 0 + 0 ≤ 0 by omega), (show 0 + 0 ≤ 0 by omega)⟩ (fun v43 w44 h45 => ?_)
    obtain ⟨h45, h46⟩ := h45
    cases h45
    -- w44
    refine j_after (st' := []) (k' := 0) (n' := 0) rfl rfl rfl ?_
    have f47 : w44 rd = some (.inr (2, [.ref to, .ref sc, .int (nI 16), .int (nI (mr + 1)), .int (nI cu), .int (zb true), .int (zb cud), .int (nI rep), .int (nI flt), .int fp])) := by rw [h46]; exact va_up_self _ _ _
    have f48 : w44 sc = some (.inr (3, [.ref fa, .int (nI ev), .int (nI be), .int (nI cq), .int (nI st), .int (nI me), .int (nI pa)])) := by rw [h46]; exact (va_up_ne _ _ (fk hsc hrd rfl)).trans (va_up_self _ _ _)
    have f49 : w44 fa = some (.inl (0, 1400, .inl f)) := by rw [h46]; exact (va_up_ne _ _ (fk hfa hrd rfl)).trans ((va_up_ne _ _ (fk hfa hsc rfl)).trans (va_up_self _ _ _))
    have f50 : w44 to = some (.inr (4, [.ref tx, .int (nI ln), .int (nI nx), .int (nI kd), .int (nI sa), .int va])) := by rw [h46]; exact (va_up_ne _ _ (fk hto hrd rfl)).trans ((va_up_ne _ _ (fk hto hsc rfl)).trans ((va_up_ne _ _ (fk hto hfa rfl)).trans (hto)))
    exact j_vret rfl ⟨rfl, by subst k64; exact wR_eq (np := np) (oc := oc) ((Fr.refl : Fr [rd, sc, fa] w w).trans ((FrW h46).mono (by simp))) f49 f48 f47⟩ (show 0 ≤ 0 by omega) (show 0 ≤ 0 by omega) dX2_takeToken_92
  by_cases k114 : kd = 114
  · skip
    refine j_lookup 115 dX2_takeToken_7 (by decide) (show Op.lookupswitch.offset _ _ (nI kd).toInt = (108) by rw [k114]; decide) (by decide) ?_
    have hev9 := tooM_c hto9 (by simp [k114])
    refine j_aload_n dX2_takeToken_115 0 rfl ?_
    refine j_iconst (v := nI 3) dX2_takeToken_116 (by decide) ?_
    refine j_sipush (v := nI 512) dX2_takeToken_117 (by decide) ?_
    refine j_callV (rm := rX2_openEvent) (As := [.int (nI 3), .int (nI 512)]) (st := []) (b0 := rd) (ci := 2) (na := 2) (c_openEventR (np := np) (oc := oc) (k := 3) (b := 512) hrd hsc hfa hto (by omega) hRI (by omega)) (by intro E w9 h9; first | exact nomatch h9.1 | (obtain ⟨_, h9, _⟩ := h9; exact nomatch h9) | (obtain ⟨_, _, _, h9, _⟩ := h9; exact nomatch h9)) gX2_takeToken_X2_openEvent rfl rfl hrd (by decide +kernel) rfl ⟨Nat.le_of_ble_eq_true rfl, Nat.le_of_ble_eq_true rfl⟩ rfl (Nat.le_of_ble_eq_true rfl) dX2_takeToken_120 ⟨(show 0 + 0 ≤ 0 by omega), (show 0 + 0 ≤ 0 by omega)⟩ (fun v51 w52 h53 => ?_)
    obtain ⟨h53, h54⟩ := h53
    cases h53
    -- w52
    refine j_after (st' := []) (k' := 0) (n' := 0) rfl rfl rfl ?_
    have f55 : w52 rd = some (.inr (2, [.ref to, .ref sc, .int (nI 512), .int (nI mr), .int (nI cu), .int (zb false), .int (zb false), .int (nI rep), .int (nI flt), .int fp])) := by rw [h54]; exact va_up_self _ _ _
    have f56 : w52 sc = some (.inr (3, [.ref fa, .int (nI ev), .int (nI be), .int (nI cq), .int (nI st), .int (nI me), .int (nI pa)])) := by rw [h54]; exact (va_up_ne _ _ (fk hsc hrd rfl)).trans (va_up_self _ _ _)
    have f57 : w52 fa = some (.inl (0, 1400, .inl (opF f ev 3 be me pa st (zb mkd) (zb cud)))) := by rw [h54]; exact (va_up_ne _ _ (fk hfa hrd rfl)).trans ((va_up_ne _ _ (fk hfa hsc rfl)).trans (va_up_self _ _ _))
    have f58 : w52 to = some (.inr (4, [.ref tx, .int (nI ln), .int (nI nx), .int (nI kd), .int (nI sa), .int va])) := by rw [h54]; exact (va_up_ne _ _ (fk hto hrd rfl)).trans ((va_up_ne _ _ (fk hto hsc rfl)).trans ((va_up_ne _ _ (fk hto hfa rfl)).trans (hto)))
    exact j_vret rfl ⟨rfl, by rw [h54]; subst k114; rfl⟩ (show 0 ≤ 0 by omega) (show 0 ≤ 0 by omega) dX2_takeToken_123
  by_cases k126 : kd = 126
  · skip
    refine j_lookup 107 dX2_takeToken_7 (by decide) (show Op.lookupswitch.offset _ _ (nI kd).toInt = (100) by rw [k126]; decide) (by decide) ?_
    have hev9 := tooM_c hto9 (by simp [k126])
    refine j_aload_n dX2_takeToken_107 0 rfl ?_
    refine j_iconst (v := nI 2) dX2_takeToken_108 (by decide) ?_
    refine j_bipush (v := nI 64) dX2_takeToken_109 (by decide) ?_
    refine j_callV (rm := rX2_openEvent) (As := [.int (nI 2), .int (nI 64)]) (st := []) (b0 := rd) (ci := 2) (na := 2) (c_openEventR (np := np) (oc := oc) (k := 2) (b := 64) hrd hsc hfa hto (by omega) hRI (by omega)) (by intro E w9 h9; first | exact nomatch h9.1 | (obtain ⟨_, h9, _⟩ := h9; exact nomatch h9) | (obtain ⟨_, _, _, h9, _⟩ := h9; exact nomatch h9)) gX2_takeToken_X2_openEvent rfl rfl hrd (by decide +kernel) rfl ⟨Nat.le_of_ble_eq_true rfl, Nat.le_of_ble_eq_true rfl⟩ rfl (Nat.le_of_ble_eq_true rfl) dX2_takeToken_111 ⟨(show 0 + 0 ≤ 0 by omega), (show 0 + 0 ≤ 0 by omega)⟩ (fun v59 w60 h61 => ?_)
    obtain ⟨h61, h62⟩ := h61
    cases h61
    -- w60
    refine j_after (st' := []) (k' := 0) (n' := 0) rfl rfl rfl ?_
    have f63 : w60 rd = some (.inr (2, [.ref to, .ref sc, .int (nI 64), .int (nI mr), .int (nI cu), .int (zb false), .int (zb false), .int (nI rep), .int (nI flt), .int fp])) := by rw [h62]; exact va_up_self _ _ _
    have f64 : w60 sc = some (.inr (3, [.ref fa, .int (nI ev), .int (nI be), .int (nI cq), .int (nI st), .int (nI me), .int (nI pa)])) := by rw [h62]; exact (va_up_ne _ _ (fk hsc hrd rfl)).trans (va_up_self _ _ _)
    have f65 : w60 fa = some (.inl (0, 1400, .inl (opF f ev 2 be me pa st (zb mkd) (zb cud)))) := by rw [h62]; exact (va_up_ne _ _ (fk hfa hrd rfl)).trans ((va_up_ne _ _ (fk hfa hsc rfl)).trans (va_up_self _ _ _))
    have f66 : w60 to = some (.inr (4, [.ref tx, .int (nI ln), .int (nI nx), .int (nI kd), .int (nI sa), .int va])) := by rw [h62]; exact (va_up_ne _ _ (fk hto hrd rfl)).trans ((va_up_ne _ _ (fk hto hsc rfl)).trans ((va_up_ne _ _ (fk hto hfa rfl)).trans (hto)))
    exact j_vret rfl ⟨rfl, by rw [h62]; subst k126; rfl⟩ (show 0 ≤ 0 by omega) (show 0 ≤ 0 by omega) dX2_takeToken_114
  refine j_lookup 166 dX2_takeToken_7 (by decide) (lkD (kd := kd) (by omega) (by simp; omega)) (by decide) ?_
  refine j_aload_n dX2_takeToken_166 0 rfl ?_
  refine j_callV (rm := rX2_takeBarOrPage) (As := []) (st := []) (b0 := rd) (ci := 2) (na := 0) (c_takeBarOrPage (np := np) (oc := oc) hrd hsc hfa hto (by omega) hRI (fun q => by have := hs8 (sd8 hsd (by rw [q] at hfit; exact hfit)); omega)) (by intro E w9 h9; first | exact nomatch h9.1 | (obtain ⟨_, h9, _⟩ := h9; exact nomatch h9) | (obtain ⟨_, _, _, h9, _⟩ := h9; exact nomatch h9)) gX2_takeToken_X2_takeBarOrPage rfl rfl hrd (by decide +kernel) rfl ⟨Nat.le_of_ble_eq_true rfl, Nat.le_of_ble_eq_true rfl⟩ rfl (Nat.le_of_ble_eq_true rfl) dX2_takeToken_167 ⟨(show 0 + 0 ≤ 0 by omega), (show 0 + 0 ≤ 0 by omega)⟩ (fun v67 w68 h69 => ?_)
  obtain ⟨h69, hw9⟩ := h69
  cases h69
  refine j_after (st' := []) (k' := 0) (n' := 0) rfl rfl rfl ?_
  exact j_vret rfl ⟨rfl, by rw [hw9]; unfold rTake; simp only [k2, k3, k33, k40, k41, k58, k64, k114, k126, if_false]⟩ (show 0 ≤ 0 by omega) (show 0 ≤ 0 by omega) dX2_takeToken_170
