abbrev rX0_tempoBase : Room := { frames := 0, cells := 0, slots := 0, locals := 0 }
theorem flX0_tempoBase_30 : FL wsX0_tempoBase RX0 30 0 5 := ⟨RX0, TX0, 7, rfl, by decide, by decide +kernel, by decide +kernel⟩
theorem flX0_tempoBase_147 : FL wsX0_tempoBase RX0 147 1 8 := ⟨RX1, TX1, 10, rfl, by decide, by decide +kernel, by decide +kernel⟩
set_option maxHeartbeats 4000000 in
set_option maxRecDepth 100000 in
theorem c_tempoBase0 {w : pW} {fo sc pr ar de ms mn nt : Nat} {cm : Nat} {bf nx ah : Option Nat} {cl pe pb pc an : Nat}  (hfo : w fo = some (.inr (0, [.ref sc, .ref pr, .ref ar, .ref de, .ref ms, .ref mn, .int (nI nt)]))) (hm : w mn = some (.inr (1, [va_rf bf, va_rf nx, .ref cm, .int (nI cl), .int (nI pe), .int (nI pb), .int (nI pc), .int (nI an), va_rf none, va_rf ah]))) : Ct yX0_tempoBase wsX0_tempoBase rX0_tempoBase [.ref fo] w (fun o w9 => o = .inl (some .null) ∧ w9 = w) := by
  refine Ct.of (cc := cX0_tempoBase) (own := RX0) (nm := "tempoBase") (nL := 4) (ret := (some (.object "PageTurner$Moment"))) (by decide +kernel) rfl rfl rfl (Nat.le_of_ble_eq_true rfl) ?_
  refine j_lvE (lv' := [(0, .ref fo)]) rfl ?_
  refine j_aload_n dX0_tempoBase_0 0 rfl ?_
  refine j_get flX0_tempoBase_30 hfo rfl dX0_tempoBase_1 ?_
  refine j_get (v := .null) flX0_tempoBase_147 hm rfl dX0_tempoBase_4 ?_
  refine j_astore_nN (lv' := [(1, .null), (0, .ref fo)]) dX0_tempoBase_7 (Nat.le_of_ble_eq_true rfl) rfl ?_
  refine j_aload_nN dX0_tempoBase_8 0 rfl ?_
  refine j_ifnullN 19 dX0_tempoBase_9 (by decide) ?_
  refine j_null dX0_tempoBase_19 ?_
  exact j_aret (r := none) rfl (Or.inl ⟨_, rfl⟩) ⟨rfl, rfl⟩ (show 0 ≤ 0 by omega) (show 0 ≤ 0 by omega) dX0_tempoBase_20
theorem flX0_tempoBase_150 : FL wsX0_tempoBase RX0 150 1 9 := ⟨RX1, TX1, 10, rfl, by decide, by decide +kernel, by decide +kernel⟩
set_option maxHeartbeats 4000000 in
set_option maxRecDepth 100000 in
theorem c_tempoBase1 {w : pW} {fo sc pr ar de ms mn nt : Nat} {cm : Nat} {bf nx ah : Option Nat} {cl pe pb pc an : Nat} {lc : Nat → Nat} {bf3 nx3 av3 : Nat → Option Nat} {ca3 cl3 pe3 pb3 pc3 an3 : Nat → Nat} {n : Nat} (hfo : w fo = some (.inr (0, [.ref sc, .ref pr, .ref ar, .ref de, .ref ms, .ref mn, .int (nI nt)]))) (hm : w mn = some (.inr (1, [va_rf bf, va_rf nx, .ref cm, .int (nI cl), .int (nI pe), .int (nI pb), .int (nI pc), .int (nI an), va_rf (some (lc 0)), va_rf ah]))) (hch : ∀ i, i < n → w (lc i) = some (.inr (1, [va_rf (bf3 i), va_rf (nx3 i), .ref (ca3 i), .int (nI (cl3 i)), .int (nI (pe3 i)), .int (nI (pb3 i)), .int (nI (pc3 i)), .int (nI (an3 i)), va_rf (av3 i), va_rf ((if i + 1 < n then some (lc (i + 1)) else none))]))) (hn : n = 1) : Ct yX0_tempoBase wsX0_tempoBase rX0_tempoBase [.ref fo] w (fun o w9 => o = .inl (some .null) ∧ w9 = w) := by
  refine Ct.of (cc := cX0_tempoBase) (own := RX0) (nm := "tempoBase") (nL := 4) (ret := (some (.object "PageTurner$Moment"))) (by decide +kernel) rfl rfl rfl (Nat.le_of_ble_eq_true rfl) ?_
  refine j_lvE (lv' := [(0, .ref fo)]) rfl ?_
  have h0 : w (lc 0) = some (.inr (1, [va_rf (bf3 0), va_rf (nx3 0), .ref (ca3 0), .int (nI (cl3 0)), .int (nI (pe3 0)), .int (nI (pb3 0)), .int (nI (pc3 0)), .int (nI (an3 0)), va_rf (av3 0), va_rf none])) := by rw [hch 0 (by omega), if_neg (by omega)]
  refine j_aload_n dX0_tempoBase_0 0 rfl ?_
  refine j_get flX0_tempoBase_30 hfo rfl dX0_tempoBase_1 ?_
  refine j_get (v := .ref (lc 0)) flX0_tempoBase_147 hm rfl dX0_tempoBase_4 ?_
  refine j_astore_n (lv' := [(1, .ref (lc 0)), (0, .ref fo)]) dX0_tempoBase_7 (Nat.le_of_ble_eq_true rfl) rfl ?_
  refine j_aload_n dX0_tempoBase_8 0 rfl ?_
  refine j_ifnull dX0_tempoBase_9 ?_
  refine j_aload_n dX0_tempoBase_12 0 rfl ?_
  refine j_get (v := .null) flX0_tempoBase_150 h0 rfl dX0_tempoBase_13 ?_
  refine j_ifnonnullN dX0_tempoBase_16 ?_
  refine j_null dX0_tempoBase_19 ?_
  exact j_aret (r := none) rfl (Or.inl ⟨_, rfl⟩) ⟨rfl, rfl⟩ (show 0 ≤ 0 by omega) (show 0 ≤ 0 by omega) dX0_tempoBase_20
set_option maxHeartbeats 4000000 in
set_option maxRecDepth 100000 in
theorem l_tempoBase {w : pW} {fo sc pr ar de ms mn nt : Nat} {cm : Nat} {bf nx ah : Option Nat} {cl pe pb pc an : Nat} {lc : Nat → Nat} {bf3 nx3 av3 : Nat → Option Nat} {ca3 cl3 pe3 pb3 pc3 an3 : Nat → Nat} {n : Nat} (hfo : w fo = some (.inr (0, [.ref sc, .ref pr, .ref ar, .ref de, .ref ms, .ref mn, .int (nI nt)]))) (hm : w mn = some (.inr (1, [va_rf bf, va_rf nx, .ref cm, .int (nI cl), .int (nI pe), .int (nI pb), .int (nI pc), .int (nI an), va_rf (some (lc 0)), va_rf ah]))) (hch : ∀ i, i < n → w (lc i) = some (.inr (1, [va_rf (bf3 i), va_rf (nx3 i), .ref (ca3 i), .int (nI (cl3 i)), .int (nI (pe3 i)), .int (nI (pb3 i)), .int (nI (pc3 i)), .int (nI (an3 i)), va_rf (av3 i), va_rf ((if i + 1 < n then some (lc (i + 1)) else none))]))) (hn : n ≤ 1000) : ∀ (m9 : Nat) (i : Nat), 4 - i < m9 → (i < n) → (i ≤ 4) → J ((cX0_tempoBase, RX0, 4, wsX0_tempoBase), (rX0_tempoBase, (some (.object "PageTurner$Moment")), "tempoBase", []), fun o w9 => o = .inl (some (.ref (lc (min 4 (n - 1))))) ∧ w9 = w, fun _ _ _ => True) 25 [(0, .ref fo), (1, .ref (lc 0)), (2, .ref (lc i)), (3, .int (nI i))] [] w 0 0 := by
  intro m9
  induction m9 with
  | zero => intro i h9; omega
  | succ m9 ih =>
    intro i hm9 hi hi4
    by_cases hin : i + 1 < n
    · have fi : w (lc i) = some (.inr (1, [va_rf (bf3 i), va_rf (nx3 i), .ref (ca3 i), .int (nI (cl3 i)), .int (nI (pe3 i)), .int (nI (pb3 i)), .int (nI (pc3 i)), .int (nI (an3 i)), va_rf (av3 i), va_rf (some (lc (i + 1)))])) := by rw [hch i hi, if_pos hin]
      refine j_iload_n dX0_tempoBase_25 3 rfl ?_
      refine j_iconst (v := nI 4) dX0_tempoBase_26 (by decide) ?_
      refine j_icmp_geN 48 (by omega) (by omega) dX0_tempoBase_27 (by decide) (fun c27 => ?_) (fun c27 => ?_)
      · skip
        refine j_aload_n dX0_tempoBase_48 2 rfl ?_
        exact j_aret (r := some (lc i)) rfl (Or.inl ⟨_, rfl⟩) ⟨by rw [show min 4 (n - 1) = i by omega]; rfl, rfl⟩ (show 0 ≤ 0 by omega) (show 0 ≤ 0 by omega) dX0_tempoBase_49
      · skip
        refine j_aload_n dX0_tempoBase_30 2 rfl ?_
        refine j_get (v := .ref (lc (i + 1))) flX0_tempoBase_150 fi rfl dX0_tempoBase_31 ?_
        refine j_ifnull dX0_tempoBase_34 ?_
        refine j_aload_n dX0_tempoBase_37 2 rfl ?_
        refine j_get (v := .ref (lc (i + 1))) flX0_tempoBase_150 fi rfl dX0_tempoBase_38 ?_
        refine j_astore_n (lv' := [(2, .ref (lc (i + 1))), (0, .ref fo), (1, .ref (lc 0)), (3, .int (nI i))]) dX0_tempoBase_41 (Nat.le_of_ble_eq_true rfl) rfl ?_
        refine j_iinc (q := 3) (v := nI (i + 1)) (lv' := [(3, .int (nI (i + 1))), (2, .ref (lc (i + 1))), (0, .ref fo), (1, .ref (lc 0))]) dX0_tempoBase_42 rfl (by first | exact nI_1 _ | exact nI_add _ _) (Nat.le_of_ble_eq_true rfl) rfl ?_
        refine j_goto 25 dX0_tempoBase_45 (by decide) ?_
        refine j_lv (lv' := [(0, .ref fo), (1, .ref (lc 0)), (2, .ref (lc (i + 1))), (3, .int (nI (i + 1)))]) [2, 3, 1, 0] rfl ?_
        exact ih (i + 1) (by omega) (by omega) (by omega)
    · have fi : w (lc i) = some (.inr (1, [va_rf (bf3 i), va_rf (nx3 i), .ref (ca3 i), .int (nI (cl3 i)), .int (nI (pe3 i)), .int (nI (pb3 i)), .int (nI (pc3 i)), .int (nI (an3 i)), va_rf (av3 i), va_rf none])) := by rw [hch i hi, if_neg hin]
      refine j_iload_n dX0_tempoBase_25 3 rfl ?_
      refine j_iconst (v := nI 4) dX0_tempoBase_26 (by decide) ?_
      refine j_icmp_geN 48 (by omega) (by omega) dX0_tempoBase_27 (by decide) (fun c27 => ?_) (fun c27 => ?_)
      · skip
        refine j_aload_n dX0_tempoBase_48 2 rfl ?_
        exact j_aret (r := some (lc i)) rfl (Or.inl ⟨_, rfl⟩) ⟨by rw [show min 4 (n - 1) = i by omega]; rfl, rfl⟩ (show 0 ≤ 0 by omega) (show 0 ≤ 0 by omega) dX0_tempoBase_49
      · skip
        refine j_aload_n dX0_tempoBase_30 2 rfl ?_
        refine j_get (v := .null) flX0_tempoBase_150 fi rfl dX0_tempoBase_31 ?_
        refine j_ifnullN 48 dX0_tempoBase_34 (by decide) ?_
        refine j_aload_n dX0_tempoBase_48 2 rfl ?_
        exact j_aret (r := some (lc i)) rfl (Or.inl ⟨_, rfl⟩) ⟨by rw [show min 4 (n - 1) = i by omega]; rfl, rfl⟩ (show 0 ≤ 0 by omega) (show 0 ≤ 0 by omega) dX0_tempoBase_49
set_option maxHeartbeats 4000000 in
set_option maxRecDepth 100000 in
theorem c_tempoBase2 {w : pW} {fo sc pr ar de ms mn nt : Nat} {cm : Nat} {bf nx ah : Option Nat} {cl pe pb pc an : Nat} {lc : Nat → Nat} {bf3 nx3 av3 : Nat → Option Nat} {ca3 cl3 pe3 pb3 pc3 an3 : Nat → Nat} {n : Nat} (hfo : w fo = some (.inr (0, [.ref sc, .ref pr, .ref ar, .ref de, .ref ms, .ref mn, .int (nI nt)]))) (hm : w mn = some (.inr (1, [va_rf bf, va_rf nx, .ref cm, .int (nI cl), .int (nI pe), .int (nI pb), .int (nI pc), .int (nI an), va_rf (some (lc 0)), va_rf ah]))) (hch : ∀ i, i < n → w (lc i) = some (.inr (1, [va_rf (bf3 i), va_rf (nx3 i), .ref (ca3 i), .int (nI (cl3 i)), .int (nI (pe3 i)), .int (nI (pb3 i)), .int (nI (pc3 i)), .int (nI (an3 i)), va_rf (av3 i), va_rf ((if i + 1 < n then some (lc (i + 1)) else none))]))) (hn : 2 ≤ n) (hn2 : n ≤ 1000) : Ct yX0_tempoBase wsX0_tempoBase rX0_tempoBase [.ref fo] w (fun o w9 => o = .inl (some (.ref (lc (min 4 (n - 1))))) ∧ w9 = w) := by
  refine Ct.of (cc := cX0_tempoBase) (own := RX0) (nm := "tempoBase") (nL := 4) (ret := (some (.object "PageTurner$Moment"))) (by decide +kernel) rfl rfl rfl (Nat.le_of_ble_eq_true rfl) ?_
  refine j_lvE (lv' := [(0, .ref fo)]) rfl ?_
  have h0 : w (lc 0) = some (.inr (1, [va_rf (bf3 0), va_rf (nx3 0), .ref (ca3 0), .int (nI (cl3 0)), .int (nI (pe3 0)), .int (nI (pb3 0)), .int (nI (pc3 0)), .int (nI (an3 0)), va_rf (av3 0), va_rf (some (lc (0 + 1)))])) := by rw [hch 0 (by omega), if_pos (by omega)]
  refine j_aload_n dX0_tempoBase_0 0 rfl ?_
  refine j_get flX0_tempoBase_30 hfo rfl dX0_tempoBase_1 ?_
  refine j_get (v := .ref (lc 0)) flX0_tempoBase_147 hm rfl dX0_tempoBase_4 ?_
  refine j_astore_n (lv' := [(1, .ref (lc 0)), (0, .ref fo)]) dX0_tempoBase_7 (Nat.le_of_ble_eq_true rfl) rfl ?_
  refine j_aload_n dX0_tempoBase_8 0 rfl ?_
  refine j_ifnull dX0_tempoBase_9 ?_
  refine j_aload_n dX0_tempoBase_12 0 rfl ?_
  refine j_get (v := .ref (lc (0 + 1))) flX0_tempoBase_150 h0 rfl dX0_tempoBase_13 ?_
  refine j_ifnonnull 21 dX0_tempoBase_16 (by decide) ?_
  refine j_aload_n dX0_tempoBase_21 0 rfl ?_
  refine j_astore_n (lv' := [(2, .ref (lc 0)), (1, .ref (lc 0)), (0, .ref fo)]) dX0_tempoBase_22 (Nat.le_of_ble_eq_true rfl) rfl ?_
  refine j_iconst (v := nI 0) dX0_tempoBase_23 (by decide) ?_
  refine j_istore_n (lv' := [(3, .int (nI 0)), (2, .ref (lc 0)), (1, .ref (lc 0)), (0, .ref fo)]) dX0_tempoBase_24 (Nat.le_of_ble_eq_true rfl) rfl ?_
  refine j_lv (lv' := [(0, .ref fo), (1, .ref (lc 0)), (2, .ref (lc 0)), (3, .int (nI 0))]) [3, 2, 1, 0] rfl ?_
  exact l_tempoBase hfo hm hch hn2 5 0 (by omega) (by omega) (by omega)
abbrev rX0_beatOf : Room := { frames := 1, cells := 0, slots := 0, locals := 22 }
theorem flX0_beatOf_33 : FL wsX0_beatOf RX0 33 0 0 := ⟨RX0, TX0, 7, rfl, by decide, by decide +kernel, by decide +kernel⟩
theorem flX0_beatOf_74 : FL wsX0_beatOf RX0 74 1 4 := ⟨RX1, TX1, 10, rfl, by decide, by decide +kernel, by decide +kernel⟩
set_option maxHeartbeats 4000000 in
set_option maxRecDepth 100000 in
theorem c_beatOf {w : pW} {fo sc pr ar de ms mn nt : Nat} {fa ev be cu st me pa : Nat} {f : Nat → Int32} {u : Nat → Nat → Nat} {bh : Nat → Option Nat} (hfo : w fo = some (.inr (0, [.ref sc, .ref pr, .ref ar, .ref de, .ref ms, .ref mn, .int (nI nt)]))) (hs : w sc = some (.inr (3, [.ref fa, .int (nI ev), .int (nI be), .int (nI cu), .int (nI st), .int (nI me), .int (nI pa)]))) (hf : w fa = some (.inl (0, 1400, .inl f))) (hM : Mus f ev st u bh) {la ca3 : Nat} {bf3 nx3 av3 ah3 : Option Nat} {cl3 pe3 pb3 pc3 an3 : Nat} (hlm : w la = some (.inr (1, [va_rf bf3, va_rf nx3, .ref ca3, .int (nI cl3), .int (nI pe3), .int (nI pb3), .int (nI pc3), .int (nI an3), va_rf av3, va_rf ah3]))) (hpe3 : pe3 < ev) : Ct yX0_beatOf wsX0_beatOf rX0_beatOf [.ref fo, .ref la] w (fun o w9 => o = .inl (some (.int (nI (u 2 pe3)))) ∧ w9 = w) := by
  refine Ct.of (cc := cX0_beatOf) (own := RX0) (nm := "beatOf") (nL := 2) (ret := (some .int)) (by decide +kernel) rfl rfl rfl (Nat.le_of_ble_eq_true rfl) ?_
  refine j_lvE (lv' := [(0, .ref fo), (1, .ref la)]) rfl ?_
  have hev := hM.hev
  have hst0 := hM.hst
  refine j_aload_n dX0_beatOf_0 0 rfl ?_
  refine j_get flX0_beatOf_33 hfo rfl dX0_beatOf_1 ?_
  refine j_aload_n dX0_beatOf_4 1 rfl ?_
  refine j_get flX0_beatOf_74 hlm rfl dX0_beatOf_5 ?_
  refine j_iconst (v := nI 2) dX0_beatOf_8 (by decide) ?_
  have hrg1 := Mus.rg (e := pe3) hM (by omega)
  have hbd2 := Mus.bd (e := pe3) hM (by omega)
  refine j_callV (rm := rX3_fact) (As := [.int (nI pe3), .int (nI 2)]) (st := []) (b0 := sc) (ci := 3) (na := 2) (c_fact (e := pe3) (c := 2) hs hf (by omega) (by omega)) (by intro E w9 h9; first | exact nomatch h9.1 | (obtain ⟨_, h9, _⟩ := h9; exact nomatch h9) | (obtain ⟨_, _, _, h9, _⟩ := h9; exact nomatch h9)) gX0_beatOf_X3_fact rfl rfl hs (by decide +kernel) rfl ⟨Nat.le_of_ble_eq_true rfl, Nat.le_of_ble_eq_true rfl⟩ rfl (Nat.le_of_ble_eq_true rfl) dX0_beatOf_9 ⟨(show 0 + 0 ≤ 0 by omega), (show 0 + 0 ≤ 0 by omega)⟩ (fun v3 w4 h5 => ?_)
  obtain ⟨h5, h6⟩ := h5
  cases h5
  subst w4
  refine j_after (st' := [.int (f (pe3 * 14 + 2))]) (k' := 0) (n' := 0) rfl rfl rfl ?_
  refine j_eqi (y := nI (u 2 pe3)) (Mus.c2 hM (by omega)) ?_
  exact j_iret rfl ⟨rfl, rfl⟩ (show 0 ≤ 0 by omega) (show 0 ≤ 0 by omega) dX0_beatOf_12
abbrev rX0_tempoUpper : Room := { frames := 1, cells := 0, slots := 0, locals := 23 }
abbrev rX0_tempoLower : Room := { frames := 2, cells := 0, slots := 0, locals := 43 }
theorem flX0_tempoUpper_30 : FL wsX0_tempoUpper RX0 30 0 5 := ⟨RX0, TX0, 7, rfl, by decide, by decide +kernel, by decide +kernel⟩
theorem flX0_tempoUpper_147 : FL wsX0_tempoUpper RX0 147 1 8 := ⟨RX1, TX1, 10, rfl, by decide, by decide +kernel, by decide +kernel⟩
set_option maxHeartbeats 4000000 in
set_option maxRecDepth 100000 in
theorem c_tempoUpper0 {w : pW} {fo sc pr ar de ms mn nt : Nat} {cm : Nat} {bf nx ah : Option Nat} {cl pe pb pc an : Nat}  (hfo : w fo = some (.inr (0, [.ref sc, .ref pr, .ref ar, .ref de, .ref ms, .ref mn, .int (nI nt)]))) (hm : w mn = some (.inr (1, [va_rf bf, va_rf nx, .ref cm, .int (nI cl), .int (nI pe), .int (nI pb), .int (nI pc), .int (nI an), va_rf none, va_rf ah]))) : Ct yX0_tempoUpper wsX0_tempoUpper rX0_tempoUpper [.ref fo] w (fun o w9 => o = .inl (some (.int (nI 500))) ∧ w9 = w) := by
  refine Ct.of (cc := cX0_tempoUpper) (own := RX0) (nm := "tempoUpper") (nL := 3) (ret := (some .int)) (by decide +kernel) rfl rfl rfl (Nat.le_of_ble_eq_true rfl) ?_
  refine j_lvE (lv' := [(0, .ref fo)]) rfl ?_
  refine j_aload_n dX0_tempoUpper_0 0 rfl ?_
  refine j_get flX0_tempoUpper_30 hfo rfl dX0_tempoUpper_1 ?_
  refine j_get (v := .null) flX0_tempoUpper_147 hm rfl dX0_tempoUpper_4 ?_
  refine j_astore_nN (lv' := [(1, .null), (0, .ref fo)]) dX0_tempoUpper_7 (Nat.le_of_ble_eq_true rfl) rfl ?_
  refine j_aload_n dX0_tempoUpper_8 1 rfl ?_
  refine j_callV (rm := rX0_tempoBase) (As := []) (st := []) (b0 := fo) (ci := 0) (na := 0) (c_tempoBase0 hfo hm) (by intro E w9 h9; first | exact nomatch h9.1 | (obtain ⟨_, h9, _⟩ := h9; exact nomatch h9) | (obtain ⟨_, _, _, h9, _⟩ := h9; exact nomatch h9)) gX0_tempoUpper_X0_tempoBase rfl rfl hfo (by decide +kernel) rfl ⟨Nat.le_of_ble_eq_true rfl, Nat.le_of_ble_eq_true rfl⟩ rfl (Nat.le_of_ble_eq_true rfl) dX0_tempoUpper_9 ⟨(show 0 + 0 ≤ 0 by omega), (show 0 + 0 ≤ 0 by omega)⟩ (fun v1 w2 h3 => ?_)
  obtain ⟨h3, h4⟩ := h3
  cases h3
  subst w2
  refine j_after (st' := [.null]) (k' := 0) (n' := 0) rfl rfl rfl ?_
  refine j_astore_nN (lv' := [(2, .null), (1, .null), (0, .ref fo)]) dX0_tempoUpper_12 (Nat.le_of_ble_eq_true rfl) rfl ?_
  refine j_aload_nN dX0_tempoUpper_13 0 rfl ?_
  refine j_ifnullN 21 dX0_tempoUpper_14 (by decide) ?_
  refine j_sipush (v := nI 500) dX0_tempoUpper_21 (by decide) ?_
  refine j_goto 36 dX0_tempoUpper_24 (by decide) ?_
  exact j_iret rfl ⟨rfl, rfl⟩ (show 0 ≤ 0 by omega) (show 0 ≤ 0 by omega) dX0_tempoUpper_36
set_option maxHeartbeats 4000000 in
set_option maxRecDepth 100000 in
theorem c_tempoUpper1 {w : pW} {fo sc pr ar de ms mn nt : Nat} {cm : Nat} {bf nx ah : Option Nat} {cl pe pb pc an : Nat} {lc : Nat → Nat} {bf3 nx3 av3 : Nat → Option Nat} {ca3 cl3 pe3 pb3 pc3 an3 : Nat → Nat} {n : Nat} (hfo : w fo = some (.inr (0, [.ref sc, .ref pr, .ref ar, .ref de, .ref ms, .ref mn, .int (nI nt)]))) (hm : w mn = some (.inr (1, [va_rf bf, va_rf nx, .ref cm, .int (nI cl), .int (nI pe), .int (nI pb), .int (nI pc), .int (nI an), va_rf (some (lc 0)), va_rf ah]))) (hch : ∀ i, i < n → w (lc i) = some (.inr (1, [va_rf (bf3 i), va_rf (nx3 i), .ref (ca3 i), .int (nI (cl3 i)), .int (nI (pe3 i)), .int (nI (pb3 i)), .int (nI (pc3 i)), .int (nI (an3 i)), va_rf (av3 i), va_rf ((if i + 1 < n then some (lc (i + 1)) else none))]))) (hn : n = 1) : Ct yX0_tempoUpper wsX0_tempoUpper rX0_tempoUpper [.ref fo] w (fun o w9 => o = .inl (some (.int (nI 500))) ∧ w9 = w) := by
  refine Ct.of (cc := cX0_tempoUpper) (own := RX0) (nm := "tempoUpper") (nL := 3) (ret := (some .int)) (by decide +kernel) rfl rfl rfl (Nat.le_of_ble_eq_true rfl) ?_
  refine j_lvE (lv' := [(0, .ref fo)]) rfl ?_
  refine j_aload_n dX0_tempoUpper_0 0 rfl ?_
  refine j_get flX0_tempoUpper_30 hfo rfl dX0_tempoUpper_1 ?_
  refine j_get (v := .ref (lc 0)) flX0_tempoUpper_147 hm rfl dX0_tempoUpper_4 ?_
  refine j_astore_n (lv' := [(1, .ref (lc 0)), (0, .ref fo)]) dX0_tempoUpper_7 (Nat.le_of_ble_eq_true rfl) rfl ?_
  refine j_aload_n dX0_tempoUpper_8 1 rfl ?_
  refine j_callV (rm := rX0_tempoBase) (As := []) (st := []) (b0 := fo) (ci := 0) (na := 0) (c_tempoBase1 hfo hm hch hn) (by intro E w9 h9; first | exact nomatch h9.1 | (obtain ⟨_, h9, _⟩ := h9; exact nomatch h9) | (obtain ⟨_, _, _, h9, _⟩ := h9; exact nomatch h9)) gX0_tempoUpper_X0_tempoBase rfl rfl hfo (by decide +kernel) rfl ⟨Nat.le_of_ble_eq_true rfl, Nat.le_of_ble_eq_true rfl⟩ rfl (Nat.le_of_ble_eq_true rfl) dX0_tempoUpper_9 ⟨(show 0 + 0 ≤ 0 by omega), (show 0 + 0 ≤ 0 by omega)⟩ (fun v1 w2 h3 => ?_)
  obtain ⟨h3, h4⟩ := h3
  cases h3
  subst w2
  refine j_after (st' := [.null]) (k' := 0) (n' := 0) rfl rfl rfl ?_
  refine j_astore_nN (lv' := [(2, .null), (1, .ref (lc 0)), (0, .ref fo)]) dX0_tempoUpper_12 (Nat.le_of_ble_eq_true rfl) rfl ?_
  refine j_aload_nN dX0_tempoUpper_13 0 rfl ?_
  refine j_ifnullN 21 dX0_tempoUpper_14 (by decide) ?_
  refine j_sipush (v := nI 500) dX0_tempoUpper_21 (by decide) ?_
  refine j_goto 36 dX0_tempoUpper_24 (by decide) ?_
  exact j_iret rfl ⟨rfl, rfl⟩ (show 0 ≤ 0 by omega) (show 0 ≤ 0 by omega) dX0_tempoUpper_36
theorem flX0_tempoUpper_71 : FL wsX0_tempoUpper RX0 71 1 3 := ⟨RX1, TX1, 10, rfl, by decide, by decide +kernel, by decide +kernel⟩
set_option maxHeartbeats 4000000 in
set_option maxRecDepth 100000 in
theorem c_tempoUpper2 {w : pW} {fo sc pr ar de ms mn nt : Nat} {cm : Nat} {bf nx ah : Option Nat} {cl pe pb pc an : Nat} {lc : Nat → Nat} {bf3 nx3 av3 : Nat → Option Nat} {ca3 cl3 pe3 pb3 pc3 an3 : Nat → Nat} {n : Nat} (hfo : w fo = some (.inr (0, [.ref sc, .ref pr, .ref ar, .ref de, .ref ms, .ref mn, .int (nI nt)]))) (hm : w mn = some (.inr (1, [va_rf bf, va_rf nx, .ref cm, .int (nI cl), .int (nI pe), .int (nI pb), .int (nI pc), .int (nI an), va_rf (some (lc 0)), va_rf ah]))) (hch : ∀ i, i < n → w (lc i) = some (.inr (1, [va_rf (bf3 i), va_rf (nx3 i), .ref (ca3 i), .int (nI (cl3 i)), .int (nI (pe3 i)), .int (nI (pb3 i)), .int (nI (pc3 i)), .int (nI (an3 i)), va_rf (av3 i), va_rf ((if i + 1 < n then some (lc (i + 1)) else none))]))) (hn : 2 ≤ n) (hn2 : n ≤ 1000) (hcl : ∀ i, i < n → cl3 i ≤ cl3 0) (hclb : cl3 0 < 2 ^ 31) : Ct yX0_tempoUpper wsX0_tempoUpper rX0_tempoUpper [.ref fo] w (fun o w9 => o = .inl (some (.int (nI (cl3 0 - cl3 (min 4 (n - 1)))))) ∧ w9 = w) := by
  refine Ct.of (cc := cX0_tempoUpper) (own := RX0) (nm := "tempoUpper") (nL := 3) (ret := (some .int)) (by decide +kernel) rfl rfl rfl (Nat.le_of_ble_eq_true rfl) ?_
  refine j_lvE (lv' := [(0, .ref fo)]) rfl ?_
  have h00 : w (lc 0) = some (.inr (1, [va_rf (bf3 0), va_rf (nx3 0), .ref (ca3 0), .int (nI (cl3 0)), .int (nI (pe3 0)), .int (nI (pb3 0)), .int (nI (pc3 0)), .int (nI (an3 0)), va_rf (av3 0), va_rf ((if 0 + 1 < n then some (lc (0 + 1)) else none))])) := hch 0 (by omega)
  have hJ : w (lc (min 4 (n - 1))) = some (.inr (1, [va_rf (bf3 (min 4 (n - 1))), va_rf (nx3 (min 4 (n - 1))), .ref (ca3 (min 4 (n - 1))), .int (nI (cl3 (min 4 (n - 1)))), .int (nI (pe3 (min 4 (n - 1)))), .int (nI (pb3 (min 4 (n - 1)))), .int (nI (pc3 (min 4 (n - 1)))), .int (nI (an3 (min 4 (n - 1)))), va_rf (av3 (min 4 (n - 1))), va_rf ((if min 4 (n - 1) + 1 < n then some (lc (min 4 (n - 1) + 1)) else none))])) := hch _ (by omega)
  have hclJ := hcl (min 4 (n - 1)) (by omega)
  refine j_aload_n dX0_tempoUpper_0 0 rfl ?_
  refine j_get flX0_tempoUpper_30 hfo rfl dX0_tempoUpper_1 ?_
  refine j_get (v := .ref (lc 0)) flX0_tempoUpper_147 hm rfl dX0_tempoUpper_4 ?_
  refine j_astore_n (lv' := [(1, .ref (lc 0)), (0, .ref fo)]) dX0_tempoUpper_7 (Nat.le_of_ble_eq_true rfl) rfl ?_
  refine j_aload_n dX0_tempoUpper_8 1 rfl ?_
  refine j_callV (rm := rX0_tempoBase) (As := []) (st := []) (b0 := fo) (ci := 0) (na := 0) (c_tempoBase2 hfo hm hch hn hn2) (by intro E w9 h9; first | exact nomatch h9.1 | (obtain ⟨_, h9, _⟩ := h9; exact nomatch h9) | (obtain ⟨_, _, _, h9, _⟩ := h9; exact nomatch h9)) gX0_tempoUpper_X0_tempoBase rfl rfl hfo (by decide +kernel) rfl ⟨Nat.le_of_ble_eq_true rfl, Nat.le_of_ble_eq_true rfl⟩ rfl (Nat.le_of_ble_eq_true rfl) dX0_tempoUpper_9 ⟨(show 0 + 0 ≤ 0 by omega), (show 0 + 0 ≤ 0 by omega)⟩ (fun v1 w2 h3 => ?_)
  obtain ⟨h3, h4⟩ := h3
  cases h3
  subst w2
  refine j_after (st' := [.ref (lc (min 4 (n - 1)))]) (k' := 0) (n' := 0) rfl rfl rfl ?_
  refine j_astore_n (lv' := [(2, .ref (lc (min 4 (n - 1)))), (1, .ref (lc 0)), (0, .ref fo)]) dX0_tempoUpper_12 (Nat.le_of_ble_eq_true rfl) rfl ?_
  refine j_aload_n dX0_tempoUpper_13 0 rfl ?_
  refine j_ifnull dX0_tempoUpper_14 ?_
  refine j_aload_n dX0_tempoUpper_17 1 rfl ?_
  refine j_ifnonnull 27 dX0_tempoUpper_18 (by decide) ?_
  refine j_aload_n dX0_tempoUpper_27 1 rfl ?_
  refine j_get flX0_tempoUpper_71 h00 rfl dX0_tempoUpper_28 ?_
  refine j_aload_n dX0_tempoUpper_31 0 rfl ?_
  refine j_get flX0_tempoUpper_71 hJ rfl dX0_tempoUpper_32 ?_
  refine j_isubN (by omega) dX0_tempoUpper_35 ?_
  exact j_iret rfl ⟨rfl, rfl⟩ (show 0 ≤ 0 by omega) (show 0 ≤ 0 by omega) dX0_tempoUpper_36
theorem flX0_tempoLower_30 : FL wsX0_tempoLower RX0 30 0 5 := ⟨RX0, TX0, 7, rfl, by decide, by decide +kernel, by decide +kernel⟩
theorem flX0_tempoLower_147 : FL wsX0_tempoLower RX0 147 1 8 := ⟨RX1, TX1, 10, rfl, by decide, by decide +kernel, by decide +kernel⟩
set_option maxHeartbeats 4000000 in
set_option maxRecDepth 100000 in
theorem c_tempoLower0 {w : pW} {fo sc pr ar de ms mn nt : Nat} {cm : Nat} {bf nx ah : Option Nat} {cl pe pb pc an : Nat}  (hfo : w fo = some (.inr (0, [.ref sc, .ref pr, .ref ar, .ref de, .ref ms, .ref mn, .int (nI nt)]))) (hm : w mn = some (.inr (1, [va_rf bf, va_rf nx, .ref cm, .int (nI cl), .int (nI pe), .int (nI pb), .int (nI pc), .int (nI an), va_rf none, va_rf ah]))) {fa ev be cu st me pa : Nat} {f : Nat → Int32} {u : Nat → Nat → Nat} {bh : Nat → Option Nat} (hs : w sc = some (.inr (3, [.ref fa, .int (nI ev), .int (nI be), .int (nI cu), .int (nI st), .int (nI me), .int (nI pa)]))) (hf : w fa = some (.inl (0, 1400, .inl f))) (hM : Mus f ev st u bh) : Ct yX0_tempoLower wsX0_tempoLower rX0_tempoLower [.ref fo] w (fun o w9 => o = .inl (some (.int (nI 1))) ∧ w9 = w) := by
  refine Ct.of (cc := cX0_tempoLower) (own := RX0) (nm := "tempoLower") (nL := 3) (ret := (some .int)) (by decide +kernel) rfl rfl rfl (Nat.le_of_ble_eq_true rfl) ?_
  refine j_lvE (lv' := [(0, .ref fo)]) rfl ?_
  refine j_aload_n dX0_tempoLower_0 0 rfl ?_
  refine j_get flX0_tempoLower_30 hfo rfl dX0_tempoLower_1 ?_
  refine j_get (v := .null) flX0_tempoLower_147 hm rfl dX0_tempoLower_4 ?_
  refine j_astore_nN (lv' := [(1, .null), (0, .ref fo)]) dX0_tempoLower_7 (Nat.le_of_ble_eq_true rfl) rfl ?_
  refine j_aload_n dX0_tempoLower_8 1 rfl ?_
  refine j_callV (rm := rX0_tempoBase) (As := []) (st := []) (b0 := fo) (ci := 0) (na := 0) (c_tempoBase0 hfo hm) (by intro E w9 h9; first | exact nomatch h9.1 | (obtain ⟨_, h9, _⟩ := h9; exact nomatch h9) | (obtain ⟨_, _, _, h9, _⟩ := h9; exact nomatch h9)) gX0_tempoLower_X0_tempoBase rfl rfl hfo (by decide +kernel) rfl ⟨Nat.le_of_ble_eq_true rfl, Nat.le_of_ble_eq_true rfl⟩ rfl (Nat.le_of_ble_eq_true rfl) dX0_tempoLower_9 ⟨(show 0 + 0 ≤ 0 by omega), (show 0 + 0 ≤ 0 by omega)⟩ (fun v1 w2 h3 => ?_)
  obtain ⟨h3, h4⟩ := h3
  cases h3
  subst w2
  refine j_after (st' := [.null]) (k' := 0) (n' := 0) rfl rfl rfl ?_
  refine j_astore_nN (lv' := [(2, .null), (1, .null), (0, .ref fo)]) dX0_tempoLower_12 (Nat.le_of_ble_eq_true rfl) rfl ?_
  refine j_aload_nN dX0_tempoLower_13 0 rfl ?_
  refine j_ifnullN 21 dX0_tempoLower_14 (by decide) ?_
  refine j_iconst (v := nI 1) dX0_tempoLower_21 (by decide) ?_
  refine j_goto 36 dX0_tempoLower_22 (by decide) ?_
  exact j_iret rfl ⟨rfl, rfl⟩ (show 0 ≤ 0 by omega) (show 0 ≤ 0 by omega) dX0_tempoLower_36
set_option maxHeartbeats 4000000 in
set_option maxRecDepth 100000 in
theorem c_tempoLower1 {w : pW} {fo sc pr ar de ms mn nt : Nat} {cm : Nat} {bf nx ah : Option Nat} {cl pe pb pc an : Nat} {lc : Nat → Nat} {bf3 nx3 av3 : Nat → Option Nat} {ca3 cl3 pe3 pb3 pc3 an3 : Nat → Nat} {n : Nat} (hfo : w fo = some (.inr (0, [.ref sc, .ref pr, .ref ar, .ref de, .ref ms, .ref mn, .int (nI nt)]))) (hm : w mn = some (.inr (1, [va_rf bf, va_rf nx, .ref cm, .int (nI cl), .int (nI pe), .int (nI pb), .int (nI pc), .int (nI an), va_rf (some (lc 0)), va_rf ah]))) {fa ev be cu st me pa : Nat} {f : Nat → Int32} {u : Nat → Nat → Nat} {bh : Nat → Option Nat} (hs : w sc = some (.inr (3, [.ref fa, .int (nI ev), .int (nI be), .int (nI cu), .int (nI st), .int (nI me), .int (nI pa)]))) (hf : w fa = some (.inl (0, 1400, .inl f))) (hM : Mus f ev st u bh) (hch : ∀ i, i < n → w (lc i) = some (.inr (1, [va_rf (bf3 i), va_rf (nx3 i), .ref (ca3 i), .int (nI (cl3 i)), .int (nI (pe3 i)), .int (nI (pb3 i)), .int (nI (pc3 i)), .int (nI (an3 i)), va_rf (av3 i), va_rf ((if i + 1 < n then some (lc (i + 1)) else none))]))) (hn : n = 1) : Ct yX0_tempoLower wsX0_tempoLower rX0_tempoLower [.ref fo] w (fun o w9 => o = .inl (some (.int (nI 1))) ∧ w9 = w) := by
  refine Ct.of (cc := cX0_tempoLower) (own := RX0) (nm := "tempoLower") (nL := 3) (ret := (some .int)) (by decide +kernel) rfl rfl rfl (Nat.le_of_ble_eq_true rfl) ?_
  refine j_lvE (lv' := [(0, .ref fo)]) rfl ?_
  refine j_aload_n dX0_tempoLower_0 0 rfl ?_
  refine j_get flX0_tempoLower_30 hfo rfl dX0_tempoLower_1 ?_
  refine j_get (v := .ref (lc 0)) flX0_tempoLower_147 hm rfl dX0_tempoLower_4 ?_
  refine j_astore_n (lv' := [(1, .ref (lc 0)), (0, .ref fo)]) dX0_tempoLower_7 (Nat.le_of_ble_eq_true rfl) rfl ?_
  refine j_aload_n dX0_tempoLower_8 1 rfl ?_
  refine j_callV (rm := rX0_tempoBase) (As := []) (st := []) (b0 := fo) (ci := 0) (na := 0) (c_tempoBase1 hfo hm hch hn) (by intro E w9 h9; first | exact nomatch h9.1 | (obtain ⟨_, h9, _⟩ := h9; exact nomatch h9) | (obtain ⟨_, _, _, h9, _⟩ := h9; exact nomatch h9)) gX0_tempoLower_X0_tempoBase rfl rfl hfo (by decide +kernel) rfl ⟨Nat.le_of_ble_eq_true rfl, Nat.le_of_ble_eq_true rfl⟩ rfl (Nat.le_of_ble_eq_true rfl) dX0_tempoLower_9 ⟨(show 0 + 0 ≤ 0 by omega), (show 0 + 0 ≤ 0 by omega)⟩ (fun v1 w2 h3 => ?_)
  obtain ⟨h3, h4⟩ := h3
  cases h3
  subst w2
  refine j_after (st' := [.null]) (k' := 0) (n' := 0) rfl rfl rfl ?_
  refine j_astore_nN (lv' := [(2, .null), (1, .ref (lc 0)), (0, .ref fo)]) dX0_tempoLower_12 (Nat.le_of_ble_eq_true rfl) rfl ?_
  refine j_aload_nN dX0_tempoLower_13 0 rfl ?_
  refine j_ifnullN 21 dX0_tempoLower_14 (by decide) ?_
  refine j_iconst (v := nI 1) dX0_tempoLower_21 (by decide) ?_
  refine j_goto 36 dX0_tempoLower_22 (by decide) ?_
  exact j_iret rfl ⟨rfl, rfl⟩ (show 0 ≤ 0 by omega) (show 0 ≤ 0 by omega) dX0_tempoLower_36
set_option maxHeartbeats 4000000 in
set_option maxRecDepth 100000 in
theorem c_tempoLower2 {w : pW} {fo sc pr ar de ms mn nt : Nat} {cm : Nat} {bf nx ah : Option Nat} {cl pe pb pc an : Nat} {lc : Nat → Nat} {bf3 nx3 av3 : Nat → Option Nat} {ca3 cl3 pe3 pb3 pc3 an3 : Nat → Nat} {n : Nat} (hfo : w fo = some (.inr (0, [.ref sc, .ref pr, .ref ar, .ref de, .ref ms, .ref mn, .int (nI nt)]))) (hm : w mn = some (.inr (1, [va_rf bf, va_rf nx, .ref cm, .int (nI cl), .int (nI pe), .int (nI pb), .int (nI pc), .int (nI an), va_rf (some (lc 0)), va_rf ah]))) {fa ev be cu st me pa : Nat} {f : Nat → Int32} {u : Nat → Nat → Nat} {bh : Nat → Option Nat} (hs : w sc = some (.inr (3, [.ref fa, .int (nI ev), .int (nI be), .int (nI cu), .int (nI st), .int (nI me), .int (nI pa)]))) (hf : w fa = some (.inl (0, 1400, .inl f))) (hM : Mus f ev st u bh) (hch : ∀ i, i < n → w (lc i) = some (.inr (1, [va_rf (bf3 i), va_rf (nx3 i), .ref (ca3 i), .int (nI (cl3 i)), .int (nI (pe3 i)), .int (nI (pb3 i)), .int (nI (pc3 i)), .int (nI (an3 i)), va_rf (av3 i), va_rf ((if i + 1 < n then some (lc (i + 1)) else none))]))) (hn : 2 ≤ n) (hn2 : n ≤ 1000) (hpe3 : ∀ i, i < n → pe3 i < ev) (hbt : ∀ i, i < n → u 2 (pe3 i) ≤ u 2 (pe3 0)) : Ct yX0_tempoLower wsX0_tempoLower rX0_tempoLower [.ref fo] w (fun o w9 => o = .inl (some (.int (nI (u 2 (pe3 0) - u 2 (pe3 (min 4 (n - 1))))))) ∧ w9 = w) := by
  refine Ct.of (cc := cX0_tempoLower) (own := RX0) (nm := "tempoLower") (nL := 3) (ret := (some .int)) (by decide +kernel) rfl rfl rfl (Nat.le_of_ble_eq_true rfl) ?_
  refine j_lvE (lv' := [(0, .ref fo)]) rfl ?_
  have h00 : w (lc 0) = some (.inr (1, [va_rf (bf3 0), va_rf (nx3 0), .ref (ca3 0), .int (nI (cl3 0)), .int (nI (pe3 0)), .int (nI (pb3 0)), .int (nI (pc3 0)), .int (nI (an3 0)), va_rf (av3 0), va_rf ((if 0 + 1 < n then some (lc (0 + 1)) else none))])) := hch 0 (by omega)
  have hJ : w (lc (min 4 (n - 1))) = some (.inr (1, [va_rf (bf3 (min 4 (n - 1))), va_rf (nx3 (min 4 (n - 1))), .ref (ca3 (min 4 (n - 1))), .int (nI (cl3 (min 4 (n - 1)))), .int (nI (pe3 (min 4 (n - 1)))), .int (nI (pb3 (min 4 (n - 1)))), .int (nI (pc3 (min 4 (n - 1)))), .int (nI (an3 (min 4 (n - 1)))), va_rf (av3 (min 4 (n - 1))), va_rf ((if min 4 (n - 1) + 1 < n then some (lc (min 4 (n - 1) + 1)) else none))])) := hch _ (by omega)
  have hbtJ := hbt (min 4 (n - 1)) (by omega)
  refine j_aload_n dX0_tempoLower_0 0 rfl ?_
  refine j_get flX0_tempoLower_30 hfo rfl dX0_tempoLower_1 ?_
  refine j_get (v := .ref (lc 0)) flX0_tempoLower_147 hm rfl dX0_tempoLower_4 ?_
  refine j_astore_n (lv' := [(1, .ref (lc 0)), (0, .ref fo)]) dX0_tempoLower_7 (Nat.le_of_ble_eq_true rfl) rfl ?_
  refine j_aload_n dX0_tempoLower_8 1 rfl ?_
  refine j_callV (rm := rX0_tempoBase) (As := []) (st := []) (b0 := fo) (ci := 0) (na := 0) (c_tempoBase2 hfo hm hch hn hn2) (by intro E w9 h9; first | exact nomatch h9.1 | (obtain ⟨_, h9, _⟩ := h9; exact nomatch h9) | (obtain ⟨_, _, _, h9, _⟩ := h9; exact nomatch h9)) gX0_tempoLower_X0_tempoBase rfl rfl hfo (by decide +kernel) rfl ⟨Nat.le_of_ble_eq_true rfl, Nat.le_of_ble_eq_true rfl⟩ rfl (Nat.le_of_ble_eq_true rfl) dX0_tempoLower_9 ⟨(show 0 + 0 ≤ 0 by omega), (show 0 + 0 ≤ 0 by omega)⟩ (fun v1 w2 h3 => ?_)
  obtain ⟨h3, h4⟩ := h3
  cases h3
  subst w2
  refine j_after (st' := [.ref (lc (min 4 (n - 1)))]) (k' := 0) (n' := 0) rfl rfl rfl ?_
  refine j_astore_n (lv' := [(2, .ref (lc (min 4 (n - 1)))), (1, .ref (lc 0)), (0, .ref fo)]) dX0_tempoLower_12 (Nat.le_of_ble_eq_true rfl) rfl ?_
  refine j_aload_n dX0_tempoLower_13 0 rfl ?_
  refine j_ifnull dX0_tempoLower_14 ?_
  refine j_aload_n dX0_tempoLower_17 1 rfl ?_
  refine j_ifnonnull 25 dX0_tempoLower_18 (by decide) ?_
  refine j_aload_n dX0_tempoLower_25 2 rfl ?_
  refine j_aload_n dX0_tempoLower_26 1 rfl ?_
  refine j_callV (rm := rX0_beatOf) (As := [.ref (lc 0)]) (st := []) (b0 := fo) (ci := 0) (na := 1) (c_beatOf hfo hs hf hM h00 (hpe3 0 (by omega))) (by intro E w9 h9; first | exact nomatch h9.1 | (obtain ⟨_, h9, _⟩ := h9; exact nomatch h9) | (obtain ⟨_, _, _, h9, _⟩ := h9; exact nomatch h9)) gX0_tempoLower_X0_beatOf rfl rfl hfo (by decide +kernel) rfl ⟨Nat.le_of_ble_eq_true rfl, Nat.le_of_ble_eq_true rfl⟩ rfl (Nat.le_of_ble_eq_true rfl) dX0_tempoLower_27 ⟨(show 0 + 0 ≤ 0 by omega), (show 0 + 0 ≤ 0 by omega)⟩ (fun v5 w6 h7 => ?_)
  obtain ⟨h7, h8⟩ := h7
  cases h7
  subst w6
  refine j_after (st' := [.int (nI (u 2 (pe3 0)))]) (k' := 0) (n' := 0) rfl rfl rfl ?_
  refine j_aload_n dX0_tempoLower_30 2 rfl ?_
  refine j_aload_n dX0_tempoLower_31 0 rfl ?_
  refine j_callV (rm := rX0_beatOf) (As := [.ref (lc (min 4 (n - 1)))]) (st := [.int (nI (u 2 (pe3 0)))]) (b0 := fo) (ci := 0) (na := 1) (c_beatOf hfo hs hf hM hJ (hpe3 _ (by omega))) (by intro E w9 h9; first | exact nomatch h9.1 | (obtain ⟨_, h9, _⟩ := h9; exact nomatch h9) | (obtain ⟨_, _, _, h9, _⟩ := h9; exact nomatch h9)) gX0_tempoLower_X0_beatOf rfl rfl hfo (by decide +kernel) rfl ⟨Nat.le_of_ble_eq_true rfl, Nat.le_of_ble_eq_true rfl⟩ rfl (Nat.le_of_ble_eq_true rfl) dX0_tempoLower_32 ⟨(show 0 + 0 ≤ 0 by omega), (show 0 + 0 ≤ 0 by omega)⟩ (fun v9 w10 h11 => ?_)
  obtain ⟨h11, h12⟩ := h11
  cases h11
  subst w10
  refine j_after (st' := [.int (nI (u 2 (pe3 (min 4 (n - 1))))), .int (nI (u 2 (pe3 0)))]) (k' := 0) (n' := 0) rfl rfl rfl ?_
  refine j_isubN (by omega) dX0_tempoLower_35 ?_
  exact j_iret rfl ⟨rfl, rfl⟩ (show 0 ≤ 0 by omega) (show 0 ≤ 0 by omega) dX0_tempoLower_36
/-- the time of a beat told ahead -/
def tmV (cl up lo b0 bt : Nat) : Int64 := (nI cl).toInt64 + flD ((nI up).toInt64 * (nI bt - nI b0).toInt64) (nI lo).toInt64
theorem lo_pos {lo : Nat} (h : 0 < lo) (h2 : lo < 2 ^ 31) : (0 : Int64) < (nI lo).toInt64 := by
  rw [nI_l h2]
  exact (lN_lt (a := 0) (by decide) h2).mpr h
theorem lo_ne {lo : Nat} (h : 0 < lo) (h2 : lo < 2 ^ 31) : ¬ (nI lo).toInt64 = 0 := fun e => by
  have := lo_pos h h2
  rw [e] at this
  exact absurd this (by decide)
abbrev rX0_timeOfBeat : Room := { frames := 3, cells := 0, slots := 0, locals := 65 }
theorem flX0_timeOfBeat_30 : FL wsX0_timeOfBeat RX0 30 0 5 := ⟨RX0, TX0, 7, rfl, by decide, by decide +kernel, by decide +kernel⟩
theorem flX0_timeOfBeat_147 : FL wsX0_timeOfBeat RX0 147 1 8 := ⟨RX1, TX1, 10, rfl, by decide, by decide +kernel, by decide +kernel⟩
set_option maxRecDepth 100000 in
theorem mX0_timeOfBeat_0 : Cond.constantLong RX0 161 (-1) ∈ wsX0_timeOfBeat := by decide +kernel
set_option maxHeartbeats 4000000 in
set_option maxRecDepth 100000 in
theorem c_timeOfBeat0 {w : pW} {fo sc pr ar de ms mn nt : Nat} {cm : Nat} {bf nx ah : Option Nat} {cl pe pb pc an : Nat}  (hfo : w fo = some (.inr (0, [.ref sc, .ref pr, .ref ar, .ref de, .ref ms, .ref mn, .int (nI nt)]))) (hm : w mn = some (.inr (1, [va_rf bf, va_rf nx, .ref cm, .int (nI cl), .int (nI pe), .int (nI pb), .int (nI pc), .int (nI an), va_rf none, va_rf ah]))) {fa ev be cu st me pa : Nat} {f : Nat → Int32} {u : Nat → Nat → Nat} {bh : Nat → Option Nat} (hs : w sc = some (.inr (3, [.ref fa, .int (nI ev), .int (nI be), .int (nI cu), .int (nI st), .int (nI me), .int (nI pa)]))) (hf : w fa = some (.inl (0, 1400, .inl f))) (hM : Mus f ev st u bh) {bt : Nat} : Ct yX0_timeOfBeat wsX0_timeOfBeat rX0_timeOfBeat [.ref fo, .int (nI bt)] w (fun o w9 => o = .inl (some (.long (-1))) ∧ w9 = w) := by
  refine Ct.of (cc := cX0_timeOfBeat) (own := RX0) (nm := "timeOfBeat") (nL := 7) (ret := (some .long)) (by decide +kernel) rfl rfl rfl (Nat.le_of_ble_eq_true rfl) ?_
  refine j_lvE (lv' := [(0, .ref fo), (1, .int (nI bt))]) rfl ?_
  refine j_aload_n dX0_timeOfBeat_0 0 rfl ?_
  refine j_get flX0_timeOfBeat_30 hfo rfl dX0_timeOfBeat_1 ?_
  refine j_get (v := .null) flX0_timeOfBeat_147 hm rfl dX0_timeOfBeat_4 ?_
  refine j_astore_nN (lv' := [(2, .null), (0, .ref fo), (1, .int (nI bt))]) dX0_timeOfBeat_7 (Nat.le_of_ble_eq_true rfl) rfl ?_
  refine j_aload_nN dX0_timeOfBeat_8 0 rfl ?_
  refine j_ifnonnullN dX0_timeOfBeat_9 ?_
  refine j_ldc2 (v := (-1)) dX0_timeOfBeat_12 mX0_timeOfBeat_0 ?_
  exact j_lret rfl ⟨rfl, rfl⟩ (show 0 ≤ 0 by omega) (show 0 ≤ 0 by omega) dX0_timeOfBeat_15
theorem flX0_timeOfBeat_71 : FL wsX0_timeOfBeat RX0 71 1 3 := ⟨RX1, TX1, 10, rfl, by decide, by decide +kernel, by decide +kernel⟩
set_option maxHeartbeats 4000000 in
set_option maxRecDepth 100000 in
theorem c_timeOfBeat1 {w : pW} {fo sc pr ar de ms mn nt : Nat} {cm : Nat} {bf nx ah : Option Nat} {cl pe pb pc an : Nat} {lc : Nat → Nat} {bf3 nx3 av3 : Nat → Option Nat} {ca3 cl3 pe3 pb3 pc3 an3 : Nat → Nat} {n : Nat} (hfo : w fo = some (.inr (0, [.ref sc, .ref pr, .ref ar, .ref de, .ref ms, .ref mn, .int (nI nt)]))) (hm : w mn = some (.inr (1, [va_rf bf, va_rf nx, .ref cm, .int (nI cl), .int (nI pe), .int (nI pb), .int (nI pc), .int (nI an), va_rf (some (lc 0)), va_rf ah]))) {fa ev be cu st me pa : Nat} {f : Nat → Int32} {u : Nat → Nat → Nat} {bh : Nat → Option Nat} (hs : w sc = some (.inr (3, [.ref fa, .int (nI ev), .int (nI be), .int (nI cu), .int (nI st), .int (nI me), .int (nI pa)]))) (hf : w fa = some (.inl (0, 1400, .inl f))) (hM : Mus f ev st u bh) (hch : ∀ i, i < n → w (lc i) = some (.inr (1, [va_rf (bf3 i), va_rf (nx3 i), .ref (ca3 i), .int (nI (cl3 i)), .int (nI (pe3 i)), .int (nI (pb3 i)), .int (nI (pc3 i)), .int (nI (an3 i)), va_rf (av3 i), va_rf ((if i + 1 < n then some (lc (i + 1)) else none))]))) (hn : n = 1) (hpe3 : ∀ i, i < n → pe3 i < ev) {bt : Nat} : Ct yX0_timeOfBeat wsX0_timeOfBeat rX0_timeOfBeat [.ref fo, .int (nI bt)] w (fun o w9 => o = .inl (some (.long (tmV (cl3 0) 500 1 (u 2 (pe3 0)) bt))) ∧ w9 = w) := by
  refine Ct.of (cc := cX0_timeOfBeat) (own := RX0) (nm := "timeOfBeat") (nL := 7) (ret := (some .long)) (by decide +kernel) rfl rfl rfl (Nat.le_of_ble_eq_true rfl) ?_
  refine j_lvE (lv' := [(0, .ref fo), (1, .int (nI bt))]) rfl ?_
  have h00 : w (lc 0) = some (.inr (1, [va_rf (bf3 0), va_rf (nx3 0), .ref (ca3 0), .int (nI (cl3 0)), .int (nI (pe3 0)), .int (nI (pb3 0)), .int (nI (pc3 0)), .int (nI (an3 0)), va_rf (av3 0), va_rf ((if 0 + 1 < n then some (lc (0 + 1)) else none))])) := hch 0 (by omega)
  refine j_aload_n dX0_timeOfBeat_0 0 rfl ?_
  refine j_get flX0_timeOfBeat_30 hfo rfl dX0_timeOfBeat_1 ?_
  refine j_get (v := .ref (lc 0)) flX0_timeOfBeat_147 hm rfl dX0_timeOfBeat_4 ?_
  refine j_astore_n (lv' := [(2, .ref (lc 0)), (0, .ref fo), (1, .int (nI bt))]) dX0_timeOfBeat_7 (Nat.le_of_ble_eq_true rfl) rfl ?_
  refine j_aload_n dX0_timeOfBeat_8 0 rfl ?_
  refine j_ifnonnull 16 dX0_timeOfBeat_9 (by decide) ?_
  refine j_aload_n dX0_timeOfBeat_16 1 rfl ?_
  refine j_callV (rm := rX0_tempoLower) (As := []) (st := []) (b0 := fo) (ci := 0) (na := 0) (c_tempoLower1 hfo hm hs hf hM hch hn) (by intro E w9 h9; first | exact nomatch h9.1 | (obtain ⟨_, h9, _⟩ := h9; exact nomatch h9) | (obtain ⟨_, _, _, h9, _⟩ := h9; exact nomatch h9)) gX0_timeOfBeat_X0_tempoLower rfl rfl hfo (by decide +kernel) rfl ⟨Nat.le_of_ble_eq_true rfl, Nat.le_of_ble_eq_true rfl⟩ rfl (Nat.le_of_ble_eq_true rfl) dX0_timeOfBeat_17 ⟨(show 0 + 0 ≤ 0 by omega), (show 0 + 0 ≤ 0 by omega)⟩ (fun v1 w2 h3 => ?_)
  obtain ⟨h3, h4⟩ := h3
  cases h3
  subst w2
  refine j_after (st' := [.int (nI 1)]) (k' := 0) (n' := 0) rfl rfl rfl ?_
  refine j_i2l dX0_timeOfBeat_20 rfl ?_
  refine j_lstore_n (lv' := [(3, .long (((nI 1)).toInt64)), (2, .ref (lc 0)), (0, .ref fo), (1, .int (nI bt))]) dX0_timeOfBeat_21 (Nat.le_of_ble_eq_true rfl) rfl ?_
  refine j_aload_n dX0_timeOfBeat_22 2 rfl ?_
  refine j_callV (rm := rX0_tempoUpper) (As := []) (st := []) (b0 := fo) (ci := 0) (na := 0) (c_tempoUpper1 hfo hm hch hn) (by intro E w9 h9; first | exact nomatch h9.1 | (obtain ⟨_, h9, _⟩ := h9; exact nomatch h9) | (obtain ⟨_, _, _, h9, _⟩ := h9; exact nomatch h9)) gX0_timeOfBeat_X0_tempoUpper rfl rfl hfo (by decide +kernel) rfl ⟨Nat.le_of_ble_eq_true rfl, Nat.le_of_ble_eq_true rfl⟩ rfl (Nat.le_of_ble_eq_true rfl) dX0_timeOfBeat_23 ⟨(show 0 + 0 ≤ 0 by omega), (show 0 + 0 ≤ 0 by omega)⟩ (fun v5 w6 h7 => ?_)
  obtain ⟨h7, h8⟩ := h7
  cases h7
  subst w6
  refine j_after (st' := [.int (nI 500)]) (k' := 0) (n' := 0) rfl rfl rfl ?_
  refine j_i2l dX0_timeOfBeat_26 rfl ?_
  refine j_iload_n dX0_timeOfBeat_27 3 rfl ?_
  refine j_aload_n dX0_timeOfBeat_28 2 rfl ?_
  refine j_aload_n dX0_timeOfBeat_29 1 rfl ?_
  refine j_callV (rm := rX0_beatOf) (As := [.ref (lc 0)]) (st := [.int (nI bt), .long (((nI 500)).toInt64)]) (b0 := fo) (ci := 0) (na := 1) (c_beatOf hfo hs hf hM h00 (hpe3 0 (by omega))) (by intro E w9 h9; first | exact nomatch h9.1 | (obtain ⟨_, h9, _⟩ := h9; exact nomatch h9) | (obtain ⟨_, _, _, h9, _⟩ := h9; exact nomatch h9)) gX0_timeOfBeat_X0_beatOf rfl rfl hfo (by decide +kernel) rfl ⟨Nat.le_of_ble_eq_true rfl, Nat.le_of_ble_eq_true rfl⟩ rfl (Nat.le_of_ble_eq_true rfl) dX0_timeOfBeat_30 ⟨(show 0 + 0 ≤ 0 by omega), (show 0 + 0 ≤ 0 by omega)⟩ (fun v9 w10 h11 => ?_)
  obtain ⟨h11, h12⟩ := h11
  cases h11
  subst w10
  refine j_after (st' := [.int (nI (u 2 (pe3 0))), .int (nI bt), .long (((nI 500)).toInt64)]) (k' := 0) (n' := 0) rfl rfl rfl ?_
  refine j_isub dX0_timeOfBeat_33 ?_
  refine j_i2l dX0_timeOfBeat_34 rfl ?_
  refine j_lmul dX0_timeOfBeat_35 ?_
  refine j_lstore (lv' := [(5, .long ((((nI 500)).toInt64) * (((nI bt - nI (u 2 (pe3 0)))).toInt64))), (3, .long (((nI 1)).toInt64)), (2, .ref (lc 0)), (0, .ref fo), (1, .int (nI bt))]) dX0_timeOfBeat_36 (Nat.le_of_ble_eq_true rfl) rfl ?_
  refine j_lload_n dX0_timeOfBeat_38 1 rfl ?_
  refine j_lconst (v := 0) dX0_timeOfBeat_39 (by decide) ?_
  refine j_lcmp dX0_timeOfBeat_40 ?_
  refine j_if_gt 52 dX0_timeOfBeat_41 (by decide) (fun c41 => ?_) (fun c41 => ?_)
  · skip
    refine j_aload_n dX0_timeOfBeat_52 2 rfl ?_
    refine j_get flX0_timeOfBeat_71 h00 rfl dX0_timeOfBeat_53 ?_
    refine j_i2l dX0_timeOfBeat_56 rfl ?_
    refine j_lload dX0_timeOfBeat_57 0 rfl ?_
    refine j_lload_n dX0_timeOfBeat_59 1 rfl ?_
    refine j_callS (rm := rJ9_floorDiv_f86c9) (As := [.long ((((nI 500)).toInt64) * (((nI bt - nI (u 2 (pe3 0)))).toInt64)), .long (((nI 1)).toInt64)]) (st := [.long (((nI (cl3 0))).toInt64)]) (na := 2) (c_floorDiv (x := (((nI 500)).toInt64) * (((nI bt - nI (u 2 (pe3 0)))).toInt64)) (y := ((nI 1)).toInt64) (lo_ne (by omega) (by omega))) (by intro E w9 h9; first | exact nomatch h9.1 | (obtain ⟨_, h9, _⟩ := h9; exact nomatch h9) | (obtain ⟨_, _, _, h9, _⟩ := h9; exact nomatch h9)) gX0_timeOfBeat_J9_floorDiv_f86c9 rfl (by decide +kernel) rfl ⟨Nat.le_of_ble_eq_true rfl, Nat.le_of_ble_eq_true rfl⟩ rfl (Nat.le_of_ble_eq_true rfl) dX0_timeOfBeat_60 ⟨(show 0 + 0 ≤ 0 by omega), (show 0 + 0 ≤ 0 by omega)⟩ (fun v13 w14 h15 => ?_)
    obtain ⟨h15, h16⟩ := h15
    cases h15
    subst w14
    refine j_after (st' := [.long (flD ((((nI 500)).toInt64) * (((nI bt - nI (u 2 (pe3 0)))).toInt64)) (((nI 1)).toInt64)), .long (((nI (cl3 0))).toInt64)]) (k' := 0) (n' := 0) rfl rfl rfl ?_
    refine j_ladd dX0_timeOfBeat_63 ?_
    exact j_lret rfl ⟨rfl, rfl⟩ (show 0 ≤ 0 by omega) (show 0 ≤ 0 by omega) dX0_timeOfBeat_64
  · skip
    exact absurd ((lg_cmp_gt _ _).mpr (lo_pos (by omega) (by omega))) c41
set_option maxHeartbeats 4000000 in
set_option maxRecDepth 100000 in
theorem c_timeOfBeat2 {w : pW} {fo sc pr ar de ms mn nt : Nat} {cm : Nat} {bf nx ah : Option Nat} {cl pe pb pc an : Nat} {lc : Nat → Nat} {bf3 nx3 av3 : Nat → Option Nat} {ca3 cl3 pe3 pb3 pc3 an3 : Nat → Nat} {n : Nat} (hfo : w fo = some (.inr (0, [.ref sc, .ref pr, .ref ar, .ref de, .ref ms, .ref mn, .int (nI nt)]))) (hm : w mn = some (.inr (1, [va_rf bf, va_rf nx, .ref cm, .int (nI cl), .int (nI pe), .int (nI pb), .int (nI pc), .int (nI an), va_rf (some (lc 0)), va_rf ah]))) {fa ev be cu st me pa : Nat} {f : Nat → Int32} {u : Nat → Nat → Nat} {bh : Nat → Option Nat} (hs : w sc = some (.inr (3, [.ref fa, .int (nI ev), .int (nI be), .int (nI cu), .int (nI st), .int (nI me), .int (nI pa)]))) (hf : w fa = some (.inl (0, 1400, .inl f))) (hM : Mus f ev st u bh) (hch : ∀ i, i < n → w (lc i) = some (.inr (1, [va_rf (bf3 i), va_rf (nx3 i), .ref (ca3 i), .int (nI (cl3 i)), .int (nI (pe3 i)), .int (nI (pb3 i)), .int (nI (pc3 i)), .int (nI (an3 i)), va_rf (av3 i), va_rf ((if i + 1 < n then some (lc (i + 1)) else none))]))) (hn : 2 ≤ n) (hn2 : n ≤ 1000) (hcl : ∀ i, i < n → cl3 i ≤ cl3 0) (hclb : cl3 0 < 2 ^ 31) (hpe3 : ∀ i, i < n → pe3 i < ev) (hbt : ∀ i, i < n → u 2 (pe3 i) ≤ u 2 (pe3 0)) (hlo : 0 < u 2 (pe3 0) - u 2 (pe3 (min 4 (n - 1)))) {bt : Nat} : Ct yX0_timeOfBeat wsX0_timeOfBeat rX0_timeOfBeat [.ref fo, .int (nI bt)] w (fun o w9 => o = .inl (some (.long (tmV (cl3 0) (cl3 0 - cl3 (min 4 (n - 1))) (u 2 (pe3 0) - u 2 (pe3 (min 4 (n - 1)))) (u 2 (pe3 0)) bt))) ∧ w9 = w) := by
  refine Ct.of (cc := cX0_timeOfBeat) (own := RX0) (nm := "timeOfBeat") (nL := 7) (ret := (some .long)) (by decide +kernel) rfl rfl rfl (Nat.le_of_ble_eq_true rfl) ?_
  refine j_lvE (lv' := [(0, .ref fo), (1, .int (nI bt))]) rfl ?_
  have h00 : w (lc 0) = some (.inr (1, [va_rf (bf3 0), va_rf (nx3 0), .ref (ca3 0), .int (nI (cl3 0)), .int (nI (pe3 0)), .int (nI (pb3 0)), .int (nI (pc3 0)), .int (nI (an3 0)), va_rf (av3 0), va_rf ((if 0 + 1 < n then some (lc (0 + 1)) else none))])) := hch 0 (by omega)
  have hJ : w (lc (min 4 (n - 1))) = some (.inr (1, [va_rf (bf3 (min 4 (n - 1))), va_rf (nx3 (min 4 (n - 1))), .ref (ca3 (min 4 (n - 1))), .int (nI (cl3 (min 4 (n - 1)))), .int (nI (pe3 (min 4 (n - 1)))), .int (nI (pb3 (min 4 (n - 1)))), .int (nI (pc3 (min 4 (n - 1)))), .int (nI (an3 (min 4 (n - 1)))), va_rf (av3 (min 4 (n - 1))), va_rf ((if min 4 (n - 1) + 1 < n then some (lc (min 4 (n - 1) + 1)) else none))])) := hch _ (by omega)
  have hbd0 := hM.bd (hpe3 0 (by omega))
  refine j_aload_n dX0_timeOfBeat_0 0 rfl ?_
  refine j_get flX0_timeOfBeat_30 hfo rfl dX0_timeOfBeat_1 ?_
  refine j_get (v := .ref (lc 0)) flX0_timeOfBeat_147 hm rfl dX0_timeOfBeat_4 ?_
  refine j_astore_n (lv' := [(2, .ref (lc 0)), (0, .ref fo), (1, .int (nI bt))]) dX0_timeOfBeat_7 (Nat.le_of_ble_eq_true rfl) rfl ?_
  refine j_aload_n dX0_timeOfBeat_8 0 rfl ?_
  refine j_ifnonnull 16 dX0_timeOfBeat_9 (by decide) ?_
  refine j_aload_n dX0_timeOfBeat_16 1 rfl ?_
  refine j_callV (rm := rX0_tempoLower) (As := []) (st := []) (b0 := fo) (ci := 0) (na := 0) (c_tempoLower2 hfo hm hs hf hM hch hn hn2 hpe3 hbt) (by intro E w9 h9; first | exact nomatch h9.1 | (obtain ⟨_, h9, _⟩ := h9; exact nomatch h9) | (obtain ⟨_, _, _, h9, _⟩ := h9; exact nomatch h9)) gX0_timeOfBeat_X0_tempoLower rfl rfl hfo (by decide +kernel) rfl ⟨Nat.le_of_ble_eq_true rfl, Nat.le_of_ble_eq_true rfl⟩ rfl (Nat.le_of_ble_eq_true rfl) dX0_timeOfBeat_17 ⟨(show 0 + 0 ≤ 0 by omega), (show 0 + 0 ≤ 0 by omega)⟩ (fun v1 w2 h3 => ?_)
  obtain ⟨h3, h4⟩ := h3
  cases h3
  subst w2
  refine j_after (st' := [.int (nI (u 2 (pe3 0) - u 2 (pe3 (min 4 (n - 1)))))]) (k' := 0) (n' := 0) rfl rfl rfl ?_
  refine j_i2l dX0_timeOfBeat_20 rfl ?_
  refine j_lstore_n (lv' := [(3, .long (((nI (u 2 (pe3 0) - u 2 (pe3 (min 4 (n - 1)))))).toInt64)), (2, .ref (lc 0)), (0, .ref fo), (1, .int (nI bt))]) dX0_timeOfBeat_21 (Nat.le_of_ble_eq_true rfl) rfl ?_
  refine j_aload_n dX0_timeOfBeat_22 2 rfl ?_
  refine j_callV (rm := rX0_tempoUpper) (As := []) (st := []) (b0 := fo) (ci := 0) (na := 0) (c_tempoUpper2 hfo hm hch hn hn2 hcl hclb) (by intro E w9 h9; first | exact nomatch h9.1 | (obtain ⟨_, h9, _⟩ := h9; exact nomatch h9) | (obtain ⟨_, _, _, h9, _⟩ := h9; exact nomatch h9)) gX0_timeOfBeat_X0_tempoUpper rfl rfl hfo (by decide +kernel) rfl ⟨Nat.le_of_ble_eq_true rfl, Nat.le_of_ble_eq_true rfl⟩ rfl (Nat.le_of_ble_eq_true rfl) dX0_timeOfBeat_23 ⟨(show 0 + 0 ≤ 0 by omega), (show 0 + 0 ≤ 0 by omega)⟩ (fun v5 w6 h7 => ?_)
  obtain ⟨h7, h8⟩ := h7
  cases h7
  subst w6
  refine j_after (st' := [.int (nI (cl3 0 - cl3 (min 4 (n - 1))))]) (k' := 0) (n' := 0) rfl rfl rfl ?_
  refine j_i2l dX0_timeOfBeat_26 rfl ?_
  refine j_iload_n dX0_timeOfBeat_27 3 rfl ?_
  refine j_aload_n dX0_timeOfBeat_28 2 rfl ?_
  refine j_aload_n dX0_timeOfBeat_29 1 rfl ?_
  refine j_callV (rm := rX0_beatOf) (As := [.ref (lc 0)]) (st := [.int (nI bt), .long (((nI (cl3 0 - cl3 (min 4 (n - 1))))).toInt64)]) (b0 := fo) (ci := 0) (na := 1) (c_beatOf hfo hs hf hM h00 (hpe3 0 (by omega))) (by intro E w9 h9; first | exact nomatch h9.1 | (obtain ⟨_, h9, _⟩ := h9; exact nomatch h9) | (obtain ⟨_, _, _, h9, _⟩ := h9; exact nomatch h9)) gX0_timeOfBeat_X0_beatOf rfl rfl hfo (by decide +kernel) rfl ⟨Nat.le_of_ble_eq_true rfl, Nat.le_of_ble_eq_true rfl⟩ rfl (Nat.le_of_ble_eq_true rfl) dX0_timeOfBeat_30 ⟨(show 0 + 0 ≤ 0 by omega), (show 0 + 0 ≤ 0 by omega)⟩ (fun v9 w10 h11 => ?_)
  obtain ⟨h11, h12⟩ := h11
  cases h11
  subst w10
  refine j_after (st' := [.int (nI (u 2 (pe3 0))), .int (nI bt), .long (((nI (cl3 0 - cl3 (min 4 (n - 1))))).toInt64)]) (k' := 0) (n' := 0) rfl rfl rfl ?_
  refine j_isub dX0_timeOfBeat_33 ?_
  refine j_i2l dX0_timeOfBeat_34 rfl ?_
  refine j_lmul dX0_timeOfBeat_35 ?_
  refine j_lstore (lv' := [(5, .long ((((nI (cl3 0 - cl3 (min 4 (n - 1))))).toInt64) * (((nI bt - nI (u 2 (pe3 0)))).toInt64))), (3, .long (((nI (u 2 (pe3 0) - u 2 (pe3 (min 4 (n - 1)))))).toInt64)), (2, .ref (lc 0)), (0, .ref fo), (1, .int (nI bt))]) dX0_timeOfBeat_36 (Nat.le_of_ble_eq_true rfl) rfl ?_
  refine j_lload_n dX0_timeOfBeat_38 1 rfl ?_
  refine j_lconst (v := 0) dX0_timeOfBeat_39 (by decide) ?_
  refine j_lcmp dX0_timeOfBeat_40 ?_
  refine j_if_gt 52 dX0_timeOfBeat_41 (by decide) (fun c41 => ?_) (fun c41 => ?_)
  · skip
    refine j_aload_n dX0_timeOfBeat_52 2 rfl ?_
    refine j_get flX0_timeOfBeat_71 h00 rfl dX0_timeOfBeat_53 ?_
    refine j_i2l dX0_timeOfBeat_56 rfl ?_
    refine j_lload dX0_timeOfBeat_57 0 rfl ?_
    refine j_lload_n dX0_timeOfBeat_59 1 rfl ?_
    refine j_callS (rm := rJ9_floorDiv_f86c9) (As := [.long ((((nI (cl3 0 - cl3 (min 4 (n - 1))))).toInt64) * (((nI bt - nI (u 2 (pe3 0)))).toInt64)), .long (((nI (u 2 (pe3 0) - u 2 (pe3 (min 4 (n - 1)))))).toInt64)]) (st := [.long (((nI (cl3 0))).toInt64)]) (na := 2) (c_floorDiv (x := (((nI (cl3 0 - cl3 (min 4 (n - 1))))).toInt64) * (((nI bt - nI (u 2 (pe3 0)))).toInt64)) (y := ((nI (u 2 (pe3 0) - u 2 (pe3 (min 4 (n - 1)))))).toInt64) (lo_ne (by omega) (by omega))) (by intro E w9 h9; first | exact nomatch h9.1 | (obtain ⟨_, h9, _⟩ := h9; exact nomatch h9) | (obtain ⟨_, _, _, h9, _⟩ := h9; exact nomatch h9)) gX0_timeOfBeat_J9_floorDiv_f86c9 rfl (by decide +kernel) rfl ⟨Nat.le_of_ble_eq_true rfl, Nat.le_of_ble_eq_true rfl⟩ rfl (Nat.le_of_ble_eq_true rfl) dX0_timeOfBeat_60 ⟨(show 0 + 0 ≤ 0 by omega), (show 0 + 0 ≤ 0 by omega)⟩ (fun v13 w14 h15 => ?_)
    obtain ⟨h15, h16⟩ := h15
    cases h15
    subst w14
    refine j_after (st' := [.long (flD ((((nI (cl3 0 - cl3 (min 4 (n - 1))))).toInt64) * (((nI bt - nI (u 2 (pe3 0)))).toInt64)) (((nI (u 2 (pe3 0) - u 2 (pe3 (min 4 (n - 1)))))).toInt64)), .long (((nI (cl3 0))).toInt64)]) (k' := 0) (n' := 0) rfl rfl rfl ?_
    refine j_ladd dX0_timeOfBeat_63 ?_
    exact j_lret rfl ⟨rfl, rfl⟩ (show 0 ≤ 0 by omega) (show 0 ≤ 0 by omega) dX0_timeOfBeat_64
  · skip
    exact absurd ((lg_cmp_gt _ _).mpr (lo_pos (by omega) (by omega))) c41
