theorem tOut {x : Int32} {n : Nat} (hn : n + 1 < 2 ^ 31) (hb : x < 0 ∨ nI (n + 1) ≤ x) : x.toInt < 0 ∨ (n : Int) < x.toInt := by
  rcases hb with h | h
  · exact Or.inl (Int32.lt_iff_toInt_lt.mp h)
  · refine Or.inr ?_
    have h1 := Int32.le_iff_toInt_le.mp h
    rw [show (nI (n + 1)).toInt = ((n + 1 : Nat) : Int) from Int32.toInt_ofNat_of_lt hn] at h1
    omega
abbrev rX5_count : Room := { frames := 6, cells := 1, slots := 6, locals := 90 }
def cntF (f : Nat → Int32) (ev be nt an tl cu k : Nat) : Int32 := if k = 0 then nI ev else if k = 1 then (if ev = 0 then nI 0 else f ((ev - 1) * 14 + 4) + nI 1) else if k = 2 then (if ev = 0 then nI 0 else f ((ev - 1) * 14 + 5) + nI 1) else if k = 3 then nI be else if k = 4 then nI nt else if k = 5 then nI an else if k = 6 then nI tl else nI cu
theorem flX5_count_27 : FL wsX5_count RX5 27 5 3 := ⟨RX5, TX5, 6, rfl, by decide, by decide +kernel, by decide +kernel⟩
theorem flX5_count_76 : FL wsX5_count RX5 76 3 1 := ⟨RX3, TX3, 7, rfl, by decide, by decide +kernel, by decide +kernel⟩
theorem flX5_count_86 : FL wsX5_count RX5 86 3 2 := ⟨RX3, TX3, 7, rfl, by decide, by decide +kernel, by decide +kernel⟩
theorem flX5_count_36 : FL wsX5_count RX5 36 5 4 := ⟨RX5, TX5, 6, rfl, by decide, by decide +kernel, by decide +kernel⟩
theorem flX5_count_89 : FL wsX5_count RX5 89 0 6 := ⟨RX0, TX0, 7, rfl, by decide, by decide +kernel, by decide +kernel⟩
theorem flX5_count_13 : FL wsX5_count RX5 13 5 1 := ⟨RX5, TX5, 6, rfl, by decide, by decide +kernel, by decide +kernel⟩
theorem flX5_count_95 : FL wsX5_count RX5 95 3 3 := ⟨RX3, TX3, 7, rfl, by decide, by decide +kernel, by decide +kernel⟩
set_option maxHeartbeats 4000000 in
set_option maxRecDepth 100000 in
theorem c_count {w : pW} {fo sc pr ar de ms mn nt : Nat} {fa ev be cu st me pa : Nat} {f : Nat → Int32} {u : Nat → Nat → Nat} {bh : Nat → Option Nat} {cm : Nat} {bf nx av ah : Option Nat} {cl pe pb pc an : Nat} {cn : Nat} {d : Nat → Nat} (hfo : w fo = some (.inr (0, [.ref sc, .ref pr, .ref ar, .ref de, .ref ms, .ref mn, .int (nI nt)]))) (hs : w sc = some (.inr (3, [.ref fa, .int (nI ev), .int (nI be), .int (nI cu), .int (nI st), .int (nI me), .int (nI pa)]))) (hf : w fa = some (.inl (0, 1400, .inl f))) (hm : w mn = some (.inr (1, [va_rf bf, va_rf nx, .ref cm, .int (nI cl), .int (nI pe), .int (nI pb), .int (nI pc), .int (nI an), va_rf av, va_rf ah]))) (hc : w cm = some (.inl (0, cn, .inl (fun j9 => nI (d j9))))) (hM : Mus f ev st u bh) (hst : st ≤ cn) (hcn : cn ≤ 100000) (hdd : ∀ j, d j ≤ 1000000) (hN : va_nd [fa, cm] = true) {pt tx tl rd ld : Nat} (hpt : w pt = some (.inr (5, [.ref tx, .int (nI tl), .ref rd, .ref sc, .ref fo, .int (nI ld)]))) {k : Nat} (hk : k < 8) : Ct yX5_count wsX5_count rX5_count [.ref pt, .int (nI k)] w (fun o w9 => o = .inl (some (.int (cntF f ev be nt an tl cu k))) ∧ w9 = w) := by
  refine Ct.of (cc := cX5_count) (own := RX5) (nm := "count") (nL := 2) (ret := (some .int)) (by decide +kernel) rfl rfl rfl (Nat.le_of_ble_eq_true rfl) ?_
  refine j_lvE (lv' := [(0, .ref pt), (1, .int (nI k))]) rfl ?_
  have hev := hM.hev
  have hst0 := hM.hst
  have hev9 := hM.hev
  refine j_iload_n dX5_count_0 1 rfl ?_
  by_cases k0 : k = 0
  · skip
    refine j_tableIn (off := 47) 48 dX5_count_1 (by rw [k0]; decide) (by rw [k0]; decide) (by rw [k0]; decide) (by decide) ?_
    refine j_aload_n dX5_count_48 0 rfl ?_
    refine j_get flX5_count_27 hpt rfl dX5_count_49 ?_
    refine j_get flX5_count_76 hs rfl dX5_count_52 ?_
    exact j_iret rfl ⟨by subst k0; rfl, rfl⟩ (show 0 ≤ 1 by omega) (show 0 ≤ 6 by omega) dX5_count_55
  by_cases k1 : k = 1
  · skip
    refine j_tableIn (off := 55) 56 dX5_count_1 (by rw [k1]; decide) (by rw [k1]; decide) (by rw [k1]; decide) (by decide) ?_
    refine j_aload_n dX5_count_56 0 rfl ?_
    refine j_get flX5_count_27 hpt rfl dX5_count_57 ?_
    refine j_callV (rm := rX3_measuresWithEvents) (As := []) (st := []) (b0 := sc) (ci := 3) (na := 0) (c_measuresWithEvents hs hf (by omega)) (by intro E w9 h9; first | exact nomatch h9.1 | (obtain ⟨_, h9, _⟩ := h9; exact nomatch h9) | (obtain ⟨_, _, _, h9, _⟩ := h9; exact nomatch h9)) gX5_count_X3_measuresWithEvents rfl rfl hs (by decide +kernel) rfl ⟨Nat.le_of_ble_eq_true rfl, Nat.le_of_ble_eq_true rfl⟩ rfl (Nat.le_of_ble_eq_true rfl) dX5_count_60 ⟨(show 0 + 0 ≤ 1 by omega), (show 0 + 0 ≤ 6 by omega)⟩ (fun v1 w2 h3 => ?_)
    obtain ⟨h3, h4⟩ := h3
    cases h3
    subst w2
    refine j_after (st' := [.int (if ev = 0 then nI 0 else f ((ev - 1) * 14 + 4) + nI 1)]) (k' := 0) (n' := 0) rfl rfl rfl ?_
    exact j_iret rfl ⟨by subst k1; rfl, rfl⟩ (show 0 ≤ 1 by omega) (show 0 ≤ 6 by omega) dX5_count_63
  by_cases k2 : k = 2
  · skip
    refine j_tableIn (off := 63) 64 dX5_count_1 (by rw [k2]; decide) (by rw [k2]; decide) (by rw [k2]; decide) (by decide) ?_
    refine j_aload_n dX5_count_64 0 rfl ?_
    refine j_get flX5_count_27 hpt rfl dX5_count_65 ?_
    refine j_callV (rm := rX3_pagesWithEvents) (As := []) (st := []) (b0 := sc) (ci := 3) (na := 0) (c_pagesWithEvents hs hf (by omega)) (by intro E w9 h9; first | exact nomatch h9.1 | (obtain ⟨_, h9, _⟩ := h9; exact nomatch h9) | (obtain ⟨_, _, _, h9, _⟩ := h9; exact nomatch h9)) gX5_count_X3_pagesWithEvents rfl rfl hs (by decide +kernel) rfl ⟨Nat.le_of_ble_eq_true rfl, Nat.le_of_ble_eq_true rfl⟩ rfl (Nat.le_of_ble_eq_true rfl) dX5_count_68 ⟨(show 0 + 0 ≤ 1 by omega), (show 0 + 0 ≤ 6 by omega)⟩ (fun v5 w6 h7 => ?_)
    obtain ⟨h7, h8⟩ := h7
    cases h7
    subst w6
    refine j_after (st' := [.int (if ev = 0 then nI 0 else f ((ev - 1) * 14 + 5) + nI 1)]) (k' := 0) (n' := 0) rfl rfl rfl ?_
    exact j_iret rfl ⟨by subst k2; rfl, rfl⟩ (show 0 ≤ 1 by omega) (show 0 ≤ 6 by omega) dX5_count_71
  by_cases k3 : k = 3
  · skip
    refine j_tableIn (off := 71) 72 dX5_count_1 (by rw [k3]; decide) (by rw [k3]; decide) (by rw [k3]; decide) (by decide) ?_
    refine j_aload_n dX5_count_72 0 rfl ?_
    refine j_get flX5_count_27 hpt rfl dX5_count_73 ?_
    refine j_get flX5_count_86 hs rfl dX5_count_76 ?_
    exact j_iret rfl ⟨by subst k3; rfl, rfl⟩ (show 0 ≤ 1 by omega) (show 0 ≤ 6 by omega) dX5_count_79
  by_cases k4 : k = 4
  · skip
    refine j_tableIn (off := 79) 80 dX5_count_1 (by rw [k4]; decide) (by rw [k4]; decide) (by rw [k4]; decide) (by decide) ?_
    refine j_aload_n dX5_count_80 0 rfl ?_
    refine j_get flX5_count_36 hpt rfl dX5_count_81 ?_
    refine j_get flX5_count_89 hfo rfl dX5_count_84 ?_
    exact j_iret rfl ⟨by subst k4; rfl, rfl⟩ (show 0 ≤ 1 by omega) (show 0 ≤ 6 by omega) dX5_count_87
  by_cases k5 : k = 5
  · skip
    refine j_tableIn (off := 87) 88 dX5_count_1 (by rw [k5]; decide) (by rw [k5]; decide) (by rw [k5]; decide) (by decide) ?_
    refine j_aload_n dX5_count_88 0 rfl ?_
    refine j_get flX5_count_36 hpt rfl dX5_count_89 ?_
    refine j_callV (rm := rX0_anchors) (As := []) (st := []) (b0 := fo) (ci := 0) (na := 0) (c_anchors hfo hm) (by intro E w9 h9; first | exact nomatch h9.1 | (obtain ⟨_, h9, _⟩ := h9; exact nomatch h9) | (obtain ⟨_, _, _, h9, _⟩ := h9; exact nomatch h9)) gX5_count_X0_anchors rfl rfl hfo (by decide +kernel) rfl ⟨Nat.le_of_ble_eq_true rfl, Nat.le_of_ble_eq_true rfl⟩ rfl (Nat.le_of_ble_eq_true rfl) dX5_count_92 ⟨(show 0 + 0 ≤ 1 by omega), (show 0 + 0 ≤ 6 by omega)⟩ (fun v9 w10 h11 => ?_)
    obtain ⟨h11, h12⟩ := h11
    cases h11
    subst w10
    refine j_after (st' := [.int (nI an)]) (k' := 0) (n' := 0) rfl rfl rfl ?_
    exact j_iret rfl ⟨by subst k5; rfl, rfl⟩ (show 0 ≤ 1 by omega) (show 0 ≤ 6 by omega) dX5_count_95
  by_cases k6 : k = 6
  · skip
    refine j_tableIn (off := 95) 96 dX5_count_1 (by rw [k6]; decide) (by rw [k6]; decide) (by rw [k6]; decide) (by decide) ?_
    refine j_aload_n dX5_count_96 0 rfl ?_
    refine j_get flX5_count_13 hpt rfl dX5_count_97 ?_
    exact j_iret rfl ⟨by subst k6; rfl, rfl⟩ (show 0 ≤ 1 by omega) (show 0 ≤ 6 by omega) dX5_count_100
  by_cases k7 : k = 7
  · skip
    refine j_tableIn (off := 100) 101 dX5_count_1 (by rw [k7]; decide) (by rw [k7]; decide) (by rw [k7]; decide) (by decide) ?_
    refine j_aload_n dX5_count_101 0 rfl ?_
    refine j_get flX5_count_27 hpt rfl dX5_count_102 ?_
    refine j_get flX5_count_95 hs rfl dX5_count_105 ?_
    exact j_iret rfl ⟨by subst k7; rfl, rfl⟩ (show 0 ≤ 1 by omega) (show 0 ≤ 6 by omega) dX5_count_108
  exfalso; omega
set_option maxRecDepth 100000 in
theorem atX5_count_75 : ∀ x ∈ (vx_atX RX5 75 "java/util/NoSuchElementException" ["java/lang/RuntimeException", "java/lang/Exception"]).filter goodWord, x ∈ wsX5_count := by decide +kernel
theorem otX5_count_75 : ((Cond.classLink RX5 71 "java/util/NoSuchElementException" :: Cond.initialized "java/util/NoSuchElementException" :: vx_atX RX5 75 "java/util/NoSuchElementException" ["java/lang/RuntimeException", "java/lang/Exception"]).all vx_ot) = true := by decide +kernel
set_option maxRecDepth 100000 in
theorem mX5_count_0 : Cond.classLink RX5 71 "java/util/NoSuchElementException" ∈ wsX5_count := by decide +kernel
set_option maxRecDepth 100000 in
theorem mX5_count_1 : Cond.initialized "java/util/NoSuchElementException" ∈ wsX5_count := by decide +kernel
set_option maxHeartbeats 4000000 in
set_option maxRecDepth 100000 in
theorem c_countBad {w : pW} {fo sc pr ar de ms mn nt : Nat} {fa ev be cu st me pa : Nat} {f : Nat → Int32} {u : Nat → Nat → Nat} {bh : Nat → Option Nat} {cm : Nat} {bf nx av ah : Option Nat} {cl pe pb pc an : Nat} {cn : Nat} {d : Nat → Nat} (hfo : w fo = some (.inr (0, [.ref sc, .ref pr, .ref ar, .ref de, .ref ms, .ref mn, .int (nI nt)]))) (hs : w sc = some (.inr (3, [.ref fa, .int (nI ev), .int (nI be), .int (nI cu), .int (nI st), .int (nI me), .int (nI pa)]))) (hf : w fa = some (.inl (0, 1400, .inl f))) (hm : w mn = some (.inr (1, [va_rf bf, va_rf nx, .ref cm, .int (nI cl), .int (nI pe), .int (nI pb), .int (nI pc), .int (nI an), va_rf av, va_rf ah]))) (hc : w cm = some (.inl (0, cn, .inl (fun j9 => nI (d j9))))) (hM : Mus f ev st u bh) (hst : st ≤ cn) (hcn : cn ≤ 100000) (hdd : ∀ j, d j ≤ 1000000) (hN : va_nd [fa, cm] = true) {pt tx tl rd ld : Nat} (hpt : w pt = some (.inr (5, [.ref tx, .int (nI tl), .ref rd, .ref sc, .ref fo, .int (nI ld)]))) {x : Int32} (hb : x < 0 ∨ nI (7 + 1) ≤ x) : Ct yX5_count wsX5_count rX5_count [.ref pt, .int x] w (fun o w9 => o = .inr "java/util/NoSuchElementException" ∧ w9 = w) := by
  refine Ct.of (cc := cX5_count) (own := RX5) (nm := "count") (nL := 2) (ret := (some .int)) (by decide +kernel) rfl rfl rfl (Nat.le_of_ble_eq_true rfl) ?_
  refine j_lvE (lv' := [(0, .ref pt), (1, .int x)]) rfl ?_
  have hev := hM.hev
  have hst0 := hM.hst
  have hev9 := hM.hev
  refine j_iload_n dX5_count_0 1 rfl ?_
  refine j_tableOut 109 dX5_count_1 (tOut (by decide) hb) (by decide) ?_
  exact j_throwX (ik := 71) (is := 98) (ic := 75) (cls := "java/util/NoSuchElementException") (text := "nothing of this kind is counted") rfl (Or.inr ⟨rfl, rfl⟩) (by simp [bgStr]) mX5_count_0 mX5_count_1 atX5_count_75 otX5_count_75 rfl (Nat.le_of_ble_eq_true rfl) (Nat.le_of_ble_eq_true rfl) (show 0 + 1 ≤ 1 by omega) (show 0 + 6 ≤ 6 by omega) dX5_count_109 dX5_count_112 dX5_count_113 dX5_count_115 dX5_count_118 ⟨rfl, rfl⟩
abbrev rX5_place : Room := { frames := 6, cells := 1, slots := 6, locals := 90 }
def plcF (m4 m5 pe pb pc k : Nat) : Int32 := if k = 0 then nI pe else if k = 1 then nI pb else if k = 2 then nI pc else if k = 3 then nI m4 else nI m5
theorem flX5_place_27 : FL wsX5_place RX5 27 5 3 := ⟨RX5, TX5, 6, rfl, by decide, by decide +kernel, by decide +kernel⟩
theorem flX5_place_76 : FL wsX5_place RX5 76 3 1 := ⟨RX3, TX3, 7, rfl, by decide, by decide +kernel, by decide +kernel⟩
theorem flX5_place_36 : FL wsX5_place RX5 36 5 4 := ⟨RX5, TX5, 6, rfl, by decide, by decide +kernel, by decide +kernel⟩
set_option maxHeartbeats 4000000 in
set_option maxRecDepth 100000 in
theorem c_place {w : pW} {fo sc pr ar de ms mn nt : Nat} {fa ev be cu st me pa : Nat} {f : Nat → Int32} {u : Nat → Nat → Nat} {bh : Nat → Option Nat} {cm : Nat} {bf nx av ah : Option Nat} {cl pe pb pc an : Nat} {cn : Nat} {d : Nat → Nat} (hfo : w fo = some (.inr (0, [.ref sc, .ref pr, .ref ar, .ref de, .ref ms, .ref mn, .int (nI nt)]))) (hs : w sc = some (.inr (3, [.ref fa, .int (nI ev), .int (nI be), .int (nI cu), .int (nI st), .int (nI me), .int (nI pa)]))) (hf : w fa = some (.inl (0, 1400, .inl f))) (hm : w mn = some (.inr (1, [va_rf bf, va_rf nx, .ref cm, .int (nI cl), .int (nI pe), .int (nI pb), .int (nI pc), .int (nI an), va_rf av, va_rf ah]))) (hc : w cm = some (.inl (0, cn, .inl (fun j9 => nI (d j9))))) (hM : Mus f ev st u bh) (hst : st ≤ cn) (hcn : cn ≤ 100000) (hdd : ∀ j, d j ≤ 1000000) (hN : va_nd [fa, cm] = true) {pt tx tl rd ld : Nat} (hpt : w pt = some (.inr (5, [.ref tx, .int (nI tl), .ref rd, .ref sc, .ref fo, .int (nI ld)]))) {k : Nat} (hk : k < 5) (hpe : pe < ev) : Ct yX5_place wsX5_place rX5_place [.ref pt, .int (nI k)] w (fun o w9 => o = .inl (some (.int (plcF (u 4 pe) (u 5 pe) pe pb pc k))) ∧ w9 = w) := by
  refine Ct.of (cc := cX5_place) (own := RX5) (nm := "place") (nL := 2) (ret := (some .int)) (by decide +kernel) rfl rfl rfl (Nat.le_of_ble_eq_true rfl) ?_
  refine j_lvE (lv' := [(0, .ref pt), (1, .int (nI k))]) rfl ?_
  have hev := hM.hev
  have hst0 := hM.hst
  have hev9 := hM.hev
  refine j_aload_n dX5_place_0 0 rfl ?_
  refine j_get flX5_place_27 hpt rfl dX5_place_1 ?_
  refine j_get flX5_place_76 hs rfl dX5_place_4 ?_
  refine j_if_neN 20 (by omega) dX5_place_7 (by decide) (fun c7 => ?_) (fun c7 => ?_)
  · skip
    refine j_iload_n dX5_place_20 1 rfl ?_
    by_cases k0 : k = 0
    · skip
      refine j_tableIn (off := 35) 56 dX5_place_21 (by rw [k0]; decide) (by rw [k0]; decide) (by rw [k0]; decide) (by decide) ?_
      refine j_aload_n dX5_place_56 0 rfl ?_
      refine j_get flX5_place_36 hpt rfl dX5_place_57 ?_
      refine j_callV (rm := rX0_placeEvent) (As := []) (st := []) (b0 := fo) (ci := 0) (na := 0) (c_placeEvent hfo hm) (by intro E w9 h9; first | exact nomatch h9.1 | (obtain ⟨_, h9, _⟩ := h9; exact nomatch h9) | (obtain ⟨_, _, _, h9, _⟩ := h9; exact nomatch h9)) gX5_place_X0_placeEvent rfl rfl hfo (by decide +kernel) rfl ⟨Nat.le_of_ble_eq_true rfl, Nat.le_of_ble_eq_true rfl⟩ rfl (Nat.le_of_ble_eq_true rfl) dX5_place_60 ⟨(show 0 + 0 ≤ 1 by omega), (show 0 + 0 ≤ 6 by omega)⟩ (fun v1 w2 h3 => ?_)
      obtain ⟨h3, h4⟩ := h3
      cases h3
      subst w2
      refine j_after (st' := [.int (nI pe)]) (k' := 0) (n' := 0) rfl rfl rfl ?_
      exact j_iret rfl ⟨by subst k0; rfl, rfl⟩ (show 0 ≤ 1 by omega) (show 0 ≤ 6 by omega) dX5_place_63
    by_cases k1 : k = 1
    · skip
      refine j_tableIn (off := 43) 64 dX5_place_21 (by rw [k1]; decide) (by rw [k1]; decide) (by rw [k1]; decide) (by decide) ?_
      refine j_aload_n dX5_place_64 0 rfl ?_
      refine j_get flX5_place_36 hpt rfl dX5_place_65 ?_
      refine j_callV (rm := rX0_placeBits) (As := []) (st := []) (b0 := fo) (ci := 0) (na := 0) (c_placeBits hfo hm) (by intro E w9 h9; first | exact nomatch h9.1 | (obtain ⟨_, h9, _⟩ := h9; exact nomatch h9) | (obtain ⟨_, _, _, h9, _⟩ := h9; exact nomatch h9)) gX5_place_X0_placeBits rfl rfl hfo (by decide +kernel) rfl ⟨Nat.le_of_ble_eq_true rfl, Nat.le_of_ble_eq_true rfl⟩ rfl (Nat.le_of_ble_eq_true rfl) dX5_place_68 ⟨(show 0 + 0 ≤ 1 by omega), (show 0 + 0 ≤ 6 by omega)⟩ (fun v5 w6 h7 => ?_)
      obtain ⟨h7, h8⟩ := h7
      cases h7
      subst w6
      refine j_after (st' := [.int (nI pb)]) (k' := 0) (n' := 0) rfl rfl rfl ?_
      exact j_iret rfl ⟨by subst k1; rfl, rfl⟩ (show 0 ≤ 1 by omega) (show 0 ≤ 6 by omega) dX5_place_71
    by_cases k2 : k = 2
    · skip
      refine j_tableIn (off := 51) 72 dX5_place_21 (by rw [k2]; decide) (by rw [k2]; decide) (by rw [k2]; decide) (by decide) ?_
      refine j_aload_n dX5_place_72 0 rfl ?_
      refine j_get flX5_place_36 hpt rfl dX5_place_73 ?_
      refine j_callV (rm := rX0_placeCost) (As := []) (st := []) (b0 := fo) (ci := 0) (na := 0) (c_placeCost hfo hm) (by intro E w9 h9; first | exact nomatch h9.1 | (obtain ⟨_, h9, _⟩ := h9; exact nomatch h9) | (obtain ⟨_, _, _, h9, _⟩ := h9; exact nomatch h9)) gX5_place_X0_placeCost rfl rfl hfo (by decide +kernel) rfl ⟨Nat.le_of_ble_eq_true rfl, Nat.le_of_ble_eq_true rfl⟩ rfl (Nat.le_of_ble_eq_true rfl) dX5_place_76 ⟨(show 0 + 0 ≤ 1 by omega), (show 0 + 0 ≤ 6 by omega)⟩ (fun v9 w10 h11 => ?_)
      obtain ⟨h11, h12⟩ := h11
      cases h11
      subst w10
      refine j_after (st' := [.int (nI pc)]) (k' := 0) (n' := 0) rfl rfl rfl ?_
      exact j_iret rfl ⟨by subst k2; rfl, rfl⟩ (show 0 ≤ 1 by omega) (show 0 ≤ 6 by omega) dX5_place_79
    by_cases k3 : k = 3
    · skip
      refine j_tableIn (off := 59) 80 dX5_place_21 (by rw [k3]; decide) (by rw [k3]; decide) (by rw [k3]; decide) (by decide) ?_
      refine j_aload_n dX5_place_80 0 rfl ?_
      refine j_get flX5_place_27 hpt rfl dX5_place_81 ?_
      refine j_aload_n dX5_place_84 0 rfl ?_
      refine j_get flX5_place_36 hpt rfl dX5_place_85 ?_
      refine j_callV (rm := rX0_placeEvent) (As := []) (st := [.ref sc]) (b0 := fo) (ci := 0) (na := 0) (c_placeEvent hfo hm) (by intro E w9 h9; first | exact nomatch h9.1 | (obtain ⟨_, h9, _⟩ := h9; exact nomatch h9) | (obtain ⟨_, _, _, h9, _⟩ := h9; exact nomatch h9)) gX5_place_X0_placeEvent rfl rfl hfo (by decide +kernel) rfl ⟨Nat.le_of_ble_eq_true rfl, Nat.le_of_ble_eq_true rfl⟩ rfl (Nat.le_of_ble_eq_true rfl) dX5_place_88 ⟨(show 0 + 0 ≤ 1 by omega), (show 0 + 0 ≤ 6 by omega)⟩ (fun v13 w14 h15 => ?_)
      obtain ⟨h15, h16⟩ := h15
      cases h15
      subst w14
      refine j_after (st' := [.int (nI pe), .ref sc]) (k' := 0) (n' := 0) rfl rfl rfl ?_
      refine j_iconst (v := nI 4) dX5_place_91 (by decide) ?_
      have hrg17 := Mus.rg (e := pe) hM (by omega)
      have hbd18 := Mus.bd (e := pe) hM (by omega)
      refine j_callV (rm := rX3_fact) (As := [.int (nI pe), .int (nI 4)]) (st := []) (b0 := sc) (ci := 3) (na := 2) (c_fact (e := pe) (c := 4) hs hf (by omega) (by omega)) (by intro E w9 h9; first | exact nomatch h9.1 | (obtain ⟨_, h9, _⟩ := h9; exact nomatch h9) | (obtain ⟨_, _, _, h9, _⟩ := h9; exact nomatch h9)) gX5_place_X3_fact rfl rfl hs (by decide +kernel) rfl ⟨Nat.le_of_ble_eq_true rfl, Nat.le_of_ble_eq_true rfl⟩ rfl (Nat.le_of_ble_eq_true rfl) dX5_place_92 ⟨(show 0 + 0 ≤ 1 by omega), (show 0 + 0 ≤ 6 by omega)⟩ (fun v19 w20 h21 => ?_)
      obtain ⟨h21, h22⟩ := h21
      cases h21
      subst w20
      refine j_after (st' := [.int (f (pe * 14 + 4))]) (k' := 0) (n' := 0) rfl rfl rfl ?_
      refine j_eqi (y := nI (u 4 pe)) (Mus.c4 hM (by omega)) ?_
      exact j_iret rfl ⟨by subst k3; rfl, rfl⟩ (show 0 ≤ 1 by omega) (show 0 ≤ 6 by omega) dX5_place_95
    by_cases k4 : k = 4
    · skip
      refine j_tableIn (off := 75) 96 dX5_place_21 (by rw [k4]; decide) (by rw [k4]; decide) (by rw [k4]; decide) (by decide) ?_
      refine j_aload_n dX5_place_96 0 rfl ?_
      refine j_get flX5_place_27 hpt rfl dX5_place_97 ?_
      refine j_aload_n dX5_place_100 0 rfl ?_
      refine j_get flX5_place_36 hpt rfl dX5_place_101 ?_
      refine j_callV (rm := rX0_placeEvent) (As := []) (st := [.ref sc]) (b0 := fo) (ci := 0) (na := 0) (c_placeEvent hfo hm) (by intro E w9 h9; first | exact nomatch h9.1 | (obtain ⟨_, h9, _⟩ := h9; exact nomatch h9) | (obtain ⟨_, _, _, h9, _⟩ := h9; exact nomatch h9)) gX5_place_X0_placeEvent rfl rfl hfo (by decide +kernel) rfl ⟨Nat.le_of_ble_eq_true rfl, Nat.le_of_ble_eq_true rfl⟩ rfl (Nat.le_of_ble_eq_true rfl) dX5_place_104 ⟨(show 0 + 0 ≤ 1 by omega), (show 0 + 0 ≤ 6 by omega)⟩ (fun v23 w24 h25 => ?_)
      obtain ⟨h25, h26⟩ := h25
      cases h25
      subst w24
      refine j_after (st' := [.int (nI pe), .ref sc]) (k' := 0) (n' := 0) rfl rfl rfl ?_
      refine j_iconst (v := nI 5) dX5_place_107 (by decide) ?_
      have hrg27 := Mus.rg (e := pe) hM (by omega)
      have hbd28 := Mus.bd (e := pe) hM (by omega)
      refine j_callV (rm := rX3_fact) (As := [.int (nI pe), .int (nI 5)]) (st := []) (b0 := sc) (ci := 3) (na := 2) (c_fact (e := pe) (c := 5) hs hf (by omega) (by omega)) (by intro E w9 h9; first | exact nomatch h9.1 | (obtain ⟨_, h9, _⟩ := h9; exact nomatch h9) | (obtain ⟨_, _, _, h9, _⟩ := h9; exact nomatch h9)) gX5_place_X3_fact rfl rfl hs (by decide +kernel) rfl ⟨Nat.le_of_ble_eq_true rfl, Nat.le_of_ble_eq_true rfl⟩ rfl (Nat.le_of_ble_eq_true rfl) dX5_place_108 ⟨(show 0 + 0 ≤ 1 by omega), (show 0 + 0 ≤ 6 by omega)⟩ (fun v29 w30 h31 => ?_)
      obtain ⟨h31, h32⟩ := h31
      cases h31
      subst w30
      refine j_after (st' := [.int (f (pe * 14 + 5))]) (k' := 0) (n' := 0) rfl rfl rfl ?_
      refine j_eqi (y := nI (u 5 pe)) (Mus.c5 hM (by omega)) ?_
      exact j_iret rfl ⟨by subst k4; rfl, rfl⟩ (show 0 ≤ 1 by omega) (show 0 ≤ 6 by omega) dX5_place_111
    exfalso; omega
  · skip
    exfalso; omega
set_option maxRecDepth 100000 in
theorem atX5_place_75 : ∀ x ∈ (vx_atX RX5 75 "java/util/NoSuchElementException" ["java/lang/RuntimeException", "java/lang/Exception"]).filter goodWord, x ∈ wsX5_place := by decide +kernel
theorem otX5_place_75 : ((Cond.classLink RX5 71 "java/util/NoSuchElementException" :: Cond.initialized "java/util/NoSuchElementException" :: vx_atX RX5 75 "java/util/NoSuchElementException" ["java/lang/RuntimeException", "java/lang/Exception"]).all vx_ot) = true := by decide +kernel
set_option maxRecDepth 100000 in
theorem mX5_place_0 : Cond.classLink RX5 71 "java/util/NoSuchElementException" ∈ wsX5_place := by decide +kernel
set_option maxRecDepth 100000 in
theorem mX5_place_1 : Cond.initialized "java/util/NoSuchElementException" ∈ wsX5_place := by decide +kernel
set_option maxHeartbeats 4000000 in
set_option maxRecDepth 100000 in
theorem c_placeBad {w : pW} {fo sc pr ar de ms mn nt : Nat} {fa ev be cu st me pa : Nat} {f : Nat → Int32} {u : Nat → Nat → Nat} {bh : Nat → Option Nat} {cm : Nat} {bf nx av ah : Option Nat} {cl pe pb pc an : Nat} {cn : Nat} {d : Nat → Nat} (hfo : w fo = some (.inr (0, [.ref sc, .ref pr, .ref ar, .ref de, .ref ms, .ref mn, .int (nI nt)]))) (hs : w sc = some (.inr (3, [.ref fa, .int (nI ev), .int (nI be), .int (nI cu), .int (nI st), .int (nI me), .int (nI pa)]))) (hf : w fa = some (.inl (0, 1400, .inl f))) (hm : w mn = some (.inr (1, [va_rf bf, va_rf nx, .ref cm, .int (nI cl), .int (nI pe), .int (nI pb), .int (nI pc), .int (nI an), va_rf av, va_rf ah]))) (hc : w cm = some (.inl (0, cn, .inl (fun j9 => nI (d j9))))) (hM : Mus f ev st u bh) (hst : st ≤ cn) (hcn : cn ≤ 100000) (hdd : ∀ j, d j ≤ 1000000) (hN : va_nd [fa, cm] = true) {pt tx tl rd ld : Nat} (hpt : w pt = some (.inr (5, [.ref tx, .int (nI tl), .ref rd, .ref sc, .ref fo, .int (nI ld)]))) {x : Int32} (hb : x < 0 ∨ nI (4 + 1) ≤ x) : Ct yX5_place wsX5_place rX5_place [.ref pt, .int x] w (fun o w9 => o = .inr "java/util/NoSuchElementException" ∧ w9 = w) := by
  refine Ct.of (cc := cX5_place) (own := RX5) (nm := "place") (nL := 2) (ret := (some .int)) (by decide +kernel) rfl rfl rfl (Nat.le_of_ble_eq_true rfl) ?_
  refine j_lvE (lv' := [(0, .ref pt), (1, .int x)]) rfl ?_
  have hev := hM.hev
  have hst0 := hM.hst
  have hev9 := hM.hev
  refine j_aload_n dX5_place_0 0 rfl ?_
  refine j_get flX5_place_27 hpt rfl dX5_place_1 ?_
  refine j_get flX5_place_76 hs rfl dX5_place_4 ?_
  refine j_if_neN 20 (by omega) dX5_place_7 (by decide) (fun c7 => ?_) (fun c7 => ?_)
  · skip
    refine j_iload_n dX5_place_20 1 rfl ?_
    refine j_tableOut 112 dX5_place_21 (tOut (by decide) hb) (by decide) ?_
    exact j_throwX (ik := 71) (is := 148) (ic := 75) (cls := "java/util/NoSuchElementException") (text := "a place has no such number") rfl (Or.inr ⟨rfl, rfl⟩) (by simp [bgStr]) mX5_place_0 mX5_place_1 atX5_place_75 otX5_place_75 rfl (Nat.le_of_ble_eq_true rfl) (Nat.le_of_ble_eq_true rfl) (show 0 + 1 ≤ 1 by omega) (show 0 + 6 ≤ 6 by omega) dX5_place_112 dX5_place_115 dX5_place_116 dX5_place_118 dX5_place_121 ⟨rfl, rfl⟩
  · skip
    exact j_throwX (ik := 71) (is := 140) (ic := 75) (cls := "java/util/NoSuchElementException") (text := "there is no music") rfl (Or.inr ⟨rfl, rfl⟩) (by simp [bgStr]) mX5_place_0 mX5_place_1 atX5_place_75 otX5_place_75 rfl (Nat.le_of_ble_eq_true rfl) (Nat.le_of_ble_eq_true rfl) (show 0 + 1 ≤ 1 by omega) (show 0 + 6 ≤ 6 by omega) dX5_place_10 dX5_place_13 dX5_place_14 dX5_place_16 dX5_place_19 ⟨rfl, rfl⟩
set_option maxHeartbeats 4000000 in
set_option maxRecDepth 100000 in
theorem c_place0 {w : pW} {fo sc pr ar de ms mn nt : Nat} {fa ev be cu st me pa : Nat} {f : Nat → Int32} {u : Nat → Nat → Nat} {bh : Nat → Option Nat} {cm : Nat} {bf nx av ah : Option Nat} {cl pe pb pc an : Nat} {cn : Nat} {d : Nat → Nat} (hfo : w fo = some (.inr (0, [.ref sc, .ref pr, .ref ar, .ref de, .ref ms, .ref mn, .int (nI nt)]))) (hs : w sc = some (.inr (3, [.ref fa, .int (nI ev), .int (nI be), .int (nI cu), .int (nI st), .int (nI me), .int (nI pa)]))) (hf : w fa = some (.inl (0, 1400, .inl f))) (hm : w mn = some (.inr (1, [va_rf bf, va_rf nx, .ref cm, .int (nI cl), .int (nI pe), .int (nI pb), .int (nI pc), .int (nI an), va_rf av, va_rf ah]))) (hc : w cm = some (.inl (0, cn, .inl (fun j9 => nI (d j9))))) (hM : Mus f ev st u bh) (hst : st ≤ cn) (hcn : cn ≤ 100000) (hdd : ∀ j, d j ≤ 1000000) (hN : va_nd [fa, cm] = true) {pt tx tl rd ld : Nat} (hpt : w pt = some (.inr (5, [.ref tx, .int (nI tl), .ref rd, .ref sc, .ref fo, .int (nI ld)]))) {x : Int32} (he0 : ev = 0) : Ct yX5_place wsX5_place rX5_place [.ref pt, .int x] w (fun o w9 => o = .inr "java/util/NoSuchElementException" ∧ w9 = w) := by
  refine Ct.of (cc := cX5_place) (own := RX5) (nm := "place") (nL := 2) (ret := (some .int)) (by decide +kernel) rfl rfl rfl (Nat.le_of_ble_eq_true rfl) ?_
  refine j_lvE (lv' := [(0, .ref pt), (1, .int x)]) rfl ?_
  have hev := hM.hev
  have hst0 := hM.hst
  have hev9 := hM.hev
  refine j_aload_n dX5_place_0 0 rfl ?_
  refine j_get flX5_place_27 hpt rfl dX5_place_1 ?_
  refine j_get flX5_place_76 hs rfl dX5_place_4 ?_
  refine j_if_neN 20 (by omega) dX5_place_7 (by decide) (fun c7 => ?_) (fun c7 => ?_)
  · skip
    exfalso; omega
  · skip
    exact j_throwX (ik := 71) (is := 140) (ic := 75) (cls := "java/util/NoSuchElementException") (text := "there is no music") rfl (Or.inr ⟨rfl, rfl⟩) (by simp [bgStr]) mX5_place_0 mX5_place_1 atX5_place_75 otX5_place_75 rfl (Nat.le_of_ble_eq_true rfl) (Nat.le_of_ble_eq_true rfl) (show 0 + 1 ≤ 1 by omega) (show 0 + 6 ≤ 6 by omega) dX5_place_10 dX5_place_13 dX5_place_14 dX5_place_16 dX5_place_19 ⟨rfl, rfl⟩
abbrev rX5_event : Room := { frames := 6, cells := 1, slots := 6, locals := 90 }
theorem flX5_event_27 : FL wsX5_event RX5 27 5 3 := ⟨RX5, TX5, 6, rfl, by decide, by decide +kernel, by decide +kernel⟩
set_option maxHeartbeats 4000000 in
set_option maxRecDepth 100000 in
theorem c_event {w : pW} {fo sc pr ar de ms mn nt : Nat} {fa ev be cu st me pa : Nat} {f : Nat → Int32} {u : Nat → Nat → Nat} {bh : Nat → Option Nat} {cm : Nat} {bf nx av ah : Option Nat} {cl pe pb pc an : Nat} {cn : Nat} {d : Nat → Nat} (hfo : w fo = some (.inr (0, [.ref sc, .ref pr, .ref ar, .ref de, .ref ms, .ref mn, .int (nI nt)]))) (hs : w sc = some (.inr (3, [.ref fa, .int (nI ev), .int (nI be), .int (nI cu), .int (nI st), .int (nI me), .int (nI pa)]))) (hf : w fa = some (.inl (0, 1400, .inl f))) (hm : w mn = some (.inr (1, [va_rf bf, va_rf nx, .ref cm, .int (nI cl), .int (nI pe), .int (nI pb), .int (nI pc), .int (nI an), va_rf av, va_rf ah]))) (hc : w cm = some (.inl (0, cn, .inl (fun j9 => nI (d j9))))) (hM : Mus f ev st u bh) (hst : st ≤ cn) (hcn : cn ≤ 100000) (hdd : ∀ j, d j ≤ 1000000) (hN : va_nd [fa, cm] = true) {pt tx tl rd ld : Nat} (hpt : w pt = some (.inr (5, [.ref tx, .int (nI tl), .ref rd, .ref sc, .ref fo, .int (nI ld)]))) {e c : Nat} (he : e < ev) (hc : c < 9 + u 1 e) : Ct yX5_event wsX5_event rX5_event [.ref pt, .int (nI e), .int (nI c)] w (fun o w9 => o = .inl (some (.int (f (e * 14 + c)))) ∧ w9 = w) := by
  refine Ct.of (cc := cX5_event) (own := RX5) (nm := "event") (nL := 3) (ret := (some .int)) (by decide +kernel) rfl rfl rfl (Nat.le_of_ble_eq_true rfl) ?_
  refine j_lvE (lv' := [(0, .ref pt), (1, .int (nI e)), (2, .int (nI c))]) rfl ?_
  have hev := hM.hev
  have hst0 := hM.hst
  have hev9 := hM.hev
  have hbd0 := (hM.bd (e := e) he).2.1
  refine j_aload_n dX5_event_0 0 rfl ?_
  refine j_get flX5_event_27 hpt rfl dX5_event_1 ?_
  refine j_iload_n dX5_event_4 1 rfl ?_
  refine j_callV (rm := rX3_has) (As := [.int (nI e)]) (st := []) (b0 := sc) (ci := 3) (na := 1) (c_hasN (e := e) hs hf (by omega) (by omega)) (by intro E w9 h9; first | exact nomatch h9.1 | (obtain ⟨_, h9, _⟩ := h9; exact nomatch h9) | (obtain ⟨_, _, _, h9, _⟩ := h9; exact nomatch h9)) gX5_event_X3_has rfl rfl hs (by decide +kernel) rfl ⟨Nat.le_of_ble_eq_true rfl, Nat.le_of_ble_eq_true rfl⟩ rfl (Nat.le_of_ble_eq_true rfl) dX5_event_5 ⟨(show 0 + 0 ≤ 1 by omega), (show 0 + 0 ≤ 6 by omega)⟩ (fun v1 w2 h3 => ?_)
  obtain ⟨h3, h4⟩ := h3
  cases h3
  subst w2
  refine j_after (st' := [.int (zb (decide (e < ev)))]) (k' := 0) (n' := 0) rfl rfl rfl ?_
  refine j_if_eq 15 dX5_event_8 (by decide) (fun c8 => ?_) (fun c8 => ?_)
  · skip
    exfalso; have := of_decide_eq_false (zb_0 c8); omega
  · skip
    refine j_iload_n dX5_event_11 2 rfl ?_
    refine j_if_geN 25 (by omega) dX5_event_12 (by decide) ?_
    refine j_iload_n dX5_event_25 2 rfl ?_
    refine j_bipush (v := nI 9) dX5_event_26 (by decide) ?_
    refine j_aload_n dX5_event_28 0 rfl ?_
    refine j_get flX5_event_27 hpt rfl dX5_event_29 ?_
    refine j_iload_n dX5_event_32 1 rfl ?_
    refine j_iconst (v := nI 1) dX5_event_33 (by decide) ?_
    have hrg5 := Mus.rg (e := e) hM (by omega)
    have hbd6 := Mus.bd (e := e) hM (by omega)
    refine j_callV (rm := rX3_fact) (As := [.int (nI e), .int (nI 1)]) (st := [.int (nI 9), .int (nI c)]) (b0 := sc) (ci := 3) (na := 2) (c_fact (e := e) (c := 1) hs hf (by omega) (by omega)) (by intro E w9 h9; first | exact nomatch h9.1 | (obtain ⟨_, h9, _⟩ := h9; exact nomatch h9) | (obtain ⟨_, _, _, h9, _⟩ := h9; exact nomatch h9)) gX5_event_X3_fact rfl rfl hs (by decide +kernel) rfl ⟨Nat.le_of_ble_eq_true rfl, Nat.le_of_ble_eq_true rfl⟩ rfl (Nat.le_of_ble_eq_true rfl) dX5_event_34 ⟨(show 0 + 0 ≤ 1 by omega), (show 0 + 0 ≤ 6 by omega)⟩ (fun v7 w8 h9 => ?_)
    obtain ⟨h9, h10⟩ := h9
    cases h9
    subst w8
    refine j_after (st' := [.int (f (e * 14 + 1)), .int (nI 9), .int (nI c)]) (k' := 0) (n' := 0) rfl rfl rfl ?_
    refine j_eqi (y := nI (u 1 e)) (Mus.c1 hM (by omega)) ?_
    refine j_iaddN dX5_event_37 ?_
    refine j_icmp_ltN 51 (by omega) (by omega) dX5_event_38 (by decide) (fun c38 => ?_) (fun c38 => ?_)
    · skip
      refine j_aload_n dX5_event_51 0 rfl ?_
      refine j_get flX5_event_27 hpt rfl dX5_event_52 ?_
      refine j_iload_n dX5_event_55 1 rfl ?_
      refine j_iload_n dX5_event_56 2 rfl ?_
      have hrg11 := Mus.rg (e := e) hM (by omega)
      have hbd12 := Mus.bd (e := e) hM (by omega)
      refine j_callV (rm := rX3_fact) (As := [.int (nI e), .int (nI c)]) (st := []) (b0 := sc) (ci := 3) (na := 2) (c_fact (e := e) (c := c) hs hf (by omega) (by omega)) (by intro E w9 h9; first | exact nomatch h9.1 | (obtain ⟨_, h9, _⟩ := h9; exact nomatch h9) | (obtain ⟨_, _, _, h9, _⟩ := h9; exact nomatch h9)) gX5_event_X3_fact rfl rfl hs (by decide +kernel) rfl ⟨Nat.le_of_ble_eq_true rfl, Nat.le_of_ble_eq_true rfl⟩ rfl (Nat.le_of_ble_eq_true rfl) dX5_event_57 ⟨(show 0 + 0 ≤ 1 by omega), (show 0 + 0 ≤ 6 by omega)⟩ (fun v13 w14 h15 => ?_)
      obtain ⟨h15, h16⟩ := h15
      cases h15
      subst w14
      refine j_after (st' := [.int (f (e * 14 + c))]) (k' := 0) (n' := 0) rfl rfl rfl ?_
      exact j_iret rfl ⟨rfl, rfl⟩ (show 0 ≤ 1 by omega) (show 0 ≤ 6 by omega) dX5_event_60
    · skip
      exfalso; omega
set_option maxRecDepth 100000 in
theorem atX5_event_75 : ∀ x ∈ (vx_atX RX5 75 "java/util/NoSuchElementException" ["java/lang/RuntimeException", "java/lang/Exception"]).filter goodWord, x ∈ wsX5_event := by decide +kernel
theorem otX5_event_75 : ((Cond.classLink RX5 71 "java/util/NoSuchElementException" :: Cond.initialized "java/util/NoSuchElementException" :: vx_atX RX5 75 "java/util/NoSuchElementException" ["java/lang/RuntimeException", "java/lang/Exception"]).all vx_ot) = true := by decide +kernel
set_option maxRecDepth 100000 in
theorem mX5_event_0 : Cond.classLink RX5 71 "java/util/NoSuchElementException" ∈ wsX5_event := by decide +kernel
set_option maxRecDepth 100000 in
theorem mX5_event_1 : Cond.initialized "java/util/NoSuchElementException" ∈ wsX5_event := by decide +kernel
set_option maxHeartbeats 4000000 in
set_option maxRecDepth 100000 in
theorem c_eventBadE {w : pW} {fo sc pr ar de ms mn nt : Nat} {fa ev be cu st me pa : Nat} {f : Nat → Int32} {u : Nat → Nat → Nat} {bh : Nat → Option Nat} {cm : Nat} {bf nx av ah : Option Nat} {cl pe pb pc an : Nat} {cn : Nat} {d : Nat → Nat} (hfo : w fo = some (.inr (0, [.ref sc, .ref pr, .ref ar, .ref de, .ref ms, .ref mn, .int (nI nt)]))) (hs : w sc = some (.inr (3, [.ref fa, .int (nI ev), .int (nI be), .int (nI cu), .int (nI st), .int (nI me), .int (nI pa)]))) (hf : w fa = some (.inl (0, 1400, .inl f))) (hm : w mn = some (.inr (1, [va_rf bf, va_rf nx, .ref cm, .int (nI cl), .int (nI pe), .int (nI pb), .int (nI pc), .int (nI an), va_rf av, va_rf ah]))) (hc : w cm = some (.inl (0, cn, .inl (fun j9 => nI (d j9))))) (hM : Mus f ev st u bh) (hst : st ≤ cn) (hcn : cn ≤ 100000) (hdd : ∀ j, d j ≤ 1000000) (hN : va_nd [fa, cm] = true) {pt tx tl rd ld : Nat} (hpt : w pt = some (.inr (5, [.ref tx, .int (nI tl), .ref rd, .ref sc, .ref fo, .int (nI ld)]))) {e : Nat} {y : Int32} (he : ev ≤ e) (he2 : e < 2 ^ 31) : Ct yX5_event wsX5_event rX5_event [.ref pt, .int (nI e), .int y] w (fun o w9 => o = .inr "java/util/NoSuchElementException" ∧ w9 = w) := by
  refine Ct.of (cc := cX5_event) (own := RX5) (nm := "event") (nL := 3) (ret := (some .int)) (by decide +kernel) rfl rfl rfl (Nat.le_of_ble_eq_true rfl) ?_
  refine j_lvE (lv' := [(0, .ref pt), (1, .int (nI e)), (2, .int y)]) rfl ?_
  have hev := hM.hev
  have hst0 := hM.hst
  have hev9 := hM.hev
  refine j_aload_n dX5_event_0 0 rfl ?_
  refine j_get flX5_event_27 hpt rfl dX5_event_1 ?_
  refine j_iload_n dX5_event_4 1 rfl ?_
  refine j_callV (rm := rX3_has) (As := [.int (nI e)]) (st := []) (b0 := sc) (ci := 3) (na := 1) (c_hasN (e := e) hs hf (by omega) (by omega)) (by intro E w9 h9; first | exact nomatch h9.1 | (obtain ⟨_, h9, _⟩ := h9; exact nomatch h9) | (obtain ⟨_, _, _, h9, _⟩ := h9; exact nomatch h9)) gX5_event_X3_has rfl rfl hs (by decide +kernel) rfl ⟨Nat.le_of_ble_eq_true rfl, Nat.le_of_ble_eq_true rfl⟩ rfl (Nat.le_of_ble_eq_true rfl) dX5_event_5 ⟨(show 0 + 0 ≤ 1 by omega), (show 0 + 0 ≤ 6 by omega)⟩ (fun v1 w2 h3 => ?_)
  obtain ⟨h3, h4⟩ := h3
  cases h3
  subst w2
  refine j_after (st' := [.int (zb (decide (e < ev)))]) (k' := 0) (n' := 0) rfl rfl rfl ?_
  refine j_if_eq 15 dX5_event_8 (by decide) (fun c8 => ?_) (fun c8 => ?_)
  · skip
    exact j_throwX (ik := 71) (is := 104) (ic := 75) (cls := "java/util/NoSuchElementException") (text := "no such event") rfl (Or.inr ⟨rfl, rfl⟩) (by simp [bgStr]) mX5_event_0 mX5_event_1 atX5_event_75 otX5_event_75 rfl (Nat.le_of_ble_eq_true rfl) (Nat.le_of_ble_eq_true rfl) (show 0 + 1 ≤ 1 by omega) (show 0 + 6 ≤ 6 by omega) dX5_event_15 dX5_event_18 dX5_event_19 dX5_event_21 dX5_event_24 ⟨rfl, rfl⟩
  · skip
    exfalso; have := of_decide_eq_true (zb_n' c8); omega
set_option maxHeartbeats 4000000 in
set_option maxRecDepth 100000 in
theorem c_eventBadM {w : pW} {fo sc pr ar de ms mn nt : Nat} {fa ev be cu st me pa : Nat} {f : Nat → Int32} {u : Nat → Nat → Nat} {bh : Nat → Option Nat} {cm : Nat} {bf nx av ah : Option Nat} {cl pe pb pc an : Nat} {cn : Nat} {d : Nat → Nat} (hfo : w fo = some (.inr (0, [.ref sc, .ref pr, .ref ar, .ref de, .ref ms, .ref mn, .int (nI nt)]))) (hs : w sc = some (.inr (3, [.ref fa, .int (nI ev), .int (nI be), .int (nI cu), .int (nI st), .int (nI me), .int (nI pa)]))) (hf : w fa = some (.inl (0, 1400, .inl f))) (hm : w mn = some (.inr (1, [va_rf bf, va_rf nx, .ref cm, .int (nI cl), .int (nI pe), .int (nI pb), .int (nI pc), .int (nI an), va_rf av, va_rf ah]))) (hc : w cm = some (.inl (0, cn, .inl (fun j9 => nI (d j9))))) (hM : Mus f ev st u bh) (hst : st ≤ cn) (hcn : cn ≤ 100000) (hdd : ∀ j, d j ≤ 1000000) (hN : va_nd [fa, cm] = true) {pt tx tl rd ld : Nat} (hpt : w pt = some (.inr (5, [.ref tx, .int (nI tl), .ref rd, .ref sc, .ref fo, .int (nI ld)]))) {x y : Int32} (hx : x < 0) : Ct yX5_event wsX5_event rX5_event [.ref pt, .int x, .int y] w (fun o w9 => o = .inr "java/util/NoSuchElementException" ∧ w9 = w) := by
  refine Ct.of (cc := cX5_event) (own := RX5) (nm := "event") (nL := 3) (ret := (some .int)) (by decide +kernel) rfl rfl rfl (Nat.le_of_ble_eq_true rfl) ?_
  refine j_lvE (lv' := [(0, .ref pt), (1, .int x), (2, .int y)]) rfl ?_
  have hev := hM.hev
  have hst0 := hM.hst
  have hev9 := hM.hev
  refine j_aload_n dX5_event_0 0 rfl ?_
  refine j_get flX5_event_27 hpt rfl dX5_event_1 ?_
  refine j_iload_n dX5_event_4 1 rfl ?_
  refine j_callV (rm := rX3_has) (As := [.int x]) (st := []) (b0 := sc) (ci := 3) (na := 1) (c_hasM (e := x) hs hf hx) (by intro E w9 h9; first | exact nomatch h9.1 | (obtain ⟨_, h9, _⟩ := h9; exact nomatch h9) | (obtain ⟨_, _, _, h9, _⟩ := h9; exact nomatch h9)) gX5_event_X3_has rfl rfl hs (by decide +kernel) rfl ⟨Nat.le_of_ble_eq_true rfl, Nat.le_of_ble_eq_true rfl⟩ rfl (Nat.le_of_ble_eq_true rfl) dX5_event_5 ⟨(show 0 + 0 ≤ 1 by omega), (show 0 + 0 ≤ 6 by omega)⟩ (fun v1 w2 h3 => ?_)
  obtain ⟨h3, h4⟩ := h3
  cases h3
  subst w2
  refine j_after (st' := [.int (nI 0)]) (k' := 0) (n' := 0) rfl rfl rfl ?_
  refine j_if_eqN 15 (by decide) dX5_event_8 (by decide) (fun _ => ?_) (fun h9 => absurd rfl h9)
  exact j_throwX (ik := 71) (is := 104) (ic := 75) (cls := "java/util/NoSuchElementException") (text := "no such event") rfl (Or.inr ⟨rfl, rfl⟩) (by simp [bgStr]) mX5_event_0 mX5_event_1 atX5_event_75 otX5_event_75 rfl (Nat.le_of_ble_eq_true rfl) (Nat.le_of_ble_eq_true rfl) (show 0 + 1 ≤ 1 by omega) (show 0 + 6 ≤ 6 by omega) dX5_event_15 dX5_event_18 dX5_event_19 dX5_event_21 dX5_event_24 ⟨rfl, rfl⟩
set_option maxHeartbeats 4000000 in
set_option maxRecDepth 100000 in
theorem c_eventBadY {w : pW} {fo sc pr ar de ms mn nt : Nat} {fa ev be cu st me pa : Nat} {f : Nat → Int32} {u : Nat → Nat → Nat} {bh : Nat → Option Nat} {cm : Nat} {bf nx av ah : Option Nat} {cl pe pb pc an : Nat} {cn : Nat} {d : Nat → Nat} (hfo : w fo = some (.inr (0, [.ref sc, .ref pr, .ref ar, .ref de, .ref ms, .ref mn, .int (nI nt)]))) (hs : w sc = some (.inr (3, [.ref fa, .int (nI ev), .int (nI be), .int (nI cu), .int (nI st), .int (nI me), .int (nI pa)]))) (hf : w fa = some (.inl (0, 1400, .inl f))) (hm : w mn = some (.inr (1, [va_rf bf, va_rf nx, .ref cm, .int (nI cl), .int (nI pe), .int (nI pb), .int (nI pc), .int (nI an), va_rf av, va_rf ah]))) (hc : w cm = some (.inl (0, cn, .inl (fun j9 => nI (d j9))))) (hM : Mus f ev st u bh) (hst : st ≤ cn) (hcn : cn ≤ 100000) (hdd : ∀ j, d j ≤ 1000000) (hN : va_nd [fa, cm] = true) {pt tx tl rd ld : Nat} (hpt : w pt = some (.inr (5, [.ref tx, .int (nI tl), .ref rd, .ref sc, .ref fo, .int (nI ld)]))) {e : Nat} {y : Int32} (he : e < ev) (hy : y < 0) : Ct yX5_event wsX5_event rX5_event [.ref pt, .int (nI e), .int y] w (fun o w9 => o = .inr "java/util/NoSuchElementException" ∧ w9 = w) := by
  refine Ct.of (cc := cX5_event) (own := RX5) (nm := "event") (nL := 3) (ret := (some .int)) (by decide +kernel) rfl rfl rfl (Nat.le_of_ble_eq_true rfl) ?_
  refine j_lvE (lv' := [(0, .ref pt), (1, .int (nI e)), (2, .int y)]) rfl ?_
  have hev := hM.hev
  have hst0 := hM.hst
  have hev9 := hM.hev
  refine j_aload_n dX5_event_0 0 rfl ?_
  refine j_get flX5_event_27 hpt rfl dX5_event_1 ?_
  refine j_iload_n dX5_event_4 1 rfl ?_
  refine j_callV (rm := rX3_has) (As := [.int (nI e)]) (st := []) (b0 := sc) (ci := 3) (na := 1) (c_hasN (e := e) hs hf (by omega) (by omega)) (by intro E w9 h9; first | exact nomatch h9.1 | (obtain ⟨_, h9, _⟩ := h9; exact nomatch h9) | (obtain ⟨_, _, _, h9, _⟩ := h9; exact nomatch h9)) gX5_event_X3_has rfl rfl hs (by decide +kernel) rfl ⟨Nat.le_of_ble_eq_true rfl, Nat.le_of_ble_eq_true rfl⟩ rfl (Nat.le_of_ble_eq_true rfl) dX5_event_5 ⟨(show 0 + 0 ≤ 1 by omega), (show 0 + 0 ≤ 6 by omega)⟩ (fun v1 w2 h3 => ?_)
  obtain ⟨h3, h4⟩ := h3
  cases h3
  subst w2
  refine j_after (st' := [.int (zb (decide (e < ev)))]) (k' := 0) (n' := 0) rfl rfl rfl ?_
  refine j_if_eq 15 dX5_event_8 (by decide) (fun c8 => ?_) (fun c8 => ?_)
  · skip
    exact j_throwX (ik := 71) (is := 104) (ic := 75) (cls := "java/util/NoSuchElementException") (text := "no such event") rfl (Or.inr ⟨rfl, rfl⟩) (by simp [bgStr]) mX5_event_0 mX5_event_1 atX5_event_75 otX5_event_75 rfl (Nat.le_of_ble_eq_true rfl) (Nat.le_of_ble_eq_true rfl) (show 0 + 1 ≤ 1 by omega) (show 0 + 6 ≤ 6 by omega) dX5_event_15 dX5_event_18 dX5_event_19 dX5_event_21 dX5_event_24 ⟨rfl, rfl⟩
  · skip
    refine j_iload_n dX5_event_11 2 rfl ?_
    refine j_if_ge 25 dX5_event_12 (by decide) (fun c12 => ?_) (fun c12 => ?_)
    · skip
      exact absurd c12 (Int32.not_le.mpr hy)
    · skip
      exact j_throwX (ik := 71) (is := 104) (ic := 75) (cls := "java/util/NoSuchElementException") (text := "no such event") rfl (Or.inr ⟨rfl, rfl⟩) (by simp [bgStr]) mX5_event_0 mX5_event_1 atX5_event_75 otX5_event_75 rfl (Nat.le_of_ble_eq_true rfl) (Nat.le_of_ble_eq_true rfl) (show 0 + 1 ≤ 1 by omega) (show 0 + 6 ≤ 6 by omega) dX5_event_15 dX5_event_18 dX5_event_19 dX5_event_21 dX5_event_24 ⟨rfl, rfl⟩
set_option maxHeartbeats 4000000 in
set_option maxRecDepth 100000 in
theorem c_eventBadC {w : pW} {fo sc pr ar de ms mn nt : Nat} {fa ev be cu st me pa : Nat} {f : Nat → Int32} {u : Nat → Nat → Nat} {bh : Nat → Option Nat} {cm : Nat} {bf nx av ah : Option Nat} {cl pe pb pc an : Nat} {cn : Nat} {d : Nat → Nat} (hfo : w fo = some (.inr (0, [.ref sc, .ref pr, .ref ar, .ref de, .ref ms, .ref mn, .int (nI nt)]))) (hs : w sc = some (.inr (3, [.ref fa, .int (nI ev), .int (nI be), .int (nI cu), .int (nI st), .int (nI me), .int (nI pa)]))) (hf : w fa = some (.inl (0, 1400, .inl f))) (hm : w mn = some (.inr (1, [va_rf bf, va_rf nx, .ref cm, .int (nI cl), .int (nI pe), .int (nI pb), .int (nI pc), .int (nI an), va_rf av, va_rf ah]))) (hc : w cm = some (.inl (0, cn, .inl (fun j9 => nI (d j9))))) (hM : Mus f ev st u bh) (hst : st ≤ cn) (hcn : cn ≤ 100000) (hdd : ∀ j, d j ≤ 1000000) (hN : va_nd [fa, cm] = true) {pt tx tl rd ld : Nat} (hpt : w pt = some (.inr (5, [.ref tx, .int (nI tl), .ref rd, .ref sc, .ref fo, .int (nI ld)]))) {e c : Nat} (he : e < ev) (hc : 9 + u 1 e ≤ c) (hc2 : c < 2 ^ 31) : Ct yX5_event wsX5_event rX5_event [.ref pt, .int (nI e), .int (nI c)] w (fun o w9 => o = .inr "java/util/NoSuchElementException" ∧ w9 = w) := by
  refine Ct.of (cc := cX5_event) (own := RX5) (nm := "event") (nL := 3) (ret := (some .int)) (by decide +kernel) rfl rfl rfl (Nat.le_of_ble_eq_true rfl) ?_
  refine j_lvE (lv' := [(0, .ref pt), (1, .int (nI e)), (2, .int (nI c))]) rfl ?_
  have hev := hM.hev
  have hst0 := hM.hst
  have hev9 := hM.hev
  refine j_aload_n dX5_event_0 0 rfl ?_
  refine j_get flX5_event_27 hpt rfl dX5_event_1 ?_
  refine j_iload_n dX5_event_4 1 rfl ?_
  refine j_callV (rm := rX3_has) (As := [.int (nI e)]) (st := []) (b0 := sc) (ci := 3) (na := 1) (c_hasN (e := e) hs hf (by omega) (by omega)) (by intro E w9 h9; first | exact nomatch h9.1 | (obtain ⟨_, h9, _⟩ := h9; exact nomatch h9) | (obtain ⟨_, _, _, h9, _⟩ := h9; exact nomatch h9)) gX5_event_X3_has rfl rfl hs (by decide +kernel) rfl ⟨Nat.le_of_ble_eq_true rfl, Nat.le_of_ble_eq_true rfl⟩ rfl (Nat.le_of_ble_eq_true rfl) dX5_event_5 ⟨(show 0 + 0 ≤ 1 by omega), (show 0 + 0 ≤ 6 by omega)⟩ (fun v1 w2 h3 => ?_)
  obtain ⟨h3, h4⟩ := h3
  cases h3
  subst w2
  refine j_after (st' := [.int (zb (decide (e < ev)))]) (k' := 0) (n' := 0) rfl rfl rfl ?_
  refine j_if_eq 15 dX5_event_8 (by decide) (fun c8 => ?_) (fun c8 => ?_)
  · skip
    exfalso; have := of_decide_eq_false (zb_0 c8); omega
  · skip
    refine j_iload_n dX5_event_11 2 rfl ?_
    refine j_if_geN 25 (by omega) dX5_event_12 (by decide) ?_
    refine j_iload_n dX5_event_25 2 rfl ?_
    refine j_bipush (v := nI 9) dX5_event_26 (by decide) ?_
    refine j_aload_n dX5_event_28 0 rfl ?_
    refine j_get flX5_event_27 hpt rfl dX5_event_29 ?_
    refine j_iload_n dX5_event_32 1 rfl ?_
    refine j_iconst (v := nI 1) dX5_event_33 (by decide) ?_
    have hrg5 := Mus.rg (e := e) hM (by omega)
    have hbd6 := Mus.bd (e := e) hM (by omega)
    refine j_callV (rm := rX3_fact) (As := [.int (nI e), .int (nI 1)]) (st := [.int (nI 9), .int (nI c)]) (b0 := sc) (ci := 3) (na := 2) (c_fact (e := e) (c := 1) hs hf (by omega) (by omega)) (by intro E w9 h9; first | exact nomatch h9.1 | (obtain ⟨_, h9, _⟩ := h9; exact nomatch h9) | (obtain ⟨_, _, _, h9, _⟩ := h9; exact nomatch h9)) gX5_event_X3_fact rfl rfl hs (by decide +kernel) rfl ⟨Nat.le_of_ble_eq_true rfl, Nat.le_of_ble_eq_true rfl⟩ rfl (Nat.le_of_ble_eq_true rfl) dX5_event_34 ⟨(show 0 + 0 ≤ 1 by omega), (show 0 + 0 ≤ 6 by omega)⟩ (fun v7 w8 h9 => ?_)
    obtain ⟨h9, h10⟩ := h9
    cases h9
    subst w8
    refine j_after (st' := [.int (f (e * 14 + 1)), .int (nI 9), .int (nI c)]) (k' := 0) (n' := 0) rfl rfl rfl ?_
    refine j_eqi (y := nI (u 1 e)) (Mus.c1 hM (by omega)) ?_
    refine j_iaddN dX5_event_37 ?_
    refine j_icmp_ltN 51 (by omega) (by omega) dX5_event_38 (by decide) (fun c38 => ?_) (fun c38 => ?_)
    · skip
      exfalso; omega
    · skip
      exact j_throwX (ik := 71) (is := 110) (ic := 75) (cls := "java/util/NoSuchElementException") (text := "the event has no such number") rfl (Or.inr ⟨rfl, rfl⟩) (by simp [bgStr]) mX5_event_0 mX5_event_1 atX5_event_75 otX5_event_75 rfl (Nat.le_of_ble_eq_true rfl) (Nat.le_of_ble_eq_true rfl) (show 0 + 1 ≤ 1 by omega) (show 0 + 6 ≤ 6 by omega) dX5_event_41 dX5_event_44 dX5_event_45 dX5_event_47 dX5_event_50 ⟨rfl, rfl⟩
abbrev rX5_sure : Room := { frames := 6, cells := 1, slots := 6, locals := 92 }
theorem flX5_sure_27 : FL wsX5_sure RX5 27 5 3 := ⟨RX5, TX5, 6, rfl, by decide, by decide +kernel, by decide +kernel⟩
theorem flX5_sure_76 : FL wsX5_sure RX5 76 3 1 := ⟨RX3, TX3, 7, rfl, by decide, by decide +kernel, by decide +kernel⟩
theorem flX5_sure_36 : FL wsX5_sure RX5 36 5 4 := ⟨RX5, TX5, 6, rfl, by decide, by decide +kernel, by decide +kernel⟩
set_option maxHeartbeats 4000000 in
set_option maxRecDepth 100000 in
theorem c_sure {w : pW} {fo sc pr ar de ms mn nt : Nat} {fa ev be cu st me pa : Nat} {f : Nat → Int32} {u : Nat → Nat → Nat} {bh : Nat → Option Nat} {cm : Nat} {bf nx av ah : Option Nat} {cl pe pb pc an : Nat} {cn : Nat} {d : Nat → Nat} (hfo : w fo = some (.inr (0, [.ref sc, .ref pr, .ref ar, .ref de, .ref ms, .ref mn, .int (nI nt)]))) (hs : w sc = some (.inr (3, [.ref fa, .int (nI ev), .int (nI be), .int (nI cu), .int (nI st), .int (nI me), .int (nI pa)]))) (hf : w fa = some (.inl (0, 1400, .inl f))) (hm : w mn = some (.inr (1, [va_rf bf, va_rf nx, .ref cm, .int (nI cl), .int (nI pe), .int (nI pb), .int (nI pc), .int (nI an), va_rf av, va_rf ah]))) (hc : w cm = some (.inl (0, cn, .inl (fun j9 => nI (d j9))))) (hM : Mus f ev st u bh) (hst : st ≤ cn) (hcn : cn ≤ 100000) (hdd : ∀ j, d j ≤ 1000000) (hN : va_nd [fa, cm] = true) {pt tx tl rd ld : Nat} (hpt : w pt = some (.inr (5, [.ref tx, .int (nI tl), .ref rd, .ref sc, .ref fo, .int (nI ld)]))) (hpe : pe < ev) (hpc : ∀ e, e < ev → pc ≤ leaE d (u 1) e) (hpc1 : pc ≤ 1000000) : Ct yX5_sure wsX5_sure rX5_sure [.ref pt] w (fun o w9 => o = .inl (some (.int (surN (leaM d (u 1) (u 4) (u 4 pe) ev 0 1000000) pc))) ∧ w9 = w) := by
  refine Ct.of (cc := cX5_sure) (own := RX5) (nm := "sure") (nL := 1) (ret := (some .int)) (by decide +kernel) rfl rfl rfl (Nat.le_of_ble_eq_true rfl) ?_
  refine j_lvE (lv' := [(0, .ref pt)]) rfl ?_
  have hev := hM.hev
  have hst0 := hM.hst
  have hev9 := hM.hev
  refine j_aload_n dX5_sure_0 0 rfl ?_
  refine j_get flX5_sure_27 hpt rfl dX5_sure_1 ?_
  refine j_get flX5_sure_76 hs rfl dX5_sure_4 ?_
  refine j_if_neN 20 (by omega) dX5_sure_7 (by decide) (fun c7 => ?_) (fun c7 => ?_)
  · skip
    refine j_aload_n dX5_sure_20 0 rfl ?_
    refine j_get flX5_sure_36 hpt rfl dX5_sure_21 ?_
    refine j_callV (rm := rX0_leadOverOtherMeasures) (As := []) (st := []) (b0 := fo) (ci := 0) (na := 0) (c_leadOver hfo hs hf hm hc hM (by omega) (by omega) hdd hN hpe hpc hpc1) (by intro E w9 h9; first | exact nomatch h9.1 | (obtain ⟨_, h9, _⟩ := h9; exact nomatch h9) | (obtain ⟨_, _, _, h9, _⟩ := h9; exact nomatch h9)) gX5_sure_X0_leadOverOtherMeasures rfl rfl hfo (by decide +kernel) rfl ⟨Nat.le_of_ble_eq_true rfl, Nat.le_of_ble_eq_true rfl⟩ rfl (Nat.le_of_ble_eq_true rfl) dX5_sure_24 ⟨(show 0 + 0 ≤ 1 by omega), (show 0 + 0 ≤ 6 by omega)⟩ (fun v1 w2 h3 => ?_)
    obtain ⟨h3, h4⟩ := h3
    cases h3
    subst w2
    refine j_after (st' := [.int (surN (leaM d (u 1) (u 4) (u 4 pe) ev 0 1000000) pc)]) (k' := 0) (n' := 0) rfl rfl rfl ?_
    exact j_iret rfl ⟨rfl, rfl⟩ (show 0 ≤ 1 by omega) (show 0 ≤ 6 by omega) dX5_sure_27
  · skip
    exfalso; omega
set_option maxRecDepth 100000 in
theorem atX5_sure_75 : ∀ x ∈ (vx_atX RX5 75 "java/util/NoSuchElementException" ["java/lang/RuntimeException", "java/lang/Exception"]).filter goodWord, x ∈ wsX5_sure := by decide +kernel
theorem otX5_sure_75 : ((Cond.classLink RX5 71 "java/util/NoSuchElementException" :: Cond.initialized "java/util/NoSuchElementException" :: vx_atX RX5 75 "java/util/NoSuchElementException" ["java/lang/RuntimeException", "java/lang/Exception"]).all vx_ot) = true := by decide +kernel
set_option maxRecDepth 100000 in
theorem mX5_sure_0 : Cond.classLink RX5 71 "java/util/NoSuchElementException" ∈ wsX5_sure := by decide +kernel
set_option maxRecDepth 100000 in
theorem mX5_sure_1 : Cond.initialized "java/util/NoSuchElementException" ∈ wsX5_sure := by decide +kernel
set_option maxHeartbeats 4000000 in
set_option maxRecDepth 100000 in
theorem c_sure0 {w : pW} {fo sc pr ar de ms mn nt : Nat} {fa ev be cu st me pa : Nat} {f : Nat → Int32} {u : Nat → Nat → Nat} {bh : Nat → Option Nat} {cm : Nat} {bf nx av ah : Option Nat} {cl pe pb pc an : Nat} {cn : Nat} {d : Nat → Nat} (hfo : w fo = some (.inr (0, [.ref sc, .ref pr, .ref ar, .ref de, .ref ms, .ref mn, .int (nI nt)]))) (hs : w sc = some (.inr (3, [.ref fa, .int (nI ev), .int (nI be), .int (nI cu), .int (nI st), .int (nI me), .int (nI pa)]))) (hf : w fa = some (.inl (0, 1400, .inl f))) (hm : w mn = some (.inr (1, [va_rf bf, va_rf nx, .ref cm, .int (nI cl), .int (nI pe), .int (nI pb), .int (nI pc), .int (nI an), va_rf av, va_rf ah]))) (hc : w cm = some (.inl (0, cn, .inl (fun j9 => nI (d j9))))) (hM : Mus f ev st u bh) (hst : st ≤ cn) (hcn : cn ≤ 100000) (hdd : ∀ j, d j ≤ 1000000) (hN : va_nd [fa, cm] = true) {pt tx tl rd ld : Nat} (hpt : w pt = some (.inr (5, [.ref tx, .int (nI tl), .ref rd, .ref sc, .ref fo, .int (nI ld)]))) (he0 : ev = 0) : Ct yX5_sure wsX5_sure rX5_sure [.ref pt] w (fun o w9 => o = .inr "java/util/NoSuchElementException" ∧ w9 = w) := by
  refine Ct.of (cc := cX5_sure) (own := RX5) (nm := "sure") (nL := 1) (ret := (some .int)) (by decide +kernel) rfl rfl rfl (Nat.le_of_ble_eq_true rfl) ?_
  refine j_lvE (lv' := [(0, .ref pt)]) rfl ?_
  have hev := hM.hev
  have hst0 := hM.hst
  have hev9 := hM.hev
  refine j_aload_n dX5_sure_0 0 rfl ?_
  refine j_get flX5_sure_27 hpt rfl dX5_sure_1 ?_
  refine j_get flX5_sure_76 hs rfl dX5_sure_4 ?_
  refine j_if_neN 20 (by omega) dX5_sure_7 (by decide) (fun c7 => ?_) (fun c7 => ?_)
  · skip
    exfalso; omega
  · skip
    exact j_throwX (ik := 71) (is := 140) (ic := 75) (cls := "java/util/NoSuchElementException") (text := "there is no music") rfl (Or.inr ⟨rfl, rfl⟩) (by simp [bgStr]) mX5_sure_0 mX5_sure_1 atX5_sure_75 otX5_sure_75 rfl (Nat.le_of_ble_eq_true rfl) (Nat.le_of_ble_eq_true rfl) (show 0 + 1 ≤ 1 by omega) (show 0 + 6 ≤ 6 by omega) dX5_sure_10 dX5_sure_13 dX5_sure_14 dX5_sure_16 dX5_sure_19 ⟨rfl, rfl⟩
abbrev rX5_cost : Room := { frames := 6, cells := 1, slots := 6, locals := 90 }
theorem flX5_cost_27 : FL wsX5_cost RX5 27 5 3 := ⟨RX5, TX5, 6, rfl, by decide, by decide +kernel, by decide +kernel⟩
theorem flX5_cost_36 : FL wsX5_cost RX5 36 5 4 := ⟨RX5, TX5, 6, rfl, by decide, by decide +kernel, by decide +kernel⟩
set_option maxHeartbeats 4000000 in
set_option maxRecDepth 100000 in
theorem c_cost {w : pW} {fo sc pr ar de ms mn nt : Nat} {fa ev be cu st me pa : Nat} {f : Nat → Int32} {u : Nat → Nat → Nat} {bh : Nat → Option Nat} {cm : Nat} {bf nx av ah : Option Nat} {cl pe pb pc an : Nat} {cn : Nat} {d : Nat → Nat} (hfo : w fo = some (.inr (0, [.ref sc, .ref pr, .ref ar, .ref de, .ref ms, .ref mn, .int (nI nt)]))) (hs : w sc = some (.inr (3, [.ref fa, .int (nI ev), .int (nI be), .int (nI cu), .int (nI st), .int (nI me), .int (nI pa)]))) (hf : w fa = some (.inl (0, 1400, .inl f))) (hm : w mn = some (.inr (1, [va_rf bf, va_rf nx, .ref cm, .int (nI cl), .int (nI pe), .int (nI pb), .int (nI pc), .int (nI an), va_rf av, va_rf ah]))) (hc : w cm = some (.inl (0, cn, .inl (fun j9 => nI (d j9))))) (hM : Mus f ev st u bh) (hst : st ≤ cn) (hcn : cn ≤ 100000) (hdd : ∀ j, d j ≤ 1000000) (hN : va_nd [fa, cm] = true) {pt tx tl rd ld : Nat} (hpt : w pt = some (.inr (5, [.ref tx, .int (nI tl), .ref rd, .ref sc, .ref fo, .int (nI ld)]))) {e b : Nat} (he : e < ev) (hb : b < 2 ^ u 1 e) : Ct yX5_cost wsX5_cost rX5_cost [.ref pt, .int (nI e), .int (nI b)] w (fun o w9 => o = .inl (some (.int (cst (d (sumP (u 1) e + b))))) ∧ w9 = w) := by
  refine Ct.of (cc := cX5_cost) (own := RX5) (nm := "cost") (nL := 3) (ret := (some .int)) (by decide +kernel) rfl rfl rfl (Nat.le_of_ble_eq_true rfl) ?_
  refine j_lvE (lv' := [(0, .ref pt), (1, .int (nI e)), (2, .int (nI b))]) rfl ?_
  have hev := hM.hev
  have hst0 := hM.hst
  have hev9 := hM.hev
  have hbd0 := (hM.bd (e := e) he).2.1
  have hpw := pw4 hbd0
  refine j_aload_n dX5_cost_0 0 rfl ?_
  refine j_get flX5_cost_27 hpt rfl dX5_cost_1 ?_
  refine j_iload_n dX5_cost_4 1 rfl ?_
  refine j_callV (rm := rX3_has) (As := [.int (nI e)]) (st := []) (b0 := sc) (ci := 3) (na := 1) (c_hasN (e := e) hs hf (by omega) (by omega)) (by intro E w9 h9; first | exact nomatch h9.1 | (obtain ⟨_, h9, _⟩ := h9; exact nomatch h9) | (obtain ⟨_, _, _, h9, _⟩ := h9; exact nomatch h9)) gX5_cost_X3_has rfl rfl hs (by decide +kernel) rfl ⟨Nat.le_of_ble_eq_true rfl, Nat.le_of_ble_eq_true rfl⟩ rfl (Nat.le_of_ble_eq_true rfl) dX5_cost_5 ⟨(show 0 + 0 ≤ 1 by omega), (show 0 + 0 ≤ 6 by omega)⟩ (fun v1 w2 h3 => ?_)
  obtain ⟨h3, h4⟩ := h3
  cases h3
  subst w2
  refine j_after (st' := [.int (zb (decide (e < ev)))]) (k' := 0) (n' := 0) rfl rfl rfl ?_
  refine j_if_eq 27 dX5_cost_8 (by decide) (fun c8 => ?_) (fun c8 => ?_)
  · skip
    exfalso; have := of_decide_eq_false (zb_0 c8); omega
  · skip
    refine j_iload_n dX5_cost_11 2 rfl ?_
    refine j_if_ltN (by omega) dX5_cost_12 (by decide : _ = ((27 : Nat) : Int)) ?_
    refine j_iload_n dX5_cost_15 2 rfl ?_
    refine j_aload_n dX5_cost_16 0 rfl ?_
    refine j_get flX5_cost_27 hpt rfl dX5_cost_17 ?_
    refine j_iload_n dX5_cost_20 1 rfl ?_
    refine j_callV (rm := rX3_allBits) (As := [.int (nI e)]) (st := [.int (nI b)]) (b0 := sc) (ci := 3) (na := 1) (c_allBits (e := e) (np := u 1 e) hs hf (by omega) (by omega) (Mus.c1 hM he)) (by intro E w9 h9; first | exact nomatch h9.1 | (obtain ⟨_, h9, _⟩ := h9; exact nomatch h9) | (obtain ⟨_, _, _, h9, _⟩ := h9; exact nomatch h9)) gX5_cost_X3_allBits rfl rfl hs (by decide +kernel) rfl ⟨Nat.le_of_ble_eq_true rfl, Nat.le_of_ble_eq_true rfl⟩ rfl (Nat.le_of_ble_eq_true rfl) dX5_cost_21 ⟨(show 0 + 0 ≤ 1 by omega), (show 0 + 0 ≤ 6 by omega)⟩ (fun v5 w6 h7 => ?_)
    obtain ⟨h7, h8⟩ := h7
    cases h7
    subst w6
    refine j_after (st' := [.int (nI (2 ^ u 1 e - 1)), .int (nI b)]) (k' := 0) (n' := 0) rfl rfl rfl ?_
    refine j_icmp_leN 37 (by omega) (by omega) dX5_cost_24 (by decide) (fun c24 => ?_) (fun c24 => ?_)
    · skip
      refine j_aload_n dX5_cost_37 0 rfl ?_
      refine j_get flX5_cost_36 hpt rfl dX5_cost_38 ?_
      refine j_iload_n dX5_cost_41 1 rfl ?_
      refine j_iload_n dX5_cost_42 2 rfl ?_
      refine j_callV (rm := rX0_costOf) (As := [.int (nI e), .int (nI b)]) (st := []) (b0 := fo) (ci := 0) (na := 2) (c_costOf (e := e) (b := b) hfo hs hf hm hc hM (by omega) (by omega) hdd hN (by omega) (by omega)) (by intro E w9 h9; first | exact nomatch h9.1 | (obtain ⟨_, h9, _⟩ := h9; exact nomatch h9) | (obtain ⟨_, _, _, h9, _⟩ := h9; exact nomatch h9)) gX5_cost_X0_costOf rfl rfl hfo (by decide +kernel) rfl ⟨Nat.le_of_ble_eq_true rfl, Nat.le_of_ble_eq_true rfl⟩ rfl (Nat.le_of_ble_eq_true rfl) dX5_cost_43 ⟨(show 0 + 0 ≤ 1 by omega), (show 0 + 0 ≤ 6 by omega)⟩ (fun v9 w10 h11 => ?_)
      obtain ⟨h11, h12⟩ := h11
      cases h11
      subst w10
      refine j_after (st' := [.int (cst (d (sumP (u 1) e + b)))]) (k' := 0) (n' := 0) rfl rfl rfl ?_
      exact j_iret rfl ⟨rfl, rfl⟩ (show 0 ≤ 1 by omega) (show 0 ≤ 6 by omega) dX5_cost_46
    · skip
      exfalso; omega
set_option maxRecDepth 100000 in
theorem atX5_cost_75 : ∀ x ∈ (vx_atX RX5 75 "java/util/NoSuchElementException" ["java/lang/RuntimeException", "java/lang/Exception"]).filter goodWord, x ∈ wsX5_cost := by decide +kernel
theorem otX5_cost_75 : ((Cond.classLink RX5 71 "java/util/NoSuchElementException" :: Cond.initialized "java/util/NoSuchElementException" :: vx_atX RX5 75 "java/util/NoSuchElementException" ["java/lang/RuntimeException", "java/lang/Exception"]).all vx_ot) = true := by decide +kernel
set_option maxRecDepth 100000 in
theorem mX5_cost_0 : Cond.classLink RX5 71 "java/util/NoSuchElementException" ∈ wsX5_cost := by decide +kernel
set_option maxRecDepth 100000 in
theorem mX5_cost_1 : Cond.initialized "java/util/NoSuchElementException" ∈ wsX5_cost := by decide +kernel
set_option maxHeartbeats 4000000 in
set_option maxRecDepth 100000 in
theorem c_costBadB {w : pW} {fo sc pr ar de ms mn nt : Nat} {fa ev be cu st me pa : Nat} {f : Nat → Int32} {u : Nat → Nat → Nat} {bh : Nat → Option Nat} {cm : Nat} {bf nx av ah : Option Nat} {cl pe pb pc an : Nat} {cn : Nat} {d : Nat → Nat} (hfo : w fo = some (.inr (0, [.ref sc, .ref pr, .ref ar, .ref de, .ref ms, .ref mn, .int (nI nt)]))) (hs : w sc = some (.inr (3, [.ref fa, .int (nI ev), .int (nI be), .int (nI cu), .int (nI st), .int (nI me), .int (nI pa)]))) (hf : w fa = some (.inl (0, 1400, .inl f))) (hm : w mn = some (.inr (1, [va_rf bf, va_rf nx, .ref cm, .int (nI cl), .int (nI pe), .int (nI pb), .int (nI pc), .int (nI an), va_rf av, va_rf ah]))) (hc : w cm = some (.inl (0, cn, .inl (fun j9 => nI (d j9))))) (hM : Mus f ev st u bh) (hst : st ≤ cn) (hcn : cn ≤ 100000) (hdd : ∀ j, d j ≤ 1000000) (hN : va_nd [fa, cm] = true) {pt tx tl rd ld : Nat} (hpt : w pt = some (.inr (5, [.ref tx, .int (nI tl), .ref rd, .ref sc, .ref fo, .int (nI ld)]))) {e b : Nat} (he : e < ev) (hb : 2 ^ u 1 e ≤ b) (hb2 : b < 2 ^ 31) : Ct yX5_cost wsX5_cost rX5_cost [.ref pt, .int (nI e), .int (nI b)] w (fun o w9 => o = .inr "java/util/NoSuchElementException" ∧ w9 = w) := by
  refine Ct.of (cc := cX5_cost) (own := RX5) (nm := "cost") (nL := 3) (ret := (some .int)) (by decide +kernel) rfl rfl rfl (Nat.le_of_ble_eq_true rfl) ?_
  refine j_lvE (lv' := [(0, .ref pt), (1, .int (nI e)), (2, .int (nI b))]) rfl ?_
  have hev := hM.hev
  have hst0 := hM.hst
  have hev9 := hM.hev
  have hbd0 := (hM.bd (e := e) he).2.1
  have hpw := pw4 hbd0
  refine j_aload_n dX5_cost_0 0 rfl ?_
  refine j_get flX5_cost_27 hpt rfl dX5_cost_1 ?_
  refine j_iload_n dX5_cost_4 1 rfl ?_
  refine j_callV (rm := rX3_has) (As := [.int (nI e)]) (st := []) (b0 := sc) (ci := 3) (na := 1) (c_hasN (e := e) hs hf (by omega) (by omega)) (by intro E w9 h9; first | exact nomatch h9.1 | (obtain ⟨_, h9, _⟩ := h9; exact nomatch h9) | (obtain ⟨_, _, _, h9, _⟩ := h9; exact nomatch h9)) gX5_cost_X3_has rfl rfl hs (by decide +kernel) rfl ⟨Nat.le_of_ble_eq_true rfl, Nat.le_of_ble_eq_true rfl⟩ rfl (Nat.le_of_ble_eq_true rfl) dX5_cost_5 ⟨(show 0 + 0 ≤ 1 by omega), (show 0 + 0 ≤ 6 by omega)⟩ (fun v1 w2 h3 => ?_)
  obtain ⟨h3, h4⟩ := h3
  cases h3
  subst w2
  refine j_after (st' := [.int (zb (decide (e < ev)))]) (k' := 0) (n' := 0) rfl rfl rfl ?_
  refine j_if_eq 27 dX5_cost_8 (by decide) (fun c8 => ?_) (fun c8 => ?_)
  · skip
    exact j_throwX (ik := 71) (is := 154) (ic := 75) (cls := "java/util/NoSuchElementException") (text := "no such place") rfl (Or.inr ⟨rfl, rfl⟩) (by simp [bgStr]) mX5_cost_0 mX5_cost_1 atX5_cost_75 otX5_cost_75 rfl (Nat.le_of_ble_eq_true rfl) (Nat.le_of_ble_eq_true rfl) (show 0 + 1 ≤ 1 by omega) (show 0 + 6 ≤ 6 by omega) dX5_cost_27 dX5_cost_30 dX5_cost_31 dX5_cost_33 dX5_cost_36 ⟨rfl, rfl⟩
  · skip
    refine j_iload_n dX5_cost_11 2 rfl ?_
    refine j_if_ltN (by omega) dX5_cost_12 (by decide : _ = ((27 : Nat) : Int)) ?_
    refine j_iload_n dX5_cost_15 2 rfl ?_
    refine j_aload_n dX5_cost_16 0 rfl ?_
    refine j_get flX5_cost_27 hpt rfl dX5_cost_17 ?_
    refine j_iload_n dX5_cost_20 1 rfl ?_
    refine j_callV (rm := rX3_allBits) (As := [.int (nI e)]) (st := [.int (nI b)]) (b0 := sc) (ci := 3) (na := 1) (c_allBits (e := e) (np := u 1 e) hs hf (by omega) (by omega) (Mus.c1 hM he)) (by intro E w9 h9; first | exact nomatch h9.1 | (obtain ⟨_, h9, _⟩ := h9; exact nomatch h9) | (obtain ⟨_, _, _, h9, _⟩ := h9; exact nomatch h9)) gX5_cost_X3_allBits rfl rfl hs (by decide +kernel) rfl ⟨Nat.le_of_ble_eq_true rfl, Nat.le_of_ble_eq_true rfl⟩ rfl (Nat.le_of_ble_eq_true rfl) dX5_cost_21 ⟨(show 0 + 0 ≤ 1 by omega), (show 0 + 0 ≤ 6 by omega)⟩ (fun v5 w6 h7 => ?_)
    obtain ⟨h7, h8⟩ := h7
    cases h7
    subst w6
    refine j_after (st' := [.int (nI (2 ^ u 1 e - 1)), .int (nI b)]) (k' := 0) (n' := 0) rfl rfl rfl ?_
    refine j_icmp_leN 37 (by omega) (by omega) dX5_cost_24 (by decide) (fun c24 => ?_) (fun c24 => ?_)
    · skip
      exfalso; omega
    · skip
      exact j_throwX (ik := 71) (is := 154) (ic := 75) (cls := "java/util/NoSuchElementException") (text := "no such place") rfl (Or.inr ⟨rfl, rfl⟩) (by simp [bgStr]) mX5_cost_0 mX5_cost_1 atX5_cost_75 otX5_cost_75 rfl (Nat.le_of_ble_eq_true rfl) (Nat.le_of_ble_eq_true rfl) (show 0 + 1 ≤ 1 by omega) (show 0 + 6 ≤ 6 by omega) dX5_cost_27 dX5_cost_30 dX5_cost_31 dX5_cost_33 dX5_cost_36 ⟨rfl, rfl⟩
set_option maxHeartbeats 4000000 in
set_option maxRecDepth 100000 in
theorem c_costBadY {w : pW} {fo sc pr ar de ms mn nt : Nat} {fa ev be cu st me pa : Nat} {f : Nat → Int32} {u : Nat → Nat → Nat} {bh : Nat → Option Nat} {cm : Nat} {bf nx av ah : Option Nat} {cl pe pb pc an : Nat} {cn : Nat} {d : Nat → Nat} (hfo : w fo = some (.inr (0, [.ref sc, .ref pr, .ref ar, .ref de, .ref ms, .ref mn, .int (nI nt)]))) (hs : w sc = some (.inr (3, [.ref fa, .int (nI ev), .int (nI be), .int (nI cu), .int (nI st), .int (nI me), .int (nI pa)]))) (hf : w fa = some (.inl (0, 1400, .inl f))) (hm : w mn = some (.inr (1, [va_rf bf, va_rf nx, .ref cm, .int (nI cl), .int (nI pe), .int (nI pb), .int (nI pc), .int (nI an), va_rf av, va_rf ah]))) (hc : w cm = some (.inl (0, cn, .inl (fun j9 => nI (d j9))))) (hM : Mus f ev st u bh) (hst : st ≤ cn) (hcn : cn ≤ 100000) (hdd : ∀ j, d j ≤ 1000000) (hN : va_nd [fa, cm] = true) {pt tx tl rd ld : Nat} (hpt : w pt = some (.inr (5, [.ref tx, .int (nI tl), .ref rd, .ref sc, .ref fo, .int (nI ld)]))) {e : Nat} {y : Int32} (he : e < ev) (hy : y < 0) : Ct yX5_cost wsX5_cost rX5_cost [.ref pt, .int (nI e), .int y] w (fun o w9 => o = .inr "java/util/NoSuchElementException" ∧ w9 = w) := by
  refine Ct.of (cc := cX5_cost) (own := RX5) (nm := "cost") (nL := 3) (ret := (some .int)) (by decide +kernel) rfl rfl rfl (Nat.le_of_ble_eq_true rfl) ?_
  refine j_lvE (lv' := [(0, .ref pt), (1, .int (nI e)), (2, .int y)]) rfl ?_
  have hev := hM.hev
  have hst0 := hM.hst
  have hev9 := hM.hev
  have hbd0 := (hM.bd (e := e) he).2.1
  have hpw := pw4 hbd0
  refine j_aload_n dX5_cost_0 0 rfl ?_
  refine j_get flX5_cost_27 hpt rfl dX5_cost_1 ?_
  refine j_iload_n dX5_cost_4 1 rfl ?_
  refine j_callV (rm := rX3_has) (As := [.int (nI e)]) (st := []) (b0 := sc) (ci := 3) (na := 1) (c_hasN (e := e) hs hf (by omega) (by omega)) (by intro E w9 h9; first | exact nomatch h9.1 | (obtain ⟨_, h9, _⟩ := h9; exact nomatch h9) | (obtain ⟨_, _, _, h9, _⟩ := h9; exact nomatch h9)) gX5_cost_X3_has rfl rfl hs (by decide +kernel) rfl ⟨Nat.le_of_ble_eq_true rfl, Nat.le_of_ble_eq_true rfl⟩ rfl (Nat.le_of_ble_eq_true rfl) dX5_cost_5 ⟨(show 0 + 0 ≤ 1 by omega), (show 0 + 0 ≤ 6 by omega)⟩ (fun v1 w2 h3 => ?_)
  obtain ⟨h3, h4⟩ := h3
  cases h3
  subst w2
  refine j_after (st' := [.int (zb (decide (e < ev)))]) (k' := 0) (n' := 0) rfl rfl rfl ?_
  refine j_if_eq 27 dX5_cost_8 (by decide) (fun c8 => ?_) (fun c8 => ?_)
  · skip
    exact j_throwX (ik := 71) (is := 154) (ic := 75) (cls := "java/util/NoSuchElementException") (text := "no such place") rfl (Or.inr ⟨rfl, rfl⟩) (by simp [bgStr]) mX5_cost_0 mX5_cost_1 atX5_cost_75 otX5_cost_75 rfl (Nat.le_of_ble_eq_true rfl) (Nat.le_of_ble_eq_true rfl) (show 0 + 1 ≤ 1 by omega) (show 0 + 6 ≤ 6 by omega) dX5_cost_27 dX5_cost_30 dX5_cost_31 dX5_cost_33 dX5_cost_36 ⟨rfl, rfl⟩
  · skip
    refine j_iload_n dX5_cost_11 2 rfl ?_
    refine j_if_lt 27 dX5_cost_12 (by decide) (fun c12 => ?_) (fun c12 => ?_)
    · skip
      exact j_throwX (ik := 71) (is := 154) (ic := 75) (cls := "java/util/NoSuchElementException") (text := "no such place") rfl (Or.inr ⟨rfl, rfl⟩) (by simp [bgStr]) mX5_cost_0 mX5_cost_1 atX5_cost_75 otX5_cost_75 rfl (Nat.le_of_ble_eq_true rfl) (Nat.le_of_ble_eq_true rfl) (show 0 + 1 ≤ 1 by omega) (show 0 + 6 ≤ 6 by omega) dX5_cost_27 dX5_cost_30 dX5_cost_31 dX5_cost_33 dX5_cost_36 ⟨rfl, rfl⟩
    · skip
      exact absurd hy c12
set_option maxHeartbeats 4000000 in
set_option maxRecDepth 100000 in
theorem c_costBadE {w : pW} {fo sc pr ar de ms mn nt : Nat} {fa ev be cu st me pa : Nat} {f : Nat → Int32} {u : Nat → Nat → Nat} {bh : Nat → Option Nat} {cm : Nat} {bf nx av ah : Option Nat} {cl pe pb pc an : Nat} {cn : Nat} {d : Nat → Nat} (hfo : w fo = some (.inr (0, [.ref sc, .ref pr, .ref ar, .ref de, .ref ms, .ref mn, .int (nI nt)]))) (hs : w sc = some (.inr (3, [.ref fa, .int (nI ev), .int (nI be), .int (nI cu), .int (nI st), .int (nI me), .int (nI pa)]))) (hf : w fa = some (.inl (0, 1400, .inl f))) (hm : w mn = some (.inr (1, [va_rf bf, va_rf nx, .ref cm, .int (nI cl), .int (nI pe), .int (nI pb), .int (nI pc), .int (nI an), va_rf av, va_rf ah]))) (hc : w cm = some (.inl (0, cn, .inl (fun j9 => nI (d j9))))) (hM : Mus f ev st u bh) (hst : st ≤ cn) (hcn : cn ≤ 100000) (hdd : ∀ j, d j ≤ 1000000) (hN : va_nd [fa, cm] = true) {pt tx tl rd ld : Nat} (hpt : w pt = some (.inr (5, [.ref tx, .int (nI tl), .ref rd, .ref sc, .ref fo, .int (nI ld)]))) {e : Nat} {y : Int32} (he : ev ≤ e) (he2 : e < 2 ^ 31) : Ct yX5_cost wsX5_cost rX5_cost [.ref pt, .int (nI e), .int y] w (fun o w9 => o = .inr "java/util/NoSuchElementException" ∧ w9 = w) := by
  refine Ct.of (cc := cX5_cost) (own := RX5) (nm := "cost") (nL := 3) (ret := (some .int)) (by decide +kernel) rfl rfl rfl (Nat.le_of_ble_eq_true rfl) ?_
  refine j_lvE (lv' := [(0, .ref pt), (1, .int (nI e)), (2, .int y)]) rfl ?_
  have hev := hM.hev
  have hst0 := hM.hst
  have hev9 := hM.hev
  refine j_aload_n dX5_cost_0 0 rfl ?_
  refine j_get flX5_cost_27 hpt rfl dX5_cost_1 ?_
  refine j_iload_n dX5_cost_4 1 rfl ?_
  refine j_callV (rm := rX3_has) (As := [.int (nI e)]) (st := []) (b0 := sc) (ci := 3) (na := 1) (c_hasN (e := e) hs hf (by omega) (by omega)) (by intro E w9 h9; first | exact nomatch h9.1 | (obtain ⟨_, h9, _⟩ := h9; exact nomatch h9) | (obtain ⟨_, _, _, h9, _⟩ := h9; exact nomatch h9)) gX5_cost_X3_has rfl rfl hs (by decide +kernel) rfl ⟨Nat.le_of_ble_eq_true rfl, Nat.le_of_ble_eq_true rfl⟩ rfl (Nat.le_of_ble_eq_true rfl) dX5_cost_5 ⟨(show 0 + 0 ≤ 1 by omega), (show 0 + 0 ≤ 6 by omega)⟩ (fun v1 w2 h3 => ?_)
  obtain ⟨h3, h4⟩ := h3
  cases h3
  subst w2
  refine j_after (st' := [.int (zb (decide (e < ev)))]) (k' := 0) (n' := 0) rfl rfl rfl ?_
  refine j_if_eq 27 dX5_cost_8 (by decide) (fun c8 => ?_) (fun c8 => ?_)
  · skip
    exact j_throwX (ik := 71) (is := 154) (ic := 75) (cls := "java/util/NoSuchElementException") (text := "no such place") rfl (Or.inr ⟨rfl, rfl⟩) (by simp [bgStr]) mX5_cost_0 mX5_cost_1 atX5_cost_75 otX5_cost_75 rfl (Nat.le_of_ble_eq_true rfl) (Nat.le_of_ble_eq_true rfl) (show 0 + 1 ≤ 1 by omega) (show 0 + 6 ≤ 6 by omega) dX5_cost_27 dX5_cost_30 dX5_cost_31 dX5_cost_33 dX5_cost_36 ⟨rfl, rfl⟩
  · skip
    exfalso; have := of_decide_eq_true (zb_n' c8); omega
set_option maxHeartbeats 4000000 in
set_option maxRecDepth 100000 in
theorem c_costBadM {w : pW} {fo sc pr ar de ms mn nt : Nat} {fa ev be cu st me pa : Nat} {f : Nat → Int32} {u : Nat → Nat → Nat} {bh : Nat → Option Nat} {cm : Nat} {bf nx av ah : Option Nat} {cl pe pb pc an : Nat} {cn : Nat} {d : Nat → Nat} (hfo : w fo = some (.inr (0, [.ref sc, .ref pr, .ref ar, .ref de, .ref ms, .ref mn, .int (nI nt)]))) (hs : w sc = some (.inr (3, [.ref fa, .int (nI ev), .int (nI be), .int (nI cu), .int (nI st), .int (nI me), .int (nI pa)]))) (hf : w fa = some (.inl (0, 1400, .inl f))) (hm : w mn = some (.inr (1, [va_rf bf, va_rf nx, .ref cm, .int (nI cl), .int (nI pe), .int (nI pb), .int (nI pc), .int (nI an), va_rf av, va_rf ah]))) (hc : w cm = some (.inl (0, cn, .inl (fun j9 => nI (d j9))))) (hM : Mus f ev st u bh) (hst : st ≤ cn) (hcn : cn ≤ 100000) (hdd : ∀ j, d j ≤ 1000000) (hN : va_nd [fa, cm] = true) {pt tx tl rd ld : Nat} (hpt : w pt = some (.inr (5, [.ref tx, .int (nI tl), .ref rd, .ref sc, .ref fo, .int (nI ld)]))) {x y : Int32} (hx : x < 0) : Ct yX5_cost wsX5_cost rX5_cost [.ref pt, .int x, .int y] w (fun o w9 => o = .inr "java/util/NoSuchElementException" ∧ w9 = w) := by
  refine Ct.of (cc := cX5_cost) (own := RX5) (nm := "cost") (nL := 3) (ret := (some .int)) (by decide +kernel) rfl rfl rfl (Nat.le_of_ble_eq_true rfl) ?_
  refine j_lvE (lv' := [(0, .ref pt), (1, .int x), (2, .int y)]) rfl ?_
  have hev := hM.hev
  have hst0 := hM.hst
  have hev9 := hM.hev
  refine j_aload_n dX5_cost_0 0 rfl ?_
  refine j_get flX5_cost_27 hpt rfl dX5_cost_1 ?_
  refine j_iload_n dX5_cost_4 1 rfl ?_
  refine j_callV (rm := rX3_has) (As := [.int x]) (st := []) (b0 := sc) (ci := 3) (na := 1) (c_hasM (e := x) hs hf hx) (by intro E w9 h9; first | exact nomatch h9.1 | (obtain ⟨_, h9, _⟩ := h9; exact nomatch h9) | (obtain ⟨_, _, _, h9, _⟩ := h9; exact nomatch h9)) gX5_cost_X3_has rfl rfl hs (by decide +kernel) rfl ⟨Nat.le_of_ble_eq_true rfl, Nat.le_of_ble_eq_true rfl⟩ rfl (Nat.le_of_ble_eq_true rfl) dX5_cost_5 ⟨(show 0 + 0 ≤ 1 by omega), (show 0 + 0 ≤ 6 by omega)⟩ (fun v1 w2 h3 => ?_)
  obtain ⟨h3, h4⟩ := h3
  cases h3
  subst w2
  refine j_after (st' := [.int (nI 0)]) (k' := 0) (n' := 0) rfl rfl rfl ?_
  refine j_if_eqN 27 (by decide) dX5_cost_8 (by decide) (fun _ => ?_) (fun h9 => absurd rfl h9)
  exact j_throwX (ik := 71) (is := 154) (ic := 75) (cls := "java/util/NoSuchElementException") (text := "no such place") rfl (Or.inr ⟨rfl, rfl⟩) (by simp [bgStr]) mX5_cost_0 mX5_cost_1 atX5_cost_75 otX5_cost_75 rfl (Nat.le_of_ble_eq_true rfl) (Nat.le_of_ble_eq_true rfl) (show 0 + 1 ≤ 1 by omega) (show 0 + 6 ≤ 6 by omega) dX5_cost_27 dX5_cost_30 dX5_cost_31 dX5_cost_33 dX5_cost_36 ⟨rfl, rfl⟩
abbrev rX5_price : Room := { frames := 6, cells := 1, slots := 6, locals := 90 }
theorem flX5_price_36 : FL wsX5_price RX5 36 5 4 := ⟨RX5, TX5, 6, rfl, by decide, by decide +kernel, by decide +kernel⟩
set_option maxHeartbeats 4000000 in
set_option maxRecDepth 100000 in
theorem c_price {w : pW} {fo sc pr ar de ms mn nt : Nat} {p : Nat → Nat} (hfo : w fo = some (.inr (0, [.ref sc, .ref pr, .ref ar, .ref de, .ref ms, .ref mn, .int (nI nt)]))) (hp : w pr = some (.inl (0, 4, .inl (fun j9 => nI (p j9))))) (hpb : ∀ j, p j ≤ 50) {pt tx tl rd ld : Nat} (hpt : w pt = some (.inr (5, [.ref tx, .int (nI tl), .ref rd, .ref sc, .ref fo, .int (nI ld)]))) {x v : Nat} (hx : x < 4) (hv : v ≤ 50) : Ct yX5_price wsX5_price rX5_price [.ref pt, .int (nI x), .int (nI v)] w (fun o w9 => o = .inl (some (.int (nI (p x)))) ∧ w9 = va_up w pr (some (.inl (0, 4, .inl (fun j9 => nI ((va_up p x v) j9)))))) := by
  refine Ct.of (cc := cX5_price) (own := RX5) (nm := "price") (nL := 3) (ret := (some .int)) (by decide +kernel) rfl rfl rfl (Nat.le_of_ble_eq_true rfl) ?_
  refine j_lvE (lv' := [(0, .ref pt), (1, .int (nI x)), (2, .int (nI v))]) rfl ?_
  refine j_aload_n dX5_price_0 0 rfl ?_
  refine j_get flX5_price_36 hpt rfl dX5_price_1 ?_
  refine j_iload_n dX5_price_4 1 rfl ?_
  refine j_callV (rm := rX0_hasPrice) (As := [.int (nI x)]) (st := []) (b0 := fo) (ci := 0) (na := 1) (c_hasPriceN (x := x) hfo hp hpb (by omega)) (by intro E w9 h9; first | exact nomatch h9.1 | (obtain ⟨_, h9, _⟩ := h9; exact nomatch h9) | (obtain ⟨_, _, _, h9, _⟩ := h9; exact nomatch h9)) gX5_price_X0_hasPrice rfl rfl hfo (by decide +kernel) rfl ⟨Nat.le_of_ble_eq_true rfl, Nat.le_of_ble_eq_true rfl⟩ rfl (Nat.le_of_ble_eq_true rfl) dX5_price_5 ⟨(show 0 + 0 ≤ 1 by omega), (show 0 + 0 ≤ 6 by omega)⟩ (fun v1 w2 h3 => ?_)
  obtain ⟨h3, h4⟩ := h3
  cases h3
  subst w2
  refine j_after (st' := [.int (zb (decide (x < 4)))]) (k' := 0) (n' := 0) rfl rfl rfl ?_
  refine j_if_eq 21 dX5_price_8 (by decide) (fun c8 => ?_) (fun c8 => ?_)
  · skip
    exfalso; have := of_decide_eq_false (zb_0 c8); omega
  · skip
    refine j_iload_n dX5_price_11 2 rfl ?_
    refine j_if_ltN (by omega) dX5_price_12 (by decide : _ = ((21 : Nat) : Int)) ?_
    refine j_iload_n dX5_price_15 2 rfl ?_
    refine j_bipush (v := nI 50) dX5_price_16 (by decide) ?_
    refine j_icmp_leN 31 (by omega) (by omega) dX5_price_18 (by decide) (fun c18 => ?_) (fun c18 => ?_)
    · skip
      refine j_aload_n dX5_price_31 0 rfl ?_
      refine j_get flX5_price_36 hpt rfl dX5_price_32 ?_
      refine j_iload_n dX5_price_35 1 rfl ?_
      refine j_iload_n dX5_price_36 2 rfl ?_
      refine j_callV (rm := rX0_changePrice) (As := [.int (nI x), .int (nI v)]) (st := []) (b0 := fo) (ci := 0) (na := 2) (c_changePrice (x := x) (v := v) hfo hp hpb hx hv) (by intro E w9 h9; first | exact nomatch h9.1 | (obtain ⟨_, h9, _⟩ := h9; exact nomatch h9) | (obtain ⟨_, _, _, h9, _⟩ := h9; exact nomatch h9)) gX5_price_X0_changePrice rfl rfl hfo (by decide +kernel) rfl ⟨Nat.le_of_ble_eq_true rfl, Nat.le_of_ble_eq_true rfl⟩ rfl (Nat.le_of_ble_eq_true rfl) dX5_price_37 ⟨(show 0 + 0 ≤ 1 by omega), (show 0 + 0 ≤ 6 by omega)⟩ (fun v5 w6 h7 => ?_)
      obtain ⟨h7, h8⟩ := h7
      cases h7
      -- w6
      refine j_after (st' := [.int (nI (p x))]) (k' := 0) (n' := 0) rfl rfl rfl ?_
      have f9 : w6 fo = some (.inr (0, [.ref sc, .ref pr, .ref ar, .ref de, .ref ms, .ref mn, .int (nI nt)])) := by rw [h8]; exact (va_up_ne _ _ (fk hfo hp rfl)).trans (hfo)
      have f10 : w6 pr = some (.inl (0, 4, .inl (fun j9 => nI ((va_up p x v) j9)))) := by rw [h8]; exact va_up_self _ _ _
      have f11 : w6 pt = some (.inr (5, [.ref tx, .int (nI tl), .ref rd, .ref sc, .ref fo, .int (nI ld)])) := by rw [h8]; exact (va_up_ne _ _ (fk hpt hp rfl)).trans (hpt)
      exact j_iret rfl ⟨rfl, h8⟩ (show 0 ≤ 1 by omega) (show 0 ≤ 6 by omega) dX5_price_40
    · skip
      exfalso; omega
set_option maxRecDepth 100000 in
theorem atX5_price_51 : ∀ x ∈ (vx_atS RX5 51 "java/lang/IllegalArgumentException" ["java/lang/RuntimeException", "java/lang/Exception"]).filter goodWord, x ∈ wsX5_price := by decide +kernel
theorem otX5_price_51 : ((Cond.classLink RX5 47 "java/lang/IllegalArgumentException" :: Cond.initialized "java/lang/IllegalArgumentException" :: vx_atS RX5 51 "java/lang/IllegalArgumentException" ["java/lang/RuntimeException", "java/lang/Exception"]).all vx_ot) = true := by decide +kernel
set_option maxRecDepth 100000 in
theorem mX5_price_0 : Cond.classLink RX5 47 "java/lang/IllegalArgumentException" ∈ wsX5_price := by decide +kernel
set_option maxRecDepth 100000 in
theorem mX5_price_1 : Cond.initialized "java/lang/IllegalArgumentException" ∈ wsX5_price := by decide +kernel
set_option maxHeartbeats 4000000 in
set_option maxRecDepth 100000 in
theorem c_priceBadX {w : pW} {fo sc pr ar de ms mn nt : Nat} {p : Nat → Nat} (hfo : w fo = some (.inr (0, [.ref sc, .ref pr, .ref ar, .ref de, .ref ms, .ref mn, .int (nI nt)]))) (hp : w pr = some (.inl (0, 4, .inl (fun j9 => nI (p j9))))) (hpb : ∀ j, p j ≤ 50) {pt tx tl rd ld : Nat} (hpt : w pt = some (.inr (5, [.ref tx, .int (nI tl), .ref rd, .ref sc, .ref fo, .int (nI ld)]))) {x : Nat} {y : Int32} (hx : 4 ≤ x) (hx2 : x < 2 ^ 31) : Ct yX5_price wsX5_price rX5_price [.ref pt, .int (nI x), .int y] w (fun o w9 => o = .inr "java/lang/IllegalArgumentException" ∧ w9 = w) := by
  refine Ct.of (cc := cX5_price) (own := RX5) (nm := "price") (nL := 3) (ret := (some .int)) (by decide +kernel) rfl rfl rfl (Nat.le_of_ble_eq_true rfl) ?_
  refine j_lvE (lv' := [(0, .ref pt), (1, .int (nI x)), (2, .int y)]) rfl ?_
  refine j_aload_n dX5_price_0 0 rfl ?_
  refine j_get flX5_price_36 hpt rfl dX5_price_1 ?_
  refine j_iload_n dX5_price_4 1 rfl ?_
  refine j_callV (rm := rX0_hasPrice) (As := [.int (nI x)]) (st := []) (b0 := fo) (ci := 0) (na := 1) (c_hasPriceN (x := x) hfo hp hpb (by omega)) (by intro E w9 h9; first | exact nomatch h9.1 | (obtain ⟨_, h9, _⟩ := h9; exact nomatch h9) | (obtain ⟨_, _, _, h9, _⟩ := h9; exact nomatch h9)) gX5_price_X0_hasPrice rfl rfl hfo (by decide +kernel) rfl ⟨Nat.le_of_ble_eq_true rfl, Nat.le_of_ble_eq_true rfl⟩ rfl (Nat.le_of_ble_eq_true rfl) dX5_price_5 ⟨(show 0 + 0 ≤ 1 by omega), (show 0 + 0 ≤ 6 by omega)⟩ (fun v1 w2 h3 => ?_)
  obtain ⟨h3, h4⟩ := h3
  cases h3
  subst w2
  refine j_after (st' := [.int (zb (decide (x < 4)))]) (k' := 0) (n' := 0) rfl rfl rfl ?_
  refine j_if_eq 21 dX5_price_8 (by decide) (fun c8 => ?_) (fun c8 => ?_)
  · skip
    exact j_throwS (ik := 47) (is := 115) (ic := 51) (cls := "java/lang/IllegalArgumentException") (text := "no such price") rfl (Or.inl ⟨rfl, rfl⟩) (by simp [bgStr]) mX5_price_0 mX5_price_1 atX5_price_51 otX5_price_51 rfl (Nat.le_of_ble_eq_true rfl) (Nat.le_of_ble_eq_true rfl) (show 0 + 1 ≤ 1 by omega) (show 0 + 6 ≤ 6 by omega) dX5_price_21 dX5_price_24 dX5_price_25 dX5_price_27 dX5_price_30 ⟨rfl, rfl⟩
  · skip
    exfalso; have := of_decide_eq_true (zb_n' c8); omega
set_option maxHeartbeats 4000000 in
set_option maxRecDepth 100000 in
theorem c_priceBadM {w : pW} {fo sc pr ar de ms mn nt : Nat} {p : Nat → Nat} (hfo : w fo = some (.inr (0, [.ref sc, .ref pr, .ref ar, .ref de, .ref ms, .ref mn, .int (nI nt)]))) (hp : w pr = some (.inl (0, 4, .inl (fun j9 => nI (p j9))))) (hpb : ∀ j, p j ≤ 50) {pt tx tl rd ld : Nat} (hpt : w pt = some (.inr (5, [.ref tx, .int (nI tl), .ref rd, .ref sc, .ref fo, .int (nI ld)]))) {x y : Int32} (hx : x < 0) : Ct yX5_price wsX5_price rX5_price [.ref pt, .int x, .int y] w (fun o w9 => o = .inr "java/lang/IllegalArgumentException" ∧ w9 = w) := by
  refine Ct.of (cc := cX5_price) (own := RX5) (nm := "price") (nL := 3) (ret := (some .int)) (by decide +kernel) rfl rfl rfl (Nat.le_of_ble_eq_true rfl) ?_
  refine j_lvE (lv' := [(0, .ref pt), (1, .int x), (2, .int y)]) rfl ?_
  refine j_aload_n dX5_price_0 0 rfl ?_
  refine j_get flX5_price_36 hpt rfl dX5_price_1 ?_
  refine j_iload_n dX5_price_4 1 rfl ?_
  refine j_callV (rm := rX0_hasPrice) (As := [.int x]) (st := []) (b0 := fo) (ci := 0) (na := 1) (c_hasPriceM (x := x) hfo hp hpb hx) (by intro E w9 h9; first | exact nomatch h9.1 | (obtain ⟨_, h9, _⟩ := h9; exact nomatch h9) | (obtain ⟨_, _, _, h9, _⟩ := h9; exact nomatch h9)) gX5_price_X0_hasPrice rfl rfl hfo (by decide +kernel) rfl ⟨Nat.le_of_ble_eq_true rfl, Nat.le_of_ble_eq_true rfl⟩ rfl (Nat.le_of_ble_eq_true rfl) dX5_price_5 ⟨(show 0 + 0 ≤ 1 by omega), (show 0 + 0 ≤ 6 by omega)⟩ (fun v1 w2 h3 => ?_)
  obtain ⟨h3, h4⟩ := h3
  cases h3
  subst w2
  refine j_after (st' := [.int (zb false)]) (k' := 0) (n' := 0) rfl rfl rfl ?_
  refine j_if_eq 21 dX5_price_8 (by decide) (fun c8 => ?_) (fun c8 => ?_)
  · skip
    exact j_throwS (ik := 47) (is := 115) (ic := 51) (cls := "java/lang/IllegalArgumentException") (text := "no such price") rfl (Or.inl ⟨rfl, rfl⟩) (by simp [bgStr]) mX5_price_0 mX5_price_1 atX5_price_51 otX5_price_51 rfl (Nat.le_of_ble_eq_true rfl) (Nat.le_of_ble_eq_true rfl) (show 0 + 1 ≤ 1 by omega) (show 0 + 6 ≤ 6 by omega) dX5_price_21 dX5_price_24 dX5_price_25 dX5_price_27 dX5_price_30 ⟨rfl, rfl⟩
  · skip
    exact absurd rfl c8
set_option maxHeartbeats 4000000 in
set_option maxRecDepth 100000 in
theorem c_priceBadV {w : pW} {fo sc pr ar de ms mn nt : Nat} {p : Nat → Nat} (hfo : w fo = some (.inr (0, [.ref sc, .ref pr, .ref ar, .ref de, .ref ms, .ref mn, .int (nI nt)]))) (hp : w pr = some (.inl (0, 4, .inl (fun j9 => nI (p j9))))) (hpb : ∀ j, p j ≤ 50) {pt tx tl rd ld : Nat} (hpt : w pt = some (.inr (5, [.ref tx, .int (nI tl), .ref rd, .ref sc, .ref fo, .int (nI ld)]))) {x : Nat} {y : Int32} (hx : x < 4) (hy : y < 0 ∨ nI 50 < y) : Ct yX5_price wsX5_price rX5_price [.ref pt, .int (nI x), .int y] w (fun o w9 => o = .inr "java/lang/IllegalArgumentException" ∧ w9 = w) := by
  refine Ct.of (cc := cX5_price) (own := RX5) (nm := "price") (nL := 3) (ret := (some .int)) (by decide +kernel) rfl rfl rfl (Nat.le_of_ble_eq_true rfl) ?_
  refine j_lvE (lv' := [(0, .ref pt), (1, .int (nI x)), (2, .int y)]) rfl ?_
  refine j_aload_n dX5_price_0 0 rfl ?_
  refine j_get flX5_price_36 hpt rfl dX5_price_1 ?_
  refine j_iload_n dX5_price_4 1 rfl ?_
  refine j_callV (rm := rX0_hasPrice) (As := [.int (nI x)]) (st := []) (b0 := fo) (ci := 0) (na := 1) (c_hasPriceN (x := x) hfo hp hpb (by omega)) (by intro E w9 h9; first | exact nomatch h9.1 | (obtain ⟨_, h9, _⟩ := h9; exact nomatch h9) | (obtain ⟨_, _, _, h9, _⟩ := h9; exact nomatch h9)) gX5_price_X0_hasPrice rfl rfl hfo (by decide +kernel) rfl ⟨Nat.le_of_ble_eq_true rfl, Nat.le_of_ble_eq_true rfl⟩ rfl (Nat.le_of_ble_eq_true rfl) dX5_price_5 ⟨(show 0 + 0 ≤ 1 by omega), (show 0 + 0 ≤ 6 by omega)⟩ (fun v1 w2 h3 => ?_)
  obtain ⟨h3, h4⟩ := h3
  cases h3
  subst w2
  refine j_after (st' := [.int (zb (decide (x < 4)))]) (k' := 0) (n' := 0) rfl rfl rfl ?_
  refine j_if_eq 21 dX5_price_8 (by decide) (fun c8 => ?_) (fun c8 => ?_)
  · skip
    exact j_throwS (ik := 47) (is := 115) (ic := 51) (cls := "java/lang/IllegalArgumentException") (text := "no such price") rfl (Or.inl ⟨rfl, rfl⟩) (by simp [bgStr]) mX5_price_0 mX5_price_1 atX5_price_51 otX5_price_51 rfl (Nat.le_of_ble_eq_true rfl) (Nat.le_of_ble_eq_true rfl) (show 0 + 1 ≤ 1 by omega) (show 0 + 6 ≤ 6 by omega) dX5_price_21 dX5_price_24 dX5_price_25 dX5_price_27 dX5_price_30 ⟨rfl, rfl⟩
  · skip
    refine j_iload_n dX5_price_11 2 rfl ?_
    refine j_if_lt 21 dX5_price_12 (by decide) (fun c12 => ?_) (fun c12 => ?_)
    · skip
      exact j_throwS (ik := 47) (is := 115) (ic := 51) (cls := "java/lang/IllegalArgumentException") (text := "no such price") rfl (Or.inl ⟨rfl, rfl⟩) (by simp [bgStr]) mX5_price_0 mX5_price_1 atX5_price_51 otX5_price_51 rfl (Nat.le_of_ble_eq_true rfl) (Nat.le_of_ble_eq_true rfl) (show 0 + 1 ≤ 1 by omega) (show 0 + 6 ≤ 6 by omega) dX5_price_21 dX5_price_24 dX5_price_25 dX5_price_27 dX5_price_30 ⟨rfl, rfl⟩
    · skip
      refine j_iload_n dX5_price_15 2 rfl ?_
      refine j_bipush (v := nI 50) dX5_price_16 (by decide) ?_
      refine j_icmp_le 31 dX5_price_18 (by decide) (fun c18 => ?_) (fun c18 => ?_)
      · skip
        exact absurd hy (fun q => q.elim c12 (fun q => absurd q (Int32.not_lt.mpr c18)))
      · skip
        exact j_throwS (ik := 47) (is := 115) (ic := 51) (cls := "java/lang/IllegalArgumentException") (text := "no such price") rfl (Or.inl ⟨rfl, rfl⟩) (by simp [bgStr]) mX5_price_0 mX5_price_1 atX5_price_51 otX5_price_51 rfl (Nat.le_of_ble_eq_true rfl) (Nat.le_of_ble_eq_true rfl) (show 0 + 1 ≤ 1 by omega) (show 0 + 6 ≤ 6 by omega) dX5_price_21 dX5_price_24 dX5_price_25 dX5_price_27 dX5_price_30 ⟨rfl, rfl⟩
abbrev rX5_again : Room := { frames := 1, cells := 0, slots := 0, locals := 20 }
theorem flX5_again_36 : FL wsX5_again RX5 36 5 4 := ⟨RX5, TX5, 6, rfl, by decide, by decide +kernel, by decide +kernel⟩
theorem flX5_again_89 : FL wsX5_again RX5 89 0 6 := ⟨RX0, TX0, 7, rfl, by decide, by decide +kernel, by decide +kernel⟩
set_option maxHeartbeats 4000000 in
set_option maxRecDepth 100000 in
theorem c_again {w : pW} {fo sc pr ar de ms mn nt : Nat} (hfo : w fo = some (.inr (0, [.ref sc, .ref pr, .ref ar, .ref de, .ref ms, .ref mn, .int (nI nt)]))) {pt tx tl rd ld : Nat} (hpt : w pt = some (.inr (5, [.ref tx, .int (nI tl), .ref rd, .ref sc, .ref fo, .int (nI ld)]))) : Ct yX5_again wsX5_again rX5_again [.ref pt] w (fun o w9 => o = .inl (some (.int (nI nt))) ∧ w9 = va_up w fo (some (.inr (0, [.ref sc, .ref pr, .ref ar, .ref de, .ref ms, .ref ms, .int (nI 0)])))) := by
  refine Ct.of (cc := cX5_again) (own := RX5) (nm := "again") (nL := 2) (ret := (some .int)) (by decide +kernel) rfl rfl rfl (Nat.le_of_ble_eq_true rfl) ?_
  refine j_lvE (lv' := [(0, .ref pt)]) rfl ?_
  refine j_aload_n dX5_again_0 0 rfl ?_
  refine j_get flX5_again_36 hpt rfl dX5_again_1 ?_
  refine j_get flX5_again_89 hfo rfl dX5_again_4 ?_
  refine j_istore_n (lv' := [(1, .int (nI nt)), (0, .ref pt)]) dX5_again_7 (Nat.le_of_ble_eq_true rfl) rfl ?_
  refine j_aload_n dX5_again_8 1 rfl ?_
  refine j_get flX5_again_36 hpt rfl dX5_again_9 ?_
  refine j_callV (rm := rX0_forget) (As := []) (st := []) (b0 := fo) (ci := 0) (na := 0) (c_forget hfo) (by intro E w9 h9; first | exact nomatch h9.1 | (obtain ⟨_, h9, _⟩ := h9; exact nomatch h9) | (obtain ⟨_, _, _, h9, _⟩ := h9; exact nomatch h9)) gX5_again_X0_forget rfl rfl hfo (by decide +kernel) rfl ⟨Nat.le_of_ble_eq_true rfl, Nat.le_of_ble_eq_true rfl⟩ rfl (Nat.le_of_ble_eq_true rfl) dX5_again_12 ⟨(show 0 + 0 ≤ 0 by omega), (show 0 + 0 ≤ 0 by omega)⟩ (fun v1 w2 h3 => ?_)
  obtain ⟨h3, h4⟩ := h3
  cases h3
  -- w2
  refine j_after (st' := []) (k' := 0) (n' := 0) rfl rfl rfl ?_
  have f5 : w2 fo = some (.inr (0, [.ref sc, .ref pr, .ref ar, .ref de, .ref ms, .ref ms, .int (nI 0)])) := by rw [h4]; exact va_up_self _ _ _
  have f6 : w2 pt = some (.inr (5, [.ref tx, .int (nI tl), .ref rd, .ref sc, .ref fo, .int (nI ld)])) := by rw [h4]; exact (va_up_ne _ _ (fk hpt hfo rfl)).trans (hpt)
  refine j_iload_n dX5_again_15 0 rfl ?_
  exact j_iret rfl ⟨rfl, h4⟩ (show 0 ≤ 0 by omega) (show 0 ≤ 0 by omega) dX5_again_16
abbrev rX5_back : Room := { frames := 1, cells := 0, slots := 0, locals := 21 }
theorem flX5_back_36 : FL wsX5_back RX5 36 5 4 := ⟨RX5, TX5, 6, rfl, by decide, by decide +kernel, by decide +kernel⟩
set_option maxHeartbeats 4000000 in
set_option maxRecDepth 100000 in
theorem c_back0 {w : pW} {fo sc pr ar de ms mn nt : Nat} {cm : Nat} {nx av ah : Option Nat} {cl pe pb pc an : Nat} (hfo : w fo = some (.inr (0, [.ref sc, .ref pr, .ref ar, .ref de, .ref ms, .ref mn, .int (nI nt)]))) {pt tx tl rd ld : Nat} (hpt : w pt = some (.inr (5, [.ref tx, .int (nI tl), .ref rd, .ref sc, .ref fo, .int (nI ld)]))) (hm : w mn = some (.inr (1, [va_rf none, va_rf nx, .ref cm, .int (nI cl), .int (nI pe), .int (nI pb), .int (nI pc), .int (nI an), va_rf av, va_rf ah]))) : Ct yX5_back wsX5_back rX5_back [.ref pt] w (fun o w9 => o = .inl (some (.int (-1))) ∧ w9 = w) := by
  refine Ct.of (cc := cX5_back) (own := RX5) (nm := "back") (nL := 1) (ret := (some .int)) (by decide +kernel) rfl rfl rfl (Nat.le_of_ble_eq_true rfl) ?_
  refine j_lvE (lv' := [(0, .ref pt)]) rfl ?_
  refine j_aload_n dX5_back_0 0 rfl ?_
  refine j_get flX5_back_36 hpt rfl dX5_back_1 ?_
  refine j_callV (rm := rX0_takeBack) (As := []) (st := []) (b0 := fo) (ci := 0) (na := 0) (c_takeBack0 hfo hm) (by intro E w9 h9; first | exact nomatch h9.1 | (obtain ⟨_, h9, _⟩ := h9; exact nomatch h9) | (obtain ⟨_, _, _, h9, _⟩ := h9; exact nomatch h9)) gX5_back_X0_takeBack rfl rfl hfo (by decide +kernel) rfl ⟨Nat.le_of_ble_eq_true rfl, Nat.le_of_ble_eq_true rfl⟩ rfl (Nat.le_of_ble_eq_true rfl) dX5_back_4 ⟨(show 0 + 0 ≤ 0 by omega), (show 0 + 0 ≤ 0 by omega)⟩ (fun v1 w2 h3 => ?_)
  obtain ⟨h3, h4⟩ := h3
  cases h3
  subst w2
  refine j_after (st' := [.int (zb false)]) (k' := 0) (n' := 0) rfl rfl rfl ?_
  refine j_if_eq 20 dX5_back_7 (by decide) (fun c7 => ?_) (fun c7 => ?_)
  · skip
    refine j_iconst (v := (-1)) dX5_back_20 (by decide) ?_
    exact j_iret rfl ⟨rfl, rfl⟩ (show 0 ≤ 0 by omega) (show 0 ≤ 0 by omega) dX5_back_21
  · skip
    exact absurd rfl c7
theorem flX5_back_89 : FL wsX5_back RX5 89 0 6 := ⟨RX0, TX0, 7, rfl, by decide, by decide +kernel, by decide +kernel⟩
set_option maxHeartbeats 4000000 in
set_option maxRecDepth 100000 in
theorem c_back1 {w : pW} {fo sc pr ar de ms mn nt : Nat} {cm : Nat} {nx av ah : Option Nat} {cl pe pb pc an : Nat} (hfo : w fo = some (.inr (0, [.ref sc, .ref pr, .ref ar, .ref de, .ref ms, .ref mn, .int (nI nt)]))) {pt tx tl rd ld : Nat} (hpt : w pt = some (.inr (5, [.ref tx, .int (nI tl), .ref rd, .ref sc, .ref fo, .int (nI ld)]))) {mb : Nat} (hm : w mn = some (.inr (1, [va_rf (some mb), va_rf nx, .ref cm, .int (nI cl), .int (nI pe), .int (nI pb), .int (nI pc), .int (nI an), va_rf av, va_rf ah]))) (hnt : 1 ≤ nt) : Ct yX5_back wsX5_back rX5_back [.ref pt] w (fun o w9 => o = .inl (some (.int (nI (nt - 1)))) ∧ w9 = va_up w fo (some (.inr (0, [.ref sc, .ref pr, .ref ar, .ref de, .ref ms, .ref mb, .int (nI (nt - 1))])))) := by
  refine Ct.of (cc := cX5_back) (own := RX5) (nm := "back") (nL := 1) (ret := (some .int)) (by decide +kernel) rfl rfl rfl (Nat.le_of_ble_eq_true rfl) ?_
  refine j_lvE (lv' := [(0, .ref pt)]) rfl ?_
  refine j_aload_n dX5_back_0 0 rfl ?_
  refine j_get flX5_back_36 hpt rfl dX5_back_1 ?_
  refine j_callV (rm := rX0_takeBack) (As := []) (st := []) (b0 := fo) (ci := 0) (na := 0) (c_takeBack1 hfo hm hnt) (by intro E w9 h9; first | exact nomatch h9.1 | (obtain ⟨_, h9, _⟩ := h9; exact nomatch h9) | (obtain ⟨_, _, _, h9, _⟩ := h9; exact nomatch h9)) gX5_back_X0_takeBack rfl rfl hfo (by decide +kernel) rfl ⟨Nat.le_of_ble_eq_true rfl, Nat.le_of_ble_eq_true rfl⟩ rfl (Nat.le_of_ble_eq_true rfl) dX5_back_4 ⟨(show 0 + 0 ≤ 0 by omega), (show 0 + 0 ≤ 0 by omega)⟩ (fun v1 w2 h3 => ?_)
  obtain ⟨h3, h4⟩ := h3
  cases h3
  -- w2
  refine j_after (st' := [.int (zb true)]) (k' := 0) (n' := 0) rfl rfl rfl ?_
  have f5 : w2 fo = some (.inr (0, [.ref sc, .ref pr, .ref ar, .ref de, .ref ms, .ref mb, .int (nI (nt - 1))])) := by rw [h4]; exact va_up_self _ _ _
  have f6 : w2 mn = some (.inr (1, [va_rf (some mb), va_rf nx, .ref cm, .int (nI cl), .int (nI pe), .int (nI pb), .int (nI pc), .int (nI an), va_rf av, va_rf ah])) := by rw [h4]; exact (va_up_ne _ _ (fk hm hfo rfl)).trans (hm)
  have f7 : w2 pt = some (.inr (5, [.ref tx, .int (nI tl), .ref rd, .ref sc, .ref fo, .int (nI ld)])) := by rw [h4]; exact (va_up_ne _ _ (fk hpt hfo rfl)).trans (hpt)
  refine j_if_eq 20 dX5_back_7 (by decide) (fun c7 => ?_) (fun c7 => ?_)
  · skip
    exact absurd c7 (by decide)
  · skip
    refine j_aload_n dX5_back_10 0 rfl ?_
    refine j_get flX5_back_36 f7 rfl dX5_back_11 ?_
    refine j_get flX5_back_89 f5 rfl dX5_back_14 ?_
    refine j_goto 21 dX5_back_17 (by decide) ?_
    exact j_iret rfl ⟨rfl, h4⟩ (show 0 ≤ 0 by omega) (show 0 ≤ 0 by omega) dX5_back_21
