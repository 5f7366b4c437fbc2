abbrev rX5_heard : Room := { frames := 6, cells := 4, slots := 1616, locals := 118 }
set_option maxRecDepth 100000 in
theorem atX5_heard_51 : ∀ x ∈ (vx_atS RX5 51 "java/lang/IllegalArgumentException" ["java/lang/RuntimeException", "java/lang/Exception"]).filter goodWord, x ∈ wsX5_heard := by decide +kernel
theorem otX5_heard_51 : ((Cond.classLink RX5 47 "java/lang/IllegalArgumentException" :: Cond.initialized "java/lang/IllegalArgumentException" :: vx_atS RX5 51 "java/lang/IllegalArgumentException" ["java/lang/RuntimeException", "java/lang/Exception"]).all vx_ot) = true := by decide +kernel
set_option maxRecDepth 100000 in
theorem mX5_heard_0 : Cond.classLink RX5 47 "java/lang/IllegalArgumentException" ∈ wsX5_heard := by decide +kernel
set_option maxRecDepth 100000 in
theorem mX5_heard_1 : Cond.initialized "java/lang/IllegalArgumentException" ∈ wsX5_heard := by decide +kernel
set_option maxHeartbeats 4000000 in
set_option maxRecDepth 100000 in
theorem c_heardBadN {w : pW} {sc fo : Nat} {pt tx tl rd ld : Nat} (hpt : w pt = some (.inr (5, [.ref tx, .int (nI tl), .ref rd, .ref sc, .ref fo, .int (nI ld)]))) {x y : Int32} (hb : x < 0 ∨ nI 127 < x) : Ct yX5_heard wsX5_heard rX5_heard [.ref pt, .int x, .int y] w (fun o w9 => o = .inr "java/lang/IllegalArgumentException" ∧ w9 = w) := by
  refine Ct.of (cc := cX5_heard) (own := RX5) (nm := "heard") (nL := 3) (ret := (some .int)) (by decide +kernel) rfl rfl rfl (Nat.le_of_ble_eq_true rfl) ?_
  refine j_lvE (lv' := [(0, .ref pt), (1, .int x), (2, .int y)]) rfl ?_
  refine j_iload_n dX5_heard_0 1 rfl ?_
  refine j_if_lt 20 dX5_heard_1 (by decide) (fun c1 => ?_) (fun c1 => ?_)
  · skip
    exact j_throwS (ik := 47) (is := 121) (ic := 51) (cls := "java/lang/IllegalArgumentException") (text := "no such note or time") rfl (Or.inl ⟨rfl, rfl⟩) (by simp [bgStr]) mX5_heard_0 mX5_heard_1 atX5_heard_51 otX5_heard_51 rfl (Nat.le_of_ble_eq_true rfl) (Nat.le_of_ble_eq_true rfl) (show 0 + 1 ≤ 4 by omega) (show 0 + 6 ≤ 1616 by omega) dX5_heard_20 dX5_heard_23 dX5_heard_24 dX5_heard_26 dX5_heard_29 ⟨rfl, rfl⟩
  · skip
    refine j_iload_n dX5_heard_4 1 rfl ?_
    refine j_bipush (v := nI 127) dX5_heard_5 (by decide) ?_
    refine j_icmp_gt 20 dX5_heard_7 (by decide) (fun c7 => ?_) (fun c7 => ?_)
    · skip
      exact j_throwS (ik := 47) (is := 121) (ic := 51) (cls := "java/lang/IllegalArgumentException") (text := "no such note or time") rfl (Or.inl ⟨rfl, rfl⟩) (by simp [bgStr]) mX5_heard_0 mX5_heard_1 atX5_heard_51 otX5_heard_51 rfl (Nat.le_of_ble_eq_true rfl) (Nat.le_of_ble_eq_true rfl) (show 0 + 1 ≤ 4 by omega) (show 0 + 6 ≤ 1616 by omega) dX5_heard_20 dX5_heard_23 dX5_heard_24 dX5_heard_26 dX5_heard_29 ⟨rfl, rfl⟩
    · skip
      exact absurd hb (fun q => q.elim c1 (fun q => absurd q (Int32.not_lt.mpr (Int32.not_lt.mp c7))))
set_option maxRecDepth 100000 in
theorem mX5_heard_2 : Cond.constant RX5 120 (100000000) ∈ wsX5_heard := by decide +kernel
set_option maxHeartbeats 4000000 in
set_option maxRecDepth 100000 in
theorem c_heardBadT {w : pW} {sc fo : Nat} {pt tx tl rd ld : Nat} (hpt : w pt = some (.inr (5, [.ref tx, .int (nI tl), .ref rd, .ref sc, .ref fo, .int (nI ld)]))) {no : Nat} {y : Int32} (hno : no < 128) (hb : y < 0 ∨ nI 100000000 < y) : Ct yX5_heard wsX5_heard rX5_heard [.ref pt, .int (nI no), .int y] w (fun o w9 => o = .inr "java/lang/IllegalArgumentException" ∧ w9 = w) := by
  refine Ct.of (cc := cX5_heard) (own := RX5) (nm := "heard") (nL := 3) (ret := (some .int)) (by decide +kernel) rfl rfl rfl (Nat.le_of_ble_eq_true rfl) ?_
  refine j_lvE (lv' := [(0, .ref pt), (1, .int (nI no)), (2, .int y)]) rfl ?_
  refine j_iload_n dX5_heard_0 1 rfl ?_
  refine j_if_ltN (by omega) dX5_heard_1 (by decide : _ = ((20 : Nat) : Int)) ?_
  refine j_iload_n dX5_heard_4 1 rfl ?_
  refine j_bipush (v := nI 127) dX5_heard_5 (by decide) ?_
  refine j_icmp_gtN 20 (by omega) (by omega) dX5_heard_7 (by decide) (fun c7 => ?_) (fun c7 => ?_)
  · skip
    exact j_throwS (ik := 47) (is := 121) (ic := 51) (cls := "java/lang/IllegalArgumentException") (text := "no such note or time") rfl (Or.inl ⟨rfl, rfl⟩) (by simp [bgStr]) mX5_heard_0 mX5_heard_1 atX5_heard_51 otX5_heard_51 rfl (Nat.le_of_ble_eq_true rfl) (Nat.le_of_ble_eq_true rfl) (show 0 + 1 ≤ 4 by omega) (show 0 + 6 ≤ 1616 by omega) dX5_heard_20 dX5_heard_23 dX5_heard_24 dX5_heard_26 dX5_heard_29 ⟨rfl, rfl⟩
  · skip
    refine j_iload_n dX5_heard_10 2 rfl ?_
    refine j_if_lt 20 dX5_heard_11 (by decide) (fun c11 => ?_) (fun c11 => ?_)
    · skip
      exact j_throwS (ik := 47) (is := 121) (ic := 51) (cls := "java/lang/IllegalArgumentException") (text := "no such note or time") rfl (Or.inl ⟨rfl, rfl⟩) (by simp [bgStr]) mX5_heard_0 mX5_heard_1 atX5_heard_51 otX5_heard_51 rfl (Nat.le_of_ble_eq_true rfl) (Nat.le_of_ble_eq_true rfl) (show 0 + 1 ≤ 4 by omega) (show 0 + 6 ≤ 1616 by omega) dX5_heard_20 dX5_heard_23 dX5_heard_24 dX5_heard_26 dX5_heard_29 ⟨rfl, rfl⟩
    · skip
      refine j_iload_n dX5_heard_14 2 rfl ?_
      refine j_ldc (v := nI 100000000) dX5_heard_15 mX5_heard_2 ?_
      refine j_icmp_le 30 dX5_heard_17 (by decide) (fun c17 => ?_) (fun c17 => ?_)
      · skip
        exact absurd hb (fun q => q.elim c11 (fun q => absurd q (Int32.not_lt.mpr c17)))
      · skip
        exact j_throwS (ik := 47) (is := 121) (ic := 51) (cls := "java/lang/IllegalArgumentException") (text := "no such note or time") rfl (Or.inl ⟨rfl, rfl⟩) (by simp [bgStr]) mX5_heard_0 mX5_heard_1 atX5_heard_51 otX5_heard_51 rfl (Nat.le_of_ble_eq_true rfl) (Nat.le_of_ble_eq_true rfl) (show 0 + 1 ≤ 4 by omega) (show 0 + 6 ≤ 1616 by omega) dX5_heard_20 dX5_heard_23 dX5_heard_24 dX5_heard_26 dX5_heard_29 ⟨rfl, rfl⟩
theorem flX5_heard_27 : FL wsX5_heard RX5 27 5 3 := ⟨RX5, TX5, 6, rfl, by decide, by decide +kernel, by decide +kernel⟩
theorem flX5_heard_76 : FL wsX5_heard RX5 76 3 1 := ⟨RX3, TX3, 7, rfl, by decide, by decide +kernel, by decide +kernel⟩
theorem flX5_heard_36 : FL wsX5_heard RX5 36 5 4 := ⟨RX5, TX5, 6, rfl, by decide, by decide +kernel, by decide +kernel⟩
theorem flX5_heard_89 : FL wsX5_heard RX5 89 0 6 := ⟨RX0, TX0, 7, rfl, by decide, by decide +kernel, by decide +kernel⟩
set_option maxHeartbeats 4000000 in
set_option maxRecDepth 100000 in
theorem c_heardNo {w : pW} {fo sc pr ar de ms mn nt : Nat} {fa ev be cu st me pa : Nat} {f : Nat → Int32} {u : Nat → Nat → Nat} {bh : Nat → Option Nat} {cm : Nat} {bf nx av ah : Option Nat} {cl pe pb pc an : Nat} {cn : Nat} {d : Nat → Nat} (hfo : w fo = some (.inr (0, [.ref sc, .ref pr, .ref ar, .ref de, .ref ms, .ref mn, .int (nI nt)]))) (hs : w sc = some (.inr (3, [.ref fa, .int (nI ev), .int (nI be), .int (nI cu), .int (nI st), .int (nI me), .int (nI pa)]))) (hf : w fa = some (.inl (0, 1400, .inl f))) (hm : w mn = some (.inr (1, [va_rf bf, va_rf nx, .ref cm, .int (nI cl), .int (nI pe), .int (nI pb), .int (nI pc), .int (nI an), va_rf av, va_rf ah]))) (hc : w cm = some (.inl (0, cn, .inl (fun j9 => nI (d j9))))) (hM : Mus f ev st u bh) (hst : st ≤ cn) (hcn : cn ≤ 100000) (hdd : ∀ j, d j ≤ 1000000) (hN : va_nd [fa, cm] = true) {pt tx tl rd ld : Nat} (hpt : w pt = some (.inr (5, [.ref tx, .int (nI tl), .ref rd, .ref sc, .ref fo, .int (nI ld)]))) {no t : Nat} (hno : no < 128) (ht : t ≤ 100000000) (hnt : nt < 2 ^ 31) (hclb : cl < 2 ^ 31) (hno2 : ev = 0 ∨ 400 ≤ nt ∨ t < (if nt = 0 then 0 else cl)) : Ct yX5_heard wsX5_heard rX5_heard [.ref pt, .int (nI no), .int (nI t)] w (fun o w9 => o = .inl (some (.int (-1))) ∧ w9 = w) := by
  refine Ct.of (cc := cX5_heard) (own := RX5) (nm := "heard") (nL := 3) (ret := (some .int)) (by decide +kernel) rfl rfl rfl (Nat.le_of_ble_eq_true rfl) ?_
  refine j_lvE (lv' := [(0, .ref pt), (1, .int (nI no)), (2, .int (nI t))]) rfl ?_
  have hev := hM.hev
  have hst0 := hM.hst
  have hev9 := hM.hev
  refine j_iload_n dX5_heard_0 1 rfl ?_
  refine j_if_ltN (by omega) dX5_heard_1 (by decide : _ = ((20 : Nat) : Int)) ?_
  refine j_iload_n dX5_heard_4 1 rfl ?_
  refine j_bipush (v := nI 127) dX5_heard_5 (by decide) ?_
  refine j_icmp_gtN 20 (by omega) (by omega) dX5_heard_7 (by decide) (fun c7 => ?_) (fun c7 => ?_)
  · skip
    exfalso; omega
  · skip
    refine j_iload_n dX5_heard_10 2 rfl ?_
    refine j_if_ltN (by omega) dX5_heard_11 (by decide : _ = ((20 : Nat) : Int)) ?_
    refine j_iload_n dX5_heard_14 2 rfl ?_
    refine j_ldc (v := nI 100000000) dX5_heard_15 mX5_heard_2 ?_
    refine j_icmp_leN 30 (by omega) (by omega) dX5_heard_17 (by decide) (fun c17 => ?_) (fun c17 => ?_)
    · skip
      refine j_aload_n dX5_heard_30 0 rfl ?_
      refine j_get flX5_heard_27 hpt rfl dX5_heard_31 ?_
      refine j_get flX5_heard_76 hs rfl dX5_heard_34 ?_
      refine j_if_eqN 64 (by omega) dX5_heard_37 (by decide) (fun c37 => ?_) (fun c37 => ?_)
      · skip
        refine j_iconst (v := (-1)) dX5_heard_64 (by decide) ?_
        exact j_iret rfl ⟨rfl, rfl⟩ (show 0 ≤ 4 by omega) (show 0 ≤ 1616 by omega) dX5_heard_65
      · skip
        refine j_aload_n dX5_heard_40 0 rfl ?_
        refine j_get flX5_heard_36 hpt rfl dX5_heard_41 ?_
        refine j_get flX5_heard_89 hfo rfl dX5_heard_44 ?_
        refine j_sipush (v := nI 400) dX5_heard_47 (by decide) ?_
        refine j_icmp_geN 64 (by omega) (by omega) dX5_heard_50 (by decide) (fun c50 => ?_) (fun c50 => ?_)
        · skip
          refine j_iconst (v := (-1)) dX5_heard_64 (by decide) ?_
          exact j_iret rfl ⟨rfl, rfl⟩ (show 0 ≤ 4 by omega) (show 0 ≤ 1616 by omega) dX5_heard_65
        · skip
          refine j_iload_n dX5_heard_53 2 rfl ?_
          refine j_aload_n dX5_heard_54 0 rfl ?_
          refine j_get flX5_heard_36 hpt rfl dX5_heard_55 ?_
          refine j_callV (rm := rX0_latestTime) (As := []) (st := [.int (nI t)]) (b0 := fo) (ci := 0) (na := 0) (c_latestTime hfo hm (by omega)) (by intro E w9 h9; first | exact nomatch h9.1 | (obtain ⟨_, h9, _⟩ := h9; exact nomatch h9) | (obtain ⟨_, _, _, h9, _⟩ := h9; exact nomatch h9)) gX5_heard_X0_latestTime rfl rfl hfo (by decide +kernel) rfl ⟨Nat.le_of_ble_eq_true rfl, Nat.le_of_ble_eq_true rfl⟩ rfl (Nat.le_of_ble_eq_true rfl) dX5_heard_58 ⟨(show 0 + 0 ≤ 4 by omega), (show 0 + 0 ≤ 1616 by omega)⟩ (fun v1 w2 h3 => ?_)
          obtain ⟨h3, h4⟩ := h3
          cases h3
          subst w2
          refine j_after (st' := [.int (nI (if nt = 0 then 0 else cl)), .int (nI t)]) (k' := 0) (n' := 0) rfl rfl rfl ?_
          have hlt : (if nt = 0 then 0 else cl) < 2 ^ 31 := by split <;> omega
          refine j_icmp_geN 66 (by omega) (by omega) dX5_heard_61 (by decide) (fun c61 => ?_) (fun c61 => ?_)
          · skip
            exfalso; rcases hno2 with h | h | h <;> omega
          · skip
            refine j_iconst (v := (-1)) dX5_heard_64 (by decide) ?_
            exact j_iret rfl ⟨rfl, rfl⟩ (show 0 ≤ 4 by omega) (show 0 ≤ 1616 by omega) dX5_heard_65
    · skip
      exfalso; omega
set_option maxHeartbeats 4000000 in
set_option maxRecDepth 100000 in
theorem c_heardYes {w : pW} {fo sc pr ar de ms mn nt : Nat} {fa ev be cu st me pa : Nat} {f : Nat → Int32} {u : Nat → Nat → Nat} {bh : Nat → Option Nat} {cm : Nat} {bf nx av ah : Option Nat} {cl pe pb pc an : Nat} {cn : Nat} {d : Nat → Nat} (hfo : w fo = some (.inr (0, [.ref sc, .ref pr, .ref ar, .ref de, .ref ms, .ref mn, .int (nI nt)]))) (hs : w sc = some (.inr (3, [.ref fa, .int (nI ev), .int (nI be), .int (nI cu), .int (nI st), .int (nI me), .int (nI pa)]))) (hf : w fa = some (.inl (0, 1400, .inl f))) (hm : w mn = some (.inr (1, [va_rf bf, va_rf nx, .ref cm, .int (nI cl), .int (nI pe), .int (nI pb), .int (nI pc), .int (nI an), va_rf av, va_rf ah]))) (hc : w cm = some (.inl (0, cn, .inl (fun j9 => nI (d j9))))) (hM : Mus f ev st u bh) (hst : st ≤ cn) (hcn : cn ≤ 100000) (hdd : ∀ j, d j ≤ 1000000) (hN : va_nd [fa, cm] = true) {pt tx tl rd ld : Nat} (hpt : w pt = some (.inr (5, [.ref tx, .int (nI tl), .ref rd, .ref sc, .ref fo, .int (nI ld)]))) {no t : Nat} (hno : no < 128) (ht : t ≤ 100000000) (hnt : nt < 2 ^ 31) (hclb : cl < 2 ^ 31) (hyes : 0 < ev ∧ nt < 400 ∧ (if nt = 0 then 0 else cl) ≤ t) {Q : pO → pW → Prop} (hH : Ct yX0_hear wsX0_hear rX0_hear [.ref fo, .int (nI no), .int (nI t)] w Q) (hQ : ∀ o w9, Q o w9 → o = .inl none ∧ ∃ (nm9 cx9 cl9 pe9 pb9 pc9 an9 : Nat) (bf9 nx9 av9 ah9 : Option Nat), w9 pt = some (.inr (5, [.ref tx, .int (nI tl), .ref rd, .ref sc, .ref fo, .int (nI ld)])) ∧ w9 fo = some (.inr (0, [.ref sc, .ref pr, .ref ar, .ref de, .ref ms, .ref nm9, .int (nI (nt + 1))])) ∧ w9 nm9 = some (.inr (1, [va_rf bf9, va_rf nx9, .ref cx9, .int (nI cl9), .int (nI pe9), .int (nI pb9), .int (nI pc9), .int (nI an9), va_rf av9, va_rf ah9]))) : Ct yX5_heard wsX5_heard rX5_heard [.ref pt, .int (nI no), .int (nI t)] w (fun o w9 => Q (.inl none) w9 ∧ ∃ (nm9 cx9 cl9 pe9 pb9 pc9 an9 : Nat) (bf9 nx9 av9 ah9 : Option Nat), o = .inl (some (.int (nI pe9))) ∧ w9 pt = some (.inr (5, [.ref tx, .int (nI tl), .ref rd, .ref sc, .ref fo, .int (nI ld)])) ∧ w9 fo = some (.inr (0, [.ref sc, .ref pr, .ref ar, .ref de, .ref ms, .ref nm9, .int (nI (nt + 1))])) ∧ w9 nm9 = some (.inr (1, [va_rf bf9, va_rf nx9, .ref cx9, .int (nI cl9), .int (nI pe9), .int (nI pb9), .int (nI pc9), .int (nI an9), va_rf av9, va_rf ah9]))) := by
  refine Ct.of (cc := cX5_heard) (own := RX5) (nm := "heard") (nL := 3) (ret := (some .int)) (by decide +kernel) rfl rfl rfl (Nat.le_of_ble_eq_true rfl) ?_
  refine j_lvE (lv' := [(0, .ref pt), (1, .int (nI no)), (2, .int (nI t))]) rfl ?_
  have hev := hM.hev
  have hst0 := hM.hst
  have hev9 := hM.hev
  refine j_iload_n dX5_heard_0 1 rfl ?_
  refine j_if_ltN (by omega) dX5_heard_1 (by decide : _ = ((20 : Nat) : Int)) ?_
  refine j_iload_n dX5_heard_4 1 rfl ?_
  refine j_bipush (v := nI 127) dX5_heard_5 (by decide) ?_
  refine j_icmp_gtN 20 (by omega) (by omega) dX5_heard_7 (by decide) (fun c7 => ?_) (fun c7 => ?_)
  · skip
    exfalso; omega
  · skip
    refine j_iload_n dX5_heard_10 2 rfl ?_
    refine j_if_ltN (by omega) dX5_heard_11 (by decide : _ = ((20 : Nat) : Int)) ?_
    refine j_iload_n dX5_heard_14 2 rfl ?_
    refine j_ldc (v := nI 100000000) dX5_heard_15 mX5_heard_2 ?_
    refine j_icmp_leN 30 (by omega) (by omega) dX5_heard_17 (by decide) (fun c17 => ?_) (fun c17 => ?_)
    · skip
      refine j_aload_n dX5_heard_30 0 rfl ?_
      refine j_get flX5_heard_27 hpt rfl dX5_heard_31 ?_
      refine j_get flX5_heard_76 hs rfl dX5_heard_34 ?_
      refine j_if_eqN 64 (by omega) dX5_heard_37 (by decide) (fun c37 => ?_) (fun c37 => ?_)
      · skip
        exfalso; obtain ⟨a1, a2, a3⟩ := hyes; omega
      · skip
        refine j_aload_n dX5_heard_40 0 rfl ?_
        refine j_get flX5_heard_36 hpt rfl dX5_heard_41 ?_
        refine j_get flX5_heard_89 hfo rfl dX5_heard_44 ?_
        refine j_sipush (v := nI 400) dX5_heard_47 (by decide) ?_
        refine j_icmp_geN 64 (by omega) (by omega) dX5_heard_50 (by decide) (fun c50 => ?_) (fun c50 => ?_)
        · skip
          exfalso; obtain ⟨a1, a2, a3⟩ := hyes; omega
        · skip
          refine j_iload_n dX5_heard_53 2 rfl ?_
          refine j_aload_n dX5_heard_54 0 rfl ?_
          refine j_get flX5_heard_36 hpt rfl dX5_heard_55 ?_
          refine j_callV (rm := rX0_latestTime) (As := []) (st := [.int (nI t)]) (b0 := fo) (ci := 0) (na := 0) (c_latestTime hfo hm (by omega)) (by intro E w9 h9; first | exact nomatch h9.1 | (obtain ⟨_, h9, _⟩ := h9; exact nomatch h9) | (obtain ⟨_, _, _, h9, _⟩ := h9; exact nomatch h9)) gX5_heard_X0_latestTime rfl rfl hfo (by decide +kernel) rfl ⟨Nat.le_of_ble_eq_true rfl, Nat.le_of_ble_eq_true rfl⟩ rfl (Nat.le_of_ble_eq_true rfl) dX5_heard_58 ⟨(show 0 + 0 ≤ 4 by omega), (show 0 + 0 ≤ 1616 by omega)⟩ (fun v1 w2 h3 => ?_)
          obtain ⟨h3, h4⟩ := h3
          cases h3
          subst w2
          refine j_after (st' := [.int (nI (if nt = 0 then 0 else cl)), .int (nI t)]) (k' := 0) (n' := 0) rfl rfl rfl ?_
          have hlt : (if nt = 0 then 0 else cl) < 2 ^ 31 := by split <;> omega
          refine j_icmp_geN 66 (by omega) (by omega) dX5_heard_61 (by decide) (fun c61 => ?_) (fun c61 => ?_)
          · skip
            refine j_aload_n dX5_heard_66 0 rfl ?_
            refine j_get flX5_heard_36 hpt rfl dX5_heard_67 ?_
            refine j_iload_n dX5_heard_70 1 rfl ?_
            refine j_iload_n dX5_heard_71 2 rfl ?_
            refine j_callV (rm := rX0_hear) (As := [.int (nI no), .int (nI t)]) (st := []) (b0 := fo) (ci := 0) (na := 2) (hH) (by intro E w9 h9; exact nomatch (hQ _ _ h9).1) gX5_heard_X0_hear rfl rfl hfo (by decide +kernel) rfl ⟨Nat.le_of_ble_eq_true rfl, Nat.le_of_ble_eq_true rfl⟩ rfl (Nat.le_of_ble_eq_true rfl) dX5_heard_72 ⟨(show 0 + 3 ≤ 4 by omega), (show 0 + 1610 ≤ 1616 by omega)⟩ (fun v5 w6 h7 => ?_)
            obtain ⟨ho9, nm9, cx9, cl9, pe9, pb9, pc9, an9, bf9, nx9, av9, ah9, g1, g2, g3⟩ := hQ _ _ h7
            cases ho9
            refine j_after (st' := []) (k' := 3) (n' := 1610) rfl rfl rfl ?_
            refine j_aload_n dX5_heard_75 0 rfl ?_
            refine j_get flX5_heard_36 g1 rfl dX5_heard_76 ?_
            refine j_callV (rm := rX0_placeEvent) (As := []) (st := []) (b0 := fo) (ci := 0) (na := 0) (c_placeEvent g2 g3) (by intro E w9 h9; first | exact nomatch h9.1 | (obtain ⟨_, h9, _⟩ := h9; exact nomatch h9) | (obtain ⟨_, _, _, h9, _⟩ := h9; exact nomatch h9)) gX5_heard_X0_placeEvent rfl rfl g2 (by decide +kernel) rfl ⟨Nat.le_of_ble_eq_true rfl, Nat.le_of_ble_eq_true rfl⟩ rfl (Nat.le_of_ble_eq_true rfl) dX5_heard_79 ⟨(show 3 + 0 ≤ 4 by omega), (show 1610 + 0 ≤ 1616 by omega)⟩ (fun v8 w9 h10 => ?_)
            obtain ⟨h10, h11⟩ := h10
            cases h10
            subst w9
            refine j_after (st' := [.int (nI pe9)]) (k' := 3) (n' := 1610) rfl rfl rfl ?_
            exact j_iret rfl ⟨h7, nm9, cx9, cl9, pe9, pb9, pc9, an9, bf9, nx9, av9, ah9, rfl, g1, g2, g3⟩ (show 3 ≤ 4 by omega) (show 1610 ≤ 1616 by omega) dX5_heard_82
          · skip
            exfalso; obtain ⟨a1, a2, a3⟩ := hyes; omega
    · skip
      exfalso; omega
abbrev rX2_init : Room := { frames := 2, cells := 4, slots := 1413, locals := 44 }
set_option maxRecDepth 100000 in
theorem mX2_init_0 : Cond.methodLink RX2 5 objectInit ∈ wsX2_init := by decide +kernel
set_option maxRecDepth 100000 in
theorem mX2_init_1 : Cond.instanceMethod objectInit ∈ wsX2_init := by decide +kernel
set_option maxRecDepth 100000 in
theorem mX2_init_2 : Cond.code objectInit ⟨#[0xb1]⟩ 1 none ∈ wsX2_init := by decide +kernel
set_option maxRecDepth 100000 in
theorem muX2_init_X4 : ∀ w ∈ u_ws RX4 TX4 6, w ∈ wsX2_init := by decide +kernel
set_option maxRecDepth 100000 in
theorem mX2_init_3 : Cond.classLink RX2 11 RX4 ∈ wsX2_init := by decide +kernel
set_option maxRecDepth 100000 in
theorem mX2_init_4 : Cond.instantiable RX4 6 ∈ wsX2_init := by decide +kernel
set_option maxRecDepth 100000 in
theorem mX2_init_5 : Cond.initialized RX4 ∈ wsX2_init := by decide +kernel
set_option maxRecDepth 100000 in
theorem mX2_init_6 : Cond.initialized yX4_init.cls ∈ wsX2_init := by decide +kernel
set_option maxRecDepth 100000 in
theorem mX2_init_7 : Cond.instanceMethod yX4_init ∈ wsX2_init := by decide +kernel
theorem fsX2_init_14 : FS wsX2_init RX2 14 2 0 true (.object "PageTurner$Tokens") := ⟨RX2, TX2, 10, tyX2, rfl, by decide, by decide +kernel, by decide +kernel, tyX2_ok, nmX2, rfl, rfl, rfl⟩
set_option maxRecDepth 100000 in
theorem muX2_init_X3 : ∀ w ∈ u_ws RX3 TX3 7, w ∈ wsX2_init := by decide +kernel
set_option maxRecDepth 100000 in
theorem mX2_init_8 : Cond.classLink RX2 18 RX3 ∈ wsX2_init := by decide +kernel
set_option maxRecDepth 100000 in
theorem mX2_init_9 : Cond.instantiable RX3 7 ∈ wsX2_init := by decide +kernel
set_option maxRecDepth 100000 in
theorem mX2_init_10 : Cond.initialized RX3 ∈ wsX2_init := by decide +kernel
set_option maxRecDepth 100000 in
theorem mX2_init_11 : Cond.initialized yX3_init.cls ∈ wsX2_init := by decide +kernel
set_option maxRecDepth 100000 in
theorem mX2_init_12 : Cond.instanceMethod yX3_init ∈ wsX2_init := by decide +kernel
theorem fsX2_init_21 : FS wsX2_init RX2 21 2 1 false (.object "PageTurner$Score") := ⟨RX2, TX2, 10, tyX2, rfl, by decide, by decide +kernel, by decide +kernel, tyX2_ok, nmX2, rfl, rfl, rfl⟩
theorem fsX2_init_25 : FS wsX2_init RX2 25 2 8 false (.int) := ⟨RX2, TX2, 10, tyX2, rfl, by decide, by decide +kernel, by decide +kernel, tyX2_ok, nmX2, rfl, rfl, rfl⟩
theorem fsX2_init_29 : FS wsX2_init RX2 29 2 9 false (.int) := ⟨RX2, TX2, 10, tyX2, rfl, by decide, by decide +kernel, by decide +kernel, tyX2_ok, nmX2, rfl, rfl, rfl⟩
set_option maxHeartbeats 4000000 in
set_option maxRecDepth 100000 in
theorem c_initR {w : pW} {rd : Nat} (hrd : w rd = some (.inr (2, [.null, .null, .int (nI 0), .int (nI 0), .int (nI 0), .int (nI 0), .int (nI 0), .int (nI 0), .int (nI 0), .int (nI 0)]))) : Ct yX2_init wsX2_init rX2_init [.ref rd] w (fun o w9 => ∃ to tb sc fa : Nat, o = .inl none ∧ (w to = none ∧ w tb = none ∧ w sc = none ∧ w fa = none) ∧ va_nd [to, tb, sc, fa] = true ∧ (w9 rd = some (.inr (2, [.ref to, .ref sc, .int (nI 0), .int (nI 0), .int (nI 0), .int (nI 0), .int (nI 0), .int (nI 0), .int (nI 0), .int ((-1))])) ∧ w9 to = some (.inr (4, [.ref tb, .int (nI 0), .int (nI 0), .int (nI 0), .int (nI 0), .int (nI 0)])) ∧ w9 tb = some (.inl (1, 0, .inl ((fun _ => 0)))) ∧ w9 sc = some (.inr (3, [.ref fa, .int (nI 0), .int (nI 0), .int (nI 0), .int (nI 0), .int (nI 0), .int (nI 0)])) ∧ w9 fa = some (.inl (0, 1400, .inl ((fun _ => 0))))) ∧ FrS [rd] w w9) := by
  refine Ct.of (cc := cX2_init) (own := RX2) (nm := "<init>") (nL := 1) (ret := none) (by decide +kernel) rfl rfl rfl (Nat.le_of_ble_eq_true rfl) ?_
  refine j_lvE (lv' := [(0, .ref rd)]) rfl ?_
  refine j_aload_n dX2_init_0 0 rfl ?_
  refine j_objInit mX2_init_0 mX2_init_1 mX2_init_2 dX2_init_1 (Nat.le_of_ble_eq_true rfl) (Nat.le_of_ble_eq_true rfl) ?_
  refine j_aload_n dX2_init_4 0 rfl ?_
  refine j_new (ci := 4) (fs := [.null, .int (nI 0), .int (nI 0), .int (nI 0), .int (nI 0), .int (nI 0)]) tyX4 rfl muX2_init_X4 tyX4_ok mX2_init_3 mX2_init_4 mX2_init_5 (by decide +kernel) (show 0 + 1 ≤ 4 by omega) (show 0 + 6 ≤ 1413 by omega) dX2_init_5 (fun q1 hq1 => ?_)
  refine j_after (st' := [.ref q1, .ref rd]) (k' := 1) (n' := 6) rfl (by first | rfl | omega) (by first | rfl | omega) ?_
  refine j_w (fun w2 hw2 => ?_)
  have n4 : rd ≠ q1 := fn hrd hq1
  have f3 := up_ne hw2 n4 hrd
  have f5 : w2 q1 = some (.inr (4, [.null, .int (nI 0), .int (nI 0), .int (nI 0), .int (nI 0), .int (nI 0)])) := up_at hw2
  refine j_dup dX2_init_8 rfl ?_
  refine j_callIN (rm := rX4_init) (As := []) (st := [.ref q1, .ref rd]) (b0 := q1) (na := 0) (c_initT f5) (by intro E w9 h9; first | exact nomatch h9.1 | (obtain ⟨_, h9, _⟩ := h9; exact nomatch h9) | (obtain ⟨_, _, _, h9, _⟩ := h9; exact nomatch h9)) gX2_init_X4_init_n13 rfl mX2_init_6 (show (RX2, 13, yX4_init) ∈ bgNest by simp [bgNest]) mX2_init_7 rfl (by decide +kernel) rfl ⟨Nat.le_of_ble_eq_true rfl, Nat.le_of_ble_eq_true rfl⟩ rfl (Nat.le_of_ble_eq_true rfl) dX2_init_9 ⟨(show 1 + 1 ≤ 4 by omega), (show 6 + 0 ≤ 1413 by omega)⟩ (fun v6 w7 h8 => ?_)
  obtain ⟨h8, tb, hq_tb, hw_tb⟩ := h8
  cases h8
  refine j_after (st' := [.ref q1, .ref rd]) (k' := 2) (n' := 6) rfl rfl rfl ?_
  have n_tb_rd : rd ≠ tb := fn f3 hq_tb
  have n_tb_q1 : q1 ≠ tb := fn f5 hq_tb
  have f9 : w7 rd = some (.inr (2, [.null, .null, .int (nI 0), .int (nI 0), .int (nI 0), .int (nI 0), .int (nI 0), .int (nI 0), .int (nI 0), .int (nI 0)])) := by rw [hw_tb]; exact (va_up_ne _ _ n4).trans ((va_up_ne _ _ n_tb_rd).trans (f3))
  have f10 : w7 q1 = some (.inr (4, [.ref tb, .int (nI 0), .int (nI 0), .int (nI 0), .int (nI 0), .int (nI 0)])) := by rw [hw_tb]; exact va_up_self _ _ _
  have f11 : w7 tb = some (.inl (1, 0, .inl ((fun _ => 0)))) := by rw [hw_tb]; exact (va_up_ne _ _ (Ne.symm n_tb_q1)).trans (va_up_self _ _ _)
  refine j_putF (fs9 := [.ref q1, .null, .int (nI 0), .int (nI 0), .int (nI 0), .int (nI 0), .int (nI 0), .int (nI 0), .int (nI 0), .int (nI 0)]) fsX2_init_14 f9 rfl (by intro C T N hc; cases hc; rfl) rfl rfl (Nat.le_of_ble_eq_true rfl) rfl dX2_init_12 ?_
  refine j_w (fun w12 hw12 => ?_)
  have f13 : w12 rd = some (.inr (2, [.ref q1, .null, .int (nI 0), .int (nI 0), .int (nI 0), .int (nI 0), .int (nI 0), .int (nI 0), .int (nI 0), .int (nI 0)])) := up_at hw12
  have f14 := up_ne hw12 (Ne.symm n4) f10
  have f15 := up_ne hw12 (Ne.symm n_tb_rd) f11
  refine j_aload_n dX2_init_15 0 rfl ?_
  refine j_new (ci := 3) (fs := [.null, .int (nI 0), .int (nI 0), .int (nI 0), .int (nI 0), .int (nI 0), .int (nI 0)]) tyX3 rfl muX2_init_X3 tyX3_ok mX2_init_8 mX2_init_9 mX2_init_10 (by decide +kernel) (show 2 + 1 ≤ 4 by omega) (show 6 + 7 ≤ 1413 by omega) dX2_init_16 (fun q16 hq16 => ?_)
  refine j_after (st' := [.ref q16, .ref rd]) (k' := 3) (n' := 13) rfl (by first | rfl | omega) (by first | rfl | omega) ?_
  refine j_w (fun w17 hw17 => ?_)
  have n19 : rd ≠ q16 := fn f13 hq16
  have f18 := up_ne hw17 n19 f13
  have n21 : q1 ≠ q16 := fn f14 hq16
  have f20 := up_ne hw17 n21 f14
  have n23 : tb ≠ q16 := fn f15 hq16
  have f22 := up_ne hw17 n23 f15
  have f24 : w17 q16 = some (.inr (3, [.null, .int (nI 0), .int (nI 0), .int (nI 0), .int (nI 0), .int (nI 0), .int (nI 0)])) := up_at hw17
  refine j_dup dX2_init_19 rfl ?_
  refine j_callIN (rm := rX3_init) (As := []) (st := [.ref q16, .ref rd]) (b0 := q16) (na := 0) (c_Score_init f24) (by intro E w9 h9; first | exact nomatch h9.1 | (obtain ⟨_, h9, _⟩ := h9; exact nomatch h9) | (obtain ⟨_, _, _, h9, _⟩ := h9; exact nomatch h9)) gX2_init_X3_init_n20 rfl mX2_init_11 (show (RX2, 20, yX3_init) ∈ bgNest by simp [bgNest]) mX2_init_12 rfl (by decide +kernel) rfl ⟨Nat.le_of_ble_eq_true rfl, Nat.le_of_ble_eq_true rfl⟩ rfl (Nat.le_of_ble_eq_true rfl) dX2_init_20 ⟨(show 3 + 1 ≤ 4 by omega), (show 13 + 1400 ≤ 1413 by omega)⟩ (fun v25 w26 h27 => ?_)
  obtain ⟨fb, h27, hq_fb, hw_fb⟩ := h27
  cases h27
  refine j_after (st' := [.ref q16, .ref rd]) (k' := 4) (n' := 1413) rfl rfl rfl ?_
  have n_fb_rd : rd ≠ fb := fn f18 hq_fb
  have n_fb_q1 : q1 ≠ fb := fn f20 hq_fb
  have n_fb_tb : tb ≠ fb := fn f22 hq_fb
  have n_fb_q16 : q16 ≠ fb := fn f24 hq_fb
  have f28 : w26 rd = some (.inr (2, [.ref q1, .null, .int (nI 0), .int (nI 0), .int (nI 0), .int (nI 0), .int (nI 0), .int (nI 0), .int (nI 0), .int (nI 0)])) := by rw [hw_fb]; exact (va_up_ne _ _ n19).trans ((va_up_ne _ _ n_fb_rd).trans (f18))
  have f29 : w26 q1 = some (.inr (4, [.ref tb, .int (nI 0), .int (nI 0), .int (nI 0), .int (nI 0), .int (nI 0)])) := by rw [hw_fb]; exact (va_up_ne _ _ n21).trans ((va_up_ne _ _ n_fb_q1).trans (f20))
  have f30 : w26 tb = some (.inl (1, 0, .inl ((fun _ => 0)))) := by rw [hw_fb]; exact (va_up_ne _ _ n23).trans ((va_up_ne _ _ n_fb_tb).trans (f22))
  have f31 : w26 q16 = some (.inr (3, [.ref fb, .int (nI 0), .int (nI 0), .int (nI 0), .int (nI 0), .int (nI 0), .int (nI 0)])) := by rw [hw_fb]; exact va_up_self _ _ _
  have f32 : w26 fb = some (.inl (0, 1400, .inl ((fun _ => 0)))) := by rw [hw_fb]; exact (va_up_ne _ _ (Ne.symm n_fb_q16)).trans (va_up_self _ _ _)
  refine j_put (fs9 := [.ref q1, .ref q16, .int (nI 0), .int (nI 0), .int (nI 0), .int (nI 0), .int (nI 0), .int (nI 0), .int (nI 0), .int (nI 0)]) fsX2_init_21 f28 rfl rfl (Nat.le_of_ble_eq_true rfl) rfl dX2_init_23 ?_
  refine j_w (fun w33 hw33 => ?_)
  have f34 : w33 rd = some (.inr (2, [.ref q1, .ref q16, .int (nI 0), .int (nI 0), .int (nI 0), .int (nI 0), .int (nI 0), .int (nI 0), .int (nI 0), .int (nI 0)])) := up_at hw33
  have f35 := up_ne hw33 (Ne.symm n4) f29
  have f36 := up_ne hw33 (Ne.symm n_tb_rd) f30
  have f37 := up_ne hw33 (Ne.symm n19) f31
  have f38 := up_ne hw33 (Ne.symm n_fb_rd) f32
  refine j_aload_n dX2_init_26 0 rfl ?_
  refine j_iconst (v := nI 0) dX2_init_27 (by decide) ?_
  refine j_put (fs9 := [.ref q1, .ref q16, .int (nI 0), .int (nI 0), .int (nI 0), .int (nI 0), .int (nI 0), .int (nI 0), .int (nI 0), .int (nI 0)]) fsX2_init_25 f34 rfl rfl (Nat.le_of_ble_eq_true rfl) rfl dX2_init_28 ?_
  refine j_w (fun w39 hw39 => ?_)
  have f40 : w39 rd = some (.inr (2, [.ref q1, .ref q16, .int (nI 0), .int (nI 0), .int (nI 0), .int (nI 0), .int (nI 0), .int (nI 0), .int (nI 0), .int (nI 0)])) := up_at hw39
  have f41 := up_ne hw39 (Ne.symm n4) f35
  have f42 := up_ne hw39 (Ne.symm n_tb_rd) f36
  have f43 := up_ne hw39 (Ne.symm n19) f37
  have f44 := up_ne hw39 (Ne.symm n_fb_rd) f38
  refine j_aload_n dX2_init_31 0 rfl ?_
  refine j_iconst (v := (-1)) dX2_init_32 (by decide) ?_
  refine j_topi (fun x45 ex45 => ?_)
  refine j_put (fs9 := [.ref q1, .ref q16, .int (nI 0), .int (nI 0), .int (nI 0), .int (nI 0), .int (nI 0), .int (nI 0), .int (nI 0), .int x45]) fsX2_init_29 f40 rfl rfl (Nat.le_of_ble_eq_true rfl) rfl dX2_init_33 ?_
  refine j_w (fun w46 hw46 => ?_)
  have f47 : w46 rd = some (.inr (2, [.ref q1, .ref q16, .int (nI 0), .int (nI 0), .int (nI 0), .int (nI 0), .int (nI 0), .int (nI 0), .int (nI 0), .int x45])) := up_at hw46
  have f48 := up_ne hw46 (Ne.symm n4) f41
  have f49 := up_ne hw46 (Ne.symm n_tb_rd) f42
  have f50 := up_ne hw46 (Ne.symm n19) f43
  have f51 := up_ne hw46 (Ne.symm n_fb_rd) f44
  have hz_q1 : w q1 = none := ((Fr.refl : Fr [rd] w w) q1 (by simp only [List.mem_cons, List.not_mem_nil, or_false, not_or]; exact (Ne.symm n4))).symm.trans hq1
  have hz_tb : w tb = none := (((Fr.refl : Fr [rd, q1] w w).trans (Fr.up hw2 (by simp))) tb (by simp only [List.mem_cons, List.not_mem_nil, or_false, not_or]; exact ⟨(Ne.symm n_tb_rd), (Ne.symm n_tb_q1)⟩)).symm.trans hq_tb
  have hz_q16 : w q16 = none := (((((Fr.refl : Fr [rd, q1, tb] w w).trans (Fr.up hw2 (by simp))).trans (Fr.up2 hw_tb (by simp) (by simp))).trans (Fr.up hw12 (by simp))) q16 (by simp only [List.mem_cons, List.not_mem_nil, or_false, not_or]; exact ⟨(Ne.symm n19), (Ne.symm n21), (Ne.symm n23)⟩)).symm.trans hq16
  have hz_fb : w fb = none := ((((((Fr.refl : Fr [rd, q1, tb, q16] w w).trans (Fr.up hw2 (by simp))).trans (Fr.up2 hw_tb (by simp) (by simp))).trans (Fr.up hw12 (by simp))).trans (Fr.up hw17 (by simp))) fb (by simp only [List.mem_cons, List.not_mem_nil, or_false, not_or]; exact ⟨(Ne.symm n_fb_rd), (Ne.symm n_fb_q1), (Ne.symm n_fb_tb), (Ne.symm n_fb_q16)⟩)).symm.trans hq_fb
  have hnd : va_nd [q1, tb, q16, fb] = true := by simp [va_nd, n_tb_q1, n21, n_fb_q1, n23, n_fb_tb, n_fb_q16]
  have hfr : Fr [rd, q1, tb, q16, fb] w w46 := (((((((((Fr.refl : Fr [rd, q1, tb, q16, fb] w w).trans (Fr.up hw2 (by simp))).trans (Fr.up2 hw_tb (by simp) (by simp))).trans (Fr.up hw12 (by simp))).trans (Fr.up hw17 (by simp))).trans (Fr.up2 hw_fb (by simp) (by simp))).trans (Fr.up hw33 (by simp))).trans (Fr.up hw39 (by simp))).trans (Fr.up hw46 (by simp)))
  have hfs : FrS [rd] w w46 := hfr.s.new (by
    intro z hz; simp only [List.mem_cons, List.not_mem_nil, or_false] at hz; rcases hz with rfl | rfl | rfl | rfl | rfl
    · simp
    · exact Or.inr hz_q1
    · exact Or.inr hz_tb
    · exact Or.inr hz_q16
    · exact Or.inr hz_fb)
  subst ex45
  exact j_vret rfl ⟨q1, tb, q16, fb, rfl, ⟨hz_q1, hz_tb, hz_q16, hz_fb⟩, hnd, ⟨f47, f48, f49, f50, f51⟩, hfs⟩ (show 4 ≤ 4 by omega) (show 1413 ≤ 1413 by omega) dX2_init_36
