set_option maxHeartbeats 4000000 in
set_option maxRecDepth 100000 in
theorem c_turnsAtE {w : pW} {fo sc pr ar de ms mn nt : Nat} {cm : Nat} {bf nx ah : Option Nat} {cl pe pb pc an : Nat}  (hfo : w fo = some (.inr (0, [.ref sc, .ref pr, .ref ar, .ref de, .ref ms, .ref mn, .int (nI nt)]))) (hm : w mn = some (.inr (1, [va_rf bf, va_rf nx, .ref cm, .int (nI cl), .int (nI pe), .int (nI pb), .int (nI pc), .int (nI an), va_rf none, va_rf ah]))) {fa ev be cu st me pa : Nat} {f : Nat → Int32} {u : Nat → Nat → Nat} {bh : Nat → Option Nat} (hs : w sc = some (.inr (3, [.ref fa, .int (nI ev), .int (nI be), .int (nI cu), .int (nI st), .int (nI me), .int (nI pa)]))) (hf : w fa = some (.inl (0, 1400, .inl f))) (hM : Mus f ev st u bh) {pt tx tl rd ld : Nat} (hpt : w pt = some (.inr (5, [.ref tx, .int (nI tl), .ref rd, .ref sc, .ref fo, .int (nI ld)]))) (hpe : pe < 100) (han : an = 0) : Ct yX5_turnsAt wsX5_turnsAt rX5_turnsAt [.ref pt] w (fun o w9 => o = .inl (some (.long (-1))) ∧ w9 = w) := by
  refine Ct.of (cc := cX5_turnsAt) (own := RX5) (nm := "turnsAt") (nL := 2) (ret := (some .long)) (by decide +kernel) rfl rfl rfl (Nat.le_of_ble_eq_true rfl) ?_
  refine j_lvE (lv' := [(0, .ref pt)]) rfl ?_
  have hev9 := hM.hev
  refine j_aload_n dX5_turnsAt_0 0 rfl ?_
  refine j_get flX5_turnsAt_27 hpt rfl dX5_turnsAt_1 ?_
  refine j_aload_n dX5_turnsAt_4 0 rfl ?_
  refine j_get flX5_turnsAt_36 hpt rfl dX5_turnsAt_5 ?_
  refine j_callV (rm := rX0_placeEvent) (As := []) (st := [.ref sc]) (b0 := fo) (ci := 0) (na := 0) (c_placeEvent hfo hm) (by intro E w9 h9; first | exact nomatch h9.1 | (obtain ⟨_, h9, _⟩ := h9; exact nomatch h9) | (obtain ⟨_, _, _, h9, _⟩ := h9; exact nomatch h9)) gX5_turnsAt_X0_placeEvent rfl rfl hfo (by decide +kernel) rfl ⟨Nat.le_of_ble_eq_true rfl, Nat.le_of_ble_eq_true rfl⟩ rfl (Nat.le_of_ble_eq_true rfl) dX5_turnsAt_8 ⟨(show 0 + 0 ≤ 0 by omega), (show 0 + 0 ≤ 0 by omega)⟩ (fun v1 w2 h3 => ?_)
  obtain ⟨h3, h4⟩ := h3
  cases h3
  subst w2
  refine j_after (st' := [.int (nI pe), .ref sc]) (k' := 0) (n' := 0) rfl rfl rfl ?_
  refine j_callV (rm := rX3_firstOfNextPage) (As := [.int (nI pe)]) (st := []) (b0 := sc) (ci := 3) (na := 1) (c_firstOfNextPage (e := pe) hs hf (by omega) (by omega)) (by intro E w9 h9; first | exact nomatch h9.1 | (obtain ⟨_, h9, _⟩ := h9; exact nomatch h9) | (obtain ⟨_, _, _, h9, _⟩ := h9; exact nomatch h9)) gX5_turnsAt_X3_firstOfNextPage rfl rfl hs (by decide +kernel) rfl ⟨Nat.le_of_ble_eq_true rfl, Nat.le_of_ble_eq_true rfl⟩ rfl (Nat.le_of_ble_eq_true rfl) dX5_turnsAt_11 ⟨(show 0 + 0 ≤ 0 by omega), (show 0 + 0 ≤ 0 by omega)⟩ (fun v5 w6 h7 => ?_)
  obtain ⟨h7, h8⟩ := h7
  cases h7
  subst w6
  refine j_after (st' := [.int (on1 (nxP f ev pe))]) (k' := 0) (n' := 0) rfl rfl rfl ?_
  rcases hnx : nxP f ev pe with _ | z
  · skip
    refine j_eqi (y := -1) rfl ?_
    refine j_istore_n (lv' := [(1, .int ((-1))), (0, .ref pt)]) dX5_turnsAt_14 (Nat.le_of_ble_eq_true rfl) rfl ?_
    refine j_iload_n dX5_turnsAt_15 0 rfl ?_
    refine j_iconst (v := (-1)) dX5_turnsAt_16 (by decide) ?_
    refine j_icmp_eq 30 dX5_turnsAt_17 (by decide) (fun c17 => ?_) (fun c17 => ?_)
    · skip
      refine j_ldc2 (v := (-1)) dX5_turnsAt_30 mX5_turnsAt_0 ?_
      exact j_lret rfl ⟨rfl, rfl⟩ (show 0 ≤ 0 by omega) (show 0 ≤ 0 by omega) dX5_turnsAt_33
    · skip
      exact absurd rfl c17
  · skip
    have hz := (fstN_some hnx).2.1
    have hz0 := (fstN_some hnx).1
    refine j_eqi (y := nI z) rfl ?_
    refine j_istore_n (lv' := [(1, .int (nI z)), (0, .ref pt)]) dX5_turnsAt_14 (Nat.le_of_ble_eq_true rfl) rfl ?_
    refine j_iload_n dX5_turnsAt_15 0 rfl ?_
    refine j_iconst (v := (-1)) dX5_turnsAt_16 (by decide) ?_
    refine j_icmp_eq 30 dX5_turnsAt_17 (by decide) (fun c17 => ?_) (fun c17 => ?_)
    · skip
      exact absurd c17 (nI_m1 (by omega))
    · skip
      refine j_aload_n dX5_turnsAt_20 1 rfl ?_
      refine j_get flX5_turnsAt_36 hpt rfl dX5_turnsAt_21 ?_
      refine j_callV (rm := rX0_anchors) (As := []) (st := []) (b0 := fo) (ci := 0) (na := 0) (c_anchors hfo hm) (by intro E w9 h9; first | exact nomatch h9.1 | (obtain ⟨_, h9, _⟩ := h9; exact nomatch h9) | (obtain ⟨_, _, _, h9, _⟩ := h9; exact nomatch h9)) gX5_turnsAt_X0_anchors rfl rfl hfo (by decide +kernel) rfl ⟨Nat.le_of_ble_eq_true rfl, Nat.le_of_ble_eq_true rfl⟩ rfl (Nat.le_of_ble_eq_true rfl) dX5_turnsAt_24 ⟨(show 0 + 0 ≤ 0 by omega), (show 0 + 0 ≤ 0 by omega)⟩ (fun v9 w10 h11 => ?_)
      obtain ⟨h11, h12⟩ := h11
      cases h11
      subst w10
      refine j_after (st' := [.int (nI an)]) (k' := 0) (n' := 0) rfl rfl rfl ?_
      refine j_if_neN 34 (by omega) dX5_turnsAt_27 (by decide) (fun c27 => ?_) (fun c27 => ?_)
      · skip
        exfalso; omega
      · skip
        refine j_ldc2 (v := (-1)) dX5_turnsAt_30 mX5_turnsAt_0 ?_
        exact j_lret rfl ⟨rfl, rfl⟩ (show 0 ≤ 0 by omega) (show 0 ≤ 0 by omega) dX5_turnsAt_33
set_option maxHeartbeats 4000000 in
set_option maxRecDepth 100000 in
theorem c_cueE {w : pW} {fo sc pr ar de ms mn nt : Nat} {cm : Nat} {bf nx ah : Option Nat} {cl pe pb pc an : Nat}  (hfo : w fo = some (.inr (0, [.ref sc, .ref pr, .ref ar, .ref de, .ref ms, .ref mn, .int (nI nt)]))) (hm : w mn = some (.inr (1, [va_rf bf, va_rf nx, .ref cm, .int (nI cl), .int (nI pe), .int (nI pb), .int (nI pc), .int (nI an), va_rf none, va_rf ah]))) {fa ev be cu st me pa : Nat} {f : Nat → Int32} {u : Nat → Nat → Nat} {bh : Nat → Option Nat} (hs : w sc = some (.inr (3, [.ref fa, .int (nI ev), .int (nI be), .int (nI cu), .int (nI st), .int (nI me), .int (nI pa)]))) (hf : w fa = some (.inl (0, 1400, .inl f))) (hM : Mus f ev st u bh) {pt tx tl rd ld : Nat} (hpt : w pt = some (.inr (5, [.ref tx, .int (nI tl), .ref rd, .ref sc, .ref fo, .int (nI ld)]))) (hpe : pe < 100) : Ct yX5_cue wsX5_cue rX5_cue [.ref pt] w (fun o w9 => o = .inl (some (.long (-1))) ∧ w9 = w) := by
  refine Ct.of (cc := cX5_cue) (own := RX5) (nm := "cue") (nL := 2) (ret := (some .long)) (by decide +kernel) rfl rfl rfl (Nat.le_of_ble_eq_true rfl) ?_
  refine j_lvE (lv' := [(0, .ref pt)]) rfl ?_
  have hev9 := hM.hev
  refine j_aload_n dX5_cue_0 0 rfl ?_
  refine j_get flX5_cue_27 hpt rfl dX5_cue_1 ?_
  refine j_aload_n dX5_cue_4 0 rfl ?_
  refine j_get flX5_cue_36 hpt rfl dX5_cue_5 ?_
  refine j_callV (rm := rX0_placeEvent) (As := []) (st := [.ref sc]) (b0 := fo) (ci := 0) (na := 0) (c_placeEvent hfo hm) (by intro E w9 h9; first | exact nomatch h9.1 | (obtain ⟨_, h9, _⟩ := h9; exact nomatch h9) | (obtain ⟨_, _, _, h9, _⟩ := h9; exact nomatch h9)) gX5_cue_X0_placeEvent rfl rfl hfo (by decide +kernel) rfl ⟨Nat.le_of_ble_eq_true rfl, Nat.le_of_ble_eq_true rfl⟩ rfl (Nat.le_of_ble_eq_true rfl) dX5_cue_8 ⟨(show 0 + 0 ≤ 0 by omega), (show 0 + 0 ≤ 0 by omega)⟩ (fun v1 w2 h3 => ?_)
  obtain ⟨h3, h4⟩ := h3
  cases h3
  subst w2
  refine j_after (st' := [.int (nI pe), .ref sc]) (k' := 0) (n' := 0) rfl rfl rfl ?_
  refine j_callV (rm := rX3_cueFrom) (As := [.int (nI pe)]) (st := []) (b0 := sc) (ci := 3) (na := 1) (c_cueFrom (e := pe) hs hf (by omega) (by omega)) (by intro E w9 h9; first | exact nomatch h9.1 | (obtain ⟨_, h9, _⟩ := h9; exact nomatch h9) | (obtain ⟨_, _, _, h9, _⟩ := h9; exact nomatch h9)) gX5_cue_X3_cueFrom rfl rfl hs (by decide +kernel) rfl ⟨Nat.le_of_ble_eq_true rfl, Nat.le_of_ble_eq_true rfl⟩ rfl (Nat.le_of_ble_eq_true rfl) dX5_cue_11 ⟨(show 0 + 0 ≤ 0 by omega), (show 0 + 0 ≤ 0 by omega)⟩ (fun v5 w6 h7 => ?_)
  obtain ⟨h7, h8⟩ := h7
  cases h7
  subst w6
  refine j_after (st' := [.int (on1 (cuF f ev pe))]) (k' := 0) (n' := 0) rfl rfl rfl ?_
  rcases hnx : cuF f ev pe with _ | z
  · skip
    refine j_eqi (y := -1) rfl ?_
    refine j_istore_n (lv' := [(1, .int ((-1))), (0, .ref pt)]) dX5_cue_14 (Nat.le_of_ble_eq_true rfl) rfl ?_
    refine j_iload_n dX5_cue_15 0 rfl ?_
    refine j_iconst (v := (-1)) dX5_cue_16 (by decide) ?_
    refine j_icmp_ne 26 dX5_cue_17 (by decide) (fun c17 => ?_) (fun c17 => ?_)
    · skip
      exact absurd rfl c17
    · skip
      refine j_ldc2 (v := (-1)) dX5_cue_20 mX5_cue_0 ?_
      refine j_goto 42 dX5_cue_23 (by decide) ?_
      exact j_lret rfl ⟨rfl, rfl⟩ (show 0 ≤ 0 by omega) (show 0 ≤ 0 by omega) dX5_cue_42
  · skip
    have hz := (fstN_some hnx).2.1
    have hz0 := (fstN_some hnx).1
    refine j_eqi (y := nI z) rfl ?_
    refine j_istore_n (lv' := [(1, .int (nI z)), (0, .ref pt)]) dX5_cue_14 (Nat.le_of_ble_eq_true rfl) rfl ?_
    refine j_iload_n dX5_cue_15 0 rfl ?_
    refine j_iconst (v := (-1)) dX5_cue_16 (by decide) ?_
    refine j_icmp_ne 26 dX5_cue_17 (by decide) (fun c17 => ?_) (fun c17 => ?_)
    · skip
      refine j_aload_n dX5_cue_26 1 rfl ?_
      refine j_get flX5_cue_36 hpt rfl dX5_cue_27 ?_
      refine j_aload_n dX5_cue_30 1 rfl ?_
      refine j_get flX5_cue_27 hpt rfl dX5_cue_31 ?_
      refine j_iload_n dX5_cue_34 0 rfl ?_
      refine j_iconst (v := nI 2) dX5_cue_35 (by decide) ?_
      have hrg9 := Mus.rg (e := z) hM (by omega)
      have hbd10 := Mus.bd (e := z) hM (by omega)
      refine j_callV (rm := rX3_fact) (As := [.int (nI z), .int (nI 2)]) (st := [.ref fo]) (b0 := sc) (ci := 3) (na := 2) (c_fact (e := z) (c := 2) hs hf (by omega) (by omega)) (by intro E w9 h9; first | exact nomatch h9.1 | (obtain ⟨_, h9, _⟩ := h9; exact nomatch h9) | (obtain ⟨_, _, _, h9, _⟩ := h9; exact nomatch h9)) gX5_cue_X3_fact rfl rfl hs (by decide +kernel) rfl ⟨Nat.le_of_ble_eq_true rfl, Nat.le_of_ble_eq_true rfl⟩ rfl (Nat.le_of_ble_eq_true rfl) dX5_cue_36 ⟨(show 0 + 0 ≤ 0 by omega), (show 0 + 0 ≤ 0 by omega)⟩ (fun v11 w12 h13 => ?_)
      obtain ⟨h13, h14⟩ := h13
      cases h13
      subst w12
      refine j_after (st' := [.int (f (z * 14 + 2)), .ref fo]) (k' := 0) (n' := 0) rfl rfl rfl ?_
      refine j_eqi (y := nI (u 2 z)) (Mus.c2 hM (by omega)) ?_
      refine j_callV (rm := rX0_timeOfBeat) (As := [.int (nI (u 2 z))]) (st := []) (b0 := fo) (ci := 0) (na := 1) (c_timeOfBeat0 (bt := u 2 z) hfo hm hs hf hM ) (by intro E w9 h9; first | exact nomatch h9.1 | (obtain ⟨_, h9, _⟩ := h9; exact nomatch h9) | (obtain ⟨_, _, _, h9, _⟩ := h9; exact nomatch h9)) gX5_cue_X0_timeOfBeat rfl rfl hfo (by decide +kernel) rfl ⟨Nat.le_of_ble_eq_true rfl, Nat.le_of_ble_eq_true rfl⟩ rfl (Nat.le_of_ble_eq_true rfl) dX5_cue_39 ⟨(show 0 + 0 ≤ 0 by omega), (show 0 + 0 ≤ 0 by omega)⟩ (fun v15 w16 h17 => ?_)
      obtain ⟨h17, h18⟩ := h17
      cases h17
      subst w16
      refine j_after (st' := [.long (-1)]) (k' := 0) (n' := 0) rfl rfl rfl ?_
      exact j_lret rfl ⟨rfl, rfl⟩ (show 0 ≤ 0 by omega) (show 0 ≤ 0 by omega) dX5_cue_42
    · skip
      exact absurd c17 (nI_m1 (by omega))
