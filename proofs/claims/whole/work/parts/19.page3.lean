theorem gcF_lt : ∀ {k a b : Nat}, a < 2 ^ 31 → b < 2 ^ 31 → gcF k a b < 2 ^ 31
  | 0, a, b, ha, _ => ha
  | k + 1, a, b, ha, hb => by
    unfold gcF
    split
    · exact ha
    · exact gcF_lt hb (Nat.lt_of_le_of_lt (Nat.mod_le _ _) ha)
/-- a part of the tempo, in lowest terms -/
def tpF (bl : Bool) (up lo : Nat) : Nat := if gcF 64 up lo = 0 then (if bl then lo else up) else (if bl then lo else up) / gcF 64 up lo
abbrev rX5_tempo : Room := { frames := 3, cells := 0, slots := 0, locals := 65 }
theorem flX5_tempo_36 : FL wsX5_tempo RX5 36 5 4 := ⟨RX5, TX5, 6, rfl, by decide, by decide +kernel, by decide +kernel⟩
set_option maxHeartbeats 4000000 in
set_option maxRecDepth 100000 in
theorem c_tempo0 {w : pW} {fo sc pr ar de ms mn nt : Nat} {cm : Nat} {bf nx ah : Option Nat} {cl pe pb pc an : Nat}  (hfo : w fo = some (.inr (0, [.ref sc, .ref pr, .ref ar, .ref de, .ref ms, .ref mn, .int (nI nt)]))) (hm : w mn = some (.inr (1, [va_rf bf, va_rf nx, .ref cm, .int (nI cl), .int (nI pe), .int (nI pb), .int (nI pc), .int (nI an), va_rf none, va_rf ah]))) {fa ev be cu st me pa : Nat} {f : Nat → Int32} {u : Nat → Nat → Nat} {bh : Nat → Option Nat} (hs : w sc = some (.inr (3, [.ref fa, .int (nI ev), .int (nI be), .int (nI cu), .int (nI st), .int (nI me), .int (nI pa)]))) (hf : w fa = some (.inl (0, 1400, .inl f))) (hM : Mus f ev st u bh) {pt tx tl rd ld : Nat} (hpt : w pt = some (.inr (5, [.ref tx, .int (nI tl), .ref rd, .ref sc, .ref fo, .int (nI ld)]))) {bl : Bool} : Ct yX5_tempo wsX5_tempo rX5_tempo [.ref pt, .int (zb bl)] w (fun o w9 => o = .inl (some (.int (nI (tpF bl 500 1)))) ∧ w9 = w) := by
  refine Ct.of (cc := cX5_tempo) (own := RX5) (nm := "tempo") (nL := 6) (ret := (some .int)) (by decide +kernel) rfl rfl rfl (Nat.le_of_ble_eq_true rfl) ?_
  refine j_lvE (lv' := [(0, .ref pt), (1, .int (zb bl))]) rfl ?_
  have hup9 : 500 < 2 ^ 31 := by omega
  have hlo9 : 1 < 2 ^ 31 := by omega
  refine j_aload_n dX5_tempo_0 0 rfl ?_
  refine j_get flX5_tempo_36 hpt rfl dX5_tempo_1 ?_
  refine j_callV (rm := rX0_tempoUpper) (As := []) (st := []) (b0 := fo) (ci := 0) (na := 0) (c_tempoUpper0 hfo hm ) (by intro E w9 h9; first | exact nomatch h9.1 | (obtain ⟨_, h9, _⟩ := h9; exact nomatch h9) | (obtain ⟨_, _, _, h9, _⟩ := h9; exact nomatch h9)) gX5_tempo_X0_tempoUpper rfl rfl hfo (by decide +kernel) rfl ⟨Nat.le_of_ble_eq_true rfl, Nat.le_of_ble_eq_true rfl⟩ rfl (Nat.le_of_ble_eq_true rfl) dX5_tempo_4 ⟨(show 0 + 0 ≤ 0 by omega), (show 0 + 0 ≤ 0 by omega)⟩ (fun v1 w2 h3 => ?_)
  obtain ⟨h3, h4⟩ := h3
  cases h3
  subst w2
  refine j_after (st' := [.int (nI 500)]) (k' := 0) (n' := 0) rfl rfl rfl ?_
  refine j_istore_n (lv' := [(2, .int (nI 500)), (0, .ref pt), (1, .int (zb bl))]) dX5_tempo_7 (Nat.le_of_ble_eq_true rfl) rfl ?_
  refine j_aload_n dX5_tempo_8 1 rfl ?_
  refine j_get flX5_tempo_36 hpt rfl dX5_tempo_9 ?_
  refine j_callV (rm := rX0_tempoLower) (As := []) (st := []) (b0 := fo) (ci := 0) (na := 0) (c_tempoLower0 hfo hm hs hf hM ) (by intro E w9 h9; first | exact nomatch h9.1 | (obtain ⟨_, h9, _⟩ := h9; exact nomatch h9) | (obtain ⟨_, _, _, h9, _⟩ := h9; exact nomatch h9)) gX5_tempo_X0_tempoLower rfl rfl hfo (by decide +kernel) rfl ⟨Nat.le_of_ble_eq_true rfl, Nat.le_of_ble_eq_true rfl⟩ rfl (Nat.le_of_ble_eq_true rfl) dX5_tempo_12 ⟨(show 0 + 0 ≤ 0 by omega), (show 0 + 0 ≤ 0 by omega)⟩ (fun v5 w6 h7 => ?_)
  obtain ⟨h7, h8⟩ := h7
  cases h7
  subst w6
  refine j_after (st' := [.int (nI 1)]) (k' := 0) (n' := 0) rfl rfl rfl ?_
  refine j_istore_n (lv' := [(3, .int (nI 1)), (2, .int (nI 500)), (0, .ref pt), (1, .int (zb bl))]) dX5_tempo_15 (Nat.le_of_ble_eq_true rfl) rfl ?_
  refine j_iload_n dX5_tempo_16 1 rfl ?_
  refine j_iload_n dX5_tempo_17 0 rfl ?_
  refine j_callS (rm := rX5_commonDivisor) (As := [.int (nI 500), .int (nI 1)]) (st := []) (na := 2) (c_commonDivisor (x0 := 500) (y0 := 1) hup9 hlo9) (by intro E w9 h9; first | exact nomatch h9.1 | (obtain ⟨_, h9, _⟩ := h9; exact nomatch h9) | (obtain ⟨_, _, _, h9, _⟩ := h9; exact nomatch h9)) gX5_tempo_X5_commonDivisor rfl (by decide +kernel) rfl ⟨Nat.le_of_ble_eq_true rfl, Nat.le_of_ble_eq_true rfl⟩ rfl (Nat.le_of_ble_eq_true rfl) dX5_tempo_18 ⟨(show 0 + 0 ≤ 0 by omega), (show 0 + 0 ≤ 0 by omega)⟩ (fun v9 w10 h11 => ?_)
  obtain ⟨h11, h12⟩ := h11
  cases h11
  subst w10
  refine j_after (st' := [.int (nI (gcF 64 500 1))]) (k' := 0) (n' := 0) rfl rfl rfl ?_
  have hg9 : gcF 64 500 1 < 2 ^ 31 := gcF_lt hup9 hlo9
  refine j_istore (lv' := [(4, .int (nI (gcF 64 500 1))), (3, .int (nI 1)), (2, .int (nI 500)), (0, .ref pt), (1, .int (zb bl))]) dX5_tempo_21 (Nat.le_of_ble_eq_true rfl) rfl ?_
  refine j_iload_n dX5_tempo_23 4 rfl ?_
  refine j_if_eq 31 dX5_tempo_24 (by decide) (fun c24 => ?_) (fun c24 => ?_)
  · skip
    refine j_iload_n dX5_tempo_31 2 rfl ?_
    refine j_istore (lv' := [(5, .int (nI 500)), (4, .int (nI (gcF 64 500 1))), (3, .int (nI 1)), (2, .int (nI 500)), (0, .ref pt), (1, .int (zb bl))]) dX5_tempo_32 (Nat.le_of_ble_eq_true rfl) rfl ?_
    refine j_iload dX5_tempo_34 1 rfl ?_
    refine j_if_neN 44 (by omega) dX5_tempo_36 (by decide) (fun c36 => ?_) (fun c36 => ?_)
    · skip
      refine j_iload dX5_tempo_44 0 rfl ?_
      refine j_iload dX5_tempo_46 1 rfl ?_
      refine j_idiv dX5_tempo_48 (fun q => c36 (nI_inj0 hg9 q)) ?_
      refine j_eqi (y := nI (500 / gcF 64 500 1)) (pk_div hup9 (by omega) hg9) ?_
      exact j_iret rfl ⟨by unfold tpF; rw [zb_0 c24, if_neg c36]; rfl, rfl⟩ (show 0 ≤ 0 by omega) (show 0 ≤ 0 by omega) dX5_tempo_49
    · skip
      refine j_iload dX5_tempo_39 0 rfl ?_
      refine j_goto 49 dX5_tempo_41 (by decide) ?_
      exact j_iret rfl ⟨by unfold tpF; rw [zb_0 c24, if_pos c36]; rfl, rfl⟩ (show 0 ≤ 0 by omega) (show 0 ≤ 0 by omega) dX5_tempo_49
  · skip
    refine j_iload_n dX5_tempo_27 1 rfl ?_
    refine j_goto 32 dX5_tempo_28 (by decide) ?_
    refine j_istore (lv' := [(5, .int (nI 1)), (4, .int (nI (gcF 64 500 1))), (3, .int (nI 1)), (2, .int (nI 500)), (0, .ref pt), (1, .int (zb bl))]) dX5_tempo_32 (Nat.le_of_ble_eq_true rfl) rfl ?_
    refine j_iload dX5_tempo_34 1 rfl ?_
    refine j_if_neN 44 (by omega) dX5_tempo_36 (by decide) (fun c36 => ?_) (fun c36 => ?_)
    · skip
      refine j_iload dX5_tempo_44 0 rfl ?_
      refine j_iload dX5_tempo_46 1 rfl ?_
      refine j_idiv dX5_tempo_48 (fun q => c36 (nI_inj0 hg9 q)) ?_
      refine j_eqi (y := nI (1 / gcF 64 500 1)) (pk_div hlo9 (by omega) hg9) ?_
      exact j_iret rfl ⟨by unfold tpF; rw [zb_n' c24, if_neg c36]; rfl, rfl⟩ (show 0 ≤ 0 by omega) (show 0 ≤ 0 by omega) dX5_tempo_49
    · skip
      refine j_iload dX5_tempo_39 0 rfl ?_
      refine j_goto 49 dX5_tempo_41 (by decide) ?_
      exact j_iret rfl ⟨by unfold tpF; rw [zb_n' c24, if_pos c36]; rfl, rfl⟩ (show 0 ≤ 0 by omega) (show 0 ≤ 0 by omega) dX5_tempo_49
set_option maxHeartbeats 4000000 in
set_option maxRecDepth 100000 in
theorem c_tempo1 {w : pW} {fo sc pr ar de ms mn nt : Nat} {cm : Nat} {bf nx ah : Option Nat} {cl pe pb pc an : Nat} {lc : Nat → Nat} {bf3 nx3 av3 : Nat → Option Nat} {ca3 cl3 pe3 pb3 pc3 an3 : Nat → Nat} {n : Nat} (hfo : w fo = some (.inr (0, [.ref sc, .ref pr, .ref ar, .ref de, .ref ms, .ref mn, .int (nI nt)]))) (hm : w mn = some (.inr (1, [va_rf bf, va_rf nx, .ref cm, .int (nI cl), .int (nI pe), .int (nI pb), .int (nI pc), .int (nI an), va_rf (some (lc 0)), va_rf ah]))) {fa ev be cu st me pa : Nat} {f : Nat → Int32} {u : Nat → Nat → Nat} {bh : Nat → Option Nat} (hs : w sc = some (.inr (3, [.ref fa, .int (nI ev), .int (nI be), .int (nI cu), .int (nI st), .int (nI me), .int (nI pa)]))) (hf : w fa = some (.inl (0, 1400, .inl f))) (hM : Mus f ev st u bh) (hch : ∀ i, i < n → w (lc i) = some (.inr (1, [va_rf (bf3 i), va_rf (nx3 i), .ref (ca3 i), .int (nI (cl3 i)), .int (nI (pe3 i)), .int (nI (pb3 i)), .int (nI (pc3 i)), .int (nI (an3 i)), va_rf (av3 i), va_rf ((if i + 1 < n then some (lc (i + 1)) else none))]))) (hn : n = 1) (hpe3 : ∀ i, i < n → pe3 i < ev) {pt tx tl rd ld : Nat} (hpt : w pt = some (.inr (5, [.ref tx, .int (nI tl), .ref rd, .ref sc, .ref fo, .int (nI ld)]))) {bl : Bool} : Ct yX5_tempo wsX5_tempo rX5_tempo [.ref pt, .int (zb bl)] w (fun o w9 => o = .inl (some (.int (nI (tpF bl 500 1)))) ∧ w9 = w) := by
  refine Ct.of (cc := cX5_tempo) (own := RX5) (nm := "tempo") (nL := 6) (ret := (some .int)) (by decide +kernel) rfl rfl rfl (Nat.le_of_ble_eq_true rfl) ?_
  refine j_lvE (lv' := [(0, .ref pt), (1, .int (zb bl))]) rfl ?_
  have hup9 : 500 < 2 ^ 31 := by omega
  have hlo9 : 1 < 2 ^ 31 := by omega
  refine j_aload_n dX5_tempo_0 0 rfl ?_
  refine j_get flX5_tempo_36 hpt rfl dX5_tempo_1 ?_
  refine j_callV (rm := rX0_tempoUpper) (As := []) (st := []) (b0 := fo) (ci := 0) (na := 0) (c_tempoUpper1 hfo hm hch hn) (by intro E w9 h9; first | exact nomatch h9.1 | (obtain ⟨_, h9, _⟩ := h9; exact nomatch h9) | (obtain ⟨_, _, _, h9, _⟩ := h9; exact nomatch h9)) gX5_tempo_X0_tempoUpper rfl rfl hfo (by decide +kernel) rfl ⟨Nat.le_of_ble_eq_true rfl, Nat.le_of_ble_eq_true rfl⟩ rfl (Nat.le_of_ble_eq_true rfl) dX5_tempo_4 ⟨(show 0 + 0 ≤ 0 by omega), (show 0 + 0 ≤ 0 by omega)⟩ (fun v1 w2 h3 => ?_)
  obtain ⟨h3, h4⟩ := h3
  cases h3
  subst w2
  refine j_after (st' := [.int (nI 500)]) (k' := 0) (n' := 0) rfl rfl rfl ?_
  refine j_istore_n (lv' := [(2, .int (nI 500)), (0, .ref pt), (1, .int (zb bl))]) dX5_tempo_7 (Nat.le_of_ble_eq_true rfl) rfl ?_
  refine j_aload_n dX5_tempo_8 1 rfl ?_
  refine j_get flX5_tempo_36 hpt rfl dX5_tempo_9 ?_
  refine j_callV (rm := rX0_tempoLower) (As := []) (st := []) (b0 := fo) (ci := 0) (na := 0) (c_tempoLower1 hfo hm hs hf hM hch hn) (by intro E w9 h9; first | exact nomatch h9.1 | (obtain ⟨_, h9, _⟩ := h9; exact nomatch h9) | (obtain ⟨_, _, _, h9, _⟩ := h9; exact nomatch h9)) gX5_tempo_X0_tempoLower rfl rfl hfo (by decide +kernel) rfl ⟨Nat.le_of_ble_eq_true rfl, Nat.le_of_ble_eq_true rfl⟩ rfl (Nat.le_of_ble_eq_true rfl) dX5_tempo_12 ⟨(show 0 + 0 ≤ 0 by omega), (show 0 + 0 ≤ 0 by omega)⟩ (fun v5 w6 h7 => ?_)
  obtain ⟨h7, h8⟩ := h7
  cases h7
  subst w6
  refine j_after (st' := [.int (nI 1)]) (k' := 0) (n' := 0) rfl rfl rfl ?_
  refine j_istore_n (lv' := [(3, .int (nI 1)), (2, .int (nI 500)), (0, .ref pt), (1, .int (zb bl))]) dX5_tempo_15 (Nat.le_of_ble_eq_true rfl) rfl ?_
  refine j_iload_n dX5_tempo_16 1 rfl ?_
  refine j_iload_n dX5_tempo_17 0 rfl ?_
  refine j_callS (rm := rX5_commonDivisor) (As := [.int (nI 500), .int (nI 1)]) (st := []) (na := 2) (c_commonDivisor (x0 := 500) (y0 := 1) hup9 hlo9) (by intro E w9 h9; first | exact nomatch h9.1 | (obtain ⟨_, h9, _⟩ := h9; exact nomatch h9) | (obtain ⟨_, _, _, h9, _⟩ := h9; exact nomatch h9)) gX5_tempo_X5_commonDivisor rfl (by decide +kernel) rfl ⟨Nat.le_of_ble_eq_true rfl, Nat.le_of_ble_eq_true rfl⟩ rfl (Nat.le_of_ble_eq_true rfl) dX5_tempo_18 ⟨(show 0 + 0 ≤ 0 by omega), (show 0 + 0 ≤ 0 by omega)⟩ (fun v9 w10 h11 => ?_)
  obtain ⟨h11, h12⟩ := h11
  cases h11
  subst w10
  refine j_after (st' := [.int (nI (gcF 64 500 1))]) (k' := 0) (n' := 0) rfl rfl rfl ?_
  have hg9 : gcF 64 500 1 < 2 ^ 31 := gcF_lt hup9 hlo9
  refine j_istore (lv' := [(4, .int (nI (gcF 64 500 1))), (3, .int (nI 1)), (2, .int (nI 500)), (0, .ref pt), (1, .int (zb bl))]) dX5_tempo_21 (Nat.le_of_ble_eq_true rfl) rfl ?_
  refine j_iload_n dX5_tempo_23 4 rfl ?_
  refine j_if_eq 31 dX5_tempo_24 (by decide) (fun c24 => ?_) (fun c24 => ?_)
  · skip
    refine j_iload_n dX5_tempo_31 2 rfl ?_
    refine j_istore (lv' := [(5, .int (nI 500)), (4, .int (nI (gcF 64 500 1))), (3, .int (nI 1)), (2, .int (nI 500)), (0, .ref pt), (1, .int (zb bl))]) dX5_tempo_32 (Nat.le_of_ble_eq_true rfl) rfl ?_
    refine j_iload dX5_tempo_34 1 rfl ?_
    refine j_if_neN 44 (by omega) dX5_tempo_36 (by decide) (fun c36 => ?_) (fun c36 => ?_)
    · skip
      refine j_iload dX5_tempo_44 0 rfl ?_
      refine j_iload dX5_tempo_46 1 rfl ?_
      refine j_idiv dX5_tempo_48 (fun q => c36 (nI_inj0 hg9 q)) ?_
      refine j_eqi (y := nI (500 / gcF 64 500 1)) (pk_div hup9 (by omega) hg9) ?_
      exact j_iret rfl ⟨by unfold tpF; rw [zb_0 c24, if_neg c36]; rfl, rfl⟩ (show 0 ≤ 0 by omega) (show 0 ≤ 0 by omega) dX5_tempo_49
    · skip
      refine j_iload dX5_tempo_39 0 rfl ?_
      refine j_goto 49 dX5_tempo_41 (by decide) ?_
      exact j_iret rfl ⟨by unfold tpF; rw [zb_0 c24, if_pos c36]; rfl, rfl⟩ (show 0 ≤ 0 by omega) (show 0 ≤ 0 by omega) dX5_tempo_49
  · skip
    refine j_iload_n dX5_tempo_27 1 rfl ?_
    refine j_goto 32 dX5_tempo_28 (by decide) ?_
    refine j_istore (lv' := [(5, .int (nI 1)), (4, .int (nI (gcF 64 500 1))), (3, .int (nI 1)), (2, .int (nI 500)), (0, .ref pt), (1, .int (zb bl))]) dX5_tempo_32 (Nat.le_of_ble_eq_true rfl) rfl ?_
    refine j_iload dX5_tempo_34 1 rfl ?_
    refine j_if_neN 44 (by omega) dX5_tempo_36 (by decide) (fun c36 => ?_) (fun c36 => ?_)
    · skip
      refine j_iload dX5_tempo_44 0 rfl ?_
      refine j_iload dX5_tempo_46 1 rfl ?_
      refine j_idiv dX5_tempo_48 (fun q => c36 (nI_inj0 hg9 q)) ?_
      refine j_eqi (y := nI (1 / gcF 64 500 1)) (pk_div hlo9 (by omega) hg9) ?_
      exact j_iret rfl ⟨by unfold tpF; rw [zb_n' c24, if_neg c36]; rfl, rfl⟩ (show 0 ≤ 0 by omega) (show 0 ≤ 0 by omega) dX5_tempo_49
    · skip
      refine j_iload dX5_tempo_39 0 rfl ?_
      refine j_goto 49 dX5_tempo_41 (by decide) ?_
      exact j_iret rfl ⟨by unfold tpF; rw [zb_n' c24, if_pos c36]; rfl, rfl⟩ (show 0 ≤ 0 by omega) (show 0 ≤ 0 by omega) dX5_tempo_49
set_option maxHeartbeats 4000000 in
set_option maxRecDepth 100000 in
theorem c_tempo2 {w : pW} {fo sc pr ar de ms mn nt : Nat} {cm : Nat} {bf nx ah : Option Nat} {cl pe pb pc an : Nat} {lc : Nat → Nat} {bf3 nx3 av3 : Nat → Option Nat} {ca3 cl3 pe3 pb3 pc3 an3 : Nat → Nat} {n : Nat} (hfo : w fo = some (.inr (0, [.ref sc, .ref pr, .ref ar, .ref de, .ref ms, .ref mn, .int (nI nt)]))) (hm : w mn = some (.inr (1, [va_rf bf, va_rf nx, .ref cm, .int (nI cl), .int (nI pe), .int (nI pb), .int (nI pc), .int (nI an), va_rf (some (lc 0)), va_rf ah]))) {fa ev be cu st me pa : Nat} {f : Nat → Int32} {u : Nat → Nat → Nat} {bh : Nat → Option Nat} (hs : w sc = some (.inr (3, [.ref fa, .int (nI ev), .int (nI be), .int (nI cu), .int (nI st), .int (nI me), .int (nI pa)]))) (hf : w fa = some (.inl (0, 1400, .inl f))) (hM : Mus f ev st u bh) (hch : ∀ i, i < n → w (lc i) = some (.inr (1, [va_rf (bf3 i), va_rf (nx3 i), .ref (ca3 i), .int (nI (cl3 i)), .int (nI (pe3 i)), .int (nI (pb3 i)), .int (nI (pc3 i)), .int (nI (an3 i)), va_rf (av3 i), va_rf ((if i + 1 < n then some (lc (i + 1)) else none))]))) (hn : 2 ≤ n) (hn2 : n ≤ 1000) (hcl : ∀ i, i < n → cl3 i ≤ cl3 0) (hclb : cl3 0 < 2 ^ 31) (hpe3 : ∀ i, i < n → pe3 i < ev) (hbt : ∀ i, i < n → u 2 (pe3 i) ≤ u 2 (pe3 0)) (hlo : 0 < u 2 (pe3 0) - u 2 (pe3 (min 4 (n - 1)))) {pt tx tl rd ld : Nat} (hpt : w pt = some (.inr (5, [.ref tx, .int (nI tl), .ref rd, .ref sc, .ref fo, .int (nI ld)]))) {bl : Bool} : Ct yX5_tempo wsX5_tempo rX5_tempo [.ref pt, .int (zb bl)] w (fun o w9 => o = .inl (some (.int (nI (tpF bl (cl3 0 - cl3 (min 4 (n - 1))) (u 2 (pe3 0) - u 2 (pe3 (min 4 (n - 1)))))))) ∧ w9 = w) := by
  refine Ct.of (cc := cX5_tempo) (own := RX5) (nm := "tempo") (nL := 6) (ret := (some .int)) (by decide +kernel) rfl rfl rfl (Nat.le_of_ble_eq_true rfl) ?_
  refine j_lvE (lv' := [(0, .ref pt), (1, .int (zb bl))]) rfl ?_
  have hup9 : cl3 0 - cl3 (min 4 (n - 1)) < 2 ^ 31 := by omega
  have hlo9 : u 2 (pe3 0) - u 2 (pe3 (min 4 (n - 1))) < 2 ^ 31 := by have hbd0 := hM.bd (hpe3 0 (by omega)); omega
  refine j_aload_n dX5_tempo_0 0 rfl ?_
  refine j_get flX5_tempo_36 hpt rfl dX5_tempo_1 ?_
  refine j_callV (rm := rX0_tempoUpper) (As := []) (st := []) (b0 := fo) (ci := 0) (na := 0) (c_tempoUpper2 hfo hm hch hn hn2 hcl hclb) (by intro E w9 h9; first | exact nomatch h9.1 | (obtain ⟨_, h9, _⟩ := h9; exact nomatch h9) | (obtain ⟨_, _, _, h9, _⟩ := h9; exact nomatch h9)) gX5_tempo_X0_tempoUpper rfl rfl hfo (by decide +kernel) rfl ⟨Nat.le_of_ble_eq_true rfl, Nat.le_of_ble_eq_true rfl⟩ rfl (Nat.le_of_ble_eq_true rfl) dX5_tempo_4 ⟨(show 0 + 0 ≤ 0 by omega), (show 0 + 0 ≤ 0 by omega)⟩ (fun v1 w2 h3 => ?_)
  obtain ⟨h3, h4⟩ := h3
  cases h3
  subst w2
  refine j_after (st' := [.int (nI (cl3 0 - cl3 (min 4 (n - 1))))]) (k' := 0) (n' := 0) rfl rfl rfl ?_
  refine j_istore_n (lv' := [(2, .int (nI (cl3 0 - cl3 (min 4 (n - 1))))), (0, .ref pt), (1, .int (zb bl))]) dX5_tempo_7 (Nat.le_of_ble_eq_true rfl) rfl ?_
  refine j_aload_n dX5_tempo_8 1 rfl ?_
  refine j_get flX5_tempo_36 hpt rfl dX5_tempo_9 ?_
  refine j_callV (rm := rX0_tempoLower) (As := []) (st := []) (b0 := fo) (ci := 0) (na := 0) (c_tempoLower2 hfo hm hs hf hM hch hn hn2 hpe3 hbt) (by intro E w9 h9; first | exact nomatch h9.1 | (obtain ⟨_, h9, _⟩ := h9; exact nomatch h9) | (obtain ⟨_, _, _, h9, _⟩ := h9; exact nomatch h9)) gX5_tempo_X0_tempoLower rfl rfl hfo (by decide +kernel) rfl ⟨Nat.le_of_ble_eq_true rfl, Nat.le_of_ble_eq_true rfl⟩ rfl (Nat.le_of_ble_eq_true rfl) dX5_tempo_12 ⟨(show 0 + 0 ≤ 0 by omega), (show 0 + 0 ≤ 0 by omega)⟩ (fun v5 w6 h7 => ?_)
  obtain ⟨h7, h8⟩ := h7
  cases h7
  subst w6
  refine j_after (st' := [.int (nI (u 2 (pe3 0) - u 2 (pe3 (min 4 (n - 1)))))]) (k' := 0) (n' := 0) rfl rfl rfl ?_
  refine j_istore_n (lv' := [(3, .int (nI (u 2 (pe3 0) - u 2 (pe3 (min 4 (n - 1)))))), (2, .int (nI (cl3 0 - cl3 (min 4 (n - 1))))), (0, .ref pt), (1, .int (zb bl))]) dX5_tempo_15 (Nat.le_of_ble_eq_true rfl) rfl ?_
  refine j_iload_n dX5_tempo_16 1 rfl ?_
  refine j_iload_n dX5_tempo_17 0 rfl ?_
  refine j_callS (rm := rX5_commonDivisor) (As := [.int (nI (cl3 0 - cl3 (min 4 (n - 1)))), .int (nI (u 2 (pe3 0) - u 2 (pe3 (min 4 (n - 1)))))]) (st := []) (na := 2) (c_commonDivisor (x0 := (cl3 0 - cl3 (min 4 (n - 1)))) (y0 := (u 2 (pe3 0) - u 2 (pe3 (min 4 (n - 1))))) hup9 hlo9) (by intro E w9 h9; first | exact nomatch h9.1 | (obtain ⟨_, h9, _⟩ := h9; exact nomatch h9) | (obtain ⟨_, _, _, h9, _⟩ := h9; exact nomatch h9)) gX5_tempo_X5_commonDivisor rfl (by decide +kernel) rfl ⟨Nat.le_of_ble_eq_true rfl, Nat.le_of_ble_eq_true rfl⟩ rfl (Nat.le_of_ble_eq_true rfl) dX5_tempo_18 ⟨(show 0 + 0 ≤ 0 by omega), (show 0 + 0 ≤ 0 by omega)⟩ (fun v9 w10 h11 => ?_)
  obtain ⟨h11, h12⟩ := h11
  cases h11
  subst w10
  refine j_after (st' := [.int (nI (gcF 64 (cl3 0 - cl3 (min 4 (n - 1))) (u 2 (pe3 0) - u 2 (pe3 (min 4 (n - 1))))))]) (k' := 0) (n' := 0) rfl rfl rfl ?_
  have hg9 : gcF 64 (cl3 0 - cl3 (min 4 (n - 1))) (u 2 (pe3 0) - u 2 (pe3 (min 4 (n - 1)))) < 2 ^ 31 := gcF_lt hup9 hlo9
  refine j_istore (lv' := [(4, .int (nI (gcF 64 (cl3 0 - cl3 (min 4 (n - 1))) (u 2 (pe3 0) - u 2 (pe3 (min 4 (n - 1))))))), (3, .int (nI (u 2 (pe3 0) - u 2 (pe3 (min 4 (n - 1)))))), (2, .int (nI (cl3 0 - cl3 (min 4 (n - 1))))), (0, .ref pt), (1, .int (zb bl))]) dX5_tempo_21 (Nat.le_of_ble_eq_true rfl) rfl ?_
  refine j_iload_n dX5_tempo_23 4 rfl ?_
  refine j_if_eq 31 dX5_tempo_24 (by decide) (fun c24 => ?_) (fun c24 => ?_)
  · skip
    refine j_iload_n dX5_tempo_31 2 rfl ?_
    refine j_istore (lv' := [(5, .int (nI (cl3 0 - cl3 (min 4 (n - 1))))), (4, .int (nI (gcF 64 (cl3 0 - cl3 (min 4 (n - 1))) (u 2 (pe3 0) - u 2 (pe3 (min 4 (n - 1))))))), (3, .int (nI (u 2 (pe3 0) - u 2 (pe3 (min 4 (n - 1)))))), (2, .int (nI (cl3 0 - cl3 (min 4 (n - 1))))), (0, .ref pt), (1, .int (zb bl))]) dX5_tempo_32 (Nat.le_of_ble_eq_true rfl) rfl ?_
    refine j_iload dX5_tempo_34 1 rfl ?_
    refine j_if_neN 44 (by omega) dX5_tempo_36 (by decide) (fun c36 => ?_) (fun c36 => ?_)
    · skip
      refine j_iload dX5_tempo_44 0 rfl ?_
      refine j_iload dX5_tempo_46 1 rfl ?_
      refine j_idiv dX5_tempo_48 (fun q => c36 (nI_inj0 hg9 q)) ?_
      refine j_eqi (y := nI ((cl3 0 - cl3 (min 4 (n - 1))) / gcF 64 (cl3 0 - cl3 (min 4 (n - 1))) (u 2 (pe3 0) - u 2 (pe3 (min 4 (n - 1)))))) (pk_div hup9 (by omega) hg9) ?_
      exact j_iret rfl ⟨by unfold tpF; rw [zb_0 c24, if_neg c36]; rfl, rfl⟩ (show 0 ≤ 0 by omega) (show 0 ≤ 0 by omega) dX5_tempo_49
    · skip
      refine j_iload dX5_tempo_39 0 rfl ?_
      refine j_goto 49 dX5_tempo_41 (by decide) ?_
      exact j_iret rfl ⟨by unfold tpF; rw [zb_0 c24, if_pos c36]; rfl, rfl⟩ (show 0 ≤ 0 by omega) (show 0 ≤ 0 by omega) dX5_tempo_49
  · skip
    refine j_iload_n dX5_tempo_27 1 rfl ?_
    refine j_goto 32 dX5_tempo_28 (by decide) ?_
    refine j_istore (lv' := [(5, .int (nI (u 2 (pe3 0) - u 2 (pe3 (min 4 (n - 1)))))), (4, .int (nI (gcF 64 (cl3 0 - cl3 (min 4 (n - 1))) (u 2 (pe3 0) - u 2 (pe3 (min 4 (n - 1))))))), (3, .int (nI (u 2 (pe3 0) - u 2 (pe3 (min 4 (n - 1)))))), (2, .int (nI (cl3 0 - cl3 (min 4 (n - 1))))), (0, .ref pt), (1, .int (zb bl))]) dX5_tempo_32 (Nat.le_of_ble_eq_true rfl) rfl ?_
    refine j_iload dX5_tempo_34 1 rfl ?_
    refine j_if_neN 44 (by omega) dX5_tempo_36 (by decide) (fun c36 => ?_) (fun c36 => ?_)
    · skip
      refine j_iload dX5_tempo_44 0 rfl ?_
      refine j_iload dX5_tempo_46 1 rfl ?_
      refine j_idiv dX5_tempo_48 (fun q => c36 (nI_inj0 hg9 q)) ?_
      refine j_eqi (y := nI ((u 2 (pe3 0) - u 2 (pe3 (min 4 (n - 1)))) / gcF 64 (cl3 0 - cl3 (min 4 (n - 1))) (u 2 (pe3 0) - u 2 (pe3 (min 4 (n - 1)))))) (pk_div hlo9 (by omega) hg9) ?_
      exact j_iret rfl ⟨by unfold tpF; rw [zb_n' c24, if_neg c36]; rfl, rfl⟩ (show 0 ≤ 0 by omega) (show 0 ≤ 0 by omega) dX5_tempo_49
    · skip
      refine j_iload dX5_tempo_39 0 rfl ?_
      refine j_goto 49 dX5_tempo_41 (by decide) ?_
      exact j_iret rfl ⟨by unfold tpF; rw [zb_n' c24, if_pos c36]; rfl, rfl⟩ (show 0 ≤ 0 by omega) (show 0 ≤ 0 by omega) dX5_tempo_49
abbrev rX5_time : Room := { frames := 6, cells := 1, slots := 6, locals := 91 }
set_option maxRecDepth 100000 in
theorem mX5_time_0 : Cond.constant RX5 171 (100000) ∈ wsX5_time := by decide +kernel
theorem flX5_time_36 : FL wsX5_time RX5 36 5 4 := ⟨RX5, TX5, 6, rfl, by decide, by decide +kernel, by decide +kernel⟩
set_option maxHeartbeats 4000000 in
set_option maxRecDepth 100000 in
theorem c_time0 {w : pW} {fo sc pr ar de ms mn nt : Nat} {cm : Nat} {bf nx ah : Option Nat} {cl pe pb pc an : Nat}  (hfo : w fo = some (.inr (0, [.ref sc, .ref pr, .ref ar, .ref de, .ref ms, .ref mn, .int (nI nt)]))) (hm : w mn = some (.inr (1, [va_rf bf, va_rf nx, .ref cm, .int (nI cl), .int (nI pe), .int (nI pb), .int (nI pc), .int (nI an), va_rf none, va_rf ah]))) {fa ev be cu st me pa : Nat} {f : Nat → Int32} {u : Nat → Nat → Nat} {bh : Nat → Option Nat} (hs : w sc = some (.inr (3, [.ref fa, .int (nI ev), .int (nI be), .int (nI cu), .int (nI st), .int (nI me), .int (nI pa)]))) (hf : w fa = some (.inl (0, 1400, .inl f))) (hM : Mus f ev st u bh) {pt tx tl rd ld : Nat} (hpt : w pt = some (.inr (5, [.ref tx, .int (nI tl), .ref rd, .ref sc, .ref fo, .int (nI ld)]))) {bt : Nat} (hb : bt ≤ 100000) : Ct yX5_time wsX5_time rX5_time [.ref pt, .int (nI bt)] w (fun o w9 => o = .inl (some (.long (-1))) ∧ w9 = w) := by
  refine Ct.of (cc := cX5_time) (own := RX5) (nm := "time") (nL := 2) (ret := (some .long)) (by decide +kernel) rfl rfl rfl (Nat.le_of_ble_eq_true rfl) ?_
  refine j_lvE (lv' := [(0, .ref pt), (1, .int (nI bt))]) rfl ?_
  refine j_iload_n dX5_time_0 1 rfl ?_
  refine j_if_ltN (by omega) dX5_time_1 (by decide : _ = ((10 : Nat) : Int)) ?_
  refine j_iload_n dX5_time_4 1 rfl ?_
  refine j_ldc (v := nI 100000) dX5_time_5 mX5_time_0 ?_
  refine j_icmp_leN 20 (by omega) (by omega) dX5_time_7 (by decide) (fun c7 => ?_) (fun c7 => ?_)
  · skip
    refine j_aload_n dX5_time_20 0 rfl ?_
    refine j_get flX5_time_36 hpt rfl dX5_time_21 ?_
    refine j_iload_n dX5_time_24 1 rfl ?_
    refine j_callV (rm := rX0_timeOfBeat) (As := [.int (nI bt)]) (st := []) (b0 := fo) (ci := 0) (na := 1) (c_timeOfBeat0 (bt := bt) hfo hm hs hf hM ) (by intro E w9 h9; first | exact nomatch h9.1 | (obtain ⟨_, h9, _⟩ := h9; exact nomatch h9) | (obtain ⟨_, _, _, h9, _⟩ := h9; exact nomatch h9)) gX5_time_X0_timeOfBeat rfl rfl hfo (by decide +kernel) rfl ⟨Nat.le_of_ble_eq_true rfl, Nat.le_of_ble_eq_true rfl⟩ rfl (Nat.le_of_ble_eq_true rfl) dX5_time_25 ⟨(show 0 + 0 ≤ 1 by omega), (show 0 + 0 ≤ 6 by omega)⟩ (fun v1 w2 h3 => ?_)
    obtain ⟨h3, h4⟩ := h3
    cases h3
    subst w2
    refine j_after (st' := [.long (-1)]) (k' := 0) (n' := 0) rfl rfl rfl ?_
    exact j_lret rfl ⟨rfl, rfl⟩ (show 0 ≤ 1 by omega) (show 0 ≤ 6 by omega) dX5_time_28
  · skip
    exfalso; omega
set_option maxHeartbeats 4000000 in
set_option maxRecDepth 100000 in
theorem c_time1 {w : pW} {fo sc pr ar de ms mn nt : Nat} {cm : Nat} {bf nx ah : Option Nat} {cl pe pb pc an : Nat} {lc : Nat → Nat} {bf3 nx3 av3 : Nat → Option Nat} {ca3 cl3 pe3 pb3 pc3 an3 : Nat → Nat} {n : Nat} (hfo : w fo = some (.inr (0, [.ref sc, .ref pr, .ref ar, .ref de, .ref ms, .ref mn, .int (nI nt)]))) (hm : w mn = some (.inr (1, [va_rf bf, va_rf nx, .ref cm, .int (nI cl), .int (nI pe), .int (nI pb), .int (nI pc), .int (nI an), va_rf (some (lc 0)), va_rf ah]))) {fa ev be cu st me pa : Nat} {f : Nat → Int32} {u : Nat → Nat → Nat} {bh : Nat → Option Nat} (hs : w sc = some (.inr (3, [.ref fa, .int (nI ev), .int (nI be), .int (nI cu), .int (nI st), .int (nI me), .int (nI pa)]))) (hf : w fa = some (.inl (0, 1400, .inl f))) (hM : Mus f ev st u bh) (hch : ∀ i, i < n → w (lc i) = some (.inr (1, [va_rf (bf3 i), va_rf (nx3 i), .ref (ca3 i), .int (nI (cl3 i)), .int (nI (pe3 i)), .int (nI (pb3 i)), .int (nI (pc3 i)), .int (nI (an3 i)), va_rf (av3 i), va_rf ((if i + 1 < n then some (lc (i + 1)) else none))]))) (hn : n = 1) (hpe3 : ∀ i, i < n → pe3 i < ev) {pt tx tl rd ld : Nat} (hpt : w pt = some (.inr (5, [.ref tx, .int (nI tl), .ref rd, .ref sc, .ref fo, .int (nI ld)]))) {bt : Nat} (hb : bt ≤ 100000) : Ct yX5_time wsX5_time rX5_time [.ref pt, .int (nI bt)] w (fun o w9 => o = .inl (some (.long (tmV (cl3 0) 500 1 (u 2 (pe3 0)) bt))) ∧ w9 = w) := by
  refine Ct.of (cc := cX5_time) (own := RX5) (nm := "time") (nL := 2) (ret := (some .long)) (by decide +kernel) rfl rfl rfl (Nat.le_of_ble_eq_true rfl) ?_
  refine j_lvE (lv' := [(0, .ref pt), (1, .int (nI bt))]) rfl ?_
  refine j_iload_n dX5_time_0 1 rfl ?_
  refine j_if_ltN (by omega) dX5_time_1 (by decide : _ = ((10 : Nat) : Int)) ?_
  refine j_iload_n dX5_time_4 1 rfl ?_
  refine j_ldc (v := nI 100000) dX5_time_5 mX5_time_0 ?_
  refine j_icmp_leN 20 (by omega) (by omega) dX5_time_7 (by decide) (fun c7 => ?_) (fun c7 => ?_)
  · skip
    refine j_aload_n dX5_time_20 0 rfl ?_
    refine j_get flX5_time_36 hpt rfl dX5_time_21 ?_
    refine j_iload_n dX5_time_24 1 rfl ?_
    refine j_callV (rm := rX0_timeOfBeat) (As := [.int (nI bt)]) (st := []) (b0 := fo) (ci := 0) (na := 1) (c_timeOfBeat1 (bt := bt) hfo hm hs hf hM hch hn hpe3) (by intro E w9 h9; first | exact nomatch h9.1 | (obtain ⟨_, h9, _⟩ := h9; exact nomatch h9) | (obtain ⟨_, _, _, h9, _⟩ := h9; exact nomatch h9)) gX5_time_X0_timeOfBeat rfl rfl hfo (by decide +kernel) rfl ⟨Nat.le_of_ble_eq_true rfl, Nat.le_of_ble_eq_true rfl⟩ rfl (Nat.le_of_ble_eq_true rfl) dX5_time_25 ⟨(show 0 + 0 ≤ 1 by omega), (show 0 + 0 ≤ 6 by omega)⟩ (fun v1 w2 h3 => ?_)
    obtain ⟨h3, h4⟩ := h3
    cases h3
    subst w2
    refine j_after (st' := [.long (tmV (cl3 0) 500 1 (u 2 (pe3 0)) bt)]) (k' := 0) (n' := 0) rfl rfl rfl ?_
    exact j_lret rfl ⟨rfl, rfl⟩ (show 0 ≤ 1 by omega) (show 0 ≤ 6 by omega) dX5_time_28
  · skip
    exfalso; omega
set_option maxHeartbeats 4000000 in
set_option maxRecDepth 100000 in
theorem c_time2 {w : pW} {fo sc pr ar de ms mn nt : Nat} {cm : Nat} {bf nx ah : Option Nat} {cl pe pb pc an : Nat} {lc : Nat → Nat} {bf3 nx3 av3 : Nat → Option Nat} {ca3 cl3 pe3 pb3 pc3 an3 : Nat → Nat} {n : Nat} (hfo : w fo = some (.inr (0, [.ref sc, .ref pr, .ref ar, .ref de, .ref ms, .ref mn, .int (nI nt)]))) (hm : w mn = some (.inr (1, [va_rf bf, va_rf nx, .ref cm, .int (nI cl), .int (nI pe), .int (nI pb), .int (nI pc), .int (nI an), va_rf (some (lc 0)), va_rf ah]))) {fa ev be cu st me pa : Nat} {f : Nat → Int32} {u : Nat → Nat → Nat} {bh : Nat → Option Nat} (hs : w sc = some (.inr (3, [.ref fa, .int (nI ev), .int (nI be), .int (nI cu), .int (nI st), .int (nI me), .int (nI pa)]))) (hf : w fa = some (.inl (0, 1400, .inl f))) (hM : Mus f ev st u bh) (hch : ∀ i, i < n → w (lc i) = some (.inr (1, [va_rf (bf3 i), va_rf (nx3 i), .ref (ca3 i), .int (nI (cl3 i)), .int (nI (pe3 i)), .int (nI (pb3 i)), .int (nI (pc3 i)), .int (nI (an3 i)), va_rf (av3 i), va_rf ((if i + 1 < n then some (lc (i + 1)) else none))]))) (hn : 2 ≤ n) (hn2 : n ≤ 1000) (hcl : ∀ i, i < n → cl3 i ≤ cl3 0) (hclb : cl3 0 < 2 ^ 31) (hpe3 : ∀ i, i < n → pe3 i < ev) (hbt : ∀ i, i < n → u 2 (pe3 i) ≤ u 2 (pe3 0)) (hlo : 0 < u 2 (pe3 0) - u 2 (pe3 (min 4 (n - 1)))) {pt tx tl rd ld : Nat} (hpt : w pt = some (.inr (5, [.ref tx, .int (nI tl), .ref rd, .ref sc, .ref fo, .int (nI ld)]))) {bt : Nat} (hb : bt ≤ 100000) : Ct yX5_time wsX5_time rX5_time [.ref pt, .int (nI bt)] w (fun o w9 => o = .inl (some (.long (tmV (cl3 0) (cl3 0 - cl3 (min 4 (n - 1))) (u 2 (pe3 0) - u 2 (pe3 (min 4 (n - 1)))) (u 2 (pe3 0)) bt))) ∧ w9 = w) := by
  refine Ct.of (cc := cX5_time) (own := RX5) (nm := "time") (nL := 2) (ret := (some .long)) (by decide +kernel) rfl rfl rfl (Nat.le_of_ble_eq_true rfl) ?_
  refine j_lvE (lv' := [(0, .ref pt), (1, .int (nI bt))]) rfl ?_
  refine j_iload_n dX5_time_0 1 rfl ?_
  refine j_if_ltN (by omega) dX5_time_1 (by decide : _ = ((10 : Nat) : Int)) ?_
  refine j_iload_n dX5_time_4 1 rfl ?_
  refine j_ldc (v := nI 100000) dX5_time_5 mX5_time_0 ?_
  refine j_icmp_leN 20 (by omega) (by omega) dX5_time_7 (by decide) (fun c7 => ?_) (fun c7 => ?_)
  · skip
    refine j_aload_n dX5_time_20 0 rfl ?_
    refine j_get flX5_time_36 hpt rfl dX5_time_21 ?_
    refine j_iload_n dX5_time_24 1 rfl ?_
    refine j_callV (rm := rX0_timeOfBeat) (As := [.int (nI bt)]) (st := []) (b0 := fo) (ci := 0) (na := 1) (c_timeOfBeat2 (bt := bt) hfo hm hs hf hM hch hn hn2 hcl hclb hpe3 hbt hlo) (by intro E w9 h9; first | exact nomatch h9.1 | (obtain ⟨_, h9, _⟩ := h9; exact nomatch h9) | (obtain ⟨_, _, _, h9, _⟩ := h9; exact nomatch h9)) gX5_time_X0_timeOfBeat rfl rfl hfo (by decide +kernel) rfl ⟨Nat.le_of_ble_eq_true rfl, Nat.le_of_ble_eq_true rfl⟩ rfl (Nat.le_of_ble_eq_true rfl) dX5_time_25 ⟨(show 0 + 0 ≤ 1 by omega), (show 0 + 0 ≤ 6 by omega)⟩ (fun v1 w2 h3 => ?_)
    obtain ⟨h3, h4⟩ := h3
    cases h3
    subst w2
    refine j_after (st' := [.long (tmV (cl3 0) (cl3 0 - cl3 (min 4 (n - 1))) (u 2 (pe3 0) - u 2 (pe3 (min 4 (n - 1)))) (u 2 (pe3 0)) bt)]) (k' := 0) (n' := 0) rfl rfl rfl ?_
    exact j_lret rfl ⟨rfl, rfl⟩ (show 0 ≤ 1 by omega) (show 0 ≤ 6 by omega) dX5_time_28
  · skip
    exfalso; omega
set_option maxRecDepth 100000 in
theorem atX5_time_51 : ∀ x ∈ (vx_atS RX5 51 "java/lang/IllegalArgumentException" ["java/lang/RuntimeException", "java/lang/Exception"]).filter goodWord, x ∈ wsX5_time := by decide +kernel
theorem otX5_time_51 : ((Cond.classLink RX5 47 "java/lang/IllegalArgumentException" :: Cond.initialized "java/lang/IllegalArgumentException" :: vx_atS RX5 51 "java/lang/IllegalArgumentException" ["java/lang/RuntimeException", "java/lang/Exception"]).all vx_ot) = true := by decide +kernel
set_option maxRecDepth 100000 in
theorem mX5_time_1 : Cond.classLink RX5 47 "java/lang/IllegalArgumentException" ∈ wsX5_time := by decide +kernel
set_option maxRecDepth 100000 in
theorem mX5_time_2 : Cond.initialized "java/lang/IllegalArgumentException" ∈ wsX5_time := by decide +kernel
set_option maxHeartbeats 4000000 in
set_option maxRecDepth 100000 in
theorem c_timeBad {w : pW} {sc fo : Nat} {pt tx tl rd ld : Nat} (hpt : w pt = some (.inr (5, [.ref tx, .int (nI tl), .ref rd, .ref sc, .ref fo, .int (nI ld)]))) {v : Int32} (hb : v < 0 ∨ nI 100000 < v) : Ct yX5_time wsX5_time rX5_time [.ref pt, .int v] w (fun o w9 => o = .inr "java/lang/IllegalArgumentException" ∧ w9 = w) := by
  refine Ct.of (cc := cX5_time) (own := RX5) (nm := "time") (nL := 2) (ret := (some .long)) (by decide +kernel) rfl rfl rfl (Nat.le_of_ble_eq_true rfl) ?_
  refine j_lvE (lv' := [(0, .ref pt), (1, .int v)]) rfl ?_
  refine j_iload_n dX5_time_0 1 rfl ?_
  refine j_if_lt 10 dX5_time_1 (by decide) (fun c1 => ?_) (fun c1 => ?_)
  · skip
    exact j_throwS (ik := 47) (is := 172) (ic := 51) (cls := "java/lang/IllegalArgumentException") (text := "no such beat") rfl (Or.inl ⟨rfl, rfl⟩) (by simp [bgStr]) mX5_time_1 mX5_time_2 atX5_time_51 otX5_time_51 rfl (Nat.le_of_ble_eq_true rfl) (Nat.le_of_ble_eq_true rfl) (show 0 + 1 ≤ 1 by omega) (show 0 + 6 ≤ 6 by omega) dX5_time_10 dX5_time_13 dX5_time_14 dX5_time_16 dX5_time_19 ⟨rfl, rfl⟩
  · skip
    refine j_iload_n dX5_time_4 1 rfl ?_
    refine j_ldc (v := nI 100000) dX5_time_5 mX5_time_0 ?_
    refine j_icmp_le 20 dX5_time_7 (by decide) (fun c7 => ?_) (fun c7 => ?_)
    · skip
      exact absurd hb (fun q => q.elim c1 (fun q => absurd q (Int32.not_lt.mpr c7)))
    · skip
      exact j_throwS (ik := 47) (is := 172) (ic := 51) (cls := "java/lang/IllegalArgumentException") (text := "no such beat") rfl (Or.inl ⟨rfl, rfl⟩) (by simp [bgStr]) mX5_time_1 mX5_time_2 atX5_time_51 otX5_time_51 rfl (Nat.le_of_ble_eq_true rfl) (Nat.le_of_ble_eq_true rfl) (show 0 + 1 ≤ 1 by omega) (show 0 + 6 ≤ 6 by omega) dX5_time_10 dX5_time_13 dX5_time_14 dX5_time_16 dX5_time_19 ⟨rfl, rfl⟩
abbrev rX5_turnsAt : Room := { frames := 4, cells := 0, slots := 0, locals := 91 }
theorem flX5_turnsAt_27 : FL wsX5_turnsAt RX5 27 5 3 := ⟨RX5, TX5, 6, rfl, by decide, by decide +kernel, by decide +kernel⟩
theorem flX5_turnsAt_36 : FL wsX5_turnsAt RX5 36 5 4 := ⟨RX5, TX5, 6, rfl, by decide, by decide +kernel, by decide +kernel⟩
set_option maxRecDepth 100000 in
theorem mX5_turnsAt_0 : Cond.constantLong RX5 181 (-1) ∈ wsX5_turnsAt := by decide +kernel
set_option maxHeartbeats 4000000 in
set_option maxRecDepth 100000 in
theorem c_turnsAt0 {w : pW} {fo sc pr ar de ms mn nt : Nat} {cm : Nat} {bf nx ah : Option Nat} {cl pe pb pc an : Nat}  (hfo : w fo = some (.inr (0, [.ref sc, .ref pr, .ref ar, .ref de, .ref ms, .ref mn, .int (nI nt)]))) (hm : w mn = some (.inr (1, [va_rf bf, va_rf nx, .ref cm, .int (nI cl), .int (nI pe), .int (nI pb), .int (nI pc), .int (nI an), va_rf none, va_rf ah]))) {fa ev be cu st me pa : Nat} {f : Nat → Int32} {u : Nat → Nat → Nat} {bh : Nat → Option Nat} (hs : w sc = some (.inr (3, [.ref fa, .int (nI ev), .int (nI be), .int (nI cu), .int (nI st), .int (nI me), .int (nI pa)]))) (hf : w fa = some (.inl (0, 1400, .inl f))) (hM : Mus f ev st u bh) {pt tx tl rd ld : Nat} (hpt : w pt = some (.inr (5, [.ref tx, .int (nI tl), .ref rd, .ref sc, .ref fo, .int (nI ld)]))) (hpe : pe < ev) (han : an = 0) : Ct yX5_turnsAt wsX5_turnsAt rX5_turnsAt [.ref pt] w (fun o w9 => o = .inl (some (.long (-1))) ∧ w9 = w) := by
  refine Ct.of (cc := cX5_turnsAt) (own := RX5) (nm := "turnsAt") (nL := 2) (ret := (some .long)) (by decide +kernel) rfl rfl rfl (Nat.le_of_ble_eq_true rfl) ?_
  refine j_lvE (lv' := [(0, .ref pt)]) rfl ?_
  have hev9 := hM.hev
  refine j_aload_n dX5_turnsAt_0 0 rfl ?_
  refine j_get flX5_turnsAt_27 hpt rfl dX5_turnsAt_1 ?_
  refine j_aload_n dX5_turnsAt_4 0 rfl ?_
  refine j_get flX5_turnsAt_36 hpt rfl dX5_turnsAt_5 ?_
  refine j_callV (rm := rX0_placeEvent) (As := []) (st := [.ref sc]) (b0 := fo) (ci := 0) (na := 0) (c_placeEvent hfo hm) (by intro E w9 h9; first | exact nomatch h9.1 | (obtain ⟨_, h9, _⟩ := h9; exact nomatch h9) | (obtain ⟨_, _, _, h9, _⟩ := h9; exact nomatch h9)) gX5_turnsAt_X0_placeEvent rfl rfl hfo (by decide +kernel) rfl ⟨Nat.le_of_ble_eq_true rfl, Nat.le_of_ble_eq_true rfl⟩ rfl (Nat.le_of_ble_eq_true rfl) dX5_turnsAt_8 ⟨(show 0 + 0 ≤ 0 by omega), (show 0 + 0 ≤ 0 by omega)⟩ (fun v1 w2 h3 => ?_)
  obtain ⟨h3, h4⟩ := h3
  cases h3
  subst w2
  refine j_after (st' := [.int (nI pe), .ref sc]) (k' := 0) (n' := 0) rfl rfl rfl ?_
  refine j_callV (rm := rX3_firstOfNextPage) (As := [.int (nI pe)]) (st := []) (b0 := sc) (ci := 3) (na := 1) (c_firstOfNextPage (e := pe) hs hf (by omega) (by omega)) (by intro E w9 h9; first | exact nomatch h9.1 | (obtain ⟨_, h9, _⟩ := h9; exact nomatch h9) | (obtain ⟨_, _, _, h9, _⟩ := h9; exact nomatch h9)) gX5_turnsAt_X3_firstOfNextPage rfl rfl hs (by decide +kernel) rfl ⟨Nat.le_of_ble_eq_true rfl, Nat.le_of_ble_eq_true rfl⟩ rfl (Nat.le_of_ble_eq_true rfl) dX5_turnsAt_11 ⟨(show 0 + 0 ≤ 0 by omega), (show 0 + 0 ≤ 0 by omega)⟩ (fun v5 w6 h7 => ?_)
  obtain ⟨h7, h8⟩ := h7
  cases h7
  subst w6
  refine j_after (st' := [.int (on1 (nxP f ev pe))]) (k' := 0) (n' := 0) rfl rfl rfl ?_
  rcases hnx : nxP f ev pe with _ | z
  · skip
    refine j_eqi (y := -1) rfl ?_
    refine j_istore_n (lv' := [(1, .int ((-1))), (0, .ref pt)]) dX5_turnsAt_14 (Nat.le_of_ble_eq_true rfl) rfl ?_
    refine j_iload_n dX5_turnsAt_15 0 rfl ?_
    refine j_iconst (v := (-1)) dX5_turnsAt_16 (by decide) ?_
    refine j_icmp_eq 30 dX5_turnsAt_17 (by decide) (fun c17 => ?_) (fun c17 => ?_)
    · skip
      refine j_ldc2 (v := (-1)) dX5_turnsAt_30 mX5_turnsAt_0 ?_
      exact j_lret rfl ⟨rfl, rfl⟩ (show 0 ≤ 0 by omega) (show 0 ≤ 0 by omega) dX5_turnsAt_33
    · skip
      exact absurd rfl c17
  · skip
    have hz := (fstN_some hnx).2.1
    refine j_eqi (y := nI z) rfl ?_
    refine j_istore_n (lv' := [(1, .int (nI z)), (0, .ref pt)]) dX5_turnsAt_14 (Nat.le_of_ble_eq_true rfl) rfl ?_
    refine j_iload_n dX5_turnsAt_15 0 rfl ?_
    refine j_iconst (v := (-1)) dX5_turnsAt_16 (by decide) ?_
    refine j_icmp_eq 30 dX5_turnsAt_17 (by decide) (fun c17 => ?_) (fun c17 => ?_)
    · skip
      exact absurd c17 (nI_m1 (by omega))
    · skip
      refine j_aload_n dX5_turnsAt_20 1 rfl ?_
      refine j_get flX5_turnsAt_36 hpt rfl dX5_turnsAt_21 ?_
      refine j_callV (rm := rX0_anchors) (As := []) (st := []) (b0 := fo) (ci := 0) (na := 0) (c_anchors hfo hm) (by intro E w9 h9; first | exact nomatch h9.1 | (obtain ⟨_, h9, _⟩ := h9; exact nomatch h9) | (obtain ⟨_, _, _, h9, _⟩ := h9; exact nomatch h9)) gX5_turnsAt_X0_anchors rfl rfl hfo (by decide +kernel) rfl ⟨Nat.le_of_ble_eq_true rfl, Nat.le_of_ble_eq_true rfl⟩ rfl (Nat.le_of_ble_eq_true rfl) dX5_turnsAt_24 ⟨(show 0 + 0 ≤ 0 by omega), (show 0 + 0 ≤ 0 by omega)⟩ (fun v9 w10 h11 => ?_)
      obtain ⟨h11, h12⟩ := h11
      cases h11
      subst w10
      refine j_after (st' := [.int (nI an)]) (k' := 0) (n' := 0) rfl rfl rfl ?_
      refine j_if_neN 34 (by omega) dX5_turnsAt_27 (by decide) (fun c27 => ?_) (fun c27 => ?_)
      · skip
        exfalso; omega
      · skip
        refine j_ldc2 (v := (-1)) dX5_turnsAt_30 mX5_turnsAt_0 ?_
        exact j_lret rfl ⟨rfl, rfl⟩ (show 0 ≤ 0 by omega) (show 0 ≤ 0 by omega) dX5_turnsAt_33
theorem flX5_turnsAt_40 : FL wsX5_turnsAt RX5 40 5 5 := ⟨RX5, TX5, 6, rfl, by decide, by decide +kernel, by decide +kernel⟩
set_option maxHeartbeats 4000000 in
set_option maxRecDepth 100000 in
theorem c_turnsAt1 {w : pW} {fo sc pr ar de ms mn nt : Nat} {cm : Nat} {bf nx ah : Option Nat} {cl pe pb pc an : Nat} {lc : Nat → Nat} {bf3 nx3 av3 : Nat → Option Nat} {ca3 cl3 pe3 pb3 pc3 an3 : Nat → Nat} {n : Nat} (hfo : w fo = some (.inr (0, [.ref sc, .ref pr, .ref ar, .ref de, .ref ms, .ref mn, .int (nI nt)]))) (hm : w mn = some (.inr (1, [va_rf bf, va_rf nx, .ref cm, .int (nI cl), .int (nI pe), .int (nI pb), .int (nI pc), .int (nI an), va_rf (some (lc 0)), va_rf ah]))) {fa ev be cu st me pa : Nat} {f : Nat → Int32} {u : Nat → Nat → Nat} {bh : Nat → Option Nat} (hs : w sc = some (.inr (3, [.ref fa, .int (nI ev), .int (nI be), .int (nI cu), .int (nI st), .int (nI me), .int (nI pa)]))) (hf : w fa = some (.inl (0, 1400, .inl f))) (hM : Mus f ev st u bh) (hch : ∀ i, i < n → w (lc i) = some (.inr (1, [va_rf (bf3 i), va_rf (nx3 i), .ref (ca3 i), .int (nI (cl3 i)), .int (nI (pe3 i)), .int (nI (pb3 i)), .int (nI (pc3 i)), .int (nI (an3 i)), va_rf (av3 i), va_rf ((if i + 1 < n then some (lc (i + 1)) else none))]))) (hn : n = 1) (hpe3 : ∀ i, i < n → pe3 i < ev) {pt tx tl rd ld : Nat} (hpt : w pt = some (.inr (5, [.ref tx, .int (nI tl), .ref rd, .ref sc, .ref fo, .int (nI ld)]))) (hpe : pe < ev) (han : 0 < an) (han2 : an < 2 ^ 31) : Ct yX5_turnsAt wsX5_turnsAt rX5_turnsAt [.ref pt] w (fun o w9 => o = .inl (some (.long (match nxP f ev pe with | none => -1 | some z => tmV (cl3 0) 500 1 (u 2 (pe3 0)) (u 2 z) - (nI ld).toInt64))) ∧ w9 = w) := by
  refine Ct.of (cc := cX5_turnsAt) (own := RX5) (nm := "turnsAt") (nL := 2) (ret := (some .long)) (by decide +kernel) rfl rfl rfl (Nat.le_of_ble_eq_true rfl) ?_
  refine j_lvE (lv' := [(0, .ref pt)]) rfl ?_
  have hev9 := hM.hev
  refine j_aload_n dX5_turnsAt_0 0 rfl ?_
  refine j_get flX5_turnsAt_27 hpt rfl dX5_turnsAt_1 ?_
  refine j_aload_n dX5_turnsAt_4 0 rfl ?_
  refine j_get flX5_turnsAt_36 hpt rfl dX5_turnsAt_5 ?_
  refine j_callV (rm := rX0_placeEvent) (As := []) (st := [.ref sc]) (b0 := fo) (ci := 0) (na := 0) (c_placeEvent hfo hm) (by intro E w9 h9; first | exact nomatch h9.1 | (obtain ⟨_, h9, _⟩ := h9; exact nomatch h9) | (obtain ⟨_, _, _, h9, _⟩ := h9; exact nomatch h9)) gX5_turnsAt_X0_placeEvent rfl rfl hfo (by decide +kernel) rfl ⟨Nat.le_of_ble_eq_true rfl, Nat.le_of_ble_eq_true rfl⟩ rfl (Nat.le_of_ble_eq_true rfl) dX5_turnsAt_8 ⟨(show 0 + 0 ≤ 0 by omega), (show 0 + 0 ≤ 0 by omega)⟩ (fun v1 w2 h3 => ?_)
  obtain ⟨h3, h4⟩ := h3
  cases h3
  subst w2
  refine j_after (st' := [.int (nI pe), .ref sc]) (k' := 0) (n' := 0) rfl rfl rfl ?_
  refine j_callV (rm := rX3_firstOfNextPage) (As := [.int (nI pe)]) (st := []) (b0 := sc) (ci := 3) (na := 1) (c_firstOfNextPage (e := pe) hs hf (by omega) (by omega)) (by intro E w9 h9; first | exact nomatch h9.1 | (obtain ⟨_, h9, _⟩ := h9; exact nomatch h9) | (obtain ⟨_, _, _, h9, _⟩ := h9; exact nomatch h9)) gX5_turnsAt_X3_firstOfNextPage rfl rfl hs (by decide +kernel) rfl ⟨Nat.le_of_ble_eq_true rfl, Nat.le_of_ble_eq_true rfl⟩ rfl (Nat.le_of_ble_eq_true rfl) dX5_turnsAt_11 ⟨(show 0 + 0 ≤ 0 by omega), (show 0 + 0 ≤ 0 by omega)⟩ (fun v5 w6 h7 => ?_)
  obtain ⟨h7, h8⟩ := h7
  cases h7
  subst w6
  refine j_after (st' := [.int (on1 (nxP f ev pe))]) (k' := 0) (n' := 0) rfl rfl rfl ?_
  rcases hnx : nxP f ev pe with _ | z
  · skip
    refine j_eqi (y := -1) rfl ?_
    refine j_istore_n (lv' := [(1, .int ((-1))), (0, .ref pt)]) dX5_turnsAt_14 (Nat.le_of_ble_eq_true rfl) rfl ?_
    refine j_iload_n dX5_turnsAt_15 0 rfl ?_
    refine j_iconst (v := (-1)) dX5_turnsAt_16 (by decide) ?_
    refine j_icmp_eq 30 dX5_turnsAt_17 (by decide) (fun c17 => ?_) (fun c17 => ?_)
    · skip
      refine j_ldc2 (v := (-1)) dX5_turnsAt_30 mX5_turnsAt_0 ?_
      exact j_lret rfl ⟨rfl, rfl⟩ (show 0 ≤ 0 by omega) (show 0 ≤ 0 by omega) dX5_turnsAt_33
    · skip
      exact absurd rfl c17
  · skip
    have hz := (fstN_some hnx).2.1
    refine j_eqi (y := nI z) rfl ?_
    refine j_istore_n (lv' := [(1, .int (nI z)), (0, .ref pt)]) dX5_turnsAt_14 (Nat.le_of_ble_eq_true rfl) rfl ?_
    refine j_iload_n dX5_turnsAt_15 0 rfl ?_
    refine j_iconst (v := (-1)) dX5_turnsAt_16 (by decide) ?_
    refine j_icmp_eq 30 dX5_turnsAt_17 (by decide) (fun c17 => ?_) (fun c17 => ?_)
    · skip
      exact absurd c17 (nI_m1 (by omega))
    · skip
      refine j_aload_n dX5_turnsAt_20 1 rfl ?_
      refine j_get flX5_turnsAt_36 hpt rfl dX5_turnsAt_21 ?_
      refine j_callV (rm := rX0_anchors) (As := []) (st := []) (b0 := fo) (ci := 0) (na := 0) (c_anchors hfo hm) (by intro E w9 h9; first | exact nomatch h9.1 | (obtain ⟨_, h9, _⟩ := h9; exact nomatch h9) | (obtain ⟨_, _, _, h9, _⟩ := h9; exact nomatch h9)) gX5_turnsAt_X0_anchors rfl rfl hfo (by decide +kernel) rfl ⟨Nat.le_of_ble_eq_true rfl, Nat.le_of_ble_eq_true rfl⟩ rfl (Nat.le_of_ble_eq_true rfl) dX5_turnsAt_24 ⟨(show 0 + 0 ≤ 0 by omega), (show 0 + 0 ≤ 0 by omega)⟩ (fun v9 w10 h11 => ?_)
      obtain ⟨h11, h12⟩ := h11
      cases h11
      subst w10
      refine j_after (st' := [.int (nI an)]) (k' := 0) (n' := 0) rfl rfl rfl ?_
      refine j_if_neN 34 (by omega) dX5_turnsAt_27 (by decide) (fun c27 => ?_) (fun c27 => ?_)
      · skip
        refine j_aload_n dX5_turnsAt_34 1 rfl ?_
        refine j_get flX5_turnsAt_36 hpt rfl dX5_turnsAt_35 ?_
        refine j_aload_n dX5_turnsAt_38 1 rfl ?_
        refine j_get flX5_turnsAt_27 hpt rfl dX5_turnsAt_39 ?_
        refine j_iload_n dX5_turnsAt_42 0 rfl ?_
        refine j_iconst (v := nI 2) dX5_turnsAt_43 (by decide) ?_
        have hrg13 := Mus.rg (e := z) hM (by omega)
        have hbd14 := Mus.bd (e := z) hM (by omega)
        refine j_callV (rm := rX3_fact) (As := [.int (nI z), .int (nI 2)]) (st := [.ref fo]) (b0 := sc) (ci := 3) (na := 2) (c_fact (e := z) (c := 2) hs hf (by omega) (by omega)) (by intro E w9 h9; first | exact nomatch h9.1 | (obtain ⟨_, h9, _⟩ := h9; exact nomatch h9) | (obtain ⟨_, _, _, h9, _⟩ := h9; exact nomatch h9)) gX5_turnsAt_X3_fact rfl rfl hs (by decide +kernel) rfl ⟨Nat.le_of_ble_eq_true rfl, Nat.le_of_ble_eq_true rfl⟩ rfl (Nat.le_of_ble_eq_true rfl) dX5_turnsAt_44 ⟨(show 0 + 0 ≤ 0 by omega), (show 0 + 0 ≤ 0 by omega)⟩ (fun v15 w16 h17 => ?_)
        obtain ⟨h17, h18⟩ := h17
        cases h17
        subst w16
        refine j_after (st' := [.int (f (z * 14 + 2)), .ref fo]) (k' := 0) (n' := 0) rfl rfl rfl ?_
        refine j_eqi (y := nI (u 2 z)) (Mus.c2 hM (by omega)) ?_
        refine j_callV (rm := rX0_timeOfBeat) (As := [.int (nI (u 2 z))]) (st := []) (b0 := fo) (ci := 0) (na := 1) (c_timeOfBeat1 (bt := u 2 z) hfo hm hs hf hM hch hn hpe3) (by intro E w9 h9; first | exact nomatch h9.1 | (obtain ⟨_, h9, _⟩ := h9; exact nomatch h9) | (obtain ⟨_, _, _, h9, _⟩ := h9; exact nomatch h9)) gX5_turnsAt_X0_timeOfBeat rfl rfl hfo (by decide +kernel) rfl ⟨Nat.le_of_ble_eq_true rfl, Nat.le_of_ble_eq_true rfl⟩ rfl (Nat.le_of_ble_eq_true rfl) dX5_turnsAt_47 ⟨(show 0 + 0 ≤ 0 by omega), (show 0 + 0 ≤ 0 by omega)⟩ (fun v19 w20 h21 => ?_)
        obtain ⟨h21, h22⟩ := h21
        cases h21
        subst w20
        refine j_after (st' := [.long (tmV (cl3 0) 500 1 (u 2 (pe3 0)) (u 2 z))]) (k' := 0) (n' := 0) rfl rfl rfl ?_
        refine j_aload_n dX5_turnsAt_50 1 rfl ?_
        refine j_get flX5_turnsAt_40 hpt rfl dX5_turnsAt_51 ?_
        refine j_i2l dX5_turnsAt_54 rfl ?_
        refine j_lsub dX5_turnsAt_55 ?_
        exact j_lret rfl ⟨rfl, rfl⟩ (show 0 ≤ 0 by omega) (show 0 ≤ 0 by omega) dX5_turnsAt_56
      · skip
        exfalso; omega
set_option maxHeartbeats 4000000 in
set_option maxRecDepth 100000 in
theorem c_turnsAt2 {w : pW} {fo sc pr ar de ms mn nt : Nat} {cm : Nat} {bf nx ah : Option Nat} {cl pe pb pc an : Nat} {lc : Nat → Nat} {bf3 nx3 av3 : Nat → Option Nat} {ca3 cl3 pe3 pb3 pc3 an3 : Nat → Nat} {n : Nat} (hfo : w fo = some (.inr (0, [.ref sc, .ref pr, .ref ar, .ref de, .ref ms, .ref mn, .int (nI nt)]))) (hm : w mn = some (.inr (1, [va_rf bf, va_rf nx, .ref cm, .int (nI cl), .int (nI pe), .int (nI pb), .int (nI pc), .int (nI an), va_rf (some (lc 0)), va_rf ah]))) {fa ev be cu st me pa : Nat} {f : Nat → Int32} {u : Nat → Nat → Nat} {bh : Nat → Option Nat} (hs : w sc = some (.inr (3, [.ref fa, .int (nI ev), .int (nI be), .int (nI cu), .int (nI st), .int (nI me), .int (nI pa)]))) (hf : w fa = some (.inl (0, 1400, .inl f))) (hM : Mus f ev st u bh) (hch : ∀ i, i < n → w (lc i) = some (.inr (1, [va_rf (bf3 i), va_rf (nx3 i), .ref (ca3 i), .int (nI (cl3 i)), .int (nI (pe3 i)), .int (nI (pb3 i)), .int (nI (pc3 i)), .int (nI (an3 i)), va_rf (av3 i), va_rf ((if i + 1 < n then some (lc (i + 1)) else none))]))) (hn : 2 ≤ n) (hn2 : n ≤ 1000) (hcl : ∀ i, i < n → cl3 i ≤ cl3 0) (hclb : cl3 0 < 2 ^ 31) (hpe3 : ∀ i, i < n → pe3 i < ev) (hbt : ∀ i, i < n → u 2 (pe3 i) ≤ u 2 (pe3 0)) (hlo : 0 < u 2 (pe3 0) - u 2 (pe3 (min 4 (n - 1)))) {pt tx tl rd ld : Nat} (hpt : w pt = some (.inr (5, [.ref tx, .int (nI tl), .ref rd, .ref sc, .ref fo, .int (nI ld)]))) (hpe : pe < ev) (han : 0 < an) (han2 : an < 2 ^ 31) : Ct yX5_turnsAt wsX5_turnsAt rX5_turnsAt [.ref pt] w (fun o w9 => o = .inl (some (.long (match nxP f ev pe with | none => -1 | some z => tmV (cl3 0) (cl3 0 - cl3 (min 4 (n - 1))) (u 2 (pe3 0) - u 2 (pe3 (min 4 (n - 1)))) (u 2 (pe3 0)) (u 2 z) - (nI ld).toInt64))) ∧ w9 = w) := by
  refine Ct.of (cc := cX5_turnsAt) (own := RX5) (nm := "turnsAt") (nL := 2) (ret := (some .long)) (by decide +kernel) rfl rfl rfl (Nat.le_of_ble_eq_true rfl) ?_
  refine j_lvE (lv' := [(0, .ref pt)]) rfl ?_
  have hev9 := hM.hev
  refine j_aload_n dX5_turnsAt_0 0 rfl ?_
  refine j_get flX5_turnsAt_27 hpt rfl dX5_turnsAt_1 ?_
  refine j_aload_n dX5_turnsAt_4 0 rfl ?_
  refine j_get flX5_turnsAt_36 hpt rfl dX5_turnsAt_5 ?_
  refine j_callV (rm := rX0_placeEvent) (As := []) (st := [.ref sc]) (b0 := fo) (ci := 0) (na := 0) (c_placeEvent hfo hm) (by intro E w9 h9; first | exact nomatch h9.1 | (obtain ⟨_, h9, _⟩ := h9; exact nomatch h9) | (obtain ⟨_, _, _, h9, _⟩ := h9; exact nomatch h9)) gX5_turnsAt_X0_placeEvent rfl rfl hfo (by decide +kernel) rfl ⟨Nat.le_of_ble_eq_true rfl, Nat.le_of_ble_eq_true rfl⟩ rfl (Nat.le_of_ble_eq_true rfl) dX5_turnsAt_8 ⟨(show 0 + 0 ≤ 0 by omega), (show 0 + 0 ≤ 0 by omega)⟩ (fun v1 w2 h3 => ?_)
  obtain ⟨h3, h4⟩ := h3
  cases h3
  subst w2
  refine j_after (st' := [.int (nI pe), .ref sc]) (k' := 0) (n' := 0) rfl rfl rfl ?_
  refine j_callV (rm := rX3_firstOfNextPage) (As := [.int (nI pe)]) (st := []) (b0 := sc) (ci := 3) (na := 1) (c_firstOfNextPage (e := pe) hs hf (by omega) (by omega)) (by intro E w9 h9; first | exact nomatch h9.1 | (obtain ⟨_, h9, _⟩ := h9; exact nomatch h9) | (obtain ⟨_, _, _, h9, _⟩ := h9; exact nomatch h9)) gX5_turnsAt_X3_firstOfNextPage rfl rfl hs (by decide +kernel) rfl ⟨Nat.le_of_ble_eq_true rfl, Nat.le_of_ble_eq_true rfl⟩ rfl (Nat.le_of_ble_eq_true rfl) dX5_turnsAt_11 ⟨(show 0 + 0 ≤ 0 by omega), (show 0 + 0 ≤ 0 by omega)⟩ (fun v5 w6 h7 => ?_)
  obtain ⟨h7, h8⟩ := h7
  cases h7
  subst w6
  refine j_after (st' := [.int (on1 (nxP f ev pe))]) (k' := 0) (n' := 0) rfl rfl rfl ?_
  rcases hnx : nxP f ev pe with _ | z
  · skip
    refine j_eqi (y := -1) rfl ?_
    refine j_istore_n (lv' := [(1, .int ((-1))), (0, .ref pt)]) dX5_turnsAt_14 (Nat.le_of_ble_eq_true rfl) rfl ?_
    refine j_iload_n dX5_turnsAt_15 0 rfl ?_
    refine j_iconst (v := (-1)) dX5_turnsAt_16 (by decide) ?_
    refine j_icmp_eq 30 dX5_turnsAt_17 (by decide) (fun c17 => ?_) (fun c17 => ?_)
    · skip
      refine j_ldc2 (v := (-1)) dX5_turnsAt_30 mX5_turnsAt_0 ?_
      exact j_lret rfl ⟨rfl, rfl⟩ (show 0 ≤ 0 by omega) (show 0 ≤ 0 by omega) dX5_turnsAt_33
    · skip
      exact absurd rfl c17
  · skip
    have hz := (fstN_some hnx).2.1
    refine j_eqi (y := nI z) rfl ?_
    refine j_istore_n (lv' := [(1, .int (nI z)), (0, .ref pt)]) dX5_turnsAt_14 (Nat.le_of_ble_eq_true rfl) rfl ?_
    refine j_iload_n dX5_turnsAt_15 0 rfl ?_
    refine j_iconst (v := (-1)) dX5_turnsAt_16 (by decide) ?_
    refine j_icmp_eq 30 dX5_turnsAt_17 (by decide) (fun c17 => ?_) (fun c17 => ?_)
    · skip
      exact absurd c17 (nI_m1 (by omega))
    · skip
      refine j_aload_n dX5_turnsAt_20 1 rfl ?_
      refine j_get flX5_turnsAt_36 hpt rfl dX5_turnsAt_21 ?_
      refine j_callV (rm := rX0_anchors) (As := []) (st := []) (b0 := fo) (ci := 0) (na := 0) (c_anchors hfo hm) (by intro E w9 h9; first | exact nomatch h9.1 | (obtain ⟨_, h9, _⟩ := h9; exact nomatch h9) | (obtain ⟨_, _, _, h9, _⟩ := h9; exact nomatch h9)) gX5_turnsAt_X0_anchors rfl rfl hfo (by decide +kernel) rfl ⟨Nat.le_of_ble_eq_true rfl, Nat.le_of_ble_eq_true rfl⟩ rfl (Nat.le_of_ble_eq_true rfl) dX5_turnsAt_24 ⟨(show 0 + 0 ≤ 0 by omega), (show 0 + 0 ≤ 0 by omega)⟩ (fun v9 w10 h11 => ?_)
      obtain ⟨h11, h12⟩ := h11
      cases h11
      subst w10
      refine j_after (st' := [.int (nI an)]) (k' := 0) (n' := 0) rfl rfl rfl ?_
      refine j_if_neN 34 (by omega) dX5_turnsAt_27 (by decide) (fun c27 => ?_) (fun c27 => ?_)
      · skip
        refine j_aload_n dX5_turnsAt_34 1 rfl ?_
        refine j_get flX5_turnsAt_36 hpt rfl dX5_turnsAt_35 ?_
        refine j_aload_n dX5_turnsAt_38 1 rfl ?_
        refine j_get flX5_turnsAt_27 hpt rfl dX5_turnsAt_39 ?_
        refine j_iload_n dX5_turnsAt_42 0 rfl ?_
        refine j_iconst (v := nI 2) dX5_turnsAt_43 (by decide) ?_
        have hrg13 := Mus.rg (e := z) hM (by omega)
        have hbd14 := Mus.bd (e := z) hM (by omega)
        refine j_callV (rm := rX3_fact) (As := [.int (nI z), .int (nI 2)]) (st := [.ref fo]) (b0 := sc) (ci := 3) (na := 2) (c_fact (e := z) (c := 2) hs hf (by omega) (by omega)) (by intro E w9 h9; first | exact nomatch h9.1 | (obtain ⟨_, h9, _⟩ := h9; exact nomatch h9) | (obtain ⟨_, _, _, h9, _⟩ := h9; exact nomatch h9)) gX5_turnsAt_X3_fact rfl rfl hs (by decide +kernel) rfl ⟨Nat.le_of_ble_eq_true rfl, Nat.le_of_ble_eq_true rfl⟩ rfl (Nat.le_of_ble_eq_true rfl) dX5_turnsAt_44 ⟨(show 0 + 0 ≤ 0 by omega), (show 0 + 0 ≤ 0 by omega)⟩ (fun v15 w16 h17 => ?_)
        obtain ⟨h17, h18⟩ := h17
        cases h17
        subst w16
        refine j_after (st' := [.int (f (z * 14 + 2)), .ref fo]) (k' := 0) (n' := 0) rfl rfl rfl ?_
        refine j_eqi (y := nI (u 2 z)) (Mus.c2 hM (by omega)) ?_
        refine j_callV (rm := rX0_timeOfBeat) (As := [.int (nI (u 2 z))]) (st := []) (b0 := fo) (ci := 0) (na := 1) (c_timeOfBeat2 (bt := u 2 z) hfo hm hs hf hM hch hn hn2 hcl hclb hpe3 hbt hlo) (by intro E w9 h9; first | exact nomatch h9.1 | (obtain ⟨_, h9, _⟩ := h9; exact nomatch h9) | (obtain ⟨_, _, _, h9, _⟩ := h9; exact nomatch h9)) gX5_turnsAt_X0_timeOfBeat rfl rfl hfo (by decide +kernel) rfl ⟨Nat.le_of_ble_eq_true rfl, Nat.le_of_ble_eq_true rfl⟩ rfl (Nat.le_of_ble_eq_true rfl) dX5_turnsAt_47 ⟨(show 0 + 0 ≤ 0 by omega), (show 0 + 0 ≤ 0 by omega)⟩ (fun v19 w20 h21 => ?_)
        obtain ⟨h21, h22⟩ := h21
        cases h21
        subst w20
        refine j_after (st' := [.long (tmV (cl3 0) (cl3 0 - cl3 (min 4 (n - 1))) (u 2 (pe3 0) - u 2 (pe3 (min 4 (n - 1)))) (u 2 (pe3 0)) (u 2 z))]) (k' := 0) (n' := 0) rfl rfl rfl ?_
        refine j_aload_n dX5_turnsAt_50 1 rfl ?_
        refine j_get flX5_turnsAt_40 hpt rfl dX5_turnsAt_51 ?_
        refine j_i2l dX5_turnsAt_54 rfl ?_
        refine j_lsub dX5_turnsAt_55 ?_
        exact j_lret rfl ⟨rfl, rfl⟩ (show 0 ≤ 0 by omega) (show 0 ≤ 0 by omega) dX5_turnsAt_56
      · skip
        exfalso; omega
abbrev rX5_cue : Room := { frames := 4, cells := 0, slots := 0, locals := 91 }
theorem flX5_cue_27 : FL wsX5_cue RX5 27 5 3 := ⟨RX5, TX5, 6, rfl, by decide, by decide +kernel, by decide +kernel⟩
theorem flX5_cue_36 : FL wsX5_cue RX5 36 5 4 := ⟨RX5, TX5, 6, rfl, by decide, by decide +kernel, by decide +kernel⟩
set_option maxRecDepth 100000 in
theorem mX5_cue_0 : Cond.constantLong RX5 181 (-1) ∈ wsX5_cue := by decide +kernel
set_option maxHeartbeats 4000000 in
set_option maxRecDepth 100000 in
theorem c_cue0 {w : pW} {fo sc pr ar de ms mn nt : Nat} {cm : Nat} {bf nx ah : Option Nat} {cl pe pb pc an : Nat}  (hfo : w fo = some (.inr (0, [.ref sc, .ref pr, .ref ar, .ref de, .ref ms, .ref mn, .int (nI nt)]))) (hm : w mn = some (.inr (1, [va_rf bf, va_rf nx, .ref cm, .int (nI cl), .int (nI pe), .int (nI pb), .int (nI pc), .int (nI an), va_rf none, va_rf ah]))) {fa ev be cu st me pa : Nat} {f : Nat → Int32} {u : Nat → Nat → Nat} {bh : Nat → Option Nat} (hs : w sc = some (.inr (3, [.ref fa, .int (nI ev), .int (nI be), .int (nI cu), .int (nI st), .int (nI me), .int (nI pa)]))) (hf : w fa = some (.inl (0, 1400, .inl f))) (hM : Mus f ev st u bh) {pt tx tl rd ld : Nat} (hpt : w pt = some (.inr (5, [.ref tx, .int (nI tl), .ref rd, .ref sc, .ref fo, .int (nI ld)]))) (hpe : pe < ev) : Ct yX5_cue wsX5_cue rX5_cue [.ref pt] w (fun o w9 => o = .inl (some (.long (-1))) ∧ w9 = w) := by
  refine Ct.of (cc := cX5_cue) (own := RX5) (nm := "cue") (nL := 2) (ret := (some .long)) (by decide +kernel) rfl rfl rfl (Nat.le_of_ble_eq_true rfl) ?_
  refine j_lvE (lv' := [(0, .ref pt)]) rfl ?_
  have hev9 := hM.hev
  refine j_aload_n dX5_cue_0 0 rfl ?_
  refine j_get flX5_cue_27 hpt rfl dX5_cue_1 ?_
  refine j_aload_n dX5_cue_4 0 rfl ?_
  refine j_get flX5_cue_36 hpt rfl dX5_cue_5 ?_
  refine j_callV (rm := rX0_placeEvent) (As := []) (st := [.ref sc]) (b0 := fo) (ci := 0) (na := 0) (c_placeEvent hfo hm) (by intro E w9 h9; first | exact nomatch h9.1 | (obtain ⟨_, h9, _⟩ := h9; exact nomatch h9) | (obtain ⟨_, _, _, h9, _⟩ := h9; exact nomatch h9)) gX5_cue_X0_placeEvent rfl rfl hfo (by decide +kernel) rfl ⟨Nat.le_of_ble_eq_true rfl, Nat.le_of_ble_eq_true rfl⟩ rfl (Nat.le_of_ble_eq_true rfl) dX5_cue_8 ⟨(show 0 + 0 ≤ 0 by omega), (show 0 + 0 ≤ 0 by omega)⟩ (fun v1 w2 h3 => ?_)
  obtain ⟨h3, h4⟩ := h3
  cases h3
  subst w2
  refine j_after (st' := [.int (nI pe), .ref sc]) (k' := 0) (n' := 0) rfl rfl rfl ?_
  refine j_callV (rm := rX3_cueFrom) (As := [.int (nI pe)]) (st := []) (b0 := sc) (ci := 3) (na := 1) (c_cueFrom (e := pe) hs hf (by omega) (by omega)) (by intro E w9 h9; first | exact nomatch h9.1 | (obtain ⟨_, h9, _⟩ := h9; exact nomatch h9) | (obtain ⟨_, _, _, h9, _⟩ := h9; exact nomatch h9)) gX5_cue_X3_cueFrom rfl rfl hs (by decide +kernel) rfl ⟨Nat.le_of_ble_eq_true rfl, Nat.le_of_ble_eq_true rfl⟩ rfl (Nat.le_of_ble_eq_true rfl) dX5_cue_11 ⟨(show 0 + 0 ≤ 0 by omega), (show 0 + 0 ≤ 0 by omega)⟩ (fun v5 w6 h7 => ?_)
  obtain ⟨h7, h8⟩ := h7
  cases h7
  subst w6
  refine j_after (st' := [.int (on1 (cuF f ev pe))]) (k' := 0) (n' := 0) rfl rfl rfl ?_
  rcases hnx : cuF f ev pe with _ | z
  · skip
    refine j_eqi (y := -1) rfl ?_
    refine j_istore_n (lv' := [(1, .int ((-1))), (0, .ref pt)]) dX5_cue_14 (Nat.le_of_ble_eq_true rfl) rfl ?_
    refine j_iload_n dX5_cue_15 0 rfl ?_
    refine j_iconst (v := (-1)) dX5_cue_16 (by decide) ?_
    refine j_icmp_ne 26 dX5_cue_17 (by decide) (fun c17 => ?_) (fun c17 => ?_)
    · skip
      exact absurd rfl c17
    · skip
      refine j_ldc2 (v := (-1)) dX5_cue_20 mX5_cue_0 ?_
      refine j_goto 42 dX5_cue_23 (by decide) ?_
      exact j_lret rfl ⟨rfl, rfl⟩ (show 0 ≤ 0 by omega) (show 0 ≤ 0 by omega) dX5_cue_42
  · skip
    have hz := (fstN_some hnx).2.1
    refine j_eqi (y := nI z) rfl ?_
    refine j_istore_n (lv' := [(1, .int (nI z)), (0, .ref pt)]) dX5_cue_14 (Nat.le_of_ble_eq_true rfl) rfl ?_
    refine j_iload_n dX5_cue_15 0 rfl ?_
    refine j_iconst (v := (-1)) dX5_cue_16 (by decide) ?_
    refine j_icmp_ne 26 dX5_cue_17 (by decide) (fun c17 => ?_) (fun c17 => ?_)
    · skip
      refine j_aload_n dX5_cue_26 1 rfl ?_
      refine j_get flX5_cue_36 hpt rfl dX5_cue_27 ?_
      refine j_aload_n dX5_cue_30 1 rfl ?_
      refine j_get flX5_cue_27 hpt rfl dX5_cue_31 ?_
      refine j_iload_n dX5_cue_34 0 rfl ?_
      refine j_iconst (v := nI 2) dX5_cue_35 (by decide) ?_
      have hrg9 := Mus.rg (e := z) hM (by omega)
      have hbd10 := Mus.bd (e := z) hM (by omega)
      refine j_callV (rm := rX3_fact) (As := [.int (nI z), .int (nI 2)]) (st := [.ref fo]) (b0 := sc) (ci := 3) (na := 2) (c_fact (e := z) (c := 2) hs hf (by omega) (by omega)) (by intro E w9 h9; first | exact nomatch h9.1 | (obtain ⟨_, h9, _⟩ := h9; exact nomatch h9) | (obtain ⟨_, _, _, h9, _⟩ := h9; exact nomatch h9)) gX5_cue_X3_fact rfl rfl hs (by decide +kernel) rfl ⟨Nat.le_of_ble_eq_true rfl, Nat.le_of_ble_eq_true rfl⟩ rfl (Nat.le_of_ble_eq_true rfl) dX5_cue_36 ⟨(show 0 + 0 ≤ 0 by omega), (show 0 + 0 ≤ 0 by omega)⟩ (fun v11 w12 h13 => ?_)
      obtain ⟨h13, h14⟩ := h13
      cases h13
      subst w12
      refine j_after (st' := [.int (f (z * 14 + 2)), .ref fo]) (k' := 0) (n' := 0) rfl rfl rfl ?_
      refine j_eqi (y := nI (u 2 z)) (Mus.c2 hM (by omega)) ?_
      refine j_callV (rm := rX0_timeOfBeat) (As := [.int (nI (u 2 z))]) (st := []) (b0 := fo) (ci := 0) (na := 1) (c_timeOfBeat0 (bt := u 2 z) hfo hm hs hf hM ) (by intro E w9 h9; first | exact nomatch h9.1 | (obtain ⟨_, h9, _⟩ := h9; exact nomatch h9) | (obtain ⟨_, _, _, h9, _⟩ := h9; exact nomatch h9)) gX5_cue_X0_timeOfBeat rfl rfl hfo (by decide +kernel) rfl ⟨Nat.le_of_ble_eq_true rfl, Nat.le_of_ble_eq_true rfl⟩ rfl (Nat.le_of_ble_eq_true rfl) dX5_cue_39 ⟨(show 0 + 0 ≤ 0 by omega), (show 0 + 0 ≤ 0 by omega)⟩ (fun v15 w16 h17 => ?_)
      obtain ⟨h17, h18⟩ := h17
      cases h17
      subst w16
      refine j_after (st' := [.long (-1)]) (k' := 0) (n' := 0) rfl rfl rfl ?_
      exact j_lret rfl ⟨rfl, rfl⟩ (show 0 ≤ 0 by omega) (show 0 ≤ 0 by omega) dX5_cue_42
    · skip
      exact absurd c17 (nI_m1 (by omega))
set_option maxHeartbeats 4000000 in
set_option maxRecDepth 100000 in
theorem c_cue1 {w : pW} {fo sc pr ar de ms mn nt : Nat} {cm : Nat} {bf nx ah : Option Nat} {cl pe pb pc an : Nat} {lc : Nat → Nat} {bf3 nx3 av3 : Nat → Option Nat} {ca3 cl3 pe3 pb3 pc3 an3 : Nat → Nat} {n : Nat} (hfo : w fo = some (.inr (0, [.ref sc, .ref pr, .ref ar, .ref de, .ref ms, .ref mn, .int (nI nt)]))) (hm : w mn = some (.inr (1, [va_rf bf, va_rf nx, .ref cm, .int (nI cl), .int (nI pe), .int (nI pb), .int (nI pc), .int (nI an), va_rf (some (lc 0)), va_rf ah]))) {fa ev be cu st me pa : Nat} {f : Nat → Int32} {u : Nat → Nat → Nat} {bh : Nat → Option Nat} (hs : w sc = some (.inr (3, [.ref fa, .int (nI ev), .int (nI be), .int (nI cu), .int (nI st), .int (nI me), .int (nI pa)]))) (hf : w fa = some (.inl (0, 1400, .inl f))) (hM : Mus f ev st u bh) (hch : ∀ i, i < n → w (lc i) = some (.inr (1, [va_rf (bf3 i), va_rf (nx3 i), .ref (ca3 i), .int (nI (cl3 i)), .int (nI (pe3 i)), .int (nI (pb3 i)), .int (nI (pc3 i)), .int (nI (an3 i)), va_rf (av3 i), va_rf ((if i + 1 < n then some (lc (i + 1)) else none))]))) (hn : n = 1) (hpe3 : ∀ i, i < n → pe3 i < ev) {pt tx tl rd ld : Nat} (hpt : w pt = some (.inr (5, [.ref tx, .int (nI tl), .ref rd, .ref sc, .ref fo, .int (nI ld)]))) (hpe : pe < ev) : Ct yX5_cue wsX5_cue rX5_cue [.ref pt] w (fun o w9 => o = .inl (some (.long (match cuF f ev pe with | none => -1 | some z => tmV (cl3 0) 500 1 (u 2 (pe3 0)) (u 2 z)))) ∧ w9 = w) := by
  refine Ct.of (cc := cX5_cue) (own := RX5) (nm := "cue") (nL := 2) (ret := (some .long)) (by decide +kernel) rfl rfl rfl (Nat.le_of_ble_eq_true rfl) ?_
  refine j_lvE (lv' := [(0, .ref pt)]) rfl ?_
  have hev9 := hM.hev
  refine j_aload_n dX5_cue_0 0 rfl ?_
  refine j_get flX5_cue_27 hpt rfl dX5_cue_1 ?_
  refine j_aload_n dX5_cue_4 0 rfl ?_
  refine j_get flX5_cue_36 hpt rfl dX5_cue_5 ?_
  refine j_callV (rm := rX0_placeEvent) (As := []) (st := [.ref sc]) (b0 := fo) (ci := 0) (na := 0) (c_placeEvent hfo hm) (by intro E w9 h9; first | exact nomatch h9.1 | (obtain ⟨_, h9, _⟩ := h9; exact nomatch h9) | (obtain ⟨_, _, _, h9, _⟩ := h9; exact nomatch h9)) gX5_cue_X0_placeEvent rfl rfl hfo (by decide +kernel) rfl ⟨Nat.le_of_ble_eq_true rfl, Nat.le_of_ble_eq_true rfl⟩ rfl (Nat.le_of_ble_eq_true rfl) dX5_cue_8 ⟨(show 0 + 0 ≤ 0 by omega), (show 0 + 0 ≤ 0 by omega)⟩ (fun v1 w2 h3 => ?_)
  obtain ⟨h3, h4⟩ := h3
  cases h3
  subst w2
  refine j_after (st' := [.int (nI pe), .ref sc]) (k' := 0) (n' := 0) rfl rfl rfl ?_
  refine j_callV (rm := rX3_cueFrom) (As := [.int (nI pe)]) (st := []) (b0 := sc) (ci := 3) (na := 1) (c_cueFrom (e := pe) hs hf (by omega) (by omega)) (by intro E w9 h9; first | exact nomatch h9.1 | (obtain ⟨_, h9, _⟩ := h9; exact nomatch h9) | (obtain ⟨_, _, _, h9, _⟩ := h9; exact nomatch h9)) gX5_cue_X3_cueFrom rfl rfl hs (by decide +kernel) rfl ⟨Nat.le_of_ble_eq_true rfl, Nat.le_of_ble_eq_true rfl⟩ rfl (Nat.le_of_ble_eq_true rfl) dX5_cue_11 ⟨(show 0 + 0 ≤ 0 by omega), (show 0 + 0 ≤ 0 by omega)⟩ (fun v5 w6 h7 => ?_)
  obtain ⟨h7, h8⟩ := h7
  cases h7
  subst w6
  refine j_after (st' := [.int (on1 (cuF f ev pe))]) (k' := 0) (n' := 0) rfl rfl rfl ?_
  rcases hnx : cuF f ev pe with _ | z
  · skip
    refine j_eqi (y := -1) rfl ?_
    refine j_istore_n (lv' := [(1, .int ((-1))), (0, .ref pt)]) dX5_cue_14 (Nat.le_of_ble_eq_true rfl) rfl ?_
    refine j_iload_n dX5_cue_15 0 rfl ?_
    refine j_iconst (v := (-1)) dX5_cue_16 (by decide) ?_
    refine j_icmp_ne 26 dX5_cue_17 (by decide) (fun c17 => ?_) (fun c17 => ?_)
    · skip
      exact absurd rfl c17
    · skip
      refine j_ldc2 (v := (-1)) dX5_cue_20 mX5_cue_0 ?_
      refine j_goto 42 dX5_cue_23 (by decide) ?_
      exact j_lret rfl ⟨rfl, rfl⟩ (show 0 ≤ 0 by omega) (show 0 ≤ 0 by omega) dX5_cue_42
  · skip
    have hz := (fstN_some hnx).2.1
    refine j_eqi (y := nI z) rfl ?_
    refine j_istore_n (lv' := [(1, .int (nI z)), (0, .ref pt)]) dX5_cue_14 (Nat.le_of_ble_eq_true rfl) rfl ?_
    refine j_iload_n dX5_cue_15 0 rfl ?_
    refine j_iconst (v := (-1)) dX5_cue_16 (by decide) ?_
    refine j_icmp_ne 26 dX5_cue_17 (by decide) (fun c17 => ?_) (fun c17 => ?_)
    · skip
      refine j_aload_n dX5_cue_26 1 rfl ?_
      refine j_get flX5_cue_36 hpt rfl dX5_cue_27 ?_
      refine j_aload_n dX5_cue_30 1 rfl ?_
      refine j_get flX5_cue_27 hpt rfl dX5_cue_31 ?_
      refine j_iload_n dX5_cue_34 0 rfl ?_
      refine j_iconst (v := nI 2) dX5_cue_35 (by decide) ?_
      have hrg9 := Mus.rg (e := z) hM (by omega)
      have hbd10 := Mus.bd (e := z) hM (by omega)
      refine j_callV (rm := rX3_fact) (As := [.int (nI z), .int (nI 2)]) (st := [.ref fo]) (b0 := sc) (ci := 3) (na := 2) (c_fact (e := z) (c := 2) hs hf (by omega) (by omega)) (by intro E w9 h9; first | exact nomatch h9.1 | (obtain ⟨_, h9, _⟩ := h9; exact nomatch h9) | (obtain ⟨_, _, _, h9, _⟩ := h9; exact nomatch h9)) gX5_cue_X3_fact rfl rfl hs (by decide +kernel) rfl ⟨Nat.le_of_ble_eq_true rfl, Nat.le_of_ble_eq_true rfl⟩ rfl (Nat.le_of_ble_eq_true rfl) dX5_cue_36 ⟨(show 0 + 0 ≤ 0 by omega), (show 0 + 0 ≤ 0 by omega)⟩ (fun v11 w12 h13 => ?_)
      obtain ⟨h13, h14⟩ := h13
      cases h13
      subst w12
      refine j_after (st' := [.int (f (z * 14 + 2)), .ref fo]) (k' := 0) (n' := 0) rfl rfl rfl ?_
      refine j_eqi (y := nI (u 2 z)) (Mus.c2 hM (by omega)) ?_
      refine j_callV (rm := rX0_timeOfBeat) (As := [.int (nI (u 2 z))]) (st := []) (b0 := fo) (ci := 0) (na := 1) (c_timeOfBeat1 (bt := u 2 z) hfo hm hs hf hM hch hn hpe3) (by intro E w9 h9; first | exact nomatch h9.1 | (obtain ⟨_, h9, _⟩ := h9; exact nomatch h9) | (obtain ⟨_, _, _, h9, _⟩ := h9; exact nomatch h9)) gX5_cue_X0_timeOfBeat rfl rfl hfo (by decide +kernel) rfl ⟨Nat.le_of_ble_eq_true rfl, Nat.le_of_ble_eq_true rfl⟩ rfl (Nat.le_of_ble_eq_true rfl) dX5_cue_39 ⟨(show 0 + 0 ≤ 0 by omega), (show 0 + 0 ≤ 0 by omega)⟩ (fun v15 w16 h17 => ?_)
      obtain ⟨h17, h18⟩ := h17
      cases h17
      subst w16
      refine j_after (st' := [.long (tmV (cl3 0) 500 1 (u 2 (pe3 0)) (u 2 z))]) (k' := 0) (n' := 0) rfl rfl rfl ?_
      exact j_lret rfl ⟨rfl, rfl⟩ (show 0 ≤ 0 by omega) (show 0 ≤ 0 by omega) dX5_cue_42
    · skip
      exact absurd c17 (nI_m1 (by omega))
set_option maxHeartbeats 4000000 in
set_option maxRecDepth 100000 in
theorem c_cue2 {w : pW} {fo sc pr ar de ms mn nt : Nat} {cm : Nat} {bf nx ah : Option Nat} {cl pe pb pc an : Nat} {lc : Nat → Nat} {bf3 nx3 av3 : Nat → Option Nat} {ca3 cl3 pe3 pb3 pc3 an3 : Nat → Nat} {n : Nat} (hfo : w fo = some (.inr (0, [.ref sc, .ref pr, .ref ar, .ref de, .ref ms, .ref mn, .int (nI nt)]))) (hm : w mn = some (.inr (1, [va_rf bf, va_rf nx, .ref cm, .int (nI cl), .int (nI pe), .int (nI pb), .int (nI pc), .int (nI an), va_rf (some (lc 0)), va_rf ah]))) {fa ev be cu st me pa : Nat} {f : Nat → Int32} {u : Nat → Nat → Nat} {bh : Nat → Option Nat} (hs : w sc = some (.inr (3, [.ref fa, .int (nI ev), .int (nI be), .int (nI cu), .int (nI st), .int (nI me), .int (nI pa)]))) (hf : w fa = some (.inl (0, 1400, .inl f))) (hM : Mus f ev st u bh) (hch : ∀ i, i < n → w (lc i) = some (.inr (1, [va_rf (bf3 i), va_rf (nx3 i), .ref (ca3 i), .int (nI (cl3 i)), .int (nI (pe3 i)), .int (nI (pb3 i)), .int (nI (pc3 i)), .int (nI (an3 i)), va_rf (av3 i), va_rf ((if i + 1 < n then some (lc (i + 1)) else none))]))) (hn : 2 ≤ n) (hn2 : n ≤ 1000) (hcl : ∀ i, i < n → cl3 i ≤ cl3 0) (hclb : cl3 0 < 2 ^ 31) (hpe3 : ∀ i, i < n → pe3 i < ev) (hbt : ∀ i, i < n → u 2 (pe3 i) ≤ u 2 (pe3 0)) (hlo : 0 < u 2 (pe3 0) - u 2 (pe3 (min 4 (n - 1)))) {pt tx tl rd ld : Nat} (hpt : w pt = some (.inr (5, [.ref tx, .int (nI tl), .ref rd, .ref sc, .ref fo, .int (nI ld)]))) (hpe : pe < ev) : Ct yX5_cue wsX5_cue rX5_cue [.ref pt] w (fun o w9 => o = .inl (some (.long (match cuF f ev pe with | none => -1 | some z => tmV (cl3 0) (cl3 0 - cl3 (min 4 (n - 1))) (u 2 (pe3 0) - u 2 (pe3 (min 4 (n - 1)))) (u 2 (pe3 0)) (u 2 z)))) ∧ w9 = w) := by
  refine Ct.of (cc := cX5_cue) (own := RX5) (nm := "cue") (nL := 2) (ret := (some .long)) (by decide +kernel) rfl rfl rfl (Nat.le_of_ble_eq_true rfl) ?_
  refine j_lvE (lv' := [(0, .ref pt)]) rfl ?_
  have hev9 := hM.hev
  refine j_aload_n dX5_cue_0 0 rfl ?_
  refine j_get flX5_cue_27 hpt rfl dX5_cue_1 ?_
  refine j_aload_n dX5_cue_4 0 rfl ?_
  refine j_get flX5_cue_36 hpt rfl dX5_cue_5 ?_
  refine j_callV (rm := rX0_placeEvent) (As := []) (st := [.ref sc]) (b0 := fo) (ci := 0) (na := 0) (c_placeEvent hfo hm) (by intro E w9 h9; first | exact nomatch h9.1 | (obtain ⟨_, h9, _⟩ := h9; exact nomatch h9) | (obtain ⟨_, _, _, h9, _⟩ := h9; exact nomatch h9)) gX5_cue_X0_placeEvent rfl rfl hfo (by decide +kernel) rfl ⟨Nat.le_of_ble_eq_true rfl, Nat.le_of_ble_eq_true rfl⟩ rfl (Nat.le_of_ble_eq_true rfl) dX5_cue_8 ⟨(show 0 + 0 ≤ 0 by omega), (show 0 + 0 ≤ 0 by omega)⟩ (fun v1 w2 h3 => ?_)
  obtain ⟨h3, h4⟩ := h3
  cases h3
  subst w2
  refine j_after (st' := [.int (nI pe), .ref sc]) (k' := 0) (n' := 0) rfl rfl rfl ?_
  refine j_callV (rm := rX3_cueFrom) (As := [.int (nI pe)]) (st := []) (b0 := sc) (ci := 3) (na := 1) (c_cueFrom (e := pe) hs hf (by omega) (by omega)) (by intro E w9 h9; first | exact nomatch h9.1 | (obtain ⟨_, h9, _⟩ := h9; exact nomatch h9) | (obtain ⟨_, _, _, h9, _⟩ := h9; exact nomatch h9)) gX5_cue_X3_cueFrom rfl rfl hs (by decide +kernel) rfl ⟨Nat.le_of_ble_eq_true rfl, Nat.le_of_ble_eq_true rfl⟩ rfl (Nat.le_of_ble_eq_true rfl) dX5_cue_11 ⟨(show 0 + 0 ≤ 0 by omega), (show 0 + 0 ≤ 0 by omega)⟩ (fun v5 w6 h7 => ?_)
  obtain ⟨h7, h8⟩ := h7
  cases h7
  subst w6
  refine j_after (st' := [.int (on1 (cuF f ev pe))]) (k' := 0) (n' := 0) rfl rfl rfl ?_
  rcases hnx : cuF f ev pe with _ | z
  · skip
    refine j_eqi (y := -1) rfl ?_
    refine j_istore_n (lv' := [(1, .int ((-1))), (0, .ref pt)]) dX5_cue_14 (Nat.le_of_ble_eq_true rfl) rfl ?_
    refine j_iload_n dX5_cue_15 0 rfl ?_
    refine j_iconst (v := (-1)) dX5_cue_16 (by decide) ?_
    refine j_icmp_ne 26 dX5_cue_17 (by decide) (fun c17 => ?_) (fun c17 => ?_)
    · skip
      exact absurd rfl c17
    · skip
      refine j_ldc2 (v := (-1)) dX5_cue_20 mX5_cue_0 ?_
      refine j_goto 42 dX5_cue_23 (by decide) ?_
      exact j_lret rfl ⟨rfl, rfl⟩ (show 0 ≤ 0 by omega) (show 0 ≤ 0 by omega) dX5_cue_42
  · skip
    have hz := (fstN_some hnx).2.1
    refine j_eqi (y := nI z) rfl ?_
    refine j_istore_n (lv' := [(1, .int (nI z)), (0, .ref pt)]) dX5_cue_14 (Nat.le_of_ble_eq_true rfl) rfl ?_
    refine j_iload_n dX5_cue_15 0 rfl ?_
    refine j_iconst (v := (-1)) dX5_cue_16 (by decide) ?_
    refine j_icmp_ne 26 dX5_cue_17 (by decide) (fun c17 => ?_) (fun c17 => ?_)
    · skip
      refine j_aload_n dX5_cue_26 1 rfl ?_
      refine j_get flX5_cue_36 hpt rfl dX5_cue_27 ?_
      refine j_aload_n dX5_cue_30 1 rfl ?_
      refine j_get flX5_cue_27 hpt rfl dX5_cue_31 ?_
      refine j_iload_n dX5_cue_34 0 rfl ?_
      refine j_iconst (v := nI 2) dX5_cue_35 (by decide) ?_
      have hrg9 := Mus.rg (e := z) hM (by omega)
      have hbd10 := Mus.bd (e := z) hM (by omega)
      refine j_callV (rm := rX3_fact) (As := [.int (nI z), .int (nI 2)]) (st := [.ref fo]) (b0 := sc) (ci := 3) (na := 2) (c_fact (e := z) (c := 2) hs hf (by omega) (by omega)) (by intro E w9 h9; first | exact nomatch h9.1 | (obtain ⟨_, h9, _⟩ := h9; exact nomatch h9) | (obtain ⟨_, _, _, h9, _⟩ := h9; exact nomatch h9)) gX5_cue_X3_fact rfl rfl hs (by decide +kernel) rfl ⟨Nat.le_of_ble_eq_true rfl, Nat.le_of_ble_eq_true rfl⟩ rfl (Nat.le_of_ble_eq_true rfl) dX5_cue_36 ⟨(show 0 + 0 ≤ 0 by omega), (show 0 + 0 ≤ 0 by omega)⟩ (fun v11 w12 h13 => ?_)
      obtain ⟨h13, h14⟩ := h13
      cases h13
      subst w12
      refine j_after (st' := [.int (f (z * 14 + 2)), .ref fo]) (k' := 0) (n' := 0) rfl rfl rfl ?_
      refine j_eqi (y := nI (u 2 z)) (Mus.c2 hM (by omega)) ?_
      refine j_callV (rm := rX0_timeOfBeat) (As := [.int (nI (u 2 z))]) (st := []) (b0 := fo) (ci := 0) (na := 1) (c_timeOfBeat2 (bt := u 2 z) hfo hm hs hf hM hch hn hn2 hcl hclb hpe3 hbt hlo) (by intro E w9 h9; first | exact nomatch h9.1 | (obtain ⟨_, h9, _⟩ := h9; exact nomatch h9) | (obtain ⟨_, _, _, h9, _⟩ := h9; exact nomatch h9)) gX5_cue_X0_timeOfBeat rfl rfl hfo (by decide +kernel) rfl ⟨Nat.le_of_ble_eq_true rfl, Nat.le_of_ble_eq_true rfl⟩ rfl (Nat.le_of_ble_eq_true rfl) dX5_cue_39 ⟨(show 0 + 0 ≤ 0 by omega), (show 0 + 0 ≤ 0 by omega)⟩ (fun v15 w16 h17 => ?_)
      obtain ⟨h17, h18⟩ := h17
      cases h17
      subst w16
      refine j_after (st' := [.long (tmV (cl3 0) (cl3 0 - cl3 (min 4 (n - 1))) (u 2 (pe3 0) - u 2 (pe3 (min 4 (n - 1)))) (u 2 (pe3 0)) (u 2 z))]) (k' := 0) (n' := 0) rfl rfl rfl ?_
      exact j_lret rfl ⟨rfl, rfl⟩ (show 0 ≤ 0 by omega) (show 0 ≤ 0 by omega) dX5_cue_42
    · skip
      exact absurd c17 (nI_m1 (by omega))
