abbrev rX0_placeEvent : Room := { frames := 0, cells := 0, slots := 0, locals := 0 }
theorem flX0_placeEvent_30 : FL wsX0_placeEvent RX0 30 0 5 := ⟨RX0, TX0, 7, rfl, by decide, by decide +kernel, by decide +kernel⟩
theorem flX0_placeEvent_74 : FL wsX0_placeEvent RX0 74 1 4 := ⟨RX1, TX1, 10, rfl, by decide, by decide +kernel, by decide +kernel⟩
set_option maxHeartbeats 4000000 in
set_option maxRecDepth 100000 in
theorem c_placeEvent {w : pW} {fo sc pr ar de ms mn nt : Nat} {cm : Nat} {bf nx av ah : Option Nat} {cl pe pb pc an : Nat} (hfo : w fo = some (.inr (0, [.ref sc, .ref pr, .ref ar, .ref de, .ref ms, .ref mn, .int (nI nt)]))) (hm : w mn = some (.inr (1, [va_rf bf, va_rf nx, .ref cm, .int (nI cl), .int (nI pe), .int (nI pb), .int (nI pc), .int (nI an), va_rf av, va_rf ah]))) : Ct yX0_placeEvent wsX0_placeEvent rX0_placeEvent [.ref fo] w (fun o w9 => o = .inl (some (.int (nI pe))) ∧ w9 = w) := by
  refine Ct.of (cc := cX0_placeEvent) (own := RX0) (nm := "placeEvent") (nL := 1) (ret := (some .int)) (by decide +kernel) rfl rfl rfl (Nat.le_of_ble_eq_true rfl) ?_
  refine j_lvE (lv' := [(0, .ref fo)]) rfl ?_
  refine j_aload_n dX0_placeEvent_0 0 rfl ?_
  refine j_get flX0_placeEvent_30 hfo rfl dX0_placeEvent_1 ?_
  refine j_get flX0_placeEvent_74 hm rfl dX0_placeEvent_4 ?_
  exact j_iret rfl ⟨rfl, rfl⟩ (show 0 ≤ 0 by omega) (show 0 ≤ 0 by omega) dX0_placeEvent_7
abbrev rX0_placeBits : Room := { frames := 0, cells := 0, slots := 0, locals := 0 }
theorem flX0_placeBits_30 : FL wsX0_placeBits RX0 30 0 5 := ⟨RX0, TX0, 7, rfl, by decide, by decide +kernel, by decide +kernel⟩
theorem flX0_placeBits_77 : FL wsX0_placeBits RX0 77 1 5 := ⟨RX1, TX1, 10, rfl, by decide, by decide +kernel, by decide +kernel⟩
set_option maxHeartbeats 4000000 in
set_option maxRecDepth 100000 in
theorem c_placeBits {w : pW} {fo sc pr ar de ms mn nt : Nat} {cm : Nat} {bf nx av ah : Option Nat} {cl pe pb pc an : Nat} (hfo : w fo = some (.inr (0, [.ref sc, .ref pr, .ref ar, .ref de, .ref ms, .ref mn, .int (nI nt)]))) (hm : w mn = some (.inr (1, [va_rf bf, va_rf nx, .ref cm, .int (nI cl), .int (nI pe), .int (nI pb), .int (nI pc), .int (nI an), va_rf av, va_rf ah]))) : Ct yX0_placeBits wsX0_placeBits rX0_placeBits [.ref fo] w (fun o w9 => o = .inl (some (.int (nI pb))) ∧ w9 = w) := by
  refine Ct.of (cc := cX0_placeBits) (own := RX0) (nm := "placeBits") (nL := 1) (ret := (some .int)) (by decide +kernel) rfl rfl rfl (Nat.le_of_ble_eq_true rfl) ?_
  refine j_lvE (lv' := [(0, .ref fo)]) rfl ?_
  refine j_aload_n dX0_placeBits_0 0 rfl ?_
  refine j_get flX0_placeBits_30 hfo rfl dX0_placeBits_1 ?_
  refine j_get flX0_placeBits_77 hm rfl dX0_placeBits_4 ?_
  exact j_iret rfl ⟨rfl, rfl⟩ (show 0 ≤ 0 by omega) (show 0 ≤ 0 by omega) dX0_placeBits_7
abbrev rX0_placeCost : Room := { frames := 0, cells := 0, slots := 0, locals := 0 }
theorem flX0_placeCost_30 : FL wsX0_placeCost RX0 30 0 5 := ⟨RX0, TX0, 7, rfl, by decide, by decide +kernel, by decide +kernel⟩
theorem flX0_placeCost_51 : FL wsX0_placeCost RX0 51 1 6 := ⟨RX1, TX1, 10, rfl, by decide, by decide +kernel, by decide +kernel⟩
set_option maxHeartbeats 4000000 in
set_option maxRecDepth 100000 in
theorem c_placeCost {w : pW} {fo sc pr ar de ms mn nt : Nat} {cm : Nat} {bf nx av ah : Option Nat} {cl pe pb pc an : Nat} (hfo : w fo = some (.inr (0, [.ref sc, .ref pr, .ref ar, .ref de, .ref ms, .ref mn, .int (nI nt)]))) (hm : w mn = some (.inr (1, [va_rf bf, va_rf nx, .ref cm, .int (nI cl), .int (nI pe), .int (nI pb), .int (nI pc), .int (nI an), va_rf av, va_rf ah]))) : Ct yX0_placeCost wsX0_placeCost rX0_placeCost [.ref fo] w (fun o w9 => o = .inl (some (.int (nI pc))) ∧ w9 = w) := by
  refine Ct.of (cc := cX0_placeCost) (own := RX0) (nm := "placeCost") (nL := 1) (ret := (some .int)) (by decide +kernel) rfl rfl rfl (Nat.le_of_ble_eq_true rfl) ?_
  refine j_lvE (lv' := [(0, .ref fo)]) rfl ?_
  refine j_aload_n dX0_placeCost_0 0 rfl ?_
  refine j_get flX0_placeCost_30 hfo rfl dX0_placeCost_1 ?_
  refine j_get flX0_placeCost_51 hm rfl dX0_placeCost_4 ?_
  exact j_iret rfl ⟨rfl, rfl⟩ (show 0 ≤ 0 by omega) (show 0 ≤ 0 by omega) dX0_placeCost_7
abbrev rX0_anchors : Room := { frames := 0, cells := 0, slots := 0, locals := 0 }
theorem flX0_anchors_30 : FL wsX0_anchors RX0 30 0 5 := ⟨RX0, TX0, 7, rfl, by decide, by decide +kernel, by decide +kernel⟩
theorem flX0_anchors_80 : FL wsX0_anchors RX0 80 1 7 := ⟨RX1, TX1, 10, rfl, by decide, by decide +kernel, by decide +kernel⟩
set_option maxHeartbeats 4000000 in
set_option maxRecDepth 100000 in
theorem c_anchors {w : pW} {fo sc pr ar de ms mn nt : Nat} {cm : Nat} {bf nx av ah : Option Nat} {cl pe pb pc an : Nat} (hfo : w fo = some (.inr (0, [.ref sc, .ref pr, .ref ar, .ref de, .ref ms, .ref mn, .int (nI nt)]))) (hm : w mn = some (.inr (1, [va_rf bf, va_rf nx, .ref cm, .int (nI cl), .int (nI pe), .int (nI pb), .int (nI pc), .int (nI an), va_rf av, va_rf ah]))) : Ct yX0_anchors wsX0_anchors rX0_anchors [.ref fo] w (fun o w9 => o = .inl (some (.int (nI an))) ∧ w9 = w) := by
  refine Ct.of (cc := cX0_anchors) (own := RX0) (nm := "anchors") (nL := 1) (ret := (some .int)) (by decide +kernel) rfl rfl rfl (Nat.le_of_ble_eq_true rfl) ?_
  refine j_lvE (lv' := [(0, .ref fo)]) rfl ?_
  refine j_aload_n dX0_anchors_0 0 rfl ?_
  refine j_get flX0_anchors_30 hfo rfl dX0_anchors_1 ?_
  refine j_get flX0_anchors_80 hm rfl dX0_anchors_4 ?_
  exact j_iret rfl ⟨rfl, rfl⟩ (show 0 ≤ 0 by omega) (show 0 ≤ 0 by omega) dX0_anchors_7
abbrev rX0_latestTime : Room := { frames := 0, cells := 0, slots := 0, locals := 0 }
theorem flX0_latestTime_57 : FL wsX0_latestTime RX0 57 0 6 := ⟨RX0, TX0, 7, rfl, by decide, by decide +kernel, by decide +kernel⟩
theorem flX0_latestTime_30 : FL wsX0_latestTime RX0 30 0 5 := ⟨RX0, TX0, 7, rfl, by decide, by decide +kernel, by decide +kernel⟩
theorem flX0_latestTime_71 : FL wsX0_latestTime RX0 71 1 3 := ⟨RX1, TX1, 10, rfl, by decide, by decide +kernel, by decide +kernel⟩
set_option maxHeartbeats 4000000 in
set_option maxRecDepth 100000 in
theorem c_latestTime {w : pW} {fo sc pr ar de ms mn nt : Nat} {cm : Nat} {bf nx av ah : Option Nat} {cl pe pb pc an : Nat} (hfo : w fo = some (.inr (0, [.ref sc, .ref pr, .ref ar, .ref de, .ref ms, .ref mn, .int (nI nt)]))) (hm : w mn = some (.inr (1, [va_rf bf, va_rf nx, .ref cm, .int (nI cl), .int (nI pe), .int (nI pb), .int (nI pc), .int (nI an), va_rf av, va_rf ah]))) (hnt : nt < 2 ^ 31) : Ct yX0_latestTime wsX0_latestTime rX0_latestTime [.ref fo] w (fun o w9 => o = .inl (some (.int (nI (if nt = 0 then 0 else cl)))) ∧ w9 = w) := by
  refine Ct.of (cc := cX0_latestTime) (own := RX0) (nm := "latestTime") (nL := 1) (ret := (some .int)) (by decide +kernel) rfl rfl rfl (Nat.le_of_ble_eq_true rfl) ?_
  refine j_lvE (lv' := [(0, .ref fo)]) rfl ?_
  refine j_aload_n dX0_latestTime_0 0 rfl ?_
  refine j_get flX0_latestTime_57 hfo rfl dX0_latestTime_1 ?_
  refine j_if_neN 11 (by omega) dX0_latestTime_4 (by decide) (fun c4 => ?_) (fun c4 => ?_)
  · skip
    refine j_aload_n dX0_latestTime_11 0 rfl ?_
    refine j_get flX0_latestTime_30 hfo rfl dX0_latestTime_12 ?_
    refine j_get flX0_latestTime_71 hm rfl dX0_latestTime_15 ?_
    exact j_iret rfl ⟨by rw [if_neg (by omega)], rfl⟩ (show 0 ≤ 0 by omega) (show 0 ≤ 0 by omega) dX0_latestTime_18
  · skip
    refine j_iconst (v := nI 0) dX0_latestTime_7 (by decide) ?_
    refine j_goto 18 dX0_latestTime_8 (by decide) ?_
    exact j_iret rfl ⟨by rw [if_pos (by omega)], rfl⟩ (show 0 ≤ 0 by omega) (show 0 ≤ 0 by omega) dX0_latestTime_18
abbrev rX0_changePrice : Room := { frames := 2, cells := 0, slots := 0, locals := 42 }
theorem flX0_changePrice_9 : FL wsX0_changePrice RX0 9 0 1 := ⟨RX0, TX0, 7, rfl, by decide, by decide +kernel, by decide +kernel⟩
set_option maxHeartbeats 4000000 in
set_option maxRecDepth 100000 in
theorem c_changePrice {w : pW} {fo sc pr ar de ms mn nt : Nat} {p : Nat → Nat} (hfo : w fo = some (.inr (0, [.ref sc, .ref pr, .ref ar, .ref de, .ref ms, .ref mn, .int (nI nt)]))) (hp : w pr = some (.inl (0, 4, .inl (fun j9 => nI (p j9))))) (hpb : ∀ j, p j ≤ 50) {x v : Nat} (hx : x < 4) (hv : v ≤ 50) : Ct yX0_changePrice wsX0_changePrice rX0_changePrice [.ref fo, .int (nI x), .int (nI v)] w (fun o w9 => o = .inl (some (.int (nI (p x)))) ∧ w9 = va_up w pr (some (.inl (0, 4, .inl (fun j9 => nI ((va_up p x v) j9)))))) := by
  refine Ct.of (cc := cX0_changePrice) (own := RX0) (nm := "changePrice") (nL := 4) (ret := (some .int)) (by decide +kernel) rfl rfl rfl (Nat.le_of_ble_eq_true rfl) ?_
  refine j_lvE (lv' := [(0, .ref fo), (1, .int (nI x)), (2, .int (nI v))]) rfl ?_
  refine j_aload_n dX0_changePrice_0 0 rfl ?_
  refine j_iload_n dX0_changePrice_1 1 rfl ?_
  refine j_callV (rm := rX0_priceOf) (As := [.int (nI x)]) (st := []) (b0 := fo) (ci := 0) (na := 1) (c_priceOf (x := x) hfo hp hpb (by omega)) (by intro E w9 h9; first | exact nomatch h9.1 | (obtain ⟨_, h9, _⟩ := h9; exact nomatch h9) | (obtain ⟨_, _, _, h9, _⟩ := h9; exact nomatch h9)) gX0_changePrice_X0_priceOf rfl rfl hfo (by decide +kernel) rfl ⟨Nat.le_of_ble_eq_true rfl, Nat.le_of_ble_eq_true rfl⟩ rfl (Nat.le_of_ble_eq_true rfl) dX0_changePrice_2 ⟨(show 0 + 0 ≤ 0 by omega), (show 0 + 0 ≤ 0 by omega)⟩ (fun v1 w2 h3 => ?_)
  obtain ⟨h3, h4⟩ := h3
  cases h3
  subst w2
  refine j_after (st' := [.int (nI (p x))]) (k' := 0) (n' := 0) rfl rfl rfl ?_
  have hb5 := hpb x
  refine j_istore_n (lv' := [(3, .int (nI (p x))), (0, .ref fo), (1, .int (nI x)), (2, .int (nI v))]) dX0_changePrice_5 (Nat.le_of_ble_eq_true rfl) rfl ?_
  refine j_aload_n dX0_changePrice_6 1 rfl ?_
  refine j_iload_n dX0_changePrice_7 2 rfl ?_
  refine j_callV (rm := rX0_hasPrice) (As := [.int (nI x)]) (st := []) (b0 := fo) (ci := 0) (na := 1) (c_hasPriceN (x := x) hfo hp hpb (by omega)) (by intro E w9 h9; first | exact nomatch h9.1 | (obtain ⟨_, h9, _⟩ := h9; exact nomatch h9) | (obtain ⟨_, _, _, h9, _⟩ := h9; exact nomatch h9)) gX0_changePrice_X0_hasPrice rfl rfl hfo (by decide +kernel) rfl ⟨Nat.le_of_ble_eq_true rfl, Nat.le_of_ble_eq_true rfl⟩ rfl (Nat.le_of_ble_eq_true rfl) dX0_changePrice_8 ⟨(show 0 + 0 ≤ 0 by omega), (show 0 + 0 ≤ 0 by omega)⟩ (fun v6 w7 h8 => ?_)
  obtain ⟨h8, h9⟩ := h8
  cases h8
  subst w7
  refine j_after (st' := [.int (zb (decide (x < 4)))]) (k' := 0) (n' := 0) rfl rfl rfl ?_
  refine j_if_eq 21 dX0_changePrice_11 (by decide) (fun c11 => ?_) (fun c11 => ?_)
  · skip
    exfalso; have := of_decide_eq_false (zb_0 c11); omega
  · skip
    refine j_aload_n dX0_changePrice_14 1 rfl ?_
    refine j_get flX0_changePrice_9 hfo rfl dX0_changePrice_15 ?_
    refine j_iload_n dX0_changePrice_18 2 rfl ?_
    refine j_iload_n dX0_changePrice_19 3 rfl ?_
    refine j_iastn (j := x) (x := v) hp rfl (by omega) (by omega) dX0_changePrice_20 ?_
    refine j_w (fun w10 hw10 => ?_)
    have f11 := up_ne hw10 (fk hfo hp rfl) hfo
    have f12 : w10 pr = some (.inl (0, 4, .inl (fun j9 => nI ((va_up p x v) j9)))) := up_at hw10
    have hb13 : ∀ j9, (va_up p x v) j9 ≤ 50 := up_le hpb (by omega)
    refine j_iload_n dX0_changePrice_21 0 rfl ?_
    exact j_iret rfl ⟨rfl, hw10⟩ (show 0 ≤ 0 by omega) (show 0 ≤ 0 by omega) dX0_changePrice_22
abbrev rX0_forget : Room := { frames := 0, cells := 0, slots := 0, locals := 0 }
theorem flX0_forget_26 : FL wsX0_forget RX0 26 0 4 := ⟨RX0, TX0, 7, rfl, by decide, by decide +kernel, by decide +kernel⟩
theorem fsX0_forget_30 : FS wsX0_forget RX0 30 0 5 false (.object "PageTurner$Moment") := ⟨RX0, TX0, 7, tyX0, rfl, by decide, by decide +kernel, by decide +kernel, tyX0_ok, nmX0, rfl, rfl, rfl⟩
theorem fsX0_forget_57 : FS wsX0_forget RX0 57 0 6 false (.int) := ⟨RX0, TX0, 7, tyX0, rfl, by decide, by decide +kernel, by decide +kernel, tyX0_ok, nmX0, rfl, rfl, rfl⟩
set_option maxHeartbeats 4000000 in
set_option maxRecDepth 100000 in
theorem c_forget {w : pW} {fo sc pr ar de ms mn nt : Nat} (hfo : w fo = some (.inr (0, [.ref sc, .ref pr, .ref ar, .ref de, .ref ms, .ref mn, .int (nI nt)]))) : Ct yX0_forget wsX0_forget rX0_forget [.ref fo] w (fun o w9 => o = .inl none ∧ w9 = va_up w fo (some (.inr (0, [.ref sc, .ref pr, .ref ar, .ref de, .ref ms, .ref ms, .int (nI 0)])))) := by
  refine Ct.of (cc := cX0_forget) (own := RX0) (nm := "forget") (nL := 1) (ret := none) (by decide +kernel) rfl rfl rfl (Nat.le_of_ble_eq_true rfl) ?_
  refine j_lvE (lv' := [(0, .ref fo)]) rfl ?_
  refine j_aload_n dX0_forget_0 0 rfl ?_
  refine j_aload_n dX0_forget_1 0 rfl ?_
  refine j_get flX0_forget_26 hfo rfl dX0_forget_2 ?_
  refine j_put (fs9 := [.ref sc, .ref pr, .ref ar, .ref de, .ref ms, .ref ms, .int (nI nt)]) fsX0_forget_30 hfo rfl rfl (Nat.le_of_ble_eq_true rfl) rfl dX0_forget_5 ?_
  refine j_w (fun w1 hw1 => ?_)
  have f2 : w1 fo = some (.inr (0, [.ref sc, .ref pr, .ref ar, .ref de, .ref ms, .ref ms, .int (nI nt)])) := up_at hw1
  refine j_aload_n dX0_forget_8 0 rfl ?_
  refine j_iconst (v := nI 0) dX0_forget_9 (by decide) ?_
  refine j_put (fs9 := [.ref sc, .ref pr, .ref ar, .ref de, .ref ms, .ref ms, .int (nI 0)]) fsX0_forget_57 f2 rfl rfl (Nat.le_of_ble_eq_true rfl) rfl dX0_forget_10 ?_
  refine j_w (fun w3 hw3 => ?_)
  have f4 : w3 fo = some (.inr (0, [.ref sc, .ref pr, .ref ar, .ref de, .ref ms, .ref ms, .int (nI 0)])) := up_at hw3
  exact j_vret rfl ⟨rfl, by rw [hw3, hw1] <;> (try simp only [bx_uu]) <;> (try rfl)⟩ (show 0 ≤ 0 by omega) (show 0 ≤ 0 by omega) dX0_forget_13
abbrev rX0_takeBack : Room := { frames := 0, cells := 0, slots := 0, locals := 0 }
theorem flX0_takeBack_30 : FL wsX0_takeBack RX0 30 0 5 := ⟨RX0, TX0, 7, rfl, by decide, by decide +kernel, by decide +kernel⟩
theorem flX0_takeBack_60 : FL wsX0_takeBack RX0 60 1 0 := ⟨RX1, TX1, 10, rfl, by decide, by decide +kernel, by decide +kernel⟩
set_option maxHeartbeats 4000000 in
set_option maxRecDepth 100000 in
theorem c_takeBack0 {w : pW} {fo sc pr ar de ms mn nt : Nat} {cm : Nat} {nx av ah : Option Nat} {cl pe pb pc an : Nat} (hfo : w fo = some (.inr (0, [.ref sc, .ref pr, .ref ar, .ref de, .ref ms, .ref mn, .int (nI nt)]))) (hm : w mn = some (.inr (1, [va_rf none, va_rf nx, .ref cm, .int (nI cl), .int (nI pe), .int (nI pb), .int (nI pc), .int (nI an), va_rf av, va_rf ah]))) : Ct yX0_takeBack wsX0_takeBack rX0_takeBack [.ref fo] w (fun o w9 => o = .inl (some (.int (zb false))) ∧ w9 = w) := by
  refine Ct.of (cc := cX0_takeBack) (own := RX0) (nm := "takeBack") (nL := 2) (ret := (some .boolean)) (by decide +kernel) rfl rfl rfl (Nat.le_of_ble_eq_true rfl) ?_
  refine j_lvE (lv' := [(0, .ref fo)]) rfl ?_
  refine j_aload_n dX0_takeBack_0 0 rfl ?_
  refine j_get flX0_takeBack_30 hfo rfl dX0_takeBack_1 ?_
  refine j_get (v := .null) flX0_takeBack_60 hm rfl dX0_takeBack_4 ?_
  refine j_astore_nN (lv' := [(1, .null), (0, .ref fo)]) dX0_takeBack_7 (Nat.le_of_ble_eq_true rfl) rfl ?_
  refine j_aload_nN dX0_takeBack_8 0 rfl ?_
  refine j_ifnonnullN dX0_takeBack_9 ?_
  refine j_iconst (v := nI 0) dX0_takeBack_12 (by decide) ?_
  exact j_zret rfl (Or.inl rfl) ⟨rfl, rfl⟩ (show 0 ≤ 0 by omega) (show 0 ≤ 0 by omega) dX0_takeBack_13
theorem fsX0_takeBack_30 : FS wsX0_takeBack RX0 30 0 5 false (.object "PageTurner$Moment") := ⟨RX0, TX0, 7, tyX0, rfl, by decide, by decide +kernel, by decide +kernel, tyX0_ok, nmX0, rfl, rfl, rfl⟩
theorem flX0_takeBack_57 : FL wsX0_takeBack RX0 57 0 6 := ⟨RX0, TX0, 7, rfl, by decide, by decide +kernel, by decide +kernel⟩
theorem fsX0_takeBack_57 : FS wsX0_takeBack RX0 57 0 6 false (.int) := ⟨RX0, TX0, 7, tyX0, rfl, by decide, by decide +kernel, by decide +kernel, tyX0_ok, nmX0, rfl, rfl, rfl⟩
set_option maxHeartbeats 4000000 in
set_option maxRecDepth 100000 in
theorem c_takeBack1 {w : pW} {fo sc pr ar de ms mn nt : Nat} {cm : Nat} {nx av ah : Option Nat} {cl pe pb pc an : Nat} (hfo : w fo = some (.inr (0, [.ref sc, .ref pr, .ref ar, .ref de, .ref ms, .ref mn, .int (nI nt)]))) {mb : Nat} (hm : w mn = some (.inr (1, [va_rf (some mb), va_rf nx, .ref cm, .int (nI cl), .int (nI pe), .int (nI pb), .int (nI pc), .int (nI an), va_rf av, va_rf ah]))) (hnt : 1 ≤ nt) : Ct yX0_takeBack wsX0_takeBack rX0_takeBack [.ref fo] w (fun o w9 => o = .inl (some (.int (zb true))) ∧ w9 = va_up w fo (some (.inr (0, [.ref sc, .ref pr, .ref ar, .ref de, .ref ms, .ref mb, .int (nI (nt - 1))])))) := by
  refine Ct.of (cc := cX0_takeBack) (own := RX0) (nm := "takeBack") (nL := 2) (ret := (some .boolean)) (by decide +kernel) rfl rfl rfl (Nat.le_of_ble_eq_true rfl) ?_
  refine j_lvE (lv' := [(0, .ref fo)]) rfl ?_
  refine j_aload_n dX0_takeBack_0 0 rfl ?_
  refine j_get flX0_takeBack_30 hfo rfl dX0_takeBack_1 ?_
  refine j_get (v := .ref mb) flX0_takeBack_60 hm rfl dX0_takeBack_4 ?_
  refine j_astore_n (lv' := [(1, .ref mb), (0, .ref fo)]) dX0_takeBack_7 (Nat.le_of_ble_eq_true rfl) rfl ?_
  refine j_aload_n dX0_takeBack_8 0 rfl ?_
  refine j_ifnonnull 14 dX0_takeBack_9 (by decide) ?_
  refine j_aload_n dX0_takeBack_14 1 rfl ?_
  refine j_aload_n dX0_takeBack_15 0 rfl ?_
  refine j_put (fs9 := [.ref sc, .ref pr, .ref ar, .ref de, .ref ms, .ref mb, .int (nI nt)]) fsX0_takeBack_30 hfo rfl rfl (Nat.le_of_ble_eq_true rfl) rfl dX0_takeBack_16 ?_
  refine j_w (fun w1 hw1 => ?_)
  have f2 : w1 fo = some (.inr (0, [.ref sc, .ref pr, .ref ar, .ref de, .ref ms, .ref mb, .int (nI nt)])) := up_at hw1
  have f3 := up_ne hw1 (fk hm hfo rfl) hm
  refine j_aload_n dX0_takeBack_19 1 rfl ?_
  refine j_dup dX0_takeBack_20 rfl ?_
  refine j_get flX0_takeBack_57 f2 rfl dX0_takeBack_21 ?_
  refine j_iconst (v := nI 1) dX0_takeBack_24 (by decide) ?_
  refine j_isubN (by omega) dX0_takeBack_25 ?_
  refine j_put (fs9 := [.ref sc, .ref pr, .ref ar, .ref de, .ref ms, .ref mb, .int (nI (nt - 1))]) fsX0_takeBack_57 f2 rfl rfl (Nat.le_of_ble_eq_true rfl) rfl dX0_takeBack_26 ?_
  refine j_w (fun w4 hw4 => ?_)
  have f5 : w4 fo = some (.inr (0, [.ref sc, .ref pr, .ref ar, .ref de, .ref ms, .ref mb, .int (nI (nt - 1))])) := up_at hw4
  have f6 := up_ne hw4 (fk f3 f2 rfl) f3
  refine j_iconst (v := nI 1) dX0_takeBack_29 (by decide) ?_
  exact j_zret rfl (Or.inr rfl) ⟨rfl, by rw [hw4, hw1] <;> (try simp only [bx_uu]) <;> (try rfl)⟩ (show 0 ≤ 0 by omega) (show 0 ≤ 0 by omega) dX0_takeBack_30
abbrev rX0_dropAnchor : Room := { frames := 0, cells := 0, slots := 0, locals := 0 }
theorem flX0_dropAnchor_30 : FL wsX0_dropAnchor RX0 30 0 5 := ⟨RX0, TX0, 7, rfl, by decide, by decide +kernel, by decide +kernel⟩
theorem flX0_dropAnchor_147 : FL wsX0_dropAnchor RX0 147 1 8 := ⟨RX1, TX1, 10, rfl, by decide, by decide +kernel, by decide +kernel⟩
theorem fsX0_dropAnchor_147 : FS wsX0_dropAnchor RX0 147 1 8 false (.object "PageTurner$Moment") := ⟨RX1, TX1, 10, tyX1, rfl, by decide, by decide +kernel, by decide +kernel, tyX1_ok, nmX1, rfl, rfl, rfl⟩
theorem fsX0_dropAnchor_80 : FS wsX0_dropAnchor RX0 80 1 7 false (.int) := ⟨RX1, TX1, 10, tyX1, rfl, by decide, by decide +kernel, by decide +kernel, tyX1_ok, nmX1, rfl, rfl, rfl⟩
set_option maxHeartbeats 4000000 in
set_option maxRecDepth 100000 in
theorem c_dropAnchor0 {w : pW} {fo sc pr ar de ms mn nt : Nat} {cm : Nat} {bf nx ah : Option Nat} {cl pe pb pc an : Nat} {nm cx : Nat} {bf2 nx2 av2 ah2 : Option Nat} {cl2 pe2 pb2 pc2 an2 : Nat} (hfo : w fo = some (.inr (0, [.ref sc, .ref pr, .ref ar, .ref de, .ref ms, .ref mn, .int (nI nt)]))) (hnm : w nm = some (.inr (1, [va_rf bf2, va_rf nx2, .ref cx, .int (nI cl2), .int (nI pe2), .int (nI pb2), .int (nI pc2), .int (nI an2), va_rf av2, va_rf ah2]))) (hmn : mn ≠ nm) (hm : w mn = some (.inr (1, [va_rf bf, va_rf nx, .ref cm, .int (nI cl), .int (nI pe), .int (nI pb), .int (nI pc), .int (nI an), va_rf none, va_rf ah]))) : Ct yX0_dropAnchor wsX0_dropAnchor rX0_dropAnchor [.ref fo, .ref nm] w (fun o w9 => o = .inl none ∧ w9 = va_up w nm (some (.inr (1, [va_rf bf2, va_rf nx2, .ref cx, .int (nI cl2), .int (nI pe2), .int (nI pb2), .int (nI pc2), .int (nI 1), va_rf (some nm), va_rf ah2])))) := by
  refine Ct.of (cc := cX0_dropAnchor) (own := RX0) (nm := "dropAnchor") (nL := 3) (ret := none) (by decide +kernel) rfl rfl rfl (Nat.le_of_ble_eq_true rfl) ?_
  refine j_lvE (lv' := [(0, .ref fo), (1, .ref nm)]) rfl ?_
  refine j_aload_n dX0_dropAnchor_0 0 rfl ?_
  refine j_get flX0_dropAnchor_30 hfo rfl dX0_dropAnchor_1 ?_
  refine j_get (v := .null) flX0_dropAnchor_147 hm rfl dX0_dropAnchor_4 ?_
  refine j_astore_nN (lv' := [(2, .null), (0, .ref fo), (1, .ref nm)]) dX0_dropAnchor_7 (Nat.le_of_ble_eq_true rfl) rfl ?_
  refine j_aload_nN dX0_dropAnchor_8 0 rfl ?_
  refine j_ifnullN 23 dX0_dropAnchor_9 (by decide) ?_
  refine j_aload_n dX0_dropAnchor_23 2 rfl ?_
  refine j_aload_n dX0_dropAnchor_24 2 rfl ?_
  refine j_put (fs9 := [va_rf bf2, va_rf nx2, .ref cx, .int (nI cl2), .int (nI pe2), .int (nI pb2), .int (nI pc2), .int (nI an2), va_rf (some nm), va_rf ah2]) fsX0_dropAnchor_147 hnm rfl rfl (Nat.le_of_ble_eq_true rfl) rfl dX0_dropAnchor_25 ?_
  refine j_w (fun w1 hw1 => ?_)
  have f2 := up_ne hw1 (fk hfo hnm rfl) hfo
  have f3 : w1 nm = some (.inr (1, [va_rf bf2, va_rf nx2, .ref cx, .int (nI cl2), .int (nI pe2), .int (nI pb2), .int (nI pc2), .int (nI an2), va_rf (some nm), va_rf ah2])) := up_at hw1
  have f4 := up_ne hw1 hmn hm
  refine j_aload_n dX0_dropAnchor_28 2 rfl ?_
  refine j_iconst (v := nI 1) dX0_dropAnchor_29 (by decide) ?_
  refine j_put (fs9 := [va_rf bf2, va_rf nx2, .ref cx, .int (nI cl2), .int (nI pe2), .int (nI pb2), .int (nI pc2), .int (nI 1), va_rf (some nm), va_rf ah2]) fsX0_dropAnchor_80 f3 rfl rfl (Nat.le_of_ble_eq_true rfl) rfl dX0_dropAnchor_30 ?_
  refine j_w (fun w5 hw5 => ?_)
  have f6 := up_ne hw5 (fk f2 f3 rfl) f2
  have f7 : w5 nm = some (.inr (1, [va_rf bf2, va_rf nx2, .ref cx, .int (nI cl2), .int (nI pe2), .int (nI pb2), .int (nI pc2), .int (nI 1), va_rf (some nm), va_rf ah2])) := up_at hw5
  have f8 := up_ne hw5 hmn f4
  refine j_goto 92 dX0_dropAnchor_33 (by decide) ?_
  exact j_vret rfl ⟨rfl, by rw [hw5, hw1] <;> (try simp only [bx_uu]) <;> (try rfl)⟩ (show 0 ≤ 0 by omega) (show 0 ≤ 0 by omega) dX0_dropAnchor_92
theorem flX0_dropAnchor_74 : FL wsX0_dropAnchor RX0 74 1 4 := ⟨RX1, TX1, 10, rfl, by decide, by decide +kernel, by decide +kernel⟩
theorem flX0_dropAnchor_80 : FL wsX0_dropAnchor RX0 80 1 7 := ⟨RX1, TX1, 10, rfl, by decide, by decide +kernel, by decide +kernel⟩
theorem fsX0_dropAnchor_150 : FS wsX0_dropAnchor RX0 150 1 9 false (.object "PageTurner$Moment") := ⟨RX1, TX1, 10, tyX1, rfl, by decide, by decide +kernel, by decide +kernel, tyX1_ok, nmX1, rfl, rfl, rfl⟩
set_option maxHeartbeats 4000000 in
set_option maxRecDepth 100000 in
theorem c_dropAnchor1 {w : pW} {fo sc pr ar de ms mn nt : Nat} {cm : Nat} {bf nx ah : Option Nat} {cl pe pb pc an : Nat} {nm cx : Nat} {bf2 nx2 av2 ah2 : Option Nat} {cl2 pe2 pb2 pc2 an2 : Nat} (hfo : w fo = some (.inr (0, [.ref sc, .ref pr, .ref ar, .ref de, .ref ms, .ref mn, .int (nI nt)]))) (hnm : w nm = some (.inr (1, [va_rf bf2, va_rf nx2, .ref cx, .int (nI cl2), .int (nI pe2), .int (nI pb2), .int (nI pc2), .int (nI an2), va_rf av2, va_rf ah2]))) (hmn : mn ≠ nm) {la ca3 : Nat} {bf3 nx3 av3 ah3 : Option Nat} {cl3 pe3 pb3 pc3 an3 : Nat} (hm : w mn = some (.inr (1, [va_rf bf, va_rf nx, .ref cm, .int (nI cl), .int (nI pe), .int (nI pb), .int (nI pc), .int (nI an), va_rf (some la), va_rf ah]))) (hlm : w la = some (.inr (1, [va_rf bf3, va_rf nx3, .ref ca3, .int (nI cl3), .int (nI pe3), .int (nI pb3), .int (nI pc3), .int (nI an3), va_rf av3, va_rf ah3]))) (hla : la ≠ nm) (hpe : pe < 2 ^ 31) (hpe2 : pe2 < 2 ^ 31) (hpe3 : pe3 < 2 ^ 31) : Ct yX0_dropAnchor wsX0_dropAnchor rX0_dropAnchor [.ref fo, .ref nm] w (fun o w9 => o = .inl none ∧ w9 = va_up w nm (some (if pe2 < pe3 then (.inr (1, [va_rf bf2, va_rf nx2, .ref cx, .int (nI cl2), .int (nI pe2), .int (nI pb2), .int (nI pc2), .int (nI 1), va_rf (some nm), va_rf ah2]) : pE) else if pe2 ≠ pe then .inr (1, [va_rf bf2, va_rf nx2, .ref cx, .int (nI cl2), .int (nI pe2), .int (nI pb2), .int (nI pc2), .int (nI (an + 1)), va_rf (some nm), va_rf (some la)]) else .inr (1, [va_rf bf2, va_rf nx2, .ref cx, .int (nI cl2), .int (nI pe2), .int (nI pb2), .int (nI pc2), .int (nI an), va_rf (some la), va_rf ah2])))) := by
  refine Ct.of (cc := cX0_dropAnchor) (own := RX0) (nm := "dropAnchor") (nL := 3) (ret := none) (by decide +kernel) rfl rfl rfl (Nat.le_of_ble_eq_true rfl) ?_
  refine j_lvE (lv' := [(0, .ref fo), (1, .ref nm)]) rfl ?_
  refine j_aload_n dX0_dropAnchor_0 0 rfl ?_
  refine j_get flX0_dropAnchor_30 hfo rfl dX0_dropAnchor_1 ?_
  refine j_get (v := .ref la) flX0_dropAnchor_147 hm rfl dX0_dropAnchor_4 ?_
  refine j_astore_n (lv' := [(2, .ref la), (0, .ref fo), (1, .ref nm)]) dX0_dropAnchor_7 (Nat.le_of_ble_eq_true rfl) rfl ?_
  refine j_aload_n dX0_dropAnchor_8 0 rfl ?_
  refine j_ifnull dX0_dropAnchor_9 ?_
  refine j_aload_n dX0_dropAnchor_12 2 rfl ?_
  refine j_get flX0_dropAnchor_74 hnm rfl dX0_dropAnchor_13 ?_
  refine j_aload_n dX0_dropAnchor_16 0 rfl ?_
  refine j_get flX0_dropAnchor_74 hlm rfl dX0_dropAnchor_17 ?_
  refine j_icmp_geN 36 (by omega) (by omega) dX0_dropAnchor_20 (by decide) (fun c20 => ?_) (fun c20 => ?_)
  · skip
    refine j_aload_n dX0_dropAnchor_36 2 rfl ?_
    refine j_get flX0_dropAnchor_74 hnm rfl dX0_dropAnchor_37 ?_
    refine j_aload_n dX0_dropAnchor_40 1 rfl ?_
    refine j_get flX0_dropAnchor_30 hfo rfl dX0_dropAnchor_41 ?_
    refine j_get flX0_dropAnchor_74 hm rfl dX0_dropAnchor_44 ?_
    refine j_icmp_eqN 76 (by omega) (by omega) dX0_dropAnchor_47 (by decide) (fun c47 => ?_) (fun c47 => ?_)
    · skip
      refine j_aload_n dX0_dropAnchor_76 2 rfl ?_
      refine j_aload_n dX0_dropAnchor_77 0 rfl ?_
      refine j_put (fs9 := [va_rf bf2, va_rf nx2, .ref cx, .int (nI cl2), .int (nI pe2), .int (nI pb2), .int (nI pc2), .int (nI an2), va_rf (some la), va_rf ah2]) fsX0_dropAnchor_147 hnm rfl rfl (Nat.le_of_ble_eq_true rfl) rfl dX0_dropAnchor_78 ?_
      refine j_w (fun w1 hw1 => ?_)
      have f2 := up_ne hw1 (fk hfo hnm rfl) hfo
      have f3 : w1 nm = some (.inr (1, [va_rf bf2, va_rf nx2, .ref cx, .int (nI cl2), .int (nI pe2), .int (nI pb2), .int (nI pc2), .int (nI an2), va_rf (some la), va_rf ah2])) := up_at hw1
      have f4 := up_ne hw1 hmn hm
      have f5 := up_ne hw1 hla hlm
      refine j_aload_n dX0_dropAnchor_81 2 rfl ?_
      refine j_aload_n dX0_dropAnchor_82 1 rfl ?_
      refine j_get flX0_dropAnchor_30 f2 rfl dX0_dropAnchor_83 ?_
      refine j_get flX0_dropAnchor_80 f4 rfl dX0_dropAnchor_86 ?_
      refine j_put (fs9 := [va_rf bf2, va_rf nx2, .ref cx, .int (nI cl2), .int (nI pe2), .int (nI pb2), .int (nI pc2), .int (nI an), va_rf (some la), va_rf ah2]) fsX0_dropAnchor_80 f3 rfl rfl (Nat.le_of_ble_eq_true rfl) rfl dX0_dropAnchor_89 ?_
      refine j_w (fun w6 hw6 => ?_)
      have f7 := up_ne hw6 (fk f2 f3 rfl) f2
      have f8 : w6 nm = some (.inr (1, [va_rf bf2, va_rf nx2, .ref cx, .int (nI cl2), .int (nI pe2), .int (nI pb2), .int (nI pc2), .int (nI an), va_rf (some la), va_rf ah2])) := up_at hw6
      have f9 := up_ne hw6 hmn f4
      have f10 := up_ne hw6 hla f5
      exact j_vret rfl ⟨rfl, by rw [if_neg (by omega), if_neg (by omega)]; rw [hw6, hw1] <;> (try simp only [bx_uu]) <;> (try rfl)⟩ (show 0 ≤ 0 by omega) (show 0 ≤ 0 by omega) dX0_dropAnchor_92
    · skip
      refine j_aload_n dX0_dropAnchor_50 2 rfl ?_
      refine j_aload_n dX0_dropAnchor_51 2 rfl ?_
      refine j_put (fs9 := [va_rf bf2, va_rf nx2, .ref cx, .int (nI cl2), .int (nI pe2), .int (nI pb2), .int (nI pc2), .int (nI an2), va_rf (some nm), va_rf ah2]) fsX0_dropAnchor_147 hnm rfl rfl (Nat.le_of_ble_eq_true rfl) rfl dX0_dropAnchor_52 ?_
      refine j_w (fun w11 hw11 => ?_)
      have f12 := up_ne hw11 (fk hfo hnm rfl) hfo
      have f13 : w11 nm = some (.inr (1, [va_rf bf2, va_rf nx2, .ref cx, .int (nI cl2), .int (nI pe2), .int (nI pb2), .int (nI pc2), .int (nI an2), va_rf (some nm), va_rf ah2])) := up_at hw11
      have f14 := up_ne hw11 hmn hm
      have f15 := up_ne hw11 hla hlm
      refine j_aload_n dX0_dropAnchor_55 2 rfl ?_
      refine j_aload_n dX0_dropAnchor_56 0 rfl ?_
      refine j_put (fs9 := [va_rf bf2, va_rf nx2, .ref cx, .int (nI cl2), .int (nI pe2), .int (nI pb2), .int (nI pc2), .int (nI an2), va_rf (some nm), va_rf (some la)]) fsX0_dropAnchor_150 f13 rfl rfl (Nat.le_of_ble_eq_true rfl) rfl dX0_dropAnchor_57 ?_
      refine j_w (fun w16 hw16 => ?_)
      have f17 := up_ne hw16 (fk f12 f13 rfl) f12
      have f18 : w16 nm = some (.inr (1, [va_rf bf2, va_rf nx2, .ref cx, .int (nI cl2), .int (nI pe2), .int (nI pb2), .int (nI pc2), .int (nI an2), va_rf (some nm), va_rf (some la)])) := up_at hw16
      have f19 := up_ne hw16 hmn f14
      have f20 := up_ne hw16 hla f15
      refine j_aload_n dX0_dropAnchor_60 2 rfl ?_
      refine j_aload_n dX0_dropAnchor_61 1 rfl ?_
      refine j_get flX0_dropAnchor_30 f17 rfl dX0_dropAnchor_62 ?_
      refine j_get flX0_dropAnchor_80 f19 rfl dX0_dropAnchor_65 ?_
      refine j_iconst (v := nI 1) dX0_dropAnchor_68 (by decide) ?_
      refine j_iaddN dX0_dropAnchor_69 ?_
      refine j_put (fs9 := [va_rf bf2, va_rf nx2, .ref cx, .int (nI cl2), .int (nI pe2), .int (nI pb2), .int (nI pc2), .int (nI (an + 1)), va_rf (some nm), va_rf (some la)]) fsX0_dropAnchor_80 f18 rfl rfl (Nat.le_of_ble_eq_true rfl) rfl dX0_dropAnchor_70 ?_
      refine j_w (fun w21 hw21 => ?_)
      have f22 := up_ne hw21 (fk f17 f18 rfl) f17
      have f23 : w21 nm = some (.inr (1, [va_rf bf2, va_rf nx2, .ref cx, .int (nI cl2), .int (nI pe2), .int (nI pb2), .int (nI pc2), .int (nI (an + 1)), va_rf (some nm), va_rf (some la)])) := up_at hw21
      have f24 := up_ne hw21 hmn f19
      have f25 := up_ne hw21 hla f20
      refine j_goto 92 dX0_dropAnchor_73 (by decide) ?_
      exact j_vret rfl ⟨rfl, by rw [if_neg (by omega), if_pos (by omega)]; rw [hw21, hw16, hw11] <;> (try simp only [bx_uu]) <;> (try rfl)⟩ (show 0 ≤ 0 by omega) (show 0 ≤ 0 by omega) dX0_dropAnchor_92
  · skip
    refine j_aload_n dX0_dropAnchor_23 2 rfl ?_
    refine j_aload_n dX0_dropAnchor_24 2 rfl ?_
    refine j_put (fs9 := [va_rf bf2, va_rf nx2, .ref cx, .int (nI cl2), .int (nI pe2), .int (nI pb2), .int (nI pc2), .int (nI an2), va_rf (some nm), va_rf ah2]) fsX0_dropAnchor_147 hnm rfl rfl (Nat.le_of_ble_eq_true rfl) rfl dX0_dropAnchor_25 ?_
    refine j_w (fun w26 hw26 => ?_)
    have f27 := up_ne hw26 (fk hfo hnm rfl) hfo
    have f28 : w26 nm = some (.inr (1, [va_rf bf2, va_rf nx2, .ref cx, .int (nI cl2), .int (nI pe2), .int (nI pb2), .int (nI pc2), .int (nI an2), va_rf (some nm), va_rf ah2])) := up_at hw26
    have f29 := up_ne hw26 hmn hm
    have f30 := up_ne hw26 hla hlm
    refine j_aload_n dX0_dropAnchor_28 2 rfl ?_
    refine j_iconst (v := nI 1) dX0_dropAnchor_29 (by decide) ?_
    refine j_put (fs9 := [va_rf bf2, va_rf nx2, .ref cx, .int (nI cl2), .int (nI pe2), .int (nI pb2), .int (nI pc2), .int (nI 1), va_rf (some nm), va_rf ah2]) fsX0_dropAnchor_80 f28 rfl rfl (Nat.le_of_ble_eq_true rfl) rfl dX0_dropAnchor_30 ?_
    refine j_w (fun w31 hw31 => ?_)
    have f32 := up_ne hw31 (fk f27 f28 rfl) f27
    have f33 : w31 nm = some (.inr (1, [va_rf bf2, va_rf nx2, .ref cx, .int (nI cl2), .int (nI pe2), .int (nI pb2), .int (nI pc2), .int (nI 1), va_rf (some nm), va_rf ah2])) := up_at hw31
    have f34 := up_ne hw31 hmn f29
    have f35 := up_ne hw31 hla f30
    refine j_goto 92 dX0_dropAnchor_33 (by decide) ?_
    exact j_vret rfl ⟨rfl, by rw [if_pos (by omega)]; rw [hw31, hw26] <;> (try simp only [bx_uu]) <;> (try rfl)⟩ (show 0 ≤ 0 by omega) (show 0 ≤ 0 by omega) dX0_dropAnchor_92
def flD (x y : Int64) : Int64 := if (x ^^^ y) < 0 ∧ ¬ x / y * y = x then x / y - 1 else x / y
theorem lgc_0 {x y : Int64} (h : lg_cmp x y = 0) : x = y := by
  unfold lg_cmp at h
  by_cases h1 : x > y
  · rw [if_pos h1] at h; exact absurd h (by decide)
  · rw [if_neg h1] at h
    by_cases h2 : x = y
    · exact h2
    · rw [if_neg h2] at h; exact absurd h (by decide)
theorem lgc_n {x y : Int64} (h : ¬ lg_cmp x y = 0) : ¬ x = y := fun e => h ((lg_cmp_eq x y).mpr e)
abbrev rJ9_floorDiv_f86c9 : Room := { frames := 0, cells := 0, slots := 0, locals := 0 }
set_option maxHeartbeats 4000000 in
set_option maxRecDepth 100000 in
theorem c_floorDiv {w : pW} {x y : Int64} (hy : ¬ y = 0) : Ct yJ9_floorDiv_f86c9 wsJ9_floorDiv_f86c9 rJ9_floorDiv_f86c9 [.long x, .long y] w (fun o w9 => o = .inl (some (.long (flD x y))) ∧ w9 = w) := by
  refine Ct.ofF (cc := cJ9_floorDiv_f86c9) (own := RJ9) (nm := "floorDiv") (nL := 6) (ret := (some .long)) (by decide +kernel) rfl rfl rfl (Nat.le_of_ble_eq_true rfl) ?_
  refine j_lvE (lv' := [(0, .long x), (2, .long y)]) rfl ?_
  refine j_lload_n dJ9_floorDiv_f86c9_0 0 rfl ?_
  refine j_lload_n dJ9_floorDiv_f86c9_1 1 rfl ?_
  refine j_ldiv dJ9_floorDiv_f86c9_2 (hy) ?_
  refine j_lstore (lv' := [(4, .long (x / y)), (0, .long x), (2, .long y)]) dJ9_floorDiv_f86c9_3 (Nat.le_of_ble_eq_true rfl) rfl ?_
  refine j_lload_n dJ9_floorDiv_f86c9_5 1 rfl ?_
  refine j_lload_n dJ9_floorDiv_f86c9_6 2 rfl ?_
  refine j_lxor dJ9_floorDiv_f86c9_7 ?_
  refine j_lconst (v := 0) dJ9_floorDiv_f86c9_8 (by decide) ?_
  refine j_lcmp dJ9_floorDiv_f86c9_9 ?_
  refine j_if_ge 27 dJ9_floorDiv_f86c9_10 (by decide) (fun c10 => ?_) (fun c10 => ?_)
  · skip
    refine j_lload dJ9_floorDiv_f86c9_27 0 rfl ?_
    exact j_lret rfl ⟨by unfold flD; rw [if_neg (fun h => absurd ((lg_cmp_ge _ _).mp c10) (Int64.not_le.mpr h.1))], rfl⟩ (show 0 ≤ 0 by omega) (show 0 ≤ 0 by omega) dJ9_floorDiv_f86c9_29
  · skip
    refine j_lload dJ9_floorDiv_f86c9_13 0 rfl ?_
    refine j_lload_n dJ9_floorDiv_f86c9_15 2 rfl ?_
    refine j_lmul dJ9_floorDiv_f86c9_16 ?_
    refine j_lload_n dJ9_floorDiv_f86c9_17 1 rfl ?_
    refine j_lcmp dJ9_floorDiv_f86c9_18 ?_
    refine j_if_eq 27 dJ9_floorDiv_f86c9_19 (by decide) (fun c19 => ?_) (fun c19 => ?_)
    · skip
      refine j_lload dJ9_floorDiv_f86c9_27 0 rfl ?_
      exact j_lret rfl ⟨by unfold flD; rw [if_neg (fun h => h.2 (lgc_0 c19))], rfl⟩ (show 0 ≤ 0 by omega) (show 0 ≤ 0 by omega) dJ9_floorDiv_f86c9_29
    · skip
      refine j_lload dJ9_floorDiv_f86c9_22 0 rfl ?_
      refine j_lconst (v := 1) dJ9_floorDiv_f86c9_24 (by decide) ?_
      refine j_lsub dJ9_floorDiv_f86c9_25 ?_
      exact j_lret rfl ⟨by unfold flD; rw [if_pos ⟨Int64.not_le.mp (fun h => c10 ((lg_cmp_ge _ _).mpr h)), lgc_n c19⟩], rfl⟩ (show 0 ≤ 0 by omega) (show 0 ≤ 0 by omega) dJ9_floorDiv_f86c9_26
