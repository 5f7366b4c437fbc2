abbrev rX3_has : Room := { frames := 0, cells := 0, slots := 0, locals := 0 }
theorem flX3_has_15 : FL wsX3_has RX3 15 3 1 := ⟨RX3, TX3, 7, rfl, by decide, by decide +kernel, by decide +kernel⟩
set_option maxHeartbeats 4000000 in
set_option maxRecDepth 100000 in
theorem c_hasN {w : pW} {sc fa : Nat} {ev be cu st me pa : Nat} {f : Nat → Int32} (hs : w sc = some (.inr (3, [.ref fa, .int (nI ev), .int (nI be), .int (nI cu), .int (nI st), .int (nI me), .int (nI pa)]))) (hf : w fa = some (.inl (0, 1400, .inl f))) {e : Nat} (he : e < 2 ^ 31) (hev : ev ≤ 100) : Ct yX3_has wsX3_has rX3_has [.ref sc, .int (nI e)] w (fun o w9 => o = .inl (some (.int (zb (decide (e < ev))))) ∧ w9 = w) := by
  refine Ct.of (cc := cX3_has) (own := RX3) (nm := "has") (nL := 2) (ret := (some .boolean)) (by decide +kernel) rfl rfl rfl (Nat.le_of_ble_eq_true rfl) ?_
  refine j_lvE (lv' := [(0, .ref sc), (1, .int (nI e))]) rfl ?_
  refine j_iload_n dX3_has_0 1 rfl ?_
  refine j_if_ltN (by omega) dX3_has_1 (by decide : _ = ((16 : Nat) : Int)) ?_
  refine j_iload_n dX3_has_4 1 rfl ?_
  refine j_aload_n dX3_has_5 0 rfl ?_
  refine j_get flX3_has_15 hs rfl dX3_has_6 ?_
  refine j_icmp_geN 16 (by omega) (by omega) dX3_has_9 (by decide) (fun c9 => ?_) (fun c9 => ?_)
  · skip
    refine j_iconst (v := nI 0) dX3_has_16 (by decide) ?_
    exact j_zret rfl (Or.inl rfl) ⟨by rw [zb_f (by simp; omega)]; rfl, rfl⟩ (show 0 ≤ 0 by omega) (show 0 ≤ 0 by omega) dX3_has_17
  · skip
    refine j_iconst (v := nI 1) dX3_has_12 (by decide) ?_
    refine j_goto 17 dX3_has_13 (by decide) ?_
    exact j_zret rfl (Or.inr rfl) ⟨by rw [zb_t (by simp; omega)]; rfl, rfl⟩ (show 0 ≤ 0 by omega) (show 0 ≤ 0 by omega) dX3_has_17
set_option maxHeartbeats 4000000 in
set_option maxRecDepth 100000 in
theorem c_hasM {w : pW} {sc fa : Nat} {ev be cu st me pa : Nat} {f : Nat → Int32} (hs : w sc = some (.inr (3, [.ref fa, .int (nI ev), .int (nI be), .int (nI cu), .int (nI st), .int (nI me), .int (nI pa)]))) (hf : w fa = some (.inl (0, 1400, .inl f))) {e : Int32} (he : e < 0) : Ct yX3_has wsX3_has rX3_has [.ref sc, .int e] w (fun o w9 => o = .inl (some (.int (0))) ∧ w9 = w) := by
  refine Ct.of (cc := cX3_has) (own := RX3) (nm := "has") (nL := 2) (ret := (some .boolean)) (by decide +kernel) rfl rfl rfl (Nat.le_of_ble_eq_true rfl) ?_
  refine j_lvE (lv' := [(0, .ref sc), (1, .int e)]) rfl ?_
  refine j_iload_n dX3_has_0 1 rfl ?_
  refine j_if_lt 16 dX3_has_1 (by decide) (fun c1 => ?_) (fun c1 => ?_)
  · skip
    refine j_iconst (v := nI 0) dX3_has_16 (by decide) ?_
    exact j_zret rfl (Or.inl rfl) ⟨rfl, rfl⟩ (show 0 ≤ 0 by omega) (show 0 ≤ 0 by omega) dX3_has_17
  · skip
    exact absurd he c1
abbrev rX3_fact : Room := { frames := 0, cells := 0, slots := 0, locals := 0 }
theorem flX3_fact_11 : FL wsX3_fact RX3 11 3 0 := ⟨RX3, TX3, 7, rfl, by decide, by decide +kernel, by decide +kernel⟩
set_option maxHeartbeats 4000000 in
set_option maxRecDepth 100000 in
theorem c_fact {w : pW} {sc fa : Nat} {ev be cu st me pa : Nat} {f : Nat → Int32} (hs : w sc = some (.inr (3, [.ref fa, .int (nI ev), .int (nI be), .int (nI cu), .int (nI st), .int (nI me), .int (nI pa)]))) (hf : w fa = some (.inl (0, 1400, .inl f))) {e c : Nat} (he : e < 100) (hc : c < 14) : Ct yX3_fact wsX3_fact rX3_fact [.ref sc, .int (nI e), .int (nI c)] w (fun o w9 => o = .inl (some (.int (f (e * 14 + c)))) ∧ w9 = w) := by
  refine Ct.of (cc := cX3_fact) (own := RX3) (nm := "fact") (nL := 3) (ret := (some .int)) (by decide +kernel) rfl rfl rfl (Nat.le_of_ble_eq_true rfl) ?_
  refine j_lvE (lv' := [(0, .ref sc), (1, .int (nI e)), (2, .int (nI c))]) rfl ?_
  refine j_iload_n dX3_fact_0 1 rfl ?_
  refine j_if_ltN (by omega) dX3_fact_1 (by decide : _ = ((20 : Nat) : Int)) ?_
  refine j_iload_n dX3_fact_4 1 rfl ?_
  refine j_bipush (v := nI 100) dX3_fact_5 (by decide) ?_
  refine j_icmp_geN 20 (by omega) (by omega) dX3_fact_7 (by decide) (fun c7 => ?_) (fun c7 => ?_)
  · skip
    exfalso; omega
  · skip
    refine j_iload_n dX3_fact_10 2 rfl ?_
    refine j_if_ltN (by omega) dX3_fact_11 (by decide : _ = ((20 : Nat) : Int)) ?_
    refine j_iload_n dX3_fact_14 2 rfl ?_
    refine j_bipush (v := nI 14) dX3_fact_15 (by decide) ?_
    refine j_icmp_ltN 22 (by omega) (by omega) dX3_fact_17 (by decide) (fun c17 => ?_) (fun c17 => ?_)
    · skip
      refine j_aload_n dX3_fact_22 0 rfl ?_
      refine j_get flX3_fact_11 hs rfl dX3_fact_23 ?_
      refine j_iload_n dX3_fact_26 1 rfl ?_
      refine j_bipush (v := nI 14) dX3_fact_27 (by decide) ?_
      refine j_imulN dX3_fact_29 ?_
      refine j_iload_n dX3_fact_30 2 rfl ?_
      refine j_iaddN dX3_fact_31 ?_
      refine j_ialdN (j := (e * 14) + c) hf rfl (by omega) (by omega) dX3_fact_32 ?_
      exact j_iret rfl ⟨rfl, rfl⟩ (show 0 ≤ 0 by omega) (show 0 ≤ 0 by omega) dX3_fact_33
    · skip
      exfalso; omega
abbrev rX3_write : Room := { frames := 0, cells := 0, slots := 0, locals := 0 }
theorem flX3_write_11 : FL wsX3_write RX3 11 3 0 := ⟨RX3, TX3, 7, rfl, by decide, by decide +kernel, by decide +kernel⟩
set_option maxHeartbeats 4000000 in
set_option maxRecDepth 100000 in
theorem c_write {w : pW} {sc fa : Nat} {ev be cu st me pa : Nat} {f : Nat → Int32} (hs : w sc = some (.inr (3, [.ref fa, .int (nI ev), .int (nI be), .int (nI cu), .int (nI st), .int (nI me), .int (nI pa)]))) (hf : w fa = some (.inl (0, 1400, .inl f))) {e c : Nat} {v : Int32} (he : e < 100) (hc : c < 14) : Ct yX3_write wsX3_write rX3_write [.ref sc, .int (nI e), .int (nI c), .int v] w (fun o w9 => o = .inl none ∧ w9 = va_up w fa (some (.inl (0, 1400, .inl (upd f (e * 14 + c) v))))) := by
  refine Ct.of (cc := cX3_write) (own := RX3) (nm := "write") (nL := 4) (ret := none) (by decide +kernel) rfl rfl rfl (Nat.le_of_ble_eq_true rfl) ?_
  refine j_lvE (lv' := [(0, .ref sc), (1, .int (nI e)), (2, .int (nI c)), (3, .int v)]) rfl ?_
  refine j_iload_n dX3_write_0 1 rfl ?_
  refine j_if_ltN (by omega) dX3_write_1 (by decide : _ = ((32 : Nat) : Int)) ?_
  refine j_iload_n dX3_write_4 1 rfl ?_
  refine j_bipush (v := nI 100) dX3_write_5 (by decide) ?_
  refine j_icmp_geN 32 (by omega) (by omega) dX3_write_7 (by decide) (fun c7 => ?_) (fun c7 => ?_)
  · skip
    exfalso; omega
  · skip
    refine j_iload_n dX3_write_10 2 rfl ?_
    refine j_if_ltN (by omega) dX3_write_11 (by decide : _ = ((32 : Nat) : Int)) ?_
    refine j_iload_n dX3_write_14 2 rfl ?_
    refine j_bipush (v := nI 14) dX3_write_15 (by decide) ?_
    refine j_icmp_geN 32 (by omega) (by omega) dX3_write_17 (by decide) (fun c17 => ?_) (fun c17 => ?_)
    · skip
      exfalso; omega
    · skip
      refine j_aload_n dX3_write_20 0 rfl ?_
      refine j_get flX3_write_11 hs rfl dX3_write_21 ?_
      refine j_iload_n dX3_write_24 1 rfl ?_
      refine j_bipush (v := nI 14) dX3_write_25 (by decide) ?_
      refine j_imulN dX3_write_27 ?_
      refine j_iload_n dX3_write_28 2 rfl ?_
      refine j_iaddN dX3_write_29 ?_
      refine j_iload_n dX3_write_30 3 rfl ?_
      refine j_iastN (j := (e * 14) + c) hf rfl (by omega) (by omega) dX3_write_31 ?_
      refine j_w (fun w1 hw1 => ?_)
      have f2 := up_ne hw1 (fk hs hf rfl) hs
      have f3 : w1 fa = some (.inl (0, 1400, .inl (upd f ((e * 14) + c) v))) := up_at hw1
      exact j_vret rfl ⟨rfl, hw1⟩ (show 0 ≤ 0 by omega) (show 0 ≤ 0 by omega) dX3_write_32
abbrev rX3_isFull : Room := { frames := 0, cells := 0, slots := 0, locals := 0 }
theorem flX3_isFull_15 : FL wsX3_isFull RX3 15 3 1 := ⟨RX3, TX3, 7, rfl, by decide, by decide +kernel, by decide +kernel⟩
set_option maxHeartbeats 4000000 in
set_option maxRecDepth 100000 in
theorem c_isFull {w : pW} {sc fa : Nat} {ev be cu st me pa : Nat} {f : Nat → Int32} (hs : w sc = some (.inr (3, [.ref fa, .int (nI ev), .int (nI be), .int (nI cu), .int (nI st), .int (nI me), .int (nI pa)]))) (hf : w fa = some (.inl (0, 1400, .inl f))) (hev : ev ≤ 100) : Ct yX3_isFull wsX3_isFull rX3_isFull [.ref sc] w (fun o w9 => o = .inl (some (.int (zb (decide (100 ≤ ev))))) ∧ w9 = w) := by
  refine Ct.of (cc := cX3_isFull) (own := RX3) (nm := "isFull") (nL := 1) (ret := (some .boolean)) (by decide +kernel) rfl rfl rfl (Nat.le_of_ble_eq_true rfl) ?_
  refine j_lvE (lv' := [(0, .ref sc)]) rfl ?_
  refine j_aload_n dX3_isFull_0 0 rfl ?_
  refine j_get flX3_isFull_15 hs rfl dX3_isFull_1 ?_
  refine j_bipush (v := nI 100) dX3_isFull_4 (by decide) ?_
  refine j_icmp_ltN 13 (by omega) (by omega) dX3_isFull_6 (by decide) (fun c6 => ?_) (fun c6 => ?_)
  · skip
    refine j_iconst (v := nI 0) dX3_isFull_13 (by decide) ?_
    exact j_zret rfl (Or.inl rfl) ⟨by rw [zb_f (by simp; omega)]; rfl, rfl⟩ (show 0 ≤ 0 by omega) (show 0 ≤ 0 by omega) dX3_isFull_14
  · skip
    refine j_iconst (v := nI 1) dX3_isFull_9 (by decide) ?_
    refine j_goto 14 dX3_isFull_10 (by decide) ?_
    exact j_zret rfl (Or.inr rfl) ⟨by rw [zb_t (by simp; omega)]; rfl, rfl⟩ (show 0 ≤ 0 by omega) (show 0 ≤ 0 by omega) dX3_isFull_14
abbrev rX3_clear : Room := { frames := 0, cells := 0, slots := 0, locals := 0 }
theorem fsX3_clear_15 : FS wsX3_clear RX3 15 3 1 false (.int) := ⟨RX3, TX3, 7, tyX3, rfl, by decide, by decide +kernel, by decide +kernel, tyX3_ok, nmX3, rfl, rfl, rfl⟩
theorem fsX3_clear_19 : FS wsX3_clear RX3 19 3 2 false (.int) := ⟨RX3, TX3, 7, tyX3, rfl, by decide, by decide +kernel, by decide +kernel, tyX3_ok, nmX3, rfl, rfl, rfl⟩
theorem fsX3_clear_22 : FS wsX3_clear RX3 22 3 3 false (.int) := ⟨RX3, TX3, 7, tyX3, rfl, by decide, by decide +kernel, by decide +kernel, tyX3_ok, nmX3, rfl, rfl, rfl⟩
theorem fsX3_clear_25 : FS wsX3_clear RX3 25 3 4 false (.int) := ⟨RX3, TX3, 7, tyX3, rfl, by decide, by decide +kernel, by decide +kernel, tyX3_ok, nmX3, rfl, rfl, rfl⟩
theorem fsX3_clear_28 : FS wsX3_clear RX3 28 3 5 false (.int) := ⟨RX3, TX3, 7, tyX3, rfl, by decide, by decide +kernel, by decide +kernel, tyX3_ok, nmX3, rfl, rfl, rfl⟩
theorem fsX3_clear_31 : FS wsX3_clear RX3 31 3 6 false (.int) := ⟨RX3, TX3, 7, tyX3, rfl, by decide, by decide +kernel, by decide +kernel, tyX3_ok, nmX3, rfl, rfl, rfl⟩
set_option maxHeartbeats 4000000 in
set_option maxRecDepth 100000 in
theorem c_clear {w : pW} {sc fa : Nat} {ev be cu st me pa : Nat} {f : Nat → Int32} (hs : w sc = some (.inr (3, [.ref fa, .int (nI ev), .int (nI be), .int (nI cu), .int (nI st), .int (nI me), .int (nI pa)]))) (hf : w fa = some (.inl (0, 1400, .inl f))) : Ct yX3_clear wsX3_clear rX3_clear [.ref sc] w (fun o w9 => o = .inl none ∧ w9 = va_up w sc (some (.inr (3, [.ref fa, .int (nI 0), .int (nI 0), .int (nI 0), .int (nI 0), .int (nI 0), .int (nI 0)])))) := by
  refine Ct.of (cc := cX3_clear) (own := RX3) (nm := "clear") (nL := 1) (ret := none) (by decide +kernel) rfl rfl rfl (Nat.le_of_ble_eq_true rfl) ?_
  refine j_lvE (lv' := [(0, .ref sc)]) rfl ?_
  refine j_aload_n dX3_clear_0 0 rfl ?_
  refine j_iconst (v := nI 0) dX3_clear_1 (by decide) ?_
  refine j_put (fs9 := [.ref fa, .int (nI 0), .int (nI be), .int (nI cu), .int (nI st), .int (nI me), .int (nI pa)]) fsX3_clear_15 hs rfl rfl (Nat.le_of_ble_eq_true rfl) rfl dX3_clear_2 ?_
  refine j_w (fun w1 hw1 => ?_)
  have f2 : w1 sc = some (.inr (3, [.ref fa, .int (nI 0), .int (nI be), .int (nI cu), .int (nI st), .int (nI me), .int (nI pa)])) := up_at hw1
  have f3 := up_ne hw1 (fk hf hs rfl) hf
  refine j_aload_n dX3_clear_5 0 rfl ?_
  refine j_iconst (v := nI 0) dX3_clear_6 (by decide) ?_
  refine j_put (fs9 := [.ref fa, .int (nI 0), .int (nI 0), .int (nI cu), .int (nI st), .int (nI me), .int (nI pa)]) fsX3_clear_19 f2 rfl rfl (Nat.le_of_ble_eq_true rfl) rfl dX3_clear_7 ?_
  refine j_w (fun w4 hw4 => ?_)
  have f5 : w4 sc = some (.inr (3, [.ref fa, .int (nI 0), .int (nI 0), .int (nI cu), .int (nI st), .int (nI me), .int (nI pa)])) := up_at hw4
  have f6 := up_ne hw4 (fk f3 f2 rfl) f3
  refine j_aload_n dX3_clear_10 0 rfl ?_
  refine j_iconst (v := nI 0) dX3_clear_11 (by decide) ?_
  refine j_put (fs9 := [.ref fa, .int (nI 0), .int (nI 0), .int (nI 0), .int (nI st), .int (nI me), .int (nI pa)]) fsX3_clear_22 f5 rfl rfl (Nat.le_of_ble_eq_true rfl) rfl dX3_clear_12 ?_
  refine j_w (fun w7 hw7 => ?_)
  have f8 : w7 sc = some (.inr (3, [.ref fa, .int (nI 0), .int (nI 0), .int (nI 0), .int (nI st), .int (nI me), .int (nI pa)])) := up_at hw7
  have f9 := up_ne hw7 (fk f6 f5 rfl) f6
  refine j_aload_n dX3_clear_15 0 rfl ?_
  refine j_iconst (v := nI 0) dX3_clear_16 (by decide) ?_
  refine j_put (fs9 := [.ref fa, .int (nI 0), .int (nI 0), .int (nI 0), .int (nI 0), .int (nI me), .int (nI pa)]) fsX3_clear_25 f8 rfl rfl (Nat.le_of_ble_eq_true rfl) rfl dX3_clear_17 ?_
  refine j_w (fun w10 hw10 => ?_)
  have f11 : w10 sc = some (.inr (3, [.ref fa, .int (nI 0), .int (nI 0), .int (nI 0), .int (nI 0), .int (nI me), .int (nI pa)])) := up_at hw10
  have f12 := up_ne hw10 (fk f9 f8 rfl) f9
  refine j_aload_n dX3_clear_20 0 rfl ?_
  refine j_iconst (v := nI 0) dX3_clear_21 (by decide) ?_
  refine j_put (fs9 := [.ref fa, .int (nI 0), .int (nI 0), .int (nI 0), .int (nI 0), .int (nI 0), .int (nI pa)]) fsX3_clear_28 f11 rfl rfl (Nat.le_of_ble_eq_true rfl) rfl dX3_clear_22 ?_
  refine j_w (fun w13 hw13 => ?_)
  have f14 : w13 sc = some (.inr (3, [.ref fa, .int (nI 0), .int (nI 0), .int (nI 0), .int (nI 0), .int (nI 0), .int (nI pa)])) := up_at hw13
  have f15 := up_ne hw13 (fk f12 f11 rfl) f12
  refine j_aload_n dX3_clear_25 0 rfl ?_
  refine j_iconst (v := nI 0) dX3_clear_26 (by decide) ?_
  refine j_put (fs9 := [.ref fa, .int (nI 0), .int (nI 0), .int (nI 0), .int (nI 0), .int (nI 0), .int (nI 0)]) fsX3_clear_31 f14 rfl rfl (Nat.le_of_ble_eq_true rfl) rfl dX3_clear_27 ?_
  refine j_w (fun w16 hw16 => ?_)
  have f17 : w16 sc = some (.inr (3, [.ref fa, .int (nI 0), .int (nI 0), .int (nI 0), .int (nI 0), .int (nI 0), .int (nI 0)])) := up_at hw16
  have f18 := up_ne hw16 (fk f15 f14 rfl) f15
  exact j_vret rfl ⟨rfl, by rw [hw16, hw13, hw10, hw7, hw4, hw1] <;> (try simp only [bx_uu]) <;> (try rfl)⟩ (show 0 ≤ 0 by omega) (show 0 ≤ 0 by omega) dX3_clear_30
/-- the columns of an event that is opened -/
def opF (f : Nat → Int32) (ev kd be me pa st : Nat) (mk cq : Int32) : Nat → Int32 := upd (upd (upd (upd (upd (upd (upd (upd (upd f (ev * 14 + 0) (nI kd)) (ev * 14 + 1) (nI 0)) (ev * 14 + 2) (nI be)) (ev * 14 + 4) (nI me)) (ev * 14 + 5) (nI pa)) (ev * 14 + 6) mk) (ev * 14 + 7) cq) (ev * 14 + 8) (-1)) (ev * 14 + 13) (nI st)
abbrev rX3_openEvent : Room := { frames := 1, cells := 0, slots := 0, locals := 23 }
theorem flX3_openEvent_15 : FL wsX3_openEvent RX3 15 3 1 := ⟨RX3, TX3, 7, rfl, by decide, by decide +kernel, by decide +kernel⟩
theorem flX3_openEvent_19 : FL wsX3_openEvent RX3 19 3 2 := ⟨RX3, TX3, 7, rfl, by decide, by decide +kernel, by decide +kernel⟩
theorem flX3_openEvent_28 : FL wsX3_openEvent RX3 28 3 5 := ⟨RX3, TX3, 7, rfl, by decide, by decide +kernel, by decide +kernel⟩
theorem flX3_openEvent_31 : FL wsX3_openEvent RX3 31 3 6 := ⟨RX3, TX3, 7, rfl, by decide, by decide +kernel, by decide +kernel⟩
theorem flX3_openEvent_25 : FL wsX3_openEvent RX3 25 3 4 := ⟨RX3, TX3, 7, rfl, by decide, by decide +kernel, by decide +kernel⟩
set_option maxHeartbeats 4000000 in
set_option maxRecDepth 100000 in
theorem c_openEvent {w : pW} {sc fa : Nat} {ev be cu st me pa : Nat} {f : Nat → Int32} (hs : w sc = some (.inr (3, [.ref fa, .int (nI ev), .int (nI be), .int (nI cu), .int (nI st), .int (nI me), .int (nI pa)]))) (hf : w fa = some (.inl (0, 1400, .inl f))) {kd : Nat} {mk cq : Bool} (hev : ev < 100) : Ct yX3_openEvent wsX3_openEvent rX3_openEvent [.ref sc, .int (nI kd), .int (zb mk), .int (zb cq)] w (fun o w9 => o = .inl none ∧ w9 = va_up w fa (some (.inl (0, 1400, .inl (opF f ev kd be me pa st (zb mk) (zb cq)))))) := by
  refine Ct.of (cc := cX3_openEvent) (own := RX3) (nm := "openEvent") (nL := 4) (ret := none) (by decide +kernel) rfl rfl rfl (Nat.le_of_ble_eq_true rfl) ?_
  refine j_lvE (lv' := [(0, .ref sc), (1, .int (nI kd)), (2, .int (zb mk)), (3, .int (zb cq))]) rfl ?_
  refine j_aload_n dX3_openEvent_0 0 rfl ?_
  refine j_aload_n dX3_openEvent_1 0 rfl ?_
  refine j_get flX3_openEvent_15 hs rfl dX3_openEvent_2 ?_
  refine j_iconst (v := nI 0) dX3_openEvent_5 (by decide) ?_
  refine j_iload_n dX3_openEvent_6 1 rfl ?_
  refine j_callV (rm := rX3_write) (As := [.int (nI ev), .int (nI 0), .int (nI kd)]) (st := []) (b0 := sc) (ci := 3) (na := 3) (c_write (e := ev) (c := 0) (v := nI kd) hs hf (by omega) (by omega)) (by intro E w9 h9; first | exact nomatch h9.1 | (obtain ⟨_, h9, _⟩ := h9; exact nomatch h9) | (obtain ⟨_, _, _, h9, _⟩ := h9; exact nomatch h9)) gX3_openEvent_X3_write rfl rfl hs (by decide +kernel) rfl ⟨Nat.le_of_ble_eq_true rfl, Nat.le_of_ble_eq_true rfl⟩ rfl (Nat.le_of_ble_eq_true rfl) dX3_openEvent_7 ⟨(show 0 + 0 ≤ 0 by omega), (show 0 + 0 ≤ 0 by omega)⟩ (fun v1 w2 h3 => ?_)
  obtain ⟨h3, h4⟩ := h3
  cases h3
  -- w2
  refine j_after (st' := []) (k' := 0) (n' := 0) rfl rfl rfl ?_
  have f5 : w2 sc = some (.inr (3, [.ref fa, .int (nI ev), .int (nI be), .int (nI cu), .int (nI st), .int (nI me), .int (nI pa)])) := by rw [h4]; exact (va_up_ne _ _ (fk hs hf rfl)).trans (hs)
  have f6 : w2 fa = some (.inl (0, 1400, .inl (upd f (ev * 14 + 0) (nI kd)))) := by rw [h4]; exact va_up_self _ _ _
  refine j_aload_n dX3_openEvent_10 0 rfl ?_
  refine j_aload_n dX3_openEvent_11 0 rfl ?_
  refine j_get flX3_openEvent_15 f5 rfl dX3_openEvent_12 ?_
  refine j_iconst (v := nI 1) dX3_openEvent_15 (by decide) ?_
  refine j_iconst (v := nI 0) dX3_openEvent_16 (by decide) ?_
  refine j_callV (rm := rX3_write) (As := [.int (nI ev), .int (nI 1), .int (nI 0)]) (st := []) (b0 := sc) (ci := 3) (na := 3) (c_write (e := ev) (c := 1) (v := nI 0) f5 f6 (by omega) (by omega)) (by intro E w9 h9; first | exact nomatch h9.1 | (obtain ⟨_, h9, _⟩ := h9; exact nomatch h9) | (obtain ⟨_, _, _, h9, _⟩ := h9; exact nomatch h9)) gX3_openEvent_X3_write rfl rfl f5 (by decide +kernel) rfl ⟨Nat.le_of_ble_eq_true rfl, Nat.le_of_ble_eq_true rfl⟩ rfl (Nat.le_of_ble_eq_true rfl) dX3_openEvent_17 ⟨(show 0 + 0 ≤ 0 by omega), (show 0 + 0 ≤ 0 by omega)⟩ (fun v7 w8 h9 => ?_)
  obtain ⟨h9, h10⟩ := h9
  cases h9
  -- w8
  refine j_after (st' := []) (k' := 0) (n' := 0) rfl rfl rfl ?_
  have f11 : w8 sc = some (.inr (3, [.ref fa, .int (nI ev), .int (nI be), .int (nI cu), .int (nI st), .int (nI me), .int (nI pa)])) := by rw [h10]; exact (va_up_ne _ _ (fk f5 f6 rfl)).trans (f5)
  have f12 : w8 fa = some (.inl (0, 1400, .inl (upd (upd f (ev * 14 + 0) (nI kd)) (ev * 14 + 1) (nI 0)))) := by rw [h10]; exact va_up_self _ _ _
  refine j_aload_n dX3_openEvent_20 0 rfl ?_
  refine j_aload_n dX3_openEvent_21 0 rfl ?_
  refine j_get flX3_openEvent_15 f11 rfl dX3_openEvent_22 ?_
  refine j_iconst (v := nI 2) dX3_openEvent_25 (by decide) ?_
  refine j_aload_n dX3_openEvent_26 0 rfl ?_
  refine j_get flX3_openEvent_19 f11 rfl dX3_openEvent_27 ?_
  refine j_callV (rm := rX3_write) (As := [.int (nI ev), .int (nI 2), .int (nI be)]) (st := []) (b0 := sc) (ci := 3) (na := 3) (c_write (e := ev) (c := 2) (v := nI be) f11 f12 (by omega) (by omega)) (by intro E w9 h9; first | exact nomatch h9.1 | (obtain ⟨_, h9, _⟩ := h9; exact nomatch h9) | (obtain ⟨_, _, _, h9, _⟩ := h9; exact nomatch h9)) gX3_openEvent_X3_write rfl rfl f11 (by decide +kernel) rfl ⟨Nat.le_of_ble_eq_true rfl, Nat.le_of_ble_eq_true rfl⟩ rfl (Nat.le_of_ble_eq_true rfl) dX3_openEvent_30 ⟨(show 0 + 0 ≤ 0 by omega), (show 0 + 0 ≤ 0 by omega)⟩ (fun v13 w14 h15 => ?_)
  obtain ⟨h15, h16⟩ := h15
  cases h15
  -- w14
  refine j_after (st' := []) (k' := 0) (n' := 0) rfl rfl rfl ?_
  have f17 : w14 sc = some (.inr (3, [.ref fa, .int (nI ev), .int (nI be), .int (nI cu), .int (nI st), .int (nI me), .int (nI pa)])) := by rw [h16]; exact (va_up_ne _ _ (fk f11 f12 rfl)).trans (f11)
  have f18 : w14 fa = some (.inl (0, 1400, .inl (upd (upd (upd f (ev * 14 + 0) (nI kd)) (ev * 14 + 1) (nI 0)) (ev * 14 + 2) (nI be)))) := by rw [h16]; exact va_up_self _ _ _
  refine j_aload_n dX3_openEvent_33 0 rfl ?_
  refine j_aload_n dX3_openEvent_34 0 rfl ?_
  refine j_get flX3_openEvent_15 f17 rfl dX3_openEvent_35 ?_
  refine j_iconst (v := nI 4) dX3_openEvent_38 (by decide) ?_
  refine j_aload_n dX3_openEvent_39 0 rfl ?_
  refine j_get flX3_openEvent_28 f17 rfl dX3_openEvent_40 ?_
  refine j_callV (rm := rX3_write) (As := [.int (nI ev), .int (nI 4), .int (nI me)]) (st := []) (b0 := sc) (ci := 3) (na := 3) (c_write (e := ev) (c := 4) (v := nI me) f17 f18 (by omega) (by omega)) (by intro E w9 h9; first | exact nomatch h9.1 | (obtain ⟨_, h9, _⟩ := h9; exact nomatch h9) | (obtain ⟨_, _, _, h9, _⟩ := h9; exact nomatch h9)) gX3_openEvent_X3_write rfl rfl f17 (by decide +kernel) rfl ⟨Nat.le_of_ble_eq_true rfl, Nat.le_of_ble_eq_true rfl⟩ rfl (Nat.le_of_ble_eq_true rfl) dX3_openEvent_43 ⟨(show 0 + 0 ≤ 0 by omega), (show 0 + 0 ≤ 0 by omega)⟩ (fun v19 w20 h21 => ?_)
  obtain ⟨h21, h22⟩ := h21
  cases h21
  -- w20
  refine j_after (st' := []) (k' := 0) (n' := 0) rfl rfl rfl ?_
  have f23 : w20 sc = some (.inr (3, [.ref fa, .int (nI ev), .int (nI be), .int (nI cu), .int (nI st), .int (nI me), .int (nI pa)])) := by rw [h22]; exact (va_up_ne _ _ (fk f17 f18 rfl)).trans (f17)
  have f24 : w20 fa = some (.inl (0, 1400, .inl (upd (upd (upd (upd f (ev * 14 + 0) (nI kd)) (ev * 14 + 1) (nI 0)) (ev * 14 + 2) (nI be)) (ev * 14 + 4) (nI me)))) := by rw [h22]; exact va_up_self _ _ _
  refine j_aload_n dX3_openEvent_46 0 rfl ?_
  refine j_aload_n dX3_openEvent_47 0 rfl ?_
  refine j_get flX3_openEvent_15 f23 rfl dX3_openEvent_48 ?_
  refine j_iconst (v := nI 5) dX3_openEvent_51 (by decide) ?_
  refine j_aload_n dX3_openEvent_52 0 rfl ?_
  refine j_get flX3_openEvent_31 f23 rfl dX3_openEvent_53 ?_
  refine j_callV (rm := rX3_write) (As := [.int (nI ev), .int (nI 5), .int (nI pa)]) (st := []) (b0 := sc) (ci := 3) (na := 3) (c_write (e := ev) (c := 5) (v := nI pa) f23 f24 (by omega) (by omega)) (by intro E w9 h9; first | exact nomatch h9.1 | (obtain ⟨_, h9, _⟩ := h9; exact nomatch h9) | (obtain ⟨_, _, _, h9, _⟩ := h9; exact nomatch h9)) gX3_openEvent_X3_write rfl rfl f23 (by decide +kernel) rfl ⟨Nat.le_of_ble_eq_true rfl, Nat.le_of_ble_eq_true rfl⟩ rfl (Nat.le_of_ble_eq_true rfl) dX3_openEvent_56 ⟨(show 0 + 0 ≤ 0 by omega), (show 0 + 0 ≤ 0 by omega)⟩ (fun v25 w26 h27 => ?_)
  obtain ⟨h27, h28⟩ := h27
  cases h27
  -- w26
  refine j_after (st' := []) (k' := 0) (n' := 0) rfl rfl rfl ?_
  have f29 : w26 sc = some (.inr (3, [.ref fa, .int (nI ev), .int (nI be), .int (nI cu), .int (nI st), .int (nI me), .int (nI pa)])) := by rw [h28]; exact (va_up_ne _ _ (fk f23 f24 rfl)).trans (f23)
  have f30 : w26 fa = some (.inl (0, 1400, .inl (upd (upd (upd (upd (upd f (ev * 14 + 0) (nI kd)) (ev * 14 + 1) (nI 0)) (ev * 14 + 2) (nI be)) (ev * 14 + 4) (nI me)) (ev * 14 + 5) (nI pa)))) := by rw [h28]; exact va_up_self _ _ _
  refine j_aload_n dX3_openEvent_59 0 rfl ?_
  refine j_aload_n dX3_openEvent_60 0 rfl ?_
  refine j_get flX3_openEvent_15 f29 rfl dX3_openEvent_61 ?_
  refine j_bipush (v := nI 6) dX3_openEvent_64 (by decide) ?_
  refine j_iload_n dX3_openEvent_66 2 rfl ?_
  refine j_ztern 74 75 dX3_openEvent_67 (by decide) dX3_openEvent_70 dX3_openEvent_71 (by decide) dX3_openEvent_74 rfl ?_
  refine j_callV (rm := rX3_write) (As := [.int (nI ev), .int (nI 6), .int (zb mk)]) (st := []) (b0 := sc) (ci := 3) (na := 3) (c_write (e := ev) (c := 6) (v := zb mk) f29 f30 (by omega) (by omega)) (by intro E w9 h9; first | exact nomatch h9.1 | (obtain ⟨_, h9, _⟩ := h9; exact nomatch h9) | (obtain ⟨_, _, _, h9, _⟩ := h9; exact nomatch h9)) gX3_openEvent_X3_write rfl rfl f29 (by decide +kernel) rfl ⟨Nat.le_of_ble_eq_true rfl, Nat.le_of_ble_eq_true rfl⟩ rfl (Nat.le_of_ble_eq_true rfl) dX3_openEvent_75 ⟨(show 0 + 0 ≤ 0 by omega), (show 0 + 0 ≤ 0 by omega)⟩ (fun v31 w32 h33 => ?_)
  obtain ⟨h33, h34⟩ := h33
  cases h33
  -- w32
  refine j_after (st' := []) (k' := 0) (n' := 0) rfl rfl rfl ?_
  have f35 : w32 sc = some (.inr (3, [.ref fa, .int (nI ev), .int (nI be), .int (nI cu), .int (nI st), .int (nI me), .int (nI pa)])) := by rw [h34]; exact (va_up_ne _ _ (fk f29 f30 rfl)).trans (f29)
  have f36 : w32 fa = some (.inl (0, 1400, .inl (upd (upd (upd (upd (upd (upd f (ev * 14 + 0) (nI kd)) (ev * 14 + 1) (nI 0)) (ev * 14 + 2) (nI be)) (ev * 14 + 4) (nI me)) (ev * 14 + 5) (nI pa)) (ev * 14 + 6) (zb mk)))) := by rw [h34]; exact va_up_self _ _ _
  refine j_aload_n dX3_openEvent_78 0 rfl ?_
  refine j_aload_n dX3_openEvent_79 0 rfl ?_
  refine j_get flX3_openEvent_15 f35 rfl dX3_openEvent_80 ?_
  refine j_bipush (v := nI 7) dX3_openEvent_83 (by decide) ?_
  refine j_iload_n dX3_openEvent_85 3 rfl ?_
  refine j_ztern 93 94 dX3_openEvent_86 (by decide) dX3_openEvent_89 dX3_openEvent_90 (by decide) dX3_openEvent_93 rfl ?_
  refine j_callV (rm := rX3_write) (As := [.int (nI ev), .int (nI 7), .int (zb cq)]) (st := []) (b0 := sc) (ci := 3) (na := 3) (c_write (e := ev) (c := 7) (v := zb cq) f35 f36 (by omega) (by omega)) (by intro E w9 h9; first | exact nomatch h9.1 | (obtain ⟨_, h9, _⟩ := h9; exact nomatch h9) | (obtain ⟨_, _, _, h9, _⟩ := h9; exact nomatch h9)) gX3_openEvent_X3_write rfl rfl f35 (by decide +kernel) rfl ⟨Nat.le_of_ble_eq_true rfl, Nat.le_of_ble_eq_true rfl⟩ rfl (Nat.le_of_ble_eq_true rfl) dX3_openEvent_94 ⟨(show 0 + 0 ≤ 0 by omega), (show 0 + 0 ≤ 0 by omega)⟩ (fun v37 w38 h39 => ?_)
  obtain ⟨h39, h40⟩ := h39
  cases h39
  -- w38
  refine j_after (st' := []) (k' := 0) (n' := 0) rfl rfl rfl ?_
  have f41 : w38 sc = some (.inr (3, [.ref fa, .int (nI ev), .int (nI be), .int (nI cu), .int (nI st), .int (nI me), .int (nI pa)])) := by rw [h40]; exact (va_up_ne _ _ (fk f35 f36 rfl)).trans (f35)
  have f42 : w38 fa = some (.inl (0, 1400, .inl (upd (upd (upd (upd (upd (upd (upd f (ev * 14 + 0) (nI kd)) (ev * 14 + 1) (nI 0)) (ev * 14 + 2) (nI be)) (ev * 14 + 4) (nI me)) (ev * 14 + 5) (nI pa)) (ev * 14 + 6) (zb mk)) (ev * 14 + 7) (zb cq)))) := by rw [h40]; exact va_up_self _ _ _
  refine j_aload_n dX3_openEvent_97 0 rfl ?_
  refine j_aload_n dX3_openEvent_98 0 rfl ?_
  refine j_get flX3_openEvent_15 f41 rfl dX3_openEvent_99 ?_
  refine j_bipush (v := nI 8) dX3_openEvent_102 (by decide) ?_
  refine j_iconst (v := (-1)) dX3_openEvent_104 (by decide) ?_
  refine j_callV (rm := rX3_write) (As := [.int (nI ev), .int (nI 8), .int ((-1))]) (st := []) (b0 := sc) (ci := 3) (na := 3) (c_write (e := ev) (c := 8) (v := (-1)) f41 f42 (by omega) (by omega)) (by intro E w9 h9; first | exact nomatch h9.1 | (obtain ⟨_, h9, _⟩ := h9; exact nomatch h9) | (obtain ⟨_, _, _, h9, _⟩ := h9; exact nomatch h9)) gX3_openEvent_X3_write rfl rfl f41 (by decide +kernel) rfl ⟨Nat.le_of_ble_eq_true rfl, Nat.le_of_ble_eq_true rfl⟩ rfl (Nat.le_of_ble_eq_true rfl) dX3_openEvent_105 ⟨(show 0 + 0 ≤ 0 by omega), (show 0 + 0 ≤ 0 by omega)⟩ (fun v43 w44 h45 => ?_)
  obtain ⟨h45, h46⟩ := h45
  cases h45
  -- w44
  refine j_after (st' := []) (k' := 0) (n' := 0) rfl rfl rfl ?_
  have f47 : w44 sc = some (.inr (3, [.ref fa, .int (nI ev), .int (nI be), .int (nI cu), .int (nI st), .int (nI me), .int (nI pa)])) := by rw [h46]; exact (va_up_ne _ _ (fk f41 f42 rfl)).trans (f41)
  have f48 : w44 fa = some (.inl (0, 1400, .inl (upd (upd (upd (upd (upd (upd (upd (upd f (ev * 14 + 0) (nI kd)) (ev * 14 + 1) (nI 0)) (ev * 14 + 2) (nI be)) (ev * 14 + 4) (nI me)) (ev * 14 + 5) (nI pa)) (ev * 14 + 6) (zb mk)) (ev * 14 + 7) (zb cq)) (ev * 14 + 8) ((-1))))) := by rw [h46]; exact va_up_self _ _ _
  refine j_aload_n dX3_openEvent_108 0 rfl ?_
  refine j_aload_n dX3_openEvent_109 0 rfl ?_
  refine j_get flX3_openEvent_15 f47 rfl dX3_openEvent_110 ?_
  refine j_bipush (v := nI 13) dX3_openEvent_113 (by decide) ?_
  refine j_aload_n dX3_openEvent_115 0 rfl ?_
  refine j_get flX3_openEvent_25 f47 rfl dX3_openEvent_116 ?_
  refine j_callV (rm := rX3_write) (As := [.int (nI ev), .int (nI 13), .int (nI st)]) (st := []) (b0 := sc) (ci := 3) (na := 3) (c_write (e := ev) (c := 13) (v := nI st) f47 f48 (by omega) (by omega)) (by intro E w9 h9; first | exact nomatch h9.1 | (obtain ⟨_, h9, _⟩ := h9; exact nomatch h9) | (obtain ⟨_, _, _, h9, _⟩ := h9; exact nomatch h9)) gX3_openEvent_X3_write rfl rfl f47 (by decide +kernel) rfl ⟨Nat.le_of_ble_eq_true rfl, Nat.le_of_ble_eq_true rfl⟩ rfl (Nat.le_of_ble_eq_true rfl) dX3_openEvent_119 ⟨(show 0 + 0 ≤ 0 by omega), (show 0 + 0 ≤ 0 by omega)⟩ (fun v49 w50 h51 => ?_)
  obtain ⟨h51, h52⟩ := h51
  cases h51
  -- w50
  refine j_after (st' := []) (k' := 0) (n' := 0) rfl rfl rfl ?_
  have f53 : w50 sc = some (.inr (3, [.ref fa, .int (nI ev), .int (nI be), .int (nI cu), .int (nI st), .int (nI me), .int (nI pa)])) := by rw [h52]; exact (va_up_ne _ _ (fk f47 f48 rfl)).trans (f47)
  have f54 : w50 fa = some (.inl (0, 1400, .inl (upd (upd (upd (upd (upd (upd (upd (upd (upd f (ev * 14 + 0) (nI kd)) (ev * 14 + 1) (nI 0)) (ev * 14 + 2) (nI be)) (ev * 14 + 4) (nI me)) (ev * 14 + 5) (nI pa)) (ev * 14 + 6) (zb mk)) (ev * 14 + 7) (zb cq)) (ev * 14 + 8) ((-1))) (ev * 14 + 13) (nI st)))) := by rw [h52]; exact va_up_self _ _ _
  exact j_vret rfl ⟨rfl, by rw [h52, h46, h40, h34, h28, h22, h16, h10, h4] <;> (try simp only [bx_uu]) <;> (try rfl)⟩ (show 0 ≤ 0 by omega) (show 0 ≤ 0 by omega) dX3_openEvent_122
abbrev rX3_openPitches : Room := { frames := 1, cells := 0, slots := 0, locals := 22 }
theorem flX3_openPitches_15 : FL wsX3_openPitches RX3 15 3 1 := ⟨RX3, TX3, 7, rfl, by decide, by decide +kernel, by decide +kernel⟩
set_option maxHeartbeats 4000000 in
set_option maxRecDepth 100000 in
theorem c_openPitches {w : pW} {sc fa : Nat} {ev be cu st me pa : Nat} {f : Nat → Int32} (hs : w sc = some (.inr (3, [.ref fa, .int (nI ev), .int (nI be), .int (nI cu), .int (nI st), .int (nI me), .int (nI pa)]))) (hf : w fa = some (.inl (0, 1400, .inl f))) (hev : ev < 100) : Ct yX3_openPitches wsX3_openPitches rX3_openPitches [.ref sc] w (fun o w9 => o = .inl (some (.int (f (ev * 14 + 1)))) ∧ w9 = w) := by
  refine Ct.of (cc := cX3_openPitches) (own := RX3) (nm := "openPitches") (nL := 1) (ret := (some .int)) (by decide +kernel) rfl rfl rfl (Nat.le_of_ble_eq_true rfl) ?_
  refine j_lvE (lv' := [(0, .ref sc)]) rfl ?_
  refine j_aload_n dX3_openPitches_0 0 rfl ?_
  refine j_aload_n dX3_openPitches_1 0 rfl ?_
  refine j_get flX3_openPitches_15 hs rfl dX3_openPitches_2 ?_
  refine j_iconst (v := nI 1) dX3_openPitches_5 (by decide) ?_
  refine j_callV (rm := rX3_fact) (As := [.int (nI ev), .int (nI 1)]) (st := []) (b0 := sc) (ci := 3) (na := 2) (c_fact (e := ev) (c := 1) hs hf (by omega) (by omega)) (by intro E w9 h9; first | exact nomatch h9.1 | (obtain ⟨_, h9, _⟩ := h9; exact nomatch h9) | (obtain ⟨_, _, _, h9, _⟩ := h9; exact nomatch h9)) gX3_openPitches_X3_fact rfl rfl hs (by decide +kernel) rfl ⟨Nat.le_of_ble_eq_true rfl, Nat.le_of_ble_eq_true rfl⟩ rfl (Nat.le_of_ble_eq_true rfl) dX3_openPitches_6 ⟨(show 0 + 0 ≤ 0 by omega), (show 0 + 0 ≤ 0 by omega)⟩ (fun v1 w2 h3 => ?_)
  obtain ⟨h3, h4⟩ := h3
  cases h3
  subst w2
  refine j_after (st' := [.int (f (ev * 14 + 1))]) (k' := 0) (n' := 0) rfl rfl rfl ?_
  exact j_iret rfl ⟨rfl, rfl⟩ (show 0 ≤ 0 by omega) (show 0 ≤ 0 by omega) dX3_openPitches_9
/-- whether one of the first np pitches of the row is p -/
def hasP (f : Nat → Int32) (ev np : Nat) (p : Int32) : Option Nat := fstN (fun i => f (ev * 14 + (9 + i)) == p) np 0
abbrev rX3_openHasPitch : Room := { frames := 2, cells := 0, slots := 0, locals := 42 }
theorem flX3_openHasPitch_15 : FL wsX3_openHasPitch RX3 15 3 1 := ⟨RX3, TX3, 7, rfl, by decide, by decide +kernel, by decide +kernel⟩
set_option maxHeartbeats 4000000 in
set_option maxRecDepth 100000 in
theorem l_openHasPitch {w : pW} {sc fa : Nat} {ev be cu st me pa : Nat} {f : Nat → Int32} (hs : w sc = some (.inr (3, [.ref fa, .int (nI ev), .int (nI be), .int (nI cu), .int (nI st), .int (nI me), .int (nI pa)]))) (hf : w fa = some (.inl (0, 1400, .inl f))) {np : Nat} {p : Int32} {r : Option Nat} (hev : ev < 100) (hnp : np ≤ 4) : ∀ (m9 : Nat) (i : Nat), np - i < m9 → (i ≤ np) → (fstN (fun i => f (ev * 14 + (9 + i)) == p) (np - i) i = r) → J ((cX3_openHasPitch, RX3, 4, wsX3_openHasPitch), (rX3_openHasPitch, (some .boolean), "openHasPitch", []), fun o w9 => o = .inl (some (.int (zb r.isSome))) ∧ w9 = w, fun _ _ _ => True) 7 [(0, .ref sc), (1, .int p), (2, .int (nI np)), (3, .int (nI i))] [] w 0 0 := by
  intro m9
  induction m9 with
  | zero => intro i h9; omega
  | succ m9 ih =>
    intro i hm9 hi hr
    refine j_iload_n dX3_openHasPitch_7 3 rfl ?_
    refine j_iload_n dX3_openHasPitch_8 2 rfl ?_
    refine j_icmp_geN 36 (by omega) (by omega) dX3_openHasPitch_9 (by decide) (fun c9 => ?_) (fun c9 => ?_)
    · skip
      refine j_iconst (v := nI 0) dX3_openHasPitch_36 (by decide) ?_
      exact j_zret rfl (Or.inl rfl) ⟨by rw [← hr, fstN_end (by omega)]; rfl, rfl⟩ (show 0 ≤ 0 by omega) (show 0 ≤ 0 by omega) dX3_openHasPitch_37
    · skip
      refine j_aload_n dX3_openHasPitch_12 0 rfl ?_
      refine j_aload_n dX3_openHasPitch_13 0 rfl ?_
      refine j_get flX3_openHasPitch_15 hs rfl dX3_openHasPitch_14 ?_
      refine j_bipush (v := nI 9) dX3_openHasPitch_17 (by decide) ?_
      refine j_iload_n dX3_openHasPitch_19 3 rfl ?_
      refine j_iaddN dX3_openHasPitch_20 ?_
      refine j_callV (rm := rX3_fact) (As := [.int (nI ev), .int (nI (9 + i))]) (st := []) (b0 := sc) (ci := 3) (na := 2) (c_fact (e := ev) (c := (9 + i)) hs hf (by omega) (by omega)) (by intro E w9 h9; first | exact nomatch h9.1 | (obtain ⟨_, h9, _⟩ := h9; exact nomatch h9) | (obtain ⟨_, _, _, h9, _⟩ := h9; exact nomatch h9)) gX3_openHasPitch_X3_fact rfl rfl hs (by decide +kernel) rfl ⟨Nat.le_of_ble_eq_true rfl, Nat.le_of_ble_eq_true rfl⟩ rfl (Nat.le_of_ble_eq_true rfl) dX3_openHasPitch_21 ⟨(show 0 + 0 ≤ 0 by omega), (show 0 + 0 ≤ 0 by omega)⟩ (fun v1 w2 h3 => ?_)
      obtain ⟨h3, h4⟩ := h3
      cases h3
      subst w2
      refine j_after (st' := [.int (f (ev * 14 + (9 + i)))]) (k' := 0) (n' := 0) rfl rfl rfl ?_
      refine j_iload_n dX3_openHasPitch_24 1 rfl ?_
      refine j_icmp_ne 30 dX3_openHasPitch_25 (by decide) (fun c25 => ?_) (fun c25 => ?_)
      · skip
        refine j_iinc (q := 3) (v := nI (i + 1)) (lv' := [(3, .int (nI (i + 1))), (0, .ref sc), (1, .int p), (2, .int (nI np))]) dX3_openHasPitch_30 rfl (by first | exact nI_1 _ | exact nI_add _ _) (Nat.le_of_ble_eq_true rfl) rfl ?_
        refine j_goto 7 dX3_openHasPitch_33 (by decide) ?_
        refine j_lv (lv' := [(0, .ref sc), (1, .int p), (2, .int (nI np)), (3, .int (nI (i + 1)))]) [1, 2, 3, 0] rfl ?_
        exact ih (i + 1) (by omega) (by omega) (by rw [← hr]; exact (fstN_miss (by omega) (by simpa using c25)).symm)
      · skip
        refine j_iconst (v := nI 1) dX3_openHasPitch_28 (by decide) ?_
        exact j_zret rfl (Or.inr rfl) ⟨by rw [← hr, fstN_hit (by omega) (by simpa using c25)]; rfl, rfl⟩ (show 0 ≤ 0 by omega) (show 0 ≤ 0 by omega) dX3_openHasPitch_29
set_option maxHeartbeats 4000000 in
set_option maxRecDepth 100000 in
theorem c_openHasPitch {w : pW} {sc fa : Nat} {ev be cu st me pa : Nat} {f : Nat → Int32} (hs : w sc = some (.inr (3, [.ref fa, .int (nI ev), .int (nI be), .int (nI cu), .int (nI st), .int (nI me), .int (nI pa)]))) (hf : w fa = some (.inl (0, 1400, .inl f))) {np : Nat} {p : Int32} (hev : ev < 100) (hnp : np ≤ 4) (hp : f (ev * 14 + 1) = nI np) : Ct yX3_openHasPitch wsX3_openHasPitch rX3_openHasPitch [.ref sc, .int p] w (fun o w9 => o = .inl (some (.int (zb (hasP f ev np p).isSome))) ∧ w9 = w) := by
  refine Ct.of (cc := cX3_openHasPitch) (own := RX3) (nm := "openHasPitch") (nL := 4) (ret := (some .boolean)) (by decide +kernel) rfl rfl rfl (Nat.le_of_ble_eq_true rfl) ?_
  refine j_lvE (lv' := [(0, .ref sc), (1, .int p)]) rfl ?_
  refine j_aload_n dX3_openHasPitch_0 0 rfl ?_
  refine j_callV (rm := rX3_openPitches) (As := []) (st := []) (b0 := sc) (ci := 3) (na := 0) (c_openPitches hs hf (by omega)) (by intro E w9 h9; first | exact nomatch h9.1 | (obtain ⟨_, h9, _⟩ := h9; exact nomatch h9) | (obtain ⟨_, _, _, h9, _⟩ := h9; exact nomatch h9)) gX3_openHasPitch_X3_openPitches rfl rfl hs (by decide +kernel) rfl ⟨Nat.le_of_ble_eq_true rfl, Nat.le_of_ble_eq_true rfl⟩ rfl (Nat.le_of_ble_eq_true rfl) dX3_openHasPitch_1 ⟨(show 0 + 0 ≤ 0 by omega), (show 0 + 0 ≤ 0 by omega)⟩ (fun v1 w2 h3 => ?_)
  obtain ⟨h3, h4⟩ := h3
  cases h3
  subst w2
  refine j_after (st' := [.int (f (ev * 14 + 1))]) (k' := 0) (n' := 0) rfl rfl rfl ?_
  refine j_eqi (y := nI np) (hp) ?_
  refine j_istore_n (lv' := [(2, .int (nI np)), (0, .ref sc), (1, .int p)]) dX3_openHasPitch_4 (Nat.le_of_ble_eq_true rfl) rfl ?_
  refine j_iconst (v := nI 0) dX3_openHasPitch_5 (by decide) ?_
  refine j_istore_n (lv' := [(3, .int (nI 0)), (2, .int (nI np)), (0, .ref sc), (1, .int p)]) dX3_openHasPitch_6 (Nat.le_of_ble_eq_true rfl) rfl ?_
  refine j_lv (lv' := [(0, .ref sc), (1, .int p), (2, .int (nI np)), (3, .int (nI 0))]) [2, 3, 1, 0] rfl ?_
  exact l_openHasPitch hs hf hev hnp (np + 1) 0 (by omega) (by omega) rfl
/-- a pitch more -/
def adF (f : Nat → Int32) (ev np : Nat) (p : Int32) : Nat → Int32 := upd (upd f (ev * 14 + (9 + np)) p) (ev * 14 + 1) (nI (np + 1))
abbrev rX3_addPitch : Room := { frames := 2, cells := 0, slots := 0, locals := 42 }
theorem flX3_addPitch_15 : FL wsX3_addPitch RX3 15 3 1 := ⟨RX3, TX3, 7, rfl, by decide, by decide +kernel, by decide +kernel⟩
set_option maxHeartbeats 4000000 in
set_option maxRecDepth 100000 in
theorem c_addPitch {w : pW} {sc fa : Nat} {ev be cu st me pa : Nat} {f : Nat → Int32} (hs : w sc = some (.inr (3, [.ref fa, .int (nI ev), .int (nI be), .int (nI cu), .int (nI st), .int (nI me), .int (nI pa)]))) (hf : w fa = some (.inl (0, 1400, .inl f))) {np : Nat} {p : Int32} (hev : ev < 100) (hnp : np < 4) (hp : f (ev * 14 + 1) = nI np) : Ct yX3_addPitch wsX3_addPitch rX3_addPitch [.ref sc, .int p] w (fun o w9 => o = .inl none ∧ w9 = va_up w fa (some (.inl (0, 1400, .inl (adF f ev np p))))) := by
  refine Ct.of (cc := cX3_addPitch) (own := RX3) (nm := "addPitch") (nL := 3) (ret := none) (by decide +kernel) rfl rfl rfl (Nat.le_of_ble_eq_true rfl) ?_
  refine j_lvE (lv' := [(0, .ref sc), (1, .int p)]) rfl ?_
  refine j_aload_n dX3_addPitch_0 0 rfl ?_
  refine j_callV (rm := rX3_openPitches) (As := []) (st := []) (b0 := sc) (ci := 3) (na := 0) (c_openPitches hs hf (by omega)) (by intro E w9 h9; first | exact nomatch h9.1 | (obtain ⟨_, h9, _⟩ := h9; exact nomatch h9) | (obtain ⟨_, _, _, h9, _⟩ := h9; exact nomatch h9)) gX3_addPitch_X3_openPitches rfl rfl hs (by decide +kernel) rfl ⟨Nat.le_of_ble_eq_true rfl, Nat.le_of_ble_eq_true rfl⟩ rfl (Nat.le_of_ble_eq_true rfl) dX3_addPitch_1 ⟨(show 0 + 0 ≤ 0 by omega), (show 0 + 0 ≤ 0 by omega)⟩ (fun v1 w2 h3 => ?_)
  obtain ⟨h3, h4⟩ := h3
  cases h3
  subst w2
  refine j_after (st' := [.int (f (ev * 14 + 1))]) (k' := 0) (n' := 0) rfl rfl rfl ?_
  refine j_eqi (y := nI np) (hp) ?_
  refine j_istore_n (lv' := [(2, .int (nI np)), (0, .ref sc), (1, .int p)]) dX3_addPitch_4 (Nat.le_of_ble_eq_true rfl) rfl ?_
  refine j_iload_n dX3_addPitch_5 0 rfl ?_
  refine j_if_ltN (by omega) dX3_addPitch_6 (by decide : _ = ((39 : Nat) : Int)) ?_
  refine j_iload_n dX3_addPitch_9 0 rfl ?_
  refine j_iconst (v := nI 4) dX3_addPitch_10 (by decide) ?_
  refine j_icmp_geN 39 (by omega) (by omega) dX3_addPitch_11 (by decide) (fun c11 => ?_) (fun c11 => ?_)
  · skip
    exfalso; omega
  · skip
    refine j_aload_n dX3_addPitch_14 1 rfl ?_
    refine j_aload_n dX3_addPitch_15 1 rfl ?_
    refine j_get flX3_addPitch_15 hs rfl dX3_addPitch_16 ?_
    refine j_bipush (v := nI 9) dX3_addPitch_19 (by decide) ?_
    refine j_iload_n dX3_addPitch_21 0 rfl ?_
    refine j_iaddN dX3_addPitch_22 ?_
    refine j_iload_n dX3_addPitch_23 2 rfl ?_
    refine j_callV (rm := rX3_write) (As := [.int (nI ev), .int (nI (9 + np)), .int p]) (st := []) (b0 := sc) (ci := 3) (na := 3) (c_write (e := ev) (c := (9 + np)) (v := p) hs hf (by omega) (by omega)) (by intro E w9 h9; first | exact nomatch h9.1 | (obtain ⟨_, h9, _⟩ := h9; exact nomatch h9) | (obtain ⟨_, _, _, h9, _⟩ := h9; exact nomatch h9)) gX3_addPitch_X3_write rfl rfl hs (by decide +kernel) rfl ⟨Nat.le_of_ble_eq_true rfl, Nat.le_of_ble_eq_true rfl⟩ rfl (Nat.le_of_ble_eq_true rfl) dX3_addPitch_24 ⟨(show 0 + 0 ≤ 0 by omega), (show 0 + 0 ≤ 0 by omega)⟩ (fun v5 w6 h7 => ?_)
    obtain ⟨h7, h8⟩ := h7
    cases h7
    -- w6
    refine j_after (st' := []) (k' := 0) (n' := 0) rfl rfl rfl ?_
    have f9 : w6 sc = some (.inr (3, [.ref fa, .int (nI ev), .int (nI be), .int (nI cu), .int (nI st), .int (nI me), .int (nI pa)])) := by rw [h8]; exact (va_up_ne _ _ (fk hs hf rfl)).trans (hs)
    have f10 : w6 fa = some (.inl (0, 1400, .inl (upd f (ev * 14 + (9 + np)) p))) := by rw [h8]; exact va_up_self _ _ _
    refine j_aload_n dX3_addPitch_27 1 rfl ?_
    refine j_aload_n dX3_addPitch_28 1 rfl ?_
    refine j_get flX3_addPitch_15 f9 rfl dX3_addPitch_29 ?_
    refine j_iconst (v := nI 1) dX3_addPitch_32 (by decide) ?_
    refine j_iload_n dX3_addPitch_33 0 rfl ?_
    refine j_iconst (v := nI 1) dX3_addPitch_34 (by decide) ?_
    refine j_iaddN dX3_addPitch_35 ?_
    refine j_callV (rm := rX3_write) (As := [.int (nI ev), .int (nI 1), .int (nI (np + 1))]) (st := []) (b0 := sc) (ci := 3) (na := 3) (c_write (e := ev) (c := 1) (v := nI (np + 1)) f9 f10 (by omega) (by omega)) (by intro E w9 h9; first | exact nomatch h9.1 | (obtain ⟨_, h9, _⟩ := h9; exact nomatch h9) | (obtain ⟨_, _, _, h9, _⟩ := h9; exact nomatch h9)) gX3_addPitch_X3_write rfl rfl f9 (by decide +kernel) rfl ⟨Nat.le_of_ble_eq_true rfl, Nat.le_of_ble_eq_true rfl⟩ rfl (Nat.le_of_ble_eq_true rfl) dX3_addPitch_36 ⟨(show 0 + 0 ≤ 0 by omega), (show 0 + 0 ≤ 0 by omega)⟩ (fun v11 w12 h13 => ?_)
    obtain ⟨h13, h14⟩ := h13
    cases h13
    -- w12
    refine j_after (st' := []) (k' := 0) (n' := 0) rfl rfl rfl ?_
    have f15 : w12 sc = some (.inr (3, [.ref fa, .int (nI ev), .int (nI be), .int (nI cu), .int (nI st), .int (nI me), .int (nI pa)])) := by rw [h14]; exact (va_up_ne _ _ (fk f9 f10 rfl)).trans (f9)
    have f16 : w12 fa = some (.inl (0, 1400, .inl (upd (upd f (ev * 14 + (9 + np)) p) (ev * 14 + 1) (nI (np + 1))))) := by rw [h14]; exact va_up_self _ _ _
    exact j_vret rfl ⟨rfl, by rw [h14, h8] <;> (try simp only [bx_uu]) <;> (try rfl)⟩ (show 0 ≤ 0 by omega) (show 0 ≤ 0 by omega) dX3_addPitch_39
abbrev rX3_allBits : Room := { frames := 1, cells := 0, slots := 0, locals := 22 }
set_option maxHeartbeats 4000000 in
set_option maxRecDepth 100000 in
theorem c_allBits {w : pW} {sc fa : Nat} {ev be cu st me pa : Nat} {f : Nat → Int32} (hs : w sc = some (.inr (3, [.ref fa, .int (nI ev), .int (nI be), .int (nI cu), .int (nI st), .int (nI me), .int (nI pa)]))) (hf : w fa = some (.inl (0, 1400, .inl f))) {e np : Nat} (he : e < 100) (hnp : np ≤ 4) (hp : f (e * 14 + 1) = nI np) : Ct yX3_allBits wsX3_allBits rX3_allBits [.ref sc, .int (nI e)] w (fun o w9 => o = .inl (some (.int (nI (2 ^ np - 1)))) ∧ w9 = w) := by
  refine Ct.of (cc := cX3_allBits) (own := RX3) (nm := "allBits") (nL := 3) (ret := (some .int)) (by decide +kernel) rfl rfl rfl (Nat.le_of_ble_eq_true rfl) ?_
  refine j_lvE (lv' := [(0, .ref sc), (1, .int (nI e))]) rfl ?_
  refine j_aload_n dX3_allBits_0 0 rfl ?_
  refine j_iload_n dX3_allBits_1 1 rfl ?_
  refine j_iconst (v := nI 1) dX3_allBits_2 (by decide) ?_
  refine j_callV (rm := rX3_fact) (As := [.int (nI e), .int (nI 1)]) (st := []) (b0 := sc) (ci := 3) (na := 2) (c_fact (e := e) (c := 1) hs hf (by omega) (by omega)) (by intro E w9 h9; first | exact nomatch h9.1 | (obtain ⟨_, h9, _⟩ := h9; exact nomatch h9) | (obtain ⟨_, _, _, h9, _⟩ := h9; exact nomatch h9)) gX3_allBits_X3_fact rfl rfl hs (by decide +kernel) rfl ⟨Nat.le_of_ble_eq_true rfl, Nat.le_of_ble_eq_true rfl⟩ rfl (Nat.le_of_ble_eq_true rfl) dX3_allBits_3 ⟨(show 0 + 0 ≤ 0 by omega), (show 0 + 0 ≤ 0 by omega)⟩ (fun v1 w2 h3 => ?_)
  obtain ⟨h3, h4⟩ := h3
  cases h3
  subst w2
  refine j_after (st' := [.int (f (e * 14 + 1))]) (k' := 0) (n' := 0) rfl rfl rfl ?_
  refine j_eqi (y := nI np) (hp) ?_
  refine j_istore_n (lv' := [(2, .int (nI np)), (0, .ref sc), (1, .int (nI e))]) dX3_allBits_6 (Nat.le_of_ble_eq_true rfl) rfl ?_
  refine j_iload_n dX3_allBits_7 0 rfl ?_
  refine j_if_gtN 15 (by omega) dX3_allBits_8 (by decide) (fun c8 => ?_) (fun c8 => ?_)
  · skip
    refine j_iconst (v := nI 1) dX3_allBits_15 (by decide) ?_
    refine j_iload_n dX3_allBits_16 0 rfl ?_
    refine j_ishl dX3_allBits_17 ?_
    refine j_eqi (y := nI (2 ^ np)) (sh4 (by omega)) ?_
    have h2 := Nat.two_pow_pos np
    refine j_iconst (v := nI 1) dX3_allBits_18 (by decide) ?_
    refine j_isubN (by omega) dX3_allBits_19 ?_
    exact j_iret rfl ⟨rfl, rfl⟩ (show 0 ≤ 0 by omega) (show 0 ≤ 0 by omega) dX3_allBits_20
  · skip
    refine j_iconst (v := nI 0) dX3_allBits_11 (by decide) ?_
    refine j_goto 20 dX3_allBits_12 (by decide) ?_
    exact j_iret rfl ⟨by rw [c8], rfl⟩ (show 0 ≤ 0 by omega) (show 0 ≤ 0 by omega) dX3_allBits_20
abbrev rX3_closeEvent : Room := { frames := 2, cells := 0, slots := 0, locals := 44 }
theorem flX3_closeEvent_15 : FL wsX3_closeEvent RX3 15 3 1 := ⟨RX3, TX3, 7, rfl, by decide, by decide +kernel, by decide +kernel⟩
theorem flX3_closeEvent_19 : FL wsX3_closeEvent RX3 19 3 2 := ⟨RX3, TX3, 7, rfl, by decide, by decide +kernel, by decide +kernel⟩
theorem fsX3_closeEvent_19 : FS wsX3_closeEvent RX3 19 3 2 false (.int) := ⟨RX3, TX3, 7, tyX3, rfl, by decide, by decide +kernel, by decide +kernel, tyX3_ok, nmX3, rfl, rfl, rfl⟩
theorem flX3_closeEvent_22 : FL wsX3_closeEvent RX3 22 3 3 := ⟨RX3, TX3, 7, rfl, by decide, by decide +kernel, by decide +kernel⟩
theorem fsX3_closeEvent_22 : FS wsX3_closeEvent RX3 22 3 3 false (.int) := ⟨RX3, TX3, 7, tyX3, rfl, by decide, by decide +kernel, by decide +kernel, tyX3_ok, nmX3, rfl, rfl, rfl⟩
theorem flX3_closeEvent_25 : FL wsX3_closeEvent RX3 25 3 4 := ⟨RX3, TX3, 7, rfl, by decide, by decide +kernel, by decide +kernel⟩
theorem fsX3_closeEvent_25 : FS wsX3_closeEvent RX3 25 3 4 false (.int) := ⟨RX3, TX3, 7, tyX3, rfl, by decide, by decide +kernel, by decide +kernel, tyX3_ok, nmX3, rfl, rfl, rfl⟩
theorem fsX3_closeEvent_15 : FS wsX3_closeEvent RX3 15 3 1 false (.int) := ⟨RX3, TX3, 7, tyX3, rfl, by decide, by decide +kernel, by decide +kernel, tyX3_ok, nmX3, rfl, rfl, rfl⟩
set_option maxHeartbeats 4000000 in
set_option maxRecDepth 100000 in
theorem c_closeEvent {w : pW} {sc fa : Nat} {ev be cu st me pa : Nat} {f : Nat → Int32} (hs : w sc = some (.inr (3, [.ref fa, .int (nI ev), .int (nI be), .int (nI cu), .int (nI st), .int (nI me), .int (nI pa)]))) (hf : w fa = some (.inl (0, 1400, .inl f))) {nu np cq : Nat} (hev : ev < 100) (hnp : np ≤ 4) (hp : f (ev * 14 + 1) = nI np) (hq : f (ev * 14 + 7) = nI cq) : Ct yX3_closeEvent wsX3_closeEvent rX3_closeEvent [.ref sc, .int (nI nu)] w (fun o w9 => o = .inl none ∧ w9 = va_up (va_up w fa (some (.inl (0, 1400, .inl (upd f (ev * 14 + 3) (nI nu)))))) sc (some (.inr (3, [.ref fa, .int (nI (ev + 1)), .int (nI (be + nu)), .int (nI (cu + cq)), .int (nI (st + (2 ^ np - 1 + 1))), .int (nI me), .int (nI pa)])))) := by
  refine Ct.of (cc := cX3_closeEvent) (own := RX3) (nm := "closeEvent") (nL := 2) (ret := none) (by decide +kernel) rfl rfl rfl (Nat.le_of_ble_eq_true rfl) ?_
  refine j_lvE (lv' := [(0, .ref sc), (1, .int (nI nu))]) rfl ?_
  refine j_aload_n dX3_closeEvent_0 0 rfl ?_
  refine j_callV (rm := rX3_isFull) (As := []) (st := []) (b0 := sc) (ci := 3) (na := 0) (c_isFull hs hf (by omega)) (by intro E w9 h9; first | exact nomatch h9.1 | (obtain ⟨_, h9, _⟩ := h9; exact nomatch h9) | (obtain ⟨_, _, _, h9, _⟩ := h9; exact nomatch h9)) gX3_closeEvent_X3_isFull rfl rfl hs (by decide +kernel) rfl ⟨Nat.le_of_ble_eq_true rfl, Nat.le_of_ble_eq_true rfl⟩ rfl (Nat.le_of_ble_eq_true rfl) dX3_closeEvent_1 ⟨(show 0 + 0 ≤ 0 by omega), (show 0 + 0 ≤ 0 by omega)⟩ (fun v1 w2 h3 => ?_)
  obtain ⟨h3, h4⟩ := h3
  cases h3
  subst w2
  refine j_after (st' := [.int (zb (decide (100 ≤ ev)))]) (k' := 0) (n' := 0) rfl rfl rfl ?_
  refine j_if_eq 8 dX3_closeEvent_4 (by decide) (fun c4 => ?_) (fun c4 => ?_)
  · skip
    refine j_aload_n dX3_closeEvent_8 0 rfl ?_
    refine j_aload_n dX3_closeEvent_9 0 rfl ?_
    refine j_get flX3_closeEvent_15 hs rfl dX3_closeEvent_10 ?_
    refine j_iconst (v := nI 3) dX3_closeEvent_13 (by decide) ?_
    refine j_iload_n dX3_closeEvent_14 1 rfl ?_
    refine j_callV (rm := rX3_write) (As := [.int (nI ev), .int (nI 3), .int (nI nu)]) (st := []) (b0 := sc) (ci := 3) (na := 3) (c_write (e := ev) (c := 3) (v := nI nu) hs hf (by omega) (by omega)) (by intro E w9 h9; first | exact nomatch h9.1 | (obtain ⟨_, h9, _⟩ := h9; exact nomatch h9) | (obtain ⟨_, _, _, h9, _⟩ := h9; exact nomatch h9)) gX3_closeEvent_X3_write rfl rfl hs (by decide +kernel) rfl ⟨Nat.le_of_ble_eq_true rfl, Nat.le_of_ble_eq_true rfl⟩ rfl (Nat.le_of_ble_eq_true rfl) dX3_closeEvent_15 ⟨(show 0 + 0 ≤ 0 by omega), (show 0 + 0 ≤ 0 by omega)⟩ (fun v5 w6 h7 => ?_)
    obtain ⟨h7, h8⟩ := h7
    cases h7
    -- w6
    refine j_after (st' := []) (k' := 0) (n' := 0) rfl rfl rfl ?_
    have f9 : w6 sc = some (.inr (3, [.ref fa, .int (nI ev), .int (nI be), .int (nI cu), .int (nI st), .int (nI me), .int (nI pa)])) := by rw [h8]; exact (va_up_ne _ _ (fk hs hf rfl)).trans (hs)
    have f10 : w6 fa = some (.inl (0, 1400, .inl (upd f (ev * 14 + 3) (nI nu)))) := by rw [h8]; exact va_up_self _ _ _
    refine j_aload_n dX3_closeEvent_18 0 rfl ?_
    refine j_dup dX3_closeEvent_19 rfl ?_
    refine j_get flX3_closeEvent_19 f9 rfl dX3_closeEvent_20 ?_
    refine j_iload_n dX3_closeEvent_23 1 rfl ?_
    refine j_iaddN dX3_closeEvent_24 ?_
    refine j_put (fs9 := [.ref fa, .int (nI ev), .int (nI (be + nu)), .int (nI cu), .int (nI st), .int (nI me), .int (nI pa)]) fsX3_closeEvent_19 f9 rfl rfl (Nat.le_of_ble_eq_true rfl) rfl dX3_closeEvent_25 ?_
    refine j_w (fun w11 hw11 => ?_)
    have f12 : w11 sc = some (.inr (3, [.ref fa, .int (nI ev), .int (nI (be + nu)), .int (nI cu), .int (nI st), .int (nI me), .int (nI pa)])) := up_at hw11
    have f13 := up_ne hw11 (fk f10 f9 rfl) f10
    refine j_aload_n dX3_closeEvent_28 0 rfl ?_
    refine j_dup dX3_closeEvent_29 rfl ?_
    refine j_get flX3_closeEvent_22 f12 rfl dX3_closeEvent_30 ?_
    refine j_aload_n dX3_closeEvent_33 0 rfl ?_
    refine j_aload_n dX3_closeEvent_34 0 rfl ?_
    refine j_get flX3_closeEvent_15 f12 rfl dX3_closeEvent_35 ?_
    refine j_bipush (v := nI 7) dX3_closeEvent_38 (by decide) ?_
    refine j_callV (rm := rX3_fact) (As := [.int (nI ev), .int (nI 7)]) (st := [.int (nI cu), .ref sc]) (b0 := sc) (ci := 3) (na := 2) (c_fact (e := ev) (c := 7) f12 f13 (by omega) (by omega)) (by intro E w9 h9; first | exact nomatch h9.1 | (obtain ⟨_, h9, _⟩ := h9; exact nomatch h9) | (obtain ⟨_, _, _, h9, _⟩ := h9; exact nomatch h9)) gX3_closeEvent_X3_fact rfl rfl f12 (by decide +kernel) rfl ⟨Nat.le_of_ble_eq_true rfl, Nat.le_of_ble_eq_true rfl⟩ rfl (Nat.le_of_ble_eq_true rfl) dX3_closeEvent_40 ⟨(show 0 + 0 ≤ 0 by omega), (show 0 + 0 ≤ 0 by omega)⟩ (fun v14 w15 h16 => ?_)
    obtain ⟨h16, h17⟩ := h16
    cases h16
    subst w15
    refine j_after (st' := [.int ((upd f (ev * 14 + 3) (nI nu)) (ev * 14 + 7)), .int (nI cu), .ref sc]) (k' := 0) (n' := 0) rfl rfl rfl ?_
    refine j_eqi (y := nI cq) (by rw [pk_un (by omega)]; exact hq) ?_
    refine j_iaddN dX3_closeEvent_43 ?_
    refine j_put (fs9 := [.ref fa, .int (nI ev), .int (nI (be + nu)), .int (nI (cu + cq)), .int (nI st), .int (nI me), .int (nI pa)]) fsX3_closeEvent_22 f12 rfl rfl (Nat.le_of_ble_eq_true rfl) rfl dX3_closeEvent_44 ?_
    refine j_w (fun w18 hw18 => ?_)
    have f19 : w18 sc = some (.inr (3, [.ref fa, .int (nI ev), .int (nI (be + nu)), .int (nI (cu + cq)), .int (nI st), .int (nI me), .int (nI pa)])) := up_at hw18
    have f20 := up_ne hw18 (fk f13 f12 rfl) f13
    refine j_aload_n dX3_closeEvent_47 0 rfl ?_
    refine j_dup dX3_closeEvent_48 rfl ?_
    refine j_get flX3_closeEvent_25 f19 rfl dX3_closeEvent_49 ?_
    refine j_aload_n dX3_closeEvent_52 0 rfl ?_
    refine j_aload_n dX3_closeEvent_53 0 rfl ?_
    refine j_get flX3_closeEvent_15 f19 rfl dX3_closeEvent_54 ?_
    refine j_callV (rm := rX3_allBits) (As := [.int (nI ev)]) (st := [.int (nI st), .ref sc]) (b0 := sc) (ci := 3) (na := 1) (c_allBits (e := ev) (np := np) f19 f20 (by omega) (by omega) (by rw [pk_un (by omega)]; exact hp)) (by intro E w9 h9; first | exact nomatch h9.1 | (obtain ⟨_, h9, _⟩ := h9; exact nomatch h9) | (obtain ⟨_, _, _, h9, _⟩ := h9; exact nomatch h9)) gX3_closeEvent_X3_allBits rfl rfl f19 (by decide +kernel) rfl ⟨Nat.le_of_ble_eq_true rfl, Nat.le_of_ble_eq_true rfl⟩ rfl (Nat.le_of_ble_eq_true rfl) dX3_closeEvent_57 ⟨(show 0 + 0 ≤ 0 by omega), (show 0 + 0 ≤ 0 by omega)⟩ (fun v21 w22 h23 => ?_)
    obtain ⟨h23, h24⟩ := h23
    cases h23
    subst w22
    refine j_after (st' := [.int (nI (2 ^ np - 1)), .int (nI st), .ref sc]) (k' := 0) (n' := 0) rfl rfl rfl ?_
    refine j_iconst (v := nI 1) dX3_closeEvent_60 (by decide) ?_
    refine j_iaddN dX3_closeEvent_61 ?_
    refine j_iaddN dX3_closeEvent_62 ?_
    refine j_put (fs9 := [.ref fa, .int (nI ev), .int (nI (be + nu)), .int (nI (cu + cq)), .int (nI (st + ((2 ^ np - 1) + 1))), .int (nI me), .int (nI pa)]) fsX3_closeEvent_25 f19 rfl rfl (Nat.le_of_ble_eq_true rfl) rfl dX3_closeEvent_63 ?_
    refine j_w (fun w25 hw25 => ?_)
    have f26 : w25 sc = some (.inr (3, [.ref fa, .int (nI ev), .int (nI (be + nu)), .int (nI (cu + cq)), .int (nI (st + ((2 ^ np - 1) + 1))), .int (nI me), .int (nI pa)])) := up_at hw25
    have f27 := up_ne hw25 (fk f20 f19 rfl) f20
    refine j_aload_n dX3_closeEvent_66 0 rfl ?_
    refine j_dup dX3_closeEvent_67 rfl ?_
    refine j_get flX3_closeEvent_15 f26 rfl dX3_closeEvent_68 ?_
    refine j_iconst (v := nI 1) dX3_closeEvent_71 (by decide) ?_
    refine j_iaddN dX3_closeEvent_72 ?_
    refine j_put (fs9 := [.ref fa, .int (nI (ev + 1)), .int (nI (be + nu)), .int (nI (cu + cq)), .int (nI (st + ((2 ^ np - 1) + 1))), .int (nI me), .int (nI pa)]) fsX3_closeEvent_15 f26 rfl rfl (Nat.le_of_ble_eq_true rfl) rfl dX3_closeEvent_73 ?_
    refine j_w (fun w28 hw28 => ?_)
    have f29 : w28 sc = some (.inr (3, [.ref fa, .int (nI (ev + 1)), .int (nI (be + nu)), .int (nI (cu + cq)), .int (nI (st + ((2 ^ np - 1) + 1))), .int (nI me), .int (nI pa)])) := up_at hw28
    have f30 := up_ne hw28 (fk f27 f26 rfl) f27
    exact j_vret rfl ⟨rfl, by rw [hw28, hw25, hw18, hw11, h8] <;> (try simp only [bx_uu]) <;> (try rfl)⟩ (show 0 ≤ 0 by omega) (show 0 ≤ 0 by omega) dX3_closeEvent_76
  · skip
    exfalso; have := of_decide_eq_true (zb_n' c4); omega
abbrev rX3_repeatFrom : Room := { frames := 1, cells := 0, slots := 0, locals := 23 }
theorem flX3_repeatFrom_15 : FL wsX3_repeatFrom RX3 15 3 1 := ⟨RX3, TX3, 7, rfl, by decide, by decide +kernel, by decide +kernel⟩
set_option maxHeartbeats 4000000 in
set_option maxRecDepth 100000 in
theorem c_repeatFrom {w : pW} {sc fa : Nat} {ev be cu st me pa : Nat} {f : Nat → Int32} (hs : w sc = some (.inr (3, [.ref fa, .int (nI ev), .int (nI be), .int (nI cu), .int (nI st), .int (nI me), .int (nI pa)]))) (hf : w fa = some (.inl (0, 1400, .inl f))) {v : Int32} (hev : ev ≤ 100) (h1 : 1 ≤ ev) : Ct yX3_repeatFrom wsX3_repeatFrom rX3_repeatFrom [.ref sc, .int v] w (fun o w9 => o = .inl none ∧ w9 = va_up w fa (some (.inl (0, 1400, .inl (upd f ((ev - 1) * 14 + 8) v))))) := by
  refine Ct.of (cc := cX3_repeatFrom) (own := RX3) (nm := "repeatFrom") (nL := 2) (ret := none) (by decide +kernel) rfl rfl rfl (Nat.le_of_ble_eq_true rfl) ?_
  refine j_lvE (lv' := [(0, .ref sc), (1, .int v)]) rfl ?_
  refine j_aload_n dX3_repeatFrom_0 0 rfl ?_
  refine j_aload_n dX3_repeatFrom_1 0 rfl ?_
  refine j_get flX3_repeatFrom_15 hs rfl dX3_repeatFrom_2 ?_
  refine j_iconst (v := nI 1) dX3_repeatFrom_5 (by decide) ?_
  refine j_isubN (by omega) dX3_repeatFrom_6 ?_
  refine j_bipush (v := nI 8) dX3_repeatFrom_7 (by decide) ?_
  refine j_iload_n dX3_repeatFrom_9 1 rfl ?_
  refine j_callV (rm := rX3_write) (As := [.int (nI (ev - 1)), .int (nI 8), .int v]) (st := []) (b0 := sc) (ci := 3) (na := 3) (c_write (e := (ev - 1)) (c := 8) (v := v) hs hf (by omega) (by omega)) (by intro E w9 h9; first | exact nomatch h9.1 | (obtain ⟨_, h9, _⟩ := h9; exact nomatch h9) | (obtain ⟨_, _, _, h9, _⟩ := h9; exact nomatch h9)) gX3_repeatFrom_X3_write rfl rfl hs (by decide +kernel) rfl ⟨Nat.le_of_ble_eq_true rfl, Nat.le_of_ble_eq_true rfl⟩ rfl (Nat.le_of_ble_eq_true rfl) dX3_repeatFrom_10 ⟨(show 0 + 0 ≤ 0 by omega), (show 0 + 0 ≤ 0 by omega)⟩ (fun v1 w2 h3 => ?_)
  obtain ⟨h3, h4⟩ := h3
  cases h3
  -- w2
  refine j_after (st' := []) (k' := 0) (n' := 0) rfl rfl rfl ?_
  have f5 : w2 sc = some (.inr (3, [.ref fa, .int (nI ev), .int (nI be), .int (nI cu), .int (nI st), .int (nI me), .int (nI pa)])) := by rw [h4]; exact (va_up_ne _ _ (fk hs hf rfl)).trans (hs)
  have f6 : w2 fa = some (.inl (0, 1400, .inl (upd f ((ev - 1) * 14 + 8) v))) := by rw [h4]; exact va_up_self _ _ _
  exact j_vret rfl ⟨rfl, by rw [h4] <;> (try simp only [bx_uu]) <;> (try rfl)⟩ (show 0 ≤ 0 by omega) (show 0 ≤ 0 by omega) dX3_repeatFrom_13
abbrev rX3_endMeasure : Room := { frames := 0, cells := 0, slots := 0, locals := 0 }
theorem flX3_endMeasure_28 : FL wsX3_endMeasure RX3 28 3 5 := ⟨RX3, TX3, 7, rfl, by decide, by decide +kernel, by decide +kernel⟩
theorem fsX3_endMeasure_28 : FS wsX3_endMeasure RX3 28 3 5 false (.int) := ⟨RX3, TX3, 7, tyX3, rfl, by decide, by decide +kernel, by decide +kernel, tyX3_ok, nmX3, rfl, rfl, rfl⟩
set_option maxHeartbeats 4000000 in
set_option maxRecDepth 100000 in
theorem c_endMeasure {w : pW} {sc fa : Nat} {ev be cu st me pa : Nat} {f : Nat → Int32} (hs : w sc = some (.inr (3, [.ref fa, .int (nI ev), .int (nI be), .int (nI cu), .int (nI st), .int (nI me), .int (nI pa)]))) (hf : w fa = some (.inl (0, 1400, .inl f))) : Ct yX3_endMeasure wsX3_endMeasure rX3_endMeasure [.ref sc] w (fun o w9 => o = .inl none ∧ w9 = va_up w sc (some (.inr (3, [.ref fa, .int (nI ev), .int (nI be), .int (nI cu), .int (nI st), .int (nI (me + 1)), .int (nI pa)])))) := by
  refine Ct.of (cc := cX3_endMeasure) (own := RX3) (nm := "endMeasure") (nL := 1) (ret := none) (by decide +kernel) rfl rfl rfl (Nat.le_of_ble_eq_true rfl) ?_
  refine j_lvE (lv' := [(0, .ref sc)]) rfl ?_
  refine j_aload_n dX3_endMeasure_0 0 rfl ?_
  refine j_dup dX3_endMeasure_1 rfl ?_
  refine j_get flX3_endMeasure_28 hs rfl dX3_endMeasure_2 ?_
  refine j_iconst (v := nI 1) dX3_endMeasure_5 (by decide) ?_
  refine j_iaddN dX3_endMeasure_6 ?_
  refine j_put (fs9 := [.ref fa, .int (nI ev), .int (nI be), .int (nI cu), .int (nI st), .int (nI (me + 1)), .int (nI pa)]) fsX3_endMeasure_28 hs rfl rfl (Nat.le_of_ble_eq_true rfl) rfl dX3_endMeasure_7 ?_
  refine j_w (fun w1 hw1 => ?_)
  have f2 : w1 sc = some (.inr (3, [.ref fa, .int (nI ev), .int (nI be), .int (nI cu), .int (nI st), .int (nI (me + 1)), .int (nI pa)])) := up_at hw1
  have f3 := up_ne hw1 (fk hf hs rfl) hf
  exact j_vret rfl ⟨rfl, by rw [hw1] <;> (try simp only [bx_uu]) <;> (try rfl)⟩ (show 0 ≤ 0 by omega) (show 0 ≤ 0 by omega) dX3_endMeasure_10
abbrev rX3_endPage : Room := { frames := 0, cells := 0, slots := 0, locals := 0 }
theorem flX3_endPage_31 : FL wsX3_endPage RX3 31 3 6 := ⟨RX3, TX3, 7, rfl, by decide, by decide +kernel, by decide +kernel⟩
theorem fsX3_endPage_31 : FS wsX3_endPage RX3 31 3 6 false (.int) := ⟨RX3, TX3, 7, tyX3, rfl, by decide, by decide +kernel, by decide +kernel, tyX3_ok, nmX3, rfl, rfl, rfl⟩
set_option maxHeartbeats 4000000 in
set_option maxRecDepth 100000 in
theorem c_endPage {w : pW} {sc fa : Nat} {ev be cu st me pa : Nat} {f : Nat → Int32} (hs : w sc = some (.inr (3, [.ref fa, .int (nI ev), .int (nI be), .int (nI cu), .int (nI st), .int (nI me), .int (nI pa)]))) (hf : w fa = some (.inl (0, 1400, .inl f))) : Ct yX3_endPage wsX3_endPage rX3_endPage [.ref sc] w (fun o w9 => o = .inl none ∧ w9 = va_up w sc (some (.inr (3, [.ref fa, .int (nI ev), .int (nI be), .int (nI cu), .int (nI st), .int (nI me), .int (nI (pa + 1))])))) := by
  refine Ct.of (cc := cX3_endPage) (own := RX3) (nm := "endPage") (nL := 1) (ret := none) (by decide +kernel) rfl rfl rfl (Nat.le_of_ble_eq_true rfl) ?_
  refine j_lvE (lv' := [(0, .ref sc)]) rfl ?_
  refine j_aload_n dX3_endPage_0 0 rfl ?_
  refine j_dup dX3_endPage_1 rfl ?_
  refine j_get flX3_endPage_31 hs rfl dX3_endPage_2 ?_
  refine j_iconst (v := nI 1) dX3_endPage_5 (by decide) ?_
  refine j_iaddN dX3_endPage_6 ?_
  refine j_put (fs9 := [.ref fa, .int (nI ev), .int (nI be), .int (nI cu), .int (nI st), .int (nI me), .int (nI (pa + 1))]) fsX3_endPage_31 hs rfl rfl (Nat.le_of_ble_eq_true rfl) rfl dX3_endPage_7 ?_
  refine j_w (fun w1 hw1 => ?_)
  have f2 : w1 sc = some (.inr (3, [.ref fa, .int (nI ev), .int (nI be), .int (nI cu), .int (nI st), .int (nI me), .int (nI (pa + 1))])) := up_at hw1
  have f3 := up_ne hw1 (fk hf hs rfl) hf
  exact j_vret rfl ⟨rfl, by rw [hw1] <;> (try simp only [bx_uu]) <;> (try rfl)⟩ (show 0 ≤ 0 by omega) (show 0 ≤ 0 by omega) dX3_endPage_10
abbrev rX3_measuresWithEvents : Room := { frames := 1, cells := 0, slots := 0, locals := 22 }
theorem flX3_measuresWithEvents_15 : FL wsX3_measuresWithEvents RX3 15 3 1 := ⟨RX3, TX3, 7, rfl, by decide, by decide +kernel, by decide +kernel⟩
set_option maxHeartbeats 4000000 in
set_option maxRecDepth 100000 in
theorem c_measuresWithEvents {w : pW} {sc fa : Nat} {ev be cu st me pa : Nat} {f : Nat → Int32} (hs : w sc = some (.inr (3, [.ref fa, .int (nI ev), .int (nI be), .int (nI cu), .int (nI st), .int (nI me), .int (nI pa)]))) (hf : w fa = some (.inl (0, 1400, .inl f))) (hev : ev ≤ 100) : Ct yX3_measuresWithEvents wsX3_measuresWithEvents rX3_measuresWithEvents [.ref sc] w (fun o w9 => o = .inl (some (.int (if ev = 0 then nI 0 else f ((ev - 1) * 14 + 4) + nI 1))) ∧ w9 = w) := by
  refine Ct.of (cc := cX3_measuresWithEvents) (own := RX3) (nm := "measuresWithEvents") (nL := 1) (ret := (some .int)) (by decide +kernel) rfl rfl rfl (Nat.le_of_ble_eq_true rfl) ?_
  refine j_lvE (lv' := [(0, .ref sc)]) rfl ?_
  refine j_aload_n dX3_measuresWithEvents_0 0 rfl ?_
  refine j_get flX3_measuresWithEvents_15 hs rfl dX3_measuresWithEvents_1 ?_
  refine j_if_neN 11 (by omega) dX3_measuresWithEvents_4 (by decide) (fun c4 => ?_) (fun c4 => ?_)
  · skip
    refine j_aload_n dX3_measuresWithEvents_11 0 rfl ?_
    refine j_aload_n dX3_measuresWithEvents_12 0 rfl ?_
    refine j_get flX3_measuresWithEvents_15 hs rfl dX3_measuresWithEvents_13 ?_
    refine j_iconst (v := nI 1) dX3_measuresWithEvents_16 (by decide) ?_
    refine j_isubN (by omega) dX3_measuresWithEvents_17 ?_
    refine j_iconst (v := nI 4) dX3_measuresWithEvents_18 (by decide) ?_
    refine j_callV (rm := rX3_fact) (As := [.int (nI (ev - 1)), .int (nI 4)]) (st := []) (b0 := sc) (ci := 3) (na := 2) (c_fact (e := (ev - 1)) (c := 4) hs hf (by omega) (by omega)) (by intro E w9 h9; first | exact nomatch h9.1 | (obtain ⟨_, h9, _⟩ := h9; exact nomatch h9) | (obtain ⟨_, _, _, h9, _⟩ := h9; exact nomatch h9)) gX3_measuresWithEvents_X3_fact rfl rfl hs (by decide +kernel) rfl ⟨Nat.le_of_ble_eq_true rfl, Nat.le_of_ble_eq_true rfl⟩ rfl (Nat.le_of_ble_eq_true rfl) dX3_measuresWithEvents_19 ⟨(show 0 + 0 ≤ 0 by omega), (show 0 + 0 ≤ 0 by omega)⟩ (fun v1 w2 h3 => ?_)
    obtain ⟨h3, h4⟩ := h3
    cases h3
    subst w2
    refine j_after (st' := [.int (f ((ev - 1) * 14 + 4))]) (k' := 0) (n' := 0) rfl rfl rfl ?_
    refine j_iconst (v := nI 1) dX3_measuresWithEvents_22 (by decide) ?_
    refine j_iadd dX3_measuresWithEvents_23 ?_
    exact j_iret rfl ⟨by rw [if_neg (by omega)], rfl⟩ (show 0 ≤ 0 by omega) (show 0 ≤ 0 by omega) dX3_measuresWithEvents_24
  · skip
    refine j_iconst (v := nI 0) dX3_measuresWithEvents_7 (by decide) ?_
    refine j_goto 24 dX3_measuresWithEvents_8 (by decide) ?_
    exact j_iret rfl ⟨by rw [if_pos (by omega)], rfl⟩ (show 0 ≤ 0 by omega) (show 0 ≤ 0 by omega) dX3_measuresWithEvents_24
abbrev rX3_pagesWithEvents : Room := { frames := 1, cells := 0, slots := 0, locals := 22 }
theorem flX3_pagesWithEvents_15 : FL wsX3_pagesWithEvents RX3 15 3 1 := ⟨RX3, TX3, 7, rfl, by decide, by decide +kernel, by decide +kernel⟩
set_option maxHeartbeats 4000000 in
set_option maxRecDepth 100000 in
theorem c_pagesWithEvents {w : pW} {sc fa : Nat} {ev be cu st me pa : Nat} {f : Nat → Int32} (hs : w sc = some (.inr (3, [.ref fa, .int (nI ev), .int (nI be), .int (nI cu), .int (nI st), .int (nI me), .int (nI pa)]))) (hf : w fa = some (.inl (0, 1400, .inl f))) (hev : ev ≤ 100) : Ct yX3_pagesWithEvents wsX3_pagesWithEvents rX3_pagesWithEvents [.ref sc] w (fun o w9 => o = .inl (some (.int (if ev = 0 then nI 0 else f ((ev - 1) * 14 + 5) + nI 1))) ∧ w9 = w) := by
  refine Ct.of (cc := cX3_pagesWithEvents) (own := RX3) (nm := "pagesWithEvents") (nL := 1) (ret := (some .int)) (by decide +kernel) rfl rfl rfl (Nat.le_of_ble_eq_true rfl) ?_
  refine j_lvE (lv' := [(0, .ref sc)]) rfl ?_
  refine j_aload_n dX3_pagesWithEvents_0 0 rfl ?_
  refine j_get flX3_pagesWithEvents_15 hs rfl dX3_pagesWithEvents_1 ?_
  refine j_if_neN 11 (by omega) dX3_pagesWithEvents_4 (by decide) (fun c4 => ?_) (fun c4 => ?_)
  · skip
    refine j_aload_n dX3_pagesWithEvents_11 0 rfl ?_
    refine j_aload_n dX3_pagesWithEvents_12 0 rfl ?_
    refine j_get flX3_pagesWithEvents_15 hs rfl dX3_pagesWithEvents_13 ?_
    refine j_iconst (v := nI 1) dX3_pagesWithEvents_16 (by decide) ?_
    refine j_isubN (by omega) dX3_pagesWithEvents_17 ?_
    refine j_iconst (v := nI 5) dX3_pagesWithEvents_18 (by decide) ?_
    refine j_callV (rm := rX3_fact) (As := [.int (nI (ev - 1)), .int (nI 5)]) (st := []) (b0 := sc) (ci := 3) (na := 2) (c_fact (e := (ev - 1)) (c := 5) hs hf (by omega) (by omega)) (by intro E w9 h9; first | exact nomatch h9.1 | (obtain ⟨_, h9, _⟩ := h9; exact nomatch h9) | (obtain ⟨_, _, _, h9, _⟩ := h9; exact nomatch h9)) gX3_pagesWithEvents_X3_fact rfl rfl hs (by decide +kernel) rfl ⟨Nat.le_of_ble_eq_true rfl, Nat.le_of_ble_eq_true rfl⟩ rfl (Nat.le_of_ble_eq_true rfl) dX3_pagesWithEvents_19 ⟨(show 0 + 0 ≤ 0 by omega), (show 0 + 0 ≤ 0 by omega)⟩ (fun v1 w2 h3 => ?_)
    obtain ⟨h3, h4⟩ := h3
    cases h3
    subst w2
    refine j_after (st' := [.int (f ((ev - 1) * 14 + 5))]) (k' := 0) (n' := 0) rfl rfl rfl ?_
    refine j_iconst (v := nI 1) dX3_pagesWithEvents_22 (by decide) ?_
    refine j_iadd dX3_pagesWithEvents_23 ?_
    exact j_iret rfl ⟨by rw [if_neg (by omega)], rfl⟩ (show 0 ≤ 0 by omega) (show 0 ≤ 0 by omega) dX3_pagesWithEvents_24
  · skip
    refine j_iconst (v := nI 0) dX3_pagesWithEvents_7 (by decide) ?_
    refine j_goto 24 dX3_pagesWithEvents_8 (by decide) ?_
    exact j_iret rfl ⟨by rw [if_pos (by omega)], rfl⟩ (show 0 ≤ 0 by omega) (show 0 ≤ 0 by omega) dX3_pagesWithEvents_24
/-- the first event behind e on another page -/
def nxP (f : Nat → Int32) (ev e : Nat) : Option Nat := fstN (fun j => !(f (j * 14 + 5) == f (e * 14 + 5))) (ev - (e + 1)) (e + 1)
abbrev rX3_firstOfNextPage : Room := { frames := 1, cells := 0, slots := 0, locals := 22 }
theorem flX3_firstOfNextPage_15 : FL wsX3_firstOfNextPage RX3 15 3 1 := ⟨RX3, TX3, 7, rfl, by decide, by decide +kernel, by decide +kernel⟩
set_option maxHeartbeats 4000000 in
set_option maxRecDepth 100000 in
theorem l_firstOfNextPage {w : pW} {sc fa : Nat} {ev be cu st me pa : Nat} {f : Nat → Int32} (hs : w sc = some (.inr (3, [.ref fa, .int (nI ev), .int (nI be), .int (nI cu), .int (nI st), .int (nI me), .int (nI pa)]))) (hf : w fa = some (.inl (0, 1400, .inl f))) {e : Nat} {r : Option Nat} (hev : ev ≤ 100) (he : e < 100) : ∀ (m9 : Nat) (i : Nat), 101 - i < m9 → (i ≤ 101) → (fstN (fun j => !(f (j * 14 + 5) == f (e * 14 + 5))) (ev - i) i = r) → J ((cX3_firstOfNextPage, RX3, 4, wsX3_firstOfNextPage), (rX3_firstOfNextPage, (some .int), "firstOfNextPage", []), fun o w9 => o = .inl (some (.int (on1 r))) ∧ w9 = w, fun _ _ _ => True) 11 [(0, .ref sc), (1, .int (nI e)), (2, .int (f (e * 14 + 5))), (3, .int (nI i))] [] w 0 0 := by
  intro m9
  induction m9 with
  | zero => intro i h9; omega
  | succ m9 ih =>
    intro i hm9 hi hr
    refine j_iload_n dX3_firstOfNextPage_11 3 rfl ?_
    refine j_aload_n dX3_firstOfNextPage_12 0 rfl ?_
    refine j_get flX3_firstOfNextPage_15 hs rfl dX3_firstOfNextPage_13 ?_
    refine j_icmp_geN 37 (by omega) (by omega) dX3_firstOfNextPage_16 (by decide) (fun c16 => ?_) (fun c16 => ?_)
    · skip
      refine j_iconst (v := (-1)) dX3_firstOfNextPage_37 (by decide) ?_
      exact j_iret rfl ⟨by rw [← hr, fstN_end (by omega)]; rfl, rfl⟩ (show 0 ≤ 0 by omega) (show 0 ≤ 0 by omega) dX3_firstOfNextPage_38
    · skip
      refine j_aload_n dX3_firstOfNextPage_19 0 rfl ?_
      refine j_iload_n dX3_firstOfNextPage_20 3 rfl ?_
      refine j_iconst (v := nI 5) dX3_firstOfNextPage_21 (by decide) ?_
      refine j_callV (rm := rX3_fact) (As := [.int (nI i), .int (nI 5)]) (st := []) (b0 := sc) (ci := 3) (na := 2) (c_fact (e := i) (c := 5) hs hf (by omega) (by omega)) (by intro E w9 h9; first | exact nomatch h9.1 | (obtain ⟨_, h9, _⟩ := h9; exact nomatch h9) | (obtain ⟨_, _, _, h9, _⟩ := h9; exact nomatch h9)) gX3_firstOfNextPage_X3_fact rfl rfl hs (by decide +kernel) rfl ⟨Nat.le_of_ble_eq_true rfl, Nat.le_of_ble_eq_true rfl⟩ rfl (Nat.le_of_ble_eq_true rfl) dX3_firstOfNextPage_22 ⟨(show 0 + 0 ≤ 0 by omega), (show 0 + 0 ≤ 0 by omega)⟩ (fun v1 w2 h3 => ?_)
      obtain ⟨h3, h4⟩ := h3
      cases h3
      subst w2
      refine j_after (st' := [.int (f (i * 14 + 5))]) (k' := 0) (n' := 0) rfl rfl rfl ?_
      refine j_iload_n dX3_firstOfNextPage_25 2 rfl ?_
      refine j_icmp_eq 31 dX3_firstOfNextPage_26 (by decide) (fun c26 => ?_) (fun c26 => ?_)
      · skip
        refine j_iinc (q := 3) (v := nI (i + 1)) (lv' := [(3, .int (nI (i + 1))), (0, .ref sc), (1, .int (nI e)), (2, .int (f (e * 14 + 5)))]) dX3_firstOfNextPage_31 rfl (by first | exact nI_1 _ | exact nI_add _ _) (Nat.le_of_ble_eq_true rfl) rfl ?_
        refine j_goto 11 dX3_firstOfNextPage_34 (by decide) ?_
        refine j_lv (lv' := [(0, .ref sc), (1, .int (nI e)), (2, .int (f (e * 14 + 5))), (3, .int (nI (i + 1)))]) [1, 2, 3, 0] rfl ?_
        exact ih (i + 1) (by omega) (by omega) (by rw [← hr]; exact (fstN_miss (by omega) (by simpa using c26)).symm)
      · skip
        refine j_iload_n dX3_firstOfNextPage_29 3 rfl ?_
        exact j_iret rfl ⟨by rw [← hr, fstN_hit (by omega) (by simpa using c26)]; rfl, rfl⟩ (show 0 ≤ 0 by omega) (show 0 ≤ 0 by omega) dX3_firstOfNextPage_30
set_option maxHeartbeats 4000000 in
set_option maxRecDepth 100000 in
theorem c_firstOfNextPage {w : pW} {sc fa : Nat} {ev be cu st me pa : Nat} {f : Nat → Int32} (hs : w sc = some (.inr (3, [.ref fa, .int (nI ev), .int (nI be), .int (nI cu), .int (nI st), .int (nI me), .int (nI pa)]))) (hf : w fa = some (.inl (0, 1400, .inl f))) {e : Nat} (hev : ev ≤ 100) (he : e < 100) : Ct yX3_firstOfNextPage wsX3_firstOfNextPage rX3_firstOfNextPage [.ref sc, .int (nI e)] w (fun o w9 => o = .inl (some (.int (on1 (nxP f ev e)))) ∧ w9 = w) := by
  refine Ct.of (cc := cX3_firstOfNextPage) (own := RX3) (nm := "firstOfNextPage") (nL := 4) (ret := (some .int)) (by decide +kernel) rfl rfl rfl (Nat.le_of_ble_eq_true rfl) ?_
  refine j_lvE (lv' := [(0, .ref sc), (1, .int (nI e))]) rfl ?_
  refine j_aload_n dX3_firstOfNextPage_0 0 rfl ?_
  refine j_iload_n dX3_firstOfNextPage_1 1 rfl ?_
  refine j_iconst (v := nI 5) dX3_firstOfNextPage_2 (by decide) ?_
  refine j_callV (rm := rX3_fact) (As := [.int (nI e), .int (nI 5)]) (st := []) (b0 := sc) (ci := 3) (na := 2) (c_fact (e := e) (c := 5) hs hf (by omega) (by omega)) (by intro E w9 h9; first | exact nomatch h9.1 | (obtain ⟨_, h9, _⟩ := h9; exact nomatch h9) | (obtain ⟨_, _, _, h9, _⟩ := h9; exact nomatch h9)) gX3_firstOfNextPage_X3_fact rfl rfl hs (by decide +kernel) rfl ⟨Nat.le_of_ble_eq_true rfl, Nat.le_of_ble_eq_true rfl⟩ rfl (Nat.le_of_ble_eq_true rfl) dX3_firstOfNextPage_3 ⟨(show 0 + 0 ≤ 0 by omega), (show 0 + 0 ≤ 0 by omega)⟩ (fun v1 w2 h3 => ?_)
  obtain ⟨h3, h4⟩ := h3
  cases h3
  subst w2
  refine j_after (st' := [.int (f (e * 14 + 5))]) (k' := 0) (n' := 0) rfl rfl rfl ?_
  refine j_istore_n (lv' := [(2, .int (f (e * 14 + 5))), (0, .ref sc), (1, .int (nI e))]) dX3_firstOfNextPage_6 (Nat.le_of_ble_eq_true rfl) rfl ?_
  refine j_iload_n dX3_firstOfNextPage_7 2 rfl ?_
  refine j_iconst (v := nI 1) dX3_firstOfNextPage_8 (by decide) ?_
  refine j_iaddN dX3_firstOfNextPage_9 ?_
  refine j_istore_n (lv' := [(3, .int (nI (e + 1))), (2, .int (f (e * 14 + 5))), (0, .ref sc), (1, .int (nI e))]) dX3_firstOfNextPage_10 (Nat.le_of_ble_eq_true rfl) rfl ?_
  refine j_lv (lv' := [(0, .ref sc), (1, .int (nI e)), (2, .int (f (e * 14 + 5))), (3, .int (nI (e + 1)))]) [2, 3, 1, 0] rfl ?_
  exact l_firstOfNextPage hs hf hev he 102 (e + 1) (by omega) (by omega) rfl
/-- the first event from e on with a cue -/
def cuF (f : Nat → Int32) (ev e : Nat) : Option Nat := fstN (fun j => f (j * 14 + 7) == nI 1) (ev - e) e
abbrev rX3_cueFrom : Room := { frames := 1, cells := 0, slots := 0, locals := 22 }
theorem flX3_cueFrom_15 : FL wsX3_cueFrom RX3 15 3 1 := ⟨RX3, TX3, 7, rfl, by decide, by decide +kernel, by decide +kernel⟩
set_option maxHeartbeats 4000000 in
set_option maxRecDepth 100000 in
theorem l_cueFrom {w : pW} {sc fa : Nat} {ev be cu st me pa : Nat} {f : Nat → Int32} (hs : w sc = some (.inr (3, [.ref fa, .int (nI ev), .int (nI be), .int (nI cu), .int (nI st), .int (nI me), .int (nI pa)]))) (hf : w fa = some (.inl (0, 1400, .inl f))) {e : Nat} {r : Option Nat} (hev : ev ≤ 100) : ∀ (m9 : Nat) (i : Nat), 101 - i < m9 → (i ≤ 101) → (fstN (fun j => f (j * 14 + 7) == nI 1) (ev - i) i = r) → J ((cX3_cueFrom, RX3, 3, wsX3_cueFrom), (rX3_cueFrom, (some .int), "cueFrom", []), fun o w9 => o = .inl (some (.int (on1 r))) ∧ w9 = w, fun _ _ _ => True) 2 [(0, .ref sc), (1, .int (nI e)), (2, .int (nI i))] [] w 0 0 := by
  intro m9
  induction m9 with
  | zero => intro i h9; omega
  | succ m9 ih =>
    intro i hm9 hi hr
    refine j_iload_n dX3_cueFrom_2 2 rfl ?_
    refine j_aload_n dX3_cueFrom_3 0 rfl ?_
    refine j_get flX3_cueFrom_15 hs rfl dX3_cueFrom_4 ?_
    refine j_icmp_geN 29 (by omega) (by omega) dX3_cueFrom_7 (by decide) (fun c7 => ?_) (fun c7 => ?_)
    · skip
      refine j_iconst (v := (-1)) dX3_cueFrom_29 (by decide) ?_
      exact j_iret rfl ⟨by rw [← hr, fstN_end (by omega)]; rfl, rfl⟩ (show 0 ≤ 0 by omega) (show 0 ≤ 0 by omega) dX3_cueFrom_30
    · skip
      refine j_aload_n dX3_cueFrom_10 0 rfl ?_
      refine j_iload_n dX3_cueFrom_11 2 rfl ?_
      refine j_bipush (v := nI 7) dX3_cueFrom_12 (by decide) ?_
      refine j_callV (rm := rX3_fact) (As := [.int (nI i), .int (nI 7)]) (st := []) (b0 := sc) (ci := 3) (na := 2) (c_fact (e := i) (c := 7) hs hf (by omega) (by omega)) (by intro E w9 h9; first | exact nomatch h9.1 | (obtain ⟨_, h9, _⟩ := h9; exact nomatch h9) | (obtain ⟨_, _, _, h9, _⟩ := h9; exact nomatch h9)) gX3_cueFrom_X3_fact rfl rfl hs (by decide +kernel) rfl ⟨Nat.le_of_ble_eq_true rfl, Nat.le_of_ble_eq_true rfl⟩ rfl (Nat.le_of_ble_eq_true rfl) dX3_cueFrom_14 ⟨(show 0 + 0 ≤ 0 by omega), (show 0 + 0 ≤ 0 by omega)⟩ (fun v1 w2 h3 => ?_)
      obtain ⟨h3, h4⟩ := h3
      cases h3
      subst w2
      refine j_after (st' := [.int (f (i * 14 + 7))]) (k' := 0) (n' := 0) rfl rfl rfl ?_
      refine j_iconst (v := nI 1) dX3_cueFrom_17 (by decide) ?_
      refine j_icmp_ne 23 dX3_cueFrom_18 (by decide) (fun c18 => ?_) (fun c18 => ?_)
      · skip
        refine j_iinc (q := 2) (v := nI (i + 1)) (lv' := [(2, .int (nI (i + 1))), (0, .ref sc), (1, .int (nI e))]) dX3_cueFrom_23 rfl (by first | exact nI_1 _ | exact nI_add _ _) (Nat.le_of_ble_eq_true rfl) rfl ?_
        refine j_goto 2 dX3_cueFrom_26 (by decide) ?_
        refine j_lv (lv' := [(0, .ref sc), (1, .int (nI e)), (2, .int (nI (i + 1)))]) [1, 2, 0] rfl ?_
        exact ih (i + 1) (by omega) (by omega) (by rw [← hr]; exact (fstN_miss (by omega) (by simpa using c18)).symm)
      · skip
        refine j_iload_n dX3_cueFrom_21 2 rfl ?_
        exact j_iret rfl ⟨by rw [← hr, fstN_hit (by omega) (by simpa using c18)]; rfl, rfl⟩ (show 0 ≤ 0 by omega) (show 0 ≤ 0 by omega) dX3_cueFrom_22
set_option maxHeartbeats 4000000 in
set_option maxRecDepth 100000 in
theorem c_cueFrom {w : pW} {sc fa : Nat} {ev be cu st me pa : Nat} {f : Nat → Int32} (hs : w sc = some (.inr (3, [.ref fa, .int (nI ev), .int (nI be), .int (nI cu), .int (nI st), .int (nI me), .int (nI pa)]))) (hf : w fa = some (.inl (0, 1400, .inl f))) {e : Nat} (hev : ev ≤ 100) (he : e ≤ 100) : Ct yX3_cueFrom wsX3_cueFrom rX3_cueFrom [.ref sc, .int (nI e)] w (fun o w9 => o = .inl (some (.int (on1 (cuF f ev e)))) ∧ w9 = w) := by
  refine Ct.of (cc := cX3_cueFrom) (own := RX3) (nm := "cueFrom") (nL := 3) (ret := (some .int)) (by decide +kernel) rfl rfl rfl (Nat.le_of_ble_eq_true rfl) ?_
  refine j_lvE (lv' := [(0, .ref sc), (1, .int (nI e))]) rfl ?_
  refine j_iload_n dX3_cueFrom_0 1 rfl ?_
  refine j_istore_n (lv' := [(2, .int (nI e)), (0, .ref sc), (1, .int (nI e))]) dX3_cueFrom_1 (Nat.le_of_ble_eq_true rfl) rfl ?_
  refine j_lv (lv' := [(0, .ref sc), (1, .int (nI e)), (2, .int (nI e))]) [1, 2, 0] rfl ?_
  exact l_cueFrom hs hf hev 102 e (by omega) (by omega) rfl
/-- the first pitch that the note hits -/
def hiQ (f : Nat → Int32) (e no rc : Nat) : Nat → Bool := fun i => decide (ab (nI no - f (e * 14 + (9 + i))) ≤ nI rc)
def rcK (kd : Nat) : Nat := if kd = 2 then 1 else 0
def riB (f : Nat → Int32) (e no kd np : Nat) : Nat := r2 (fstN (hiQ f e no (rcK kd)) np 0)
abbrev rX3_rightBit : Room := { frames := 1, cells := 0, slots := 0, locals := 24 }
set_option maxRecDepth 100000 in
theorem mX3_rightBit_0 : Cond.methodLink RX3 54 Lib.Math.abs.name ∈ wsX3_rightBit := by decide +kernel
set_option maxRecDepth 100000 in
theorem mX3_rightBit_1 : Cond.static Lib.Math.abs.name ∈ wsX3_rightBit := by decide +kernel
set_option maxRecDepth 100000 in
theorem mX3_rightBit_2 : Cond.initialized "java/lang/Math" ∈ wsX3_rightBit := by decide +kernel
set_option maxRecDepth 100000 in
theorem mX3_rightBit_3 : Cond.code Lib.Math.abs.name Lib.Math.abs.code 1 (some .int) ∈ wsX3_rightBit := by decide +kernel
set_option maxHeartbeats 4000000 in
set_option maxRecDepth 100000 in
theorem l_rightBit {w : pW} {sc fa : Nat} {ev be cu st me pa : Nat} {f : Nat → Int32} (hs : w sc = some (.inr (3, [.ref fa, .int (nI ev), .int (nI be), .int (nI cu), .int (nI st), .int (nI me), .int (nI pa)]))) (hf : w fa = some (.inl (0, 1400, .inl f))) {e no rc np : Nat} {r : Option Nat} (he : e < 100) (hnp : np ≤ 4) : ∀ (m9 : Nat) (i : Nat), np - i < m9 → (i ≤ np) → (fstN (hiQ f e no rc) (np - i) i = r) → J ((cX3_rightBit, RX3, 6, wsX3_rightBit), (rX3_rightBit, (some .int), "rightBit", []), fun o w9 => o = .inl (some (.int (nI (r2 r)))) ∧ w9 = w, fun _ _ _ => True) 27 [(0, .ref sc), (1, .int (nI e)), (2, .int (nI no)), (3, .int (nI rc)), (4, .int (nI np)), (5, .int (nI i))] [] w 0 0 := by
  intro m9
  induction m9 with
  | zero => intro i h9; omega
  | succ m9 ih =>
    intro i hm9 hi hr
    refine j_iload dX3_rightBit_27 5 rfl ?_
    refine j_iload dX3_rightBit_29 4 rfl ?_
    refine j_icmp_geN 64 (by omega) (by omega) dX3_rightBit_31 (by decide) (fun c31 => ?_) (fun c31 => ?_)
    · skip
      refine j_iconst (v := nI 0) dX3_rightBit_64 (by decide) ?_
      exact j_iret rfl ⟨by rw [← hr, fstN_end (by omega)]; rfl, rfl⟩ (show 0 ≤ 0 by omega) (show 0 ≤ 0 by omega) dX3_rightBit_65
    · skip
      refine j_iload_n dX3_rightBit_34 2 rfl ?_
      refine j_aload_n dX3_rightBit_35 0 rfl ?_
      refine j_iload_n dX3_rightBit_36 1 rfl ?_
      refine j_bipush (v := nI 9) dX3_rightBit_37 (by decide) ?_
      refine j_iload dX3_rightBit_39 5 rfl ?_
      refine j_iaddN dX3_rightBit_41 ?_
      refine j_callV (rm := rX3_fact) (As := [.int (nI e), .int (nI (9 + i))]) (st := [.int (nI no)]) (b0 := sc) (ci := 3) (na := 2) (c_fact (e := e) (c := (9 + i)) hs hf (by omega) (by omega)) (by intro E w9 h9; first | exact nomatch h9.1 | (obtain ⟨_, h9, _⟩ := h9; exact nomatch h9) | (obtain ⟨_, _, _, h9, _⟩ := h9; exact nomatch h9)) gX3_rightBit_X3_fact rfl rfl hs (by decide +kernel) rfl ⟨Nat.le_of_ble_eq_true rfl, Nat.le_of_ble_eq_true rfl⟩ rfl (Nat.le_of_ble_eq_true rfl) dX3_rightBit_42 ⟨(show 0 + 0 ≤ 0 by omega), (show 0 + 0 ≤ 0 by omega)⟩ (fun v1 w2 h3 => ?_)
      obtain ⟨h3, h4⟩ := h3
      cases h3
      subst w2
      refine j_after (st' := [.int (f (e * 14 + (9 + i))), .int (nI no)]) (k' := 0) (n' := 0) rfl rfl rfl ?_
      refine j_isub dX3_rightBit_45 ?_
      refine j_abs mX3_rightBit_0 mX3_rightBit_1 mX3_rightBit_2 mX3_rightBit_3 (Nat.le_of_ble_eq_true rfl) (Nat.le_of_ble_eq_true rfl) ⟨(show 0 ≤ 0 by omega), (show 0 ≤ 0 by omega)⟩ dX3_rightBit_46 ?_
      refine j_iload_n dX3_rightBit_49 3 rfl ?_
      refine j_icmp_gt 58 dX3_rightBit_50 (by decide) (fun c50 => ?_) (fun c50 => ?_)
      · skip
        refine j_iinc (q := 5) (v := nI (i + 1)) (lv' := [(5, .int (nI (i + 1))), (0, .ref sc), (1, .int (nI e)), (2, .int (nI no)), (3, .int (nI rc)), (4, .int (nI np))]) dX3_rightBit_58 rfl (by first | exact nI_1 _ | exact nI_add _ _) (Nat.le_of_ble_eq_true rfl) rfl ?_
        refine j_goto 27 dX3_rightBit_61 (by decide) ?_
        refine j_lv (lv' := [(0, .ref sc), (1, .int (nI e)), (2, .int (nI no)), (3, .int (nI rc)), (4, .int (nI np)), (5, .int (nI (i + 1)))]) [1, 2, 3, 4, 5, 0] rfl ?_
        exact ih (i + 1) (by omega) (by omega) (by rw [← hr]; exact (fstN_miss (by omega) (by simpa [hiQ] using c50)).symm)
      · skip
        refine j_iconst (v := nI 1) dX3_rightBit_53 (by decide) ?_
        refine j_iload dX3_rightBit_54 5 rfl ?_
        refine j_ishl dX3_rightBit_56 ?_
        refine j_eqi (y := nI (2 ^ i)) (sh4 (by omega)) ?_
        exact j_iret rfl ⟨by rw [← hr, fstN_hit (by omega) (by simpa [hiQ] using c50)]; rfl, rfl⟩ (show 0 ≤ 0 by omega) (show 0 ≤ 0 by omega) dX3_rightBit_57
set_option maxHeartbeats 4000000 in
set_option maxRecDepth 100000 in
theorem c_rightBit {w : pW} {sc fa : Nat} {ev be cu st me pa : Nat} {f : Nat → Int32} (hs : w sc = some (.inr (3, [.ref fa, .int (nI ev), .int (nI be), .int (nI cu), .int (nI st), .int (nI me), .int (nI pa)]))) (hf : w fa = some (.inl (0, 1400, .inl f))) {e no kd np : Nat} (he : e < 100) (hkd : kd < 2 ^ 31) (hk : f (e * 14 + 0) = nI kd) (hnp : np ≤ 4) (hp : f (e * 14 + 1) = nI np) : Ct yX3_rightBit wsX3_rightBit rX3_rightBit [.ref sc, .int (nI e), .int (nI no)] w (fun o w9 => o = .inl (some (.int (nI (riB f e no kd np)))) ∧ w9 = w) := by
  refine Ct.of (cc := cX3_rightBit) (own := RX3) (nm := "rightBit") (nL := 6) (ret := (some .int)) (by decide +kernel) rfl rfl rfl (Nat.le_of_ble_eq_true rfl) ?_
  refine j_lvE (lv' := [(0, .ref sc), (1, .int (nI e)), (2, .int (nI no))]) rfl ?_
  refine j_aload_n dX3_rightBit_0 0 rfl ?_
  refine j_iload_n dX3_rightBit_1 1 rfl ?_
  refine j_iconst (v := nI 0) dX3_rightBit_2 (by decide) ?_
  refine j_callV (rm := rX3_fact) (As := [.int (nI e), .int (nI 0)]) (st := []) (b0 := sc) (ci := 3) (na := 2) (c_fact (e := e) (c := 0) hs hf (by omega) (by omega)) (by intro E w9 h9; first | exact nomatch h9.1 | (obtain ⟨_, h9, _⟩ := h9; exact nomatch h9) | (obtain ⟨_, _, _, h9, _⟩ := h9; exact nomatch h9)) gX3_rightBit_X3_fact rfl rfl hs (by decide +kernel) rfl ⟨Nat.le_of_ble_eq_true rfl, Nat.le_of_ble_eq_true rfl⟩ rfl (Nat.le_of_ble_eq_true rfl) dX3_rightBit_3 ⟨(show 0 + 0 ≤ 0 by omega), (show 0 + 0 ≤ 0 by omega)⟩ (fun v1 w2 h3 => ?_)
  obtain ⟨h3, h4⟩ := h3
  cases h3
  subst w2
  refine j_after (st' := [.int (f (e * 14 + 0))]) (k' := 0) (n' := 0) rfl rfl rfl ?_
  refine j_eqi (y := nI kd) (hk) ?_
  refine j_iconst (v := nI 2) dX3_rightBit_6 (by decide) ?_
  refine j_icmp_neN 14 (by omega) (by omega) dX3_rightBit_7 (by decide) (fun c7 => ?_) (fun c7 => ?_)
  · skip
    refine j_iconst (v := nI 0) dX3_rightBit_14 (by decide) ?_
    refine j_istore_n (lv' := [(3, .int (nI 0)), (0, .ref sc), (1, .int (nI e)), (2, .int (nI no))]) dX3_rightBit_15 (Nat.le_of_ble_eq_true rfl) rfl ?_
    refine j_aload_n dX3_rightBit_16 1 rfl ?_
    refine j_iload_n dX3_rightBit_17 2 rfl ?_
    refine j_iconst (v := nI 1) dX3_rightBit_18 (by decide) ?_
    refine j_callV (rm := rX3_fact) (As := [.int (nI e), .int (nI 1)]) (st := []) (b0 := sc) (ci := 3) (na := 2) (c_fact (e := e) (c := 1) hs hf (by omega) (by omega)) (by intro E w9 h9; first | exact nomatch h9.1 | (obtain ⟨_, h9, _⟩ := h9; exact nomatch h9) | (obtain ⟨_, _, _, h9, _⟩ := h9; exact nomatch h9)) gX3_rightBit_X3_fact rfl rfl hs (by decide +kernel) rfl ⟨Nat.le_of_ble_eq_true rfl, Nat.le_of_ble_eq_true rfl⟩ rfl (Nat.le_of_ble_eq_true rfl) dX3_rightBit_19 ⟨(show 0 + 0 ≤ 0 by omega), (show 0 + 0 ≤ 0 by omega)⟩ (fun v5 w6 h7 => ?_)
    obtain ⟨h7, h8⟩ := h7
    cases h7
    subst w6
    refine j_after (st' := [.int (f (e * 14 + 1))]) (k' := 0) (n' := 0) rfl rfl rfl ?_
    refine j_eqi (y := nI np) (hp) ?_
    refine j_istore (lv' := [(4, .int (nI np)), (3, .int (nI 0)), (0, .ref sc), (1, .int (nI e)), (2, .int (nI no))]) dX3_rightBit_22 (Nat.le_of_ble_eq_true rfl) rfl ?_
    refine j_iconst (v := nI 0) dX3_rightBit_24 (by decide) ?_
    refine j_istore (lv' := [(5, .int (nI 0)), (4, .int (nI np)), (3, .int (nI 0)), (0, .ref sc), (1, .int (nI e)), (2, .int (nI no))]) dX3_rightBit_25 (Nat.le_of_ble_eq_true rfl) rfl ?_
    refine j_lv (lv' := [(0, .ref sc), (1, .int (nI e)), (2, .int (nI no)), (3, .int (nI 0)), (4, .int (nI np)), (5, .int (nI 0))]) [3, 4, 5, 2, 1, 0] rfl ?_
    exact l_rightBit (rc := 0) hs hf he hnp (np + 1) 0 (by omega) (by omega) (by simp only [rcK]; first | rw [if_pos c7]; rfl | rw [if_neg c7]; rfl)
  · skip
    refine j_iconst (v := nI 1) dX3_rightBit_10 (by decide) ?_
    refine j_goto 15 dX3_rightBit_11 (by decide) ?_
    refine j_istore_n (lv' := [(3, .int (nI 1)), (0, .ref sc), (1, .int (nI e)), (2, .int (nI no))]) dX3_rightBit_15 (Nat.le_of_ble_eq_true rfl) rfl ?_
    refine j_aload_n dX3_rightBit_16 1 rfl ?_
    refine j_iload_n dX3_rightBit_17 2 rfl ?_
    refine j_iconst (v := nI 1) dX3_rightBit_18 (by decide) ?_
    refine j_callV (rm := rX3_fact) (As := [.int (nI e), .int (nI 1)]) (st := []) (b0 := sc) (ci := 3) (na := 2) (c_fact (e := e) (c := 1) hs hf (by omega) (by omega)) (by intro E w9 h9; first | exact nomatch h9.1 | (obtain ⟨_, h9, _⟩ := h9; exact nomatch h9) | (obtain ⟨_, _, _, h9, _⟩ := h9; exact nomatch h9)) gX3_rightBit_X3_fact rfl rfl hs (by decide +kernel) rfl ⟨Nat.le_of_ble_eq_true rfl, Nat.le_of_ble_eq_true rfl⟩ rfl (Nat.le_of_ble_eq_true rfl) dX3_rightBit_19 ⟨(show 0 + 0 ≤ 0 by omega), (show 0 + 0 ≤ 0 by omega)⟩ (fun v9 w10 h11 => ?_)
    obtain ⟨h11, h12⟩ := h11
    cases h11
    subst w10
    refine j_after (st' := [.int (f (e * 14 + 1))]) (k' := 0) (n' := 0) rfl rfl rfl ?_
    refine j_eqi (y := nI np) (hp) ?_
    refine j_istore (lv' := [(4, .int (nI np)), (3, .int (nI 1)), (0, .ref sc), (1, .int (nI e)), (2, .int (nI no))]) dX3_rightBit_22 (Nat.le_of_ble_eq_true rfl) rfl ?_
    refine j_iconst (v := nI 0) dX3_rightBit_24 (by decide) ?_
    refine j_istore (lv' := [(5, .int (nI 0)), (4, .int (nI np)), (3, .int (nI 1)), (0, .ref sc), (1, .int (nI e)), (2, .int (nI no))]) dX3_rightBit_25 (Nat.le_of_ble_eq_true rfl) rfl ?_
    refine j_lv (lv' := [(0, .ref sc), (1, .int (nI e)), (2, .int (nI no)), (3, .int (nI 1)), (4, .int (nI np)), (5, .int (nI 0))]) [3, 4, 5, 2, 1, 0] rfl ?_
    exact l_rightBit (rc := 1) hs hf he hnp (np + 1) 0 (by omega) (by omega) (by simp only [rcK]; first | rw [if_pos c7]; rfl | rw [if_neg c7]; rfl)
abbrev rX3_init : Room := { frames := 1, cells := 1, slots := 1400, locals := 24 }
set_option maxRecDepth 100000 in
theorem mX3_init_0 : Cond.methodLink RX3 5 objectInit ∈ wsX3_init := by decide +kernel
set_option maxRecDepth 100000 in
theorem mX3_init_1 : Cond.instanceMethod objectInit ∈ wsX3_init := by decide +kernel
set_option maxRecDepth 100000 in
theorem mX3_init_2 : Cond.code objectInit ⟨#[0xb1]⟩ 1 none ∈ wsX3_init := by decide +kernel
set_option maxRecDepth 100000 in
theorem mX3_init_3 : Cond.arrayClass .int ∈ wsX3_init := by decide +kernel
theorem fsX3_init_11 : FS wsX3_init RX3 11 3 0 true (.array .int) := ⟨RX3, TX3, 7, tyX3, rfl, by decide, by decide +kernel, by decide +kernel, tyX3_ok, nmX3, rfl, rfl, rfl⟩
set_option maxHeartbeats 4000000 in
set_option maxRecDepth 100000 in
theorem c_Score_init {w : pW} {sc : Nat} (hs : w sc = some (.inr (3, [.null, .int (nI 0), .int (nI 0), .int (nI 0), .int (nI 0), .int (nI 0), .int (nI 0)]))) : Ct yX3_init wsX3_init rX3_init [.ref sc] w (fun o w9 => ∃ fa : Nat, o = .inl none ∧ w fa = none ∧ w9 = va_up (va_up w fa (some (.inl (0, 1400, .inl (fun _ => 0))))) sc (some (.inr (3, [.ref fa, .int (nI 0), .int (nI 0), .int (nI 0), .int (nI 0), .int (nI 0), .int (nI 0)])))) := by
  refine Ct.of (cc := cX3_init) (own := RX3) (nm := "<init>") (nL := 1) (ret := none) (by decide +kernel) rfl rfl rfl (Nat.le_of_ble_eq_true rfl) ?_
  refine j_lvE (lv' := [(0, .ref sc)]) rfl ?_
  refine j_aload_n dX3_init_0 0 rfl ?_
  refine j_objInit mX3_init_0 mX3_init_1 mX3_init_2 dX3_init_1 (Nat.le_of_ble_eq_true rfl) (Nat.le_of_ble_eq_true rfl) ?_
  refine j_aload_n dX3_init_4 0 rfl ?_
  refine j_sipush (v := nI 1400) dX3_init_5 (by decide) ?_
  refine j_newi (N := 1400) mX3_init_3 (nI_pos (by omega)) (nI_clamp (by omega)) (by omega) (show 0 + 1 ≤ 1 by omega) (show 0 + 1400 ≤ 1400 by omega) dX3_init_8 (fun q1 hq1 => ?_)
  refine j_after (st' := [.ref q1, .ref sc]) (k' := 1) (n' := 1400) rfl (by first | rfl | omega) (by first | rfl | omega) ?_
  refine j_w (fun w2 hw2 => ?_)
  have n4 : sc ≠ q1 := fn hs hq1
  have f3 := up_ne hw2 n4 hs
  have f5 : w2 q1 = some (.inl (0, 1400, .inl ((fun _ => 0)))) := up_at hw2
  refine j_putF (fs9 := [.ref q1, .int (nI 0), .int (nI 0), .int (nI 0), .int (nI 0), .int (nI 0), .int (nI 0)]) fsX3_init_11 f3 rfl (by intro C T N hc; cases hc; rfl) rfl rfl (Nat.le_of_ble_eq_true rfl) rfl dX3_init_10 ?_
  refine j_w (fun w6 hw6 => ?_)
  have f7 : w6 sc = some (.inr (3, [.ref q1, .int (nI 0), .int (nI 0), .int (nI 0), .int (nI 0), .int (nI 0), .int (nI 0)])) := up_at hw6
  have f8 := up_ne hw6 (Ne.symm n4) f5
  exact j_vret rfl ⟨q1, rfl, hq1, by rw [hw6, hw2]⟩ (show 1 ≤ 1 by omega) (show 1400 ≤ 1400 by omega) dX3_init_13
