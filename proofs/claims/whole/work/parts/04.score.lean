abbrev rX3_has : Room := { frames := 0, cells := 0, slots := 0, locals := 0 }
theorem flX3_has_15 : FL wsX3_has RX3 15 3 1 := ⟨RX3, TX3, 7, rfl, by decide, by decide +kernel, by decide +kernel⟩
set_option maxHeartbeats 4000000 in
set_option maxRecDepth 100000 in
theorem c_has {w : pW} {sc fa : Nat} {ev be cu st me pa : Nat} {f : Nat → Int32} (hs : w sc = some (.inr (3, [.ref fa, .int (nI ev), .int (nI be), .int (nI cu), .int (nI st), .int (nI me), .int (nI pa)]))) (hf : w fa = some (.inl (0, 1400, .inl f))) {e : Int32} (hev : ev ≤ 100) : Ct yX3_has wsX3_has rX3_has [.ref sc, .int e] w (fun o w9 => o = .inl (some (.int (if 0 ≤ e.toInt ∧ e.toInt < ev then 1 else 0))) ∧ w9 = w) := by
  refine Ct.of (cc := cX3_has) (own := RX3) (nm := "has") (nL := 2) (ret := (some .boolean)) (by decide) rfl rfl rfl (Nat.le_of_ble_eq_true rfl) ?_
  refine j_lvE (lv' := [(0, .ref sc), (1, .int e)]) rfl ?_
  refine j_iload_n dX3_has_0 1 rfl ?_
  refine j_if_lt 16 dX3_has_1 (by decide) (fun c1 => ?_) (fun c1 => ?_)
  · skip
    refine j_iconst (v := nI 0) dX3_has_16 (by decide) ?_
    exact j_zret rfl (Or.inl rfl) ⟨by have := @fa_lt; simp_all, rfl⟩ (by omega) (by omega) dX3_has_17
  · skip
    refine j_iload_n dX3_has_4 1 rfl ?_
    refine j_aload_n dX3_has_5 0 rfl ?_
    refine j_get flX3_has_15 hs rfl dX3_has_6 ?_
    refine j_icmp_ge 16 dX3_has_9 (by decide) (fun c9 => ?_) (fun c9 => ?_)
    · skip
      refine j_iconst (v := nI 0) dX3_has_16 (by decide) ?_
      exact j_zret rfl (Or.inl rfl) ⟨by have := @fa_lt; simp_all, rfl⟩ (by omega) (by omega) dX3_has_17
    · skip
      refine j_iconst (v := nI 1) dX3_has_12 (by decide) ?_
      refine j_goto 17 dX3_has_13 (by decide) ?_
      exact j_zret rfl (Or.inr rfl) ⟨by have := @fa_lt; simp_all, rfl⟩ (by omega) (by omega) dX3_has_17
abbrev rX3_fact : Room := { frames := 0, cells := 0, slots := 0, locals := 0 }
theorem flX3_fact_11 : FL wsX3_fact RX3 11 3 0 := ⟨RX3, TX3, 7, rfl, by decide, by decide +kernel, by decide +kernel⟩
set_option maxHeartbeats 4000000 in
set_option maxRecDepth 100000 in
theorem c_fact {w : pW} {sc fa : Nat} {ev be cu st me pa : Nat} {f : Nat → Int32} (hs : w sc = some (.inr (3, [.ref fa, .int (nI ev), .int (nI be), .int (nI cu), .int (nI st), .int (nI me), .int (nI pa)]))) (hf : w fa = some (.inl (0, 1400, .inl f))) {e c : Nat} (he : e < 100) (hc : c < 14) : Ct yX3_fact wsX3_fact rX3_fact [.ref sc, .int (nI e), .int (nI c)] w (fun o w9 => o = .inl (some (.int (f (e * 14 + c)))) ∧ w9 = w) := by
  refine Ct.of (cc := cX3_fact) (own := RX3) (nm := "fact") (nL := 3) (ret := (some .int)) (by decide) rfl rfl rfl (Nat.le_of_ble_eq_true rfl) ?_
  refine j_lvE (lv' := [(0, .ref sc), (1, .int (nI e)), (2, .int (nI c))]) rfl ?_
  refine j_iload_n dX3_fact_0 1 rfl ?_
  refine j_if_ltN (by omega) dX3_fact_1 (by decide : _ = ((20 : Nat) : Int)) ?_
  refine j_iload_n dX3_fact_4 1 rfl ?_
  refine j_bipush (v := nI 100) dX3_fact_5 (by decide) ?_
  refine j_icmp_geN 20 (by omega) (by omega) dX3_fact_7 (by decide) (fun c7 => ?_) (fun c7 => ?_)
  · skip
    exfalso; omega
  · skip
    refine j_iload_n dX3_fact_10 2 rfl ?_
    refine j_if_ltN (by omega) dX3_fact_11 (by decide : _ = ((20 : Nat) : Int)) ?_
    refine j_iload_n dX3_fact_14 2 rfl ?_
    refine j_bipush (v := nI 14) dX3_fact_15 (by decide) ?_
    refine j_icmp_ltN 22 (by omega) (by omega) dX3_fact_17 (by decide) (fun c17 => ?_) (fun c17 => ?_)
    · skip
      refine j_aload_n dX3_fact_22 0 rfl ?_
      refine j_get flX3_fact_11 hs rfl dX3_fact_23 ?_
      refine j_iload_n dX3_fact_26 1 rfl ?_
      refine j_bipush (v := nI 14) dX3_fact_27 (by decide) ?_
      refine j_imulN dX3_fact_29 ?_
      refine j_iload_n dX3_fact_30 2 rfl ?_
      refine j_iaddN dX3_fact_31 ?_
      refine j_ialdN (j := (e * 14) + c) hf rfl (by omega) (by omega) dX3_fact_32 ?_
      exact j_iret rfl ⟨rfl, rfl⟩ (by omega) (by omega) dX3_fact_33
    · skip
      exfalso; omega
