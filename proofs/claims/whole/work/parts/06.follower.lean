abbrev rJ6_bitCount_0f7a4 : Room := { frames := 0, cells := 0, slots := 0, locals := 0 }
set_option maxRecDepth 100000 in
theorem mJ6_bitCount_0f7a4_0 : Cond.constant RJ6 265 (1431655765) ∈ wsJ6_bitCount_0f7a4 := by decide +kernel
set_option maxRecDepth 100000 in
theorem mJ6_bitCount_0f7a4_1 : Cond.constant RJ6 266 (858993459) ∈ wsJ6_bitCount_0f7a4 := by decide +kernel
set_option maxRecDepth 100000 in
theorem mJ6_bitCount_0f7a4_2 : Cond.constant RJ6 267 (252645135) ∈ wsJ6_bitCount_0f7a4 := by decide +kernel
set_option maxHeartbeats 4000000 in
set_option maxRecDepth 100000 in
theorem c_bitCount {w : pW} {x : Nat} (hx : x < 16) : Ct yJ6_bitCount_0f7a4 wsJ6_bitCount_0f7a4 rJ6_bitCount_0f7a4 [.int (nI x)] w (fun o w9 => o = .inl (some (.int (nI (ones x)))) ∧ w9 = w) := by
  refine Ct.of (cc := cJ6_bitCount_0f7a4) (own := RJ6) (nm := "bitCount") (nL := 1) (ret := (some .int)) (by decide +kernel) rfl rfl rfl (Nat.le_of_ble_eq_true rfl) ?_
  refine j_lvE (lv' := [(0, .int (nI x))]) rfl ?_
  refine j_iload_n dJ6_bitCount_0f7a4_0 0 rfl ?_
  refine j_iload_n dJ6_bitCount_0f7a4_1 0 rfl ?_
  refine j_iconst (v := nI 1) dJ6_bitCount_0f7a4_2 (by decide) ?_
  refine j_iushr dJ6_bitCount_0f7a4_3 ?_
  refine j_ldcw (v := nI 1431655765) dJ6_bitCount_0f7a4_4 mJ6_bitCount_0f7a4_0 ?_
  refine j_iand dJ6_bitCount_0f7a4_7 ?_
  refine j_isub dJ6_bitCount_0f7a4_8 ?_
  refine j_istore_n (lv' := [(0, .int ((nI x) - ((((nI x).toUInt32 >>> ((nI 1).toUInt32 &&& Int32.toUInt32 31)).toInt32) &&& (nI 1431655765))))]) dJ6_bitCount_0f7a4_9 (Nat.le_of_ble_eq_true rfl) rfl ?_
  refine j_iload_n dJ6_bitCount_0f7a4_10 0 rfl ?_
  refine j_ldcw (v := nI 858993459) dJ6_bitCount_0f7a4_11 mJ6_bitCount_0f7a4_1 ?_
  refine j_iand dJ6_bitCount_0f7a4_14 ?_
  refine j_iload_n dJ6_bitCount_0f7a4_15 0 rfl ?_
  refine j_iconst (v := nI 2) dJ6_bitCount_0f7a4_16 (by decide) ?_
  refine j_iushr dJ6_bitCount_0f7a4_17 ?_
  refine j_ldcw (v := nI 858993459) dJ6_bitCount_0f7a4_18 mJ6_bitCount_0f7a4_1 ?_
  refine j_iand dJ6_bitCount_0f7a4_21 ?_
  refine j_iadd dJ6_bitCount_0f7a4_22 ?_
  refine j_istore_n (lv' := [(0, .int ((((nI x) - ((((nI x).toUInt32 >>> ((nI 1).toUInt32 &&& Int32.toUInt32 31)).toInt32) &&& (nI 1431655765))) &&& (nI 858993459)) + (((((nI x) - ((((nI x).toUInt32 >>> ((nI 1).toUInt32 &&& Int32.toUInt32 31)).toInt32) &&& (nI 1431655765))).toUInt32 >>> ((nI 2).toUInt32 &&& Int32.toUInt32 31)).toInt32) &&& (nI 858993459))))]) dJ6_bitCount_0f7a4_23 (Nat.le_of_ble_eq_true rfl) rfl ?_
  refine j_iload_n dJ6_bitCount_0f7a4_24 0 rfl ?_
  refine j_iload_n dJ6_bitCount_0f7a4_25 0 rfl ?_
  refine j_iconst (v := nI 4) dJ6_bitCount_0f7a4_26 (by decide) ?_
  refine j_iushr dJ6_bitCount_0f7a4_27 ?_
  refine j_iadd dJ6_bitCount_0f7a4_28 ?_
  refine j_ldcw (v := nI 252645135) dJ6_bitCount_0f7a4_29 mJ6_bitCount_0f7a4_2 ?_
  refine j_iand dJ6_bitCount_0f7a4_32 ?_
  refine j_istore_n (lv' := [(0, .int ((((((nI x) - ((((nI x).toUInt32 >>> ((nI 1).toUInt32 &&& Int32.toUInt32 31)).toInt32) &&& (nI 1431655765))) &&& (nI 858993459)) + (((((nI x) - ((((nI x).toUInt32 >>> ((nI 1).toUInt32 &&& Int32.toUInt32 31)).toInt32) &&& (nI 1431655765))).toUInt32 >>> ((nI 2).toUInt32 &&& Int32.toUInt32 31)).toInt32) &&& (nI 858993459))) + ((((((nI x) - ((((nI x).toUInt32 >>> ((nI 1).toUInt32 &&& Int32.toUInt32 31)).toInt32) &&& (nI 1431655765))) &&& (nI 858993459)) + (((((nI x) - ((((nI x).toUInt32 >>> ((nI 1).toUInt32 &&& Int32.toUInt32 31)).toInt32) &&& (nI 1431655765))).toUInt32 >>> ((nI 2).toUInt32 &&& Int32.toUInt32 31)).toInt32) &&& (nI 858993459))).toUInt32 >>> ((nI 4).toUInt32 &&& Int32.toUInt32 31)).toInt32)) &&& (nI 252645135)))]) dJ6_bitCount_0f7a4_33 (Nat.le_of_ble_eq_true rfl) rfl ?_
  refine j_iload_n dJ6_bitCount_0f7a4_34 0 rfl ?_
  refine j_iload_n dJ6_bitCount_0f7a4_35 0 rfl ?_
  refine j_bipush (v := nI 8) dJ6_bitCount_0f7a4_36 (by decide) ?_
  refine j_iushr dJ6_bitCount_0f7a4_38 ?_
  refine j_iadd dJ6_bitCount_0f7a4_39 ?_
  refine j_istore_n (lv' := [(0, .int (((((((nI x) - ((((nI x).toUInt32 >>> ((nI 1).toUInt32 &&& Int32.toUInt32 31)).toInt32) &&& (nI 1431655765))) &&& (nI 858993459)) + (((((nI x) - ((((nI x).toUInt32 >>> ((nI 1).toUInt32 &&& Int32.toUInt32 31)).toInt32) &&& (nI 1431655765))).toUInt32 >>> ((nI 2).toUInt32 &&& Int32.toUInt32 31)).toInt32) &&& (nI 858993459))) + ((((((nI x) - ((((nI x).toUInt32 >>> ((nI 1).toUInt32 &&& Int32.toUInt32 31)).toInt32) &&& (nI 1431655765))) &&& (nI 858993459)) + (((((nI x) - ((((nI x).toUInt32 >>> ((nI 1).toUInt32 &&& Int32.toUInt32 31)).toInt32) &&& (nI 1431655765))).toUInt32 >>> ((nI 2).toUInt32 &&& Int32.toUInt32 31)).toInt32) &&& (nI 858993459))).toUInt32 >>> ((nI 4).toUInt32 &&& Int32.toUInt32 31)).toInt32)) &&& (nI 252645135)) + ((((((((nI x) - ((((nI x).toUInt32 >>> ((nI 1).toUInt32 &&& Int32.toUInt32 31)).toInt32) &&& (nI 1431655765))) &&& (nI 858993459)) + (((((nI x) - ((((nI x).toUInt32 >>> ((nI 1).toUInt32 &&& Int32.toUInt32 31)).toInt32) &&& (nI 1431655765))).toUInt32 >>> ((nI 2).toUInt32 &&& Int32.toUInt32 31)).toInt32) &&& (nI 858993459))) + ((((((nI x) - ((((nI x).toUInt32 >>> ((nI 1).toUInt32 &&& Int32.toUInt32 31)).toInt32) &&& (nI 1431655765))) &&& (nI 858993459)) + (((((nI x) - ((((nI x).toUInt32 >>> ((nI 1).toUInt32 &&& Int32.toUInt32 31)).toInt32) &&& (nI 1431655765))).toUInt32 >>> ((nI 2).toUInt32 &&& Int32.toUInt32 31)).toInt32) &&& (nI 858993459))).toUInt32 >>> ((nI 4).toUInt32 &&& Int32.toUInt32 31)).toInt32)) &&& (nI 252645135)).toUInt32 >>> ((nI 8).toUInt32 &&& Int32.toUInt32 31)).toInt32)))]) dJ6_bitCount_0f7a4_40 (Nat.le_of_ble_eq_true rfl) rfl ?_
  refine j_iload_n dJ6_bitCount_0f7a4_41 0 rfl ?_
  refine j_iload_n dJ6_bitCount_0f7a4_42 0 rfl ?_
  refine j_bipush (v := nI 16) dJ6_bitCount_0f7a4_43 (by decide) ?_
  refine j_iushr dJ6_bitCount_0f7a4_45 ?_
  refine j_iadd dJ6_bitCount_0f7a4_46 ?_
  refine j_istore_n (lv' := [(0, .int ((((((((nI x) - ((((nI x).toUInt32 >>> ((nI 1).toUInt32 &&& Int32.toUInt32 31)).toInt32) &&& (nI 1431655765))) &&& (nI 858993459)) + (((((nI x) - ((((nI x).toUInt32 >>> ((nI 1).toUInt32 &&& Int32.toUInt32 31)).toInt32) &&& (nI 1431655765))).toUInt32 >>> ((nI 2).toUInt32 &&& Int32.toUInt32 31)).toInt32) &&& (nI 858993459))) + ((((((nI x) - ((((nI x).toUInt32 >>> ((nI 1).toUInt32 &&& Int32.toUInt32 31)).toInt32) &&& (nI 1431655765))) &&& (nI 858993459)) + (((((nI x) - ((((nI x).toUInt32 >>> ((nI 1).toUInt32 &&& Int32.toUInt32 31)).toInt32) &&& (nI 1431655765))).toUInt32 >>> ((nI 2).toUInt32 &&& Int32.toUInt32 31)).toInt32) &&& (nI 858993459))).toUInt32 >>> ((nI 4).toUInt32 &&& Int32.toUInt32 31)).toInt32)) &&& (nI 252645135)) + ((((((((nI x) - ((((nI x).toUInt32 >>> ((nI 1).toUInt32 &&& Int32.toUInt32 31)).toInt32) &&& (nI 1431655765))) &&& (nI 858993459)) + (((((nI x) - ((((nI x).toUInt32 >>> ((nI 1).toUInt32 &&& Int32.toUInt32 31)).toInt32) &&& (nI 1431655765))).toUInt32 >>> ((nI 2).toUInt32 &&& Int32.toUInt32 31)).toInt32) &&& (nI 858993459))) + ((((((nI x) - ((((nI x).toUInt32 >>> ((nI 1).toUInt32 &&& Int32.toUInt32 31)).toInt32) &&& (nI 1431655765))) &&& (nI 858993459)) + (((((nI x) - ((((nI x).toUInt32 >>> ((nI 1).toUInt32 &&& Int32.toUInt32 31)).toInt32) &&& (nI 1431655765))).toUInt32 >>> ((nI 2).toUInt32 &&& Int32.toUInt32 31)).toInt32) &&& (nI 858993459))).toUInt32 >>> ((nI 4).toUInt32 &&& Int32.toUInt32 31)).toInt32)) &&& (nI 252645135)).toUInt32 >>> ((nI 8).toUInt32 &&& Int32.toUInt32 31)).toInt32)) + (((((((((nI x) - ((((nI x).toUInt32 >>> ((nI 1).toUInt32 &&& Int32.toUInt32 31)).toInt32) &&& (nI 1431655765))) &&& (nI 858993459)) + (((((nI x) - ((((nI x).toUInt32 >>> ((nI 1).toUInt32 &&& Int32.toUInt32 31)).toInt32) &&& (nI 1431655765))).toUInt32 >>> ((nI 2).toUInt32 &&& Int32.toUInt32 31)).toInt32) &&& (nI 858993459))) + ((((((nI x) - ((((nI x).toUInt32 >>> ((nI 1).toUInt32 &&& Int32.toUInt32 31)).toInt32) &&& (nI 1431655765))) &&& (nI 858993459)) + (((((nI x) - ((((nI x).toUInt32 >>> ((nI 1).toUInt32 &&& Int32.toUInt32 31)).toInt32) &&& (nI 1431655765))).toUInt32 >>> ((nI 2).toUInt32 &&& Int32.toUInt32 31)).toInt32) &&& (nI 858993459))).toUInt32 >>> ((nI 4).toUInt32 &&& Int32.toUInt32 31)).toInt32)) &&& (nI 252645135)) + ((((((((nI x) - ((((nI x).toUInt32 >>> ((nI 1).toUInt32 &&& Int32.toUInt32 31)).toInt32) &&& (nI 1431655765))) &&& (nI 858993459)) + (((((nI x) - ((((nI x).toUInt32 >>> ((nI 1).toUInt32 &&& Int32.toUInt32 31)).toInt32) &&& (nI 1431655765))).toUInt32 >>> ((nI 2).toUInt32 &&& Int32.toUInt32 31)).toInt32) &&& (nI 858993459))) + ((((((nI x) - ((((nI x).toUInt32 >>> ((nI 1).toUInt32 &&& Int32.toUInt32 31)).toInt32) &&& (nI 1431655765))) &&& (nI 858993459)) + (((((nI x) - ((((nI x).toUInt32 >>> ((nI 1).toUInt32 &&& Int32.toUInt32 31)).toInt32) &&& (nI 1431655765))).toUInt32 >>> ((nI 2).toUInt32 &&& Int32.toUInt32 31)).toInt32) &&& (nI 858993459))).toUInt32 >>> ((nI 4).toUInt32 &&& Int32.toUInt32 31)).toInt32)) &&& (nI 252645135)).toUInt32 >>> ((nI 8).toUInt32 &&& Int32.toUInt32 31)).toInt32)).toUInt32 >>> ((nI 16).toUInt32 &&& Int32.toUInt32 31)).toInt32)))]) dJ6_bitCount_0f7a4_47 (Nat.le_of_ble_eq_true rfl) rfl ?_
  refine j_iload_n dJ6_bitCount_0f7a4_48 0 rfl ?_
  refine j_bipush (v := nI 63) dJ6_bitCount_0f7a4_49 (by decide) ?_
  refine j_iand dJ6_bitCount_0f7a4_51 ?_
  exact j_iret rfl ⟨by congr 3; subst_vars; rcases (show x = 0 ∨ x = 1 ∨ x = 2 ∨ x = 3 ∨ x = 4 ∨ x = 5 ∨ x = 6 ∨ x = 7 ∨ x = 8 ∨ x = 9 ∨ x = 10 ∨ x = 11 ∨ x = 12 ∨ x = 13 ∨ x = 14 ∨ x = 15 by omega) with rfl | rfl | rfl | rfl | rfl | rfl | rfl | rfl | rfl | rfl | rfl | rfl | rfl | rfl | rfl | rfl <;> decide, rfl⟩ (show 0 ≤ 0 by omega) (show 0 ≤ 0 by omega) dJ6_bitCount_0f7a4_52
abbrev rX0_hasPrice : Room := { frames := 0, cells := 0, slots := 0, locals := 0 }
theorem flX0_hasPrice_9 : FL wsX0_hasPrice RX0 9 0 1 := ⟨RX0, TX0, 7, rfl, by decide, by decide +kernel, by decide +kernel⟩
set_option maxHeartbeats 4000000 in
set_option maxRecDepth 100000 in
theorem c_hasPriceN {w : pW} {fo sc pr ar de ms mn nt : Nat} {p : Nat → Nat} (hfo : w fo = some (.inr (0, [.ref sc, .ref pr, .ref ar, .ref de, .ref ms, .ref mn, .int (nI nt)]))) (hp : w pr = some (.inl (0, 4, .inl (fun j9 => nI (p j9))))) (hpb : ∀ j, p j ≤ 50) {x : Nat} (hx : x < 2 ^ 31) : Ct yX0_hasPrice wsX0_hasPrice rX0_hasPrice [.ref fo, .int (nI x)] w (fun o w9 => o = .inl (some (.int (zb (decide (x < 4))))) ∧ w9 = w) := by
  refine Ct.of (cc := cX0_hasPrice) (own := RX0) (nm := "hasPrice") (nL := 2) (ret := (some .boolean)) (by decide +kernel) rfl rfl rfl (Nat.le_of_ble_eq_true rfl) ?_
  refine j_lvE (lv' := [(0, .ref fo), (1, .int (nI x))]) rfl ?_
  refine j_iload_n dX0_hasPrice_0 1 rfl ?_
  refine j_if_ltN (by omega) dX0_hasPrice_1 (by decide : _ = ((17 : Nat) : Int)) ?_
  refine j_iload_n dX0_hasPrice_4 1 rfl ?_
  refine j_aload_n dX0_hasPrice_5 0 rfl ?_
  refine j_get flX0_hasPrice_9 hfo rfl dX0_hasPrice_6 ?_
  refine j_alen (v := nI 4) (by decide) hp rfl dX0_hasPrice_9 ?_
  refine j_icmp_geN 17 (by omega) (by omega) dX0_hasPrice_10 (by decide) (fun c10 => ?_) (fun c10 => ?_)
  · skip
    refine j_iconst (v := nI 0) dX0_hasPrice_17 (by decide) ?_
    exact j_zret rfl (Or.inl rfl) ⟨by rw [zb_f (by simp; omega)]; rfl, rfl⟩ (show 0 ≤ 0 by omega) (show 0 ≤ 0 by omega) dX0_hasPrice_18
  · skip
    refine j_iconst (v := nI 1) dX0_hasPrice_13 (by decide) ?_
    refine j_goto 18 dX0_hasPrice_14 (by decide) ?_
    exact j_zret rfl (Or.inr rfl) ⟨by rw [zb_t (by simp; omega)]; rfl, rfl⟩ (show 0 ≤ 0 by omega) (show 0 ≤ 0 by omega) dX0_hasPrice_18
set_option maxHeartbeats 4000000 in
set_option maxRecDepth 100000 in
theorem c_hasPriceM {w : pW} {fo sc pr ar de ms mn nt : Nat} {p : Nat → Nat} (hfo : w fo = some (.inr (0, [.ref sc, .ref pr, .ref ar, .ref de, .ref ms, .ref mn, .int (nI nt)]))) (hp : w pr = some (.inl (0, 4, .inl (fun j9 => nI (p j9))))) (hpb : ∀ j, p j ≤ 50) {x : Int32} (hx : x < 0) : Ct yX0_hasPrice wsX0_hasPrice rX0_hasPrice [.ref fo, .int x] w (fun o w9 => o = .inl (some (.int (zb false))) ∧ w9 = w) := by
  refine Ct.of (cc := cX0_hasPrice) (own := RX0) (nm := "hasPrice") (nL := 2) (ret := (some .boolean)) (by decide +kernel) rfl rfl rfl (Nat.le_of_ble_eq_true rfl) ?_
  refine j_lvE (lv' := [(0, .ref fo), (1, .int x)]) rfl ?_
  refine j_iload_n dX0_hasPrice_0 1 rfl ?_
  refine j_if_lt 17 dX0_hasPrice_1 (by decide) (fun c1 => ?_) (fun c1 => ?_)
  · skip
    refine j_iconst (v := nI 0) dX0_hasPrice_17 (by decide) ?_
    exact j_zret rfl (Or.inl rfl) ⟨rfl, rfl⟩ (show 0 ≤ 0 by omega) (show 0 ≤ 0 by omega) dX0_hasPrice_18
  · skip
    exact absurd hx c1
abbrev rX0_priceOf : Room := { frames := 1, cells := 0, slots := 0, locals := 21 }
theorem flX0_priceOf_9 : FL wsX0_priceOf RX0 9 0 1 := ⟨RX0, TX0, 7, rfl, by decide, by decide +kernel, by decide +kernel⟩
set_option maxHeartbeats 4000000 in
set_option maxRecDepth 100000 in
theorem c_priceOf {w : pW} {fo sc pr ar de ms mn nt : Nat} {p : Nat → Nat} (hfo : w fo = some (.inr (0, [.ref sc, .ref pr, .ref ar, .ref de, .ref ms, .ref mn, .int (nI nt)]))) (hp : w pr = some (.inl (0, 4, .inl (fun j9 => nI (p j9))))) (hpb : ∀ j, p j ≤ 50) {x : Nat} (hx : x < 4) : Ct yX0_priceOf wsX0_priceOf rX0_priceOf [.ref fo, .int (nI x)] w (fun o w9 => o = .inl (some (.int (nI (p x)))) ∧ w9 = w) := by
  refine Ct.of (cc := cX0_priceOf) (own := RX0) (nm := "priceOf") (nL := 2) (ret := (some .int)) (by decide +kernel) rfl rfl rfl (Nat.le_of_ble_eq_true rfl) ?_
  refine j_lvE (lv' := [(0, .ref fo), (1, .int (nI x))]) rfl ?_
  refine j_aload_n dX0_priceOf_0 0 rfl ?_
  refine j_iload_n dX0_priceOf_1 1 rfl ?_
  refine j_callV (rm := rX0_hasPrice) (As := [.int (nI x)]) (st := []) (b0 := fo) (ci := 0) (na := 1) (c_hasPriceN (x := x) hfo hp hpb (by omega)) (by intro E w9 h9; first | exact nomatch h9.1 | (obtain ⟨_, h9, _⟩ := h9; exact nomatch h9) | (obtain ⟨_, _, _, h9, _⟩ := h9; exact nomatch h9)) gX0_priceOf_X0_hasPrice rfl rfl hfo (by decide +kernel) rfl ⟨Nat.le_of_ble_eq_true rfl, Nat.le_of_ble_eq_true rfl⟩ rfl (Nat.le_of_ble_eq_true rfl) dX0_priceOf_2 ⟨(show 0 + 0 ≤ 0 by omega), (show 0 + 0 ≤ 0 by omega)⟩ (fun v1 w2 h3 => ?_)
  obtain ⟨h3, h4⟩ := h3
  cases h3
  subst w2
  refine j_after (st' := [.int (zb (decide (x < 4)))]) (k' := 0) (n' := 0) rfl rfl rfl ?_
  refine j_if_eq 17 dX0_priceOf_5 (by decide) (fun c5 => ?_) (fun c5 => ?_)
  · skip
    exfalso; have := of_decide_eq_false (zb_0 c5); omega
  · skip
    refine j_aload_n dX0_priceOf_8 0 rfl ?_
    refine j_get flX0_priceOf_9 hfo rfl dX0_priceOf_9 ?_
    refine j_iload_n dX0_priceOf_12 1 rfl ?_
    refine j_ialdN (j := x) hp rfl (by omega) (by omega) dX0_priceOf_13 ?_
    have hb5 := hpb x
    refine j_goto 18 dX0_priceOf_14 (by decide) ?_
    exact j_iret rfl ⟨rfl, rfl⟩ (show 0 ≤ 0 by omega) (show 0 ≤ 0 by omega) dX0_priceOf_18
abbrev rX0_hasRow : Room := { frames := 0, cells := 0, slots := 0, locals := 0 }
theorem flX0_hasRow_15 : FL wsX0_hasRow RX0 15 0 2 := ⟨RX0, TX0, 7, rfl, by decide, by decide +kernel, by decide +kernel⟩
theorem flX0_hasRow_18 : FL wsX0_hasRow RX0 18 0 3 := ⟨RX0, TX0, 7, rfl, by decide, by decide +kernel, by decide +kernel⟩
set_option maxHeartbeats 4000000 in
set_option maxRecDepth 100000 in
theorem c_hasRow1 {w : pW} {fo sc pr ar de ms mn nt : Nat} {a dd : Nat → Nat} (hfo : w fo = some (.inr (0, [.ref sc, .ref pr, .ref ar, .ref de, .ref ms, .ref mn, .int (nI nt)]))) (ha : w ar = some (.inl (0, 100, .inl (fun j9 => nI (a j9))))) (hde : w de = some (.inl (0, 100, .inl (fun j9 => nI (dd j9))))) {x : Nat} (hx : x < 100) : Ct yX0_hasRow wsX0_hasRow rX0_hasRow [.ref fo, .int (nI x)] w (fun o w9 => o = .inl (some (.int (nI 1))) ∧ w9 = w) := by
  refine Ct.of (cc := cX0_hasRow) (own := RX0) (nm := "hasRow") (nL := 2) (ret := (some .boolean)) (by decide +kernel) rfl rfl rfl (Nat.le_of_ble_eq_true rfl) ?_
  refine j_lvE (lv' := [(0, .ref fo), (1, .int (nI x))]) rfl ?_
  refine j_iload_n dX0_hasRow_0 1 rfl ?_
  refine j_if_ltN (by omega) dX0_hasRow_1 (by decide : _ = ((26 : Nat) : Int)) ?_
  refine j_iload_n dX0_hasRow_4 1 rfl ?_
  refine j_aload_n dX0_hasRow_5 0 rfl ?_
  refine j_get flX0_hasRow_15 hfo rfl dX0_hasRow_6 ?_
  refine j_alen (v := nI 100) (by decide) ha rfl dX0_hasRow_9 ?_
  refine j_icmp_geN 26 (by omega) (by omega) dX0_hasRow_10 (by decide) (fun c10 => ?_) (fun c10 => ?_)
  · skip
    exfalso; omega
  · skip
    refine j_iload_n dX0_hasRow_13 1 rfl ?_
    refine j_aload_n dX0_hasRow_14 0 rfl ?_
    refine j_get flX0_hasRow_18 hfo rfl dX0_hasRow_15 ?_
    refine j_alen (v := nI 100) (by decide) hde rfl dX0_hasRow_18 ?_
    refine j_icmp_geN 26 (by omega) (by omega) dX0_hasRow_19 (by decide) (fun c19 => ?_) (fun c19 => ?_)
    · skip
      exfalso; omega
    · skip
      refine j_iconst (v := nI 1) dX0_hasRow_22 (by decide) ?_
      refine j_goto 27 dX0_hasRow_23 (by decide) ?_
      exact j_zret rfl (Or.inr rfl) ⟨rfl, rfl⟩ (show 0 ≤ 0 by omega) (show 0 ≤ 0 by omega) dX0_hasRow_27
set_option maxHeartbeats 4000000 in
set_option maxRecDepth 100000 in
theorem c_hasRowN {w : pW} {fo sc pr ar de ms mn nt : Nat} {a dd : Nat → Nat} (hfo : w fo = some (.inr (0, [.ref sc, .ref pr, .ref ar, .ref de, .ref ms, .ref mn, .int (nI nt)]))) (ha : w ar = some (.inl (0, 100, .inl (fun j9 => nI (a j9))))) (hde : w de = some (.inl (0, 100, .inl (fun j9 => nI (dd j9))))) {x : Nat} (hx : x < 2 ^ 31) : Ct yX0_hasRow wsX0_hasRow rX0_hasRow [.ref fo, .int (nI x)] w (fun o w9 => o = .inl (some (.int (zb (decide (x < 100))))) ∧ w9 = w) := by
  refine Ct.of (cc := cX0_hasRow) (own := RX0) (nm := "hasRow") (nL := 2) (ret := (some .boolean)) (by decide +kernel) rfl rfl rfl (Nat.le_of_ble_eq_true rfl) ?_
  refine j_lvE (lv' := [(0, .ref fo), (1, .int (nI x))]) rfl ?_
  refine j_iload_n dX0_hasRow_0 1 rfl ?_
  refine j_if_ltN (by omega) dX0_hasRow_1 (by decide : _ = ((26 : Nat) : Int)) ?_
  refine j_iload_n dX0_hasRow_4 1 rfl ?_
  refine j_aload_n dX0_hasRow_5 0 rfl ?_
  refine j_get flX0_hasRow_15 hfo rfl dX0_hasRow_6 ?_
  refine j_alen (v := nI 100) (by decide) ha rfl dX0_hasRow_9 ?_
  refine j_icmp_geN 26 (by omega) (by omega) dX0_hasRow_10 (by decide) (fun c10 => ?_) (fun c10 => ?_)
  · skip
    refine j_iconst (v := nI 0) dX0_hasRow_26 (by decide) ?_
    exact j_zret rfl (Or.inl rfl) ⟨by rw [zb_f (by simp; omega)]; rfl, rfl⟩ (show 0 ≤ 0 by omega) (show 0 ≤ 0 by omega) dX0_hasRow_27
  · skip
    refine j_iload_n dX0_hasRow_13 1 rfl ?_
    refine j_aload_n dX0_hasRow_14 0 rfl ?_
    refine j_get flX0_hasRow_18 hfo rfl dX0_hasRow_15 ?_
    refine j_alen (v := nI 100) (by decide) hde rfl dX0_hasRow_18 ?_
    refine j_icmp_geN 26 (by omega) (by omega) dX0_hasRow_19 (by decide) (fun c19 => ?_) (fun c19 => ?_)
    · skip
      refine j_iconst (v := nI 0) dX0_hasRow_26 (by decide) ?_
      exact j_zret rfl (Or.inl rfl) ⟨by rw [zb_f (by simp; omega)]; rfl, rfl⟩ (show 0 ≤ 0 by omega) (show 0 ≤ 0 by omega) dX0_hasRow_27
    · skip
      refine j_iconst (v := nI 1) dX0_hasRow_22 (by decide) ?_
      refine j_goto 27 dX0_hasRow_23 (by decide) ?_
      exact j_zret rfl (Or.inr rfl) ⟨by rw [zb_t (by simp; omega)]; rfl, rfl⟩ (show 0 ≤ 0 by omega) (show 0 ≤ 0 by omega) dX0_hasRow_27
set_option maxHeartbeats 4000000 in
set_option maxRecDepth 100000 in
theorem c_hasRowM {w : pW} {fo sc pr ar de ms mn nt : Nat} {a dd : Nat → Nat} (hfo : w fo = some (.inr (0, [.ref sc, .ref pr, .ref ar, .ref de, .ref ms, .ref mn, .int (nI nt)]))) (ha : w ar = some (.inl (0, 100, .inl (fun j9 => nI (a j9))))) (hde : w de = some (.inl (0, 100, .inl (fun j9 => nI (dd j9))))) : Ct yX0_hasRow wsX0_hasRow rX0_hasRow [.ref fo, .int ((-1))] w (fun o w9 => o = .inl (some (.int (nI 0))) ∧ w9 = w) := by
  refine Ct.of (cc := cX0_hasRow) (own := RX0) (nm := "hasRow") (nL := 2) (ret := (some .boolean)) (by decide +kernel) rfl rfl rfl (Nat.le_of_ble_eq_true rfl) ?_
  refine j_lvE (lv' := [(0, .ref fo), (1, .int ((-1)))]) rfl ?_
  refine j_iload_n dX0_hasRow_0 1 rfl ?_
  refine j_if_lt 26 dX0_hasRow_1 (by decide) (fun c1 => ?_) (fun c1 => ?_)
  · skip
    refine j_iconst (v := nI 0) dX0_hasRow_26 (by decide) ?_
    exact j_zret rfl (Or.inl rfl) ⟨rfl, rfl⟩ (show 0 ≤ 0 by omega) (show 0 ≤ 0 by omega) dX0_hasRow_27
  · skip
    exact absurd (by decide) c1
abbrev rX0_arrive : Room := { frames := 1, cells := 0, slots := 0, locals := 21 }
theorem flX0_arrive_33 : FL wsX0_arrive RX0 33 0 0 := ⟨RX0, TX0, 7, rfl, by decide, by decide +kernel, by decide +kernel⟩
theorem flX0_arrive_15 : FL wsX0_arrive RX0 15 0 2 := ⟨RX0, TX0, 7, rfl, by decide, by decide +kernel, by decide +kernel⟩
set_option maxHeartbeats 4000000 in
set_option maxRecDepth 100000 in
theorem c_arrive {w : pW} {fo sc pr ar de ms mn nt : Nat} {fa ev be cu st me pa : Nat} {f : Nat → Int32} {u : Nat → Nat → Nat} {bh : Nat → Option Nat} {a : Nat → Nat} {dd : Nat → Nat} (hfo : w fo = some (.inr (0, [.ref sc, .ref pr, .ref ar, .ref de, .ref ms, .ref mn, .int (nI nt)]))) (hs : w sc = some (.inr (3, [.ref fa, .int (nI ev), .int (nI be), .int (nI cu), .int (nI st), .int (nI me), .int (nI pa)]))) (hf : w fa = some (.inl (0, 1400, .inl f))) (ha : w ar = some (.inl (0, 100, .inl (fun j9 => nI (a j9))))) (hde : w de = some (.inl (0, 100, .inl (fun j9 => nI (dd j9))))) (hM : Mus f ev st u bh) (hab : ∀ j, a j ≤ 1000000) (hdb : ∀ j, dd j ≤ 1000000) (hN : va_nd [fa, ar, de] = true) {e c : Nat} (he : e ≤ 100) (hc9 : c < 2 ^ 31) : Ct yX0_arrive wsX0_arrive rX0_arrive [.ref fo, .int (nI e), .int (nI c)] w (fun o w9 => o = .inl (some (.int (zb (decide (e < ev ∧ c < a e))))) ∧ w9 = va_up w ar (some (.inl (0, 100, .inl (fun j9 => nI ((arrP a ev e c) j9)))))) := by
  refine Ct.of (cc := cX0_arrive) (own := RX0) (nm := "arrive") (nL := 3) (ret := (some .boolean)) (by decide +kernel) rfl rfl rfl (Nat.le_of_ble_eq_true rfl) ?_
  refine j_lvE (lv' := [(0, .ref fo), (1, .int (nI e)), (2, .int (nI c))]) rfl ?_
  have hev := hM.hev
  refine j_aload_n dX0_arrive_0 0 rfl ?_
  refine j_iload_n dX0_arrive_1 1 rfl ?_
  refine j_callV (rm := rX0_hasRow) (As := [.int (nI e)]) (st := []) (b0 := fo) (ci := 0) (na := 1) (c_hasRowN (x := e) hfo ha hde (by omega)) (by intro E w9 h9; first | exact nomatch h9.1 | (obtain ⟨_, h9, _⟩ := h9; exact nomatch h9) | (obtain ⟨_, _, _, h9, _⟩ := h9; exact nomatch h9)) gX0_arrive_X0_hasRow rfl rfl hfo (by decide +kernel) rfl ⟨Nat.le_of_ble_eq_true rfl, Nat.le_of_ble_eq_true rfl⟩ rfl (Nat.le_of_ble_eq_true rfl) dX0_arrive_2 ⟨(show 0 + 0 ≤ 0 by omega), (show 0 + 0 ≤ 0 by omega)⟩ (fun v1 w2 h3 => ?_)
  obtain ⟨h3, h4⟩ := h3
  cases h3
  subst w2
  refine j_after (st' := [.int (zb (decide (e < 100)))]) (k' := 0) (n' := 0) rfl rfl rfl ?_
  refine j_if_eq 29 dX0_arrive_5 (by decide) (fun c5 => ?_) (fun c5 => ?_)
  · skip
    refine j_iconst (v := nI 0) dX0_arrive_29 (by decide) ?_
    exact j_zret rfl (Or.inl rfl) ⟨by rw [zb_f (by simp only [decide_eq_false_iff_not]; exact fun h => by first | omega | (have h1 := of_decide_eq_false (zb_0 c5); omega) | (have h1 := of_decide_eq_false (zb_0 c16); omega))]; rfl, by simp only [arrP]; rw [if_neg (fun h => by first | omega | (have h1 := of_decide_eq_false (zb_0 c5); omega) | (have h1 := of_decide_eq_false (zb_0 c16); omega))]; exact (up_same ha).symm⟩ (show 0 ≤ 0 by omega) (show 0 ≤ 0 by omega) dX0_arrive_30
  · skip
    have hr100 := of_decide_eq_true (zb_n' c5)
    refine j_aload_n dX0_arrive_8 0 rfl ?_
    refine j_get flX0_arrive_33 hfo rfl dX0_arrive_9 ?_
    refine j_iload_n dX0_arrive_12 1 rfl ?_
    refine j_callV (rm := rX3_has) (As := [.int (nI e)]) (st := []) (b0 := sc) (ci := 3) (na := 1) (c_hasN (e := e) hs hf (by omega) (by omega)) (by intro E w9 h9; first | exact nomatch h9.1 | (obtain ⟨_, h9, _⟩ := h9; exact nomatch h9) | (obtain ⟨_, _, _, h9, _⟩ := h9; exact nomatch h9)) gX0_arrive_X3_has rfl rfl hs (by decide +kernel) rfl ⟨Nat.le_of_ble_eq_true rfl, Nat.le_of_ble_eq_true rfl⟩ rfl (Nat.le_of_ble_eq_true rfl) dX0_arrive_13 ⟨(show 0 + 0 ≤ 0 by omega), (show 0 + 0 ≤ 0 by omega)⟩ (fun v5 w6 h7 => ?_)
    obtain ⟨h7, h8⟩ := h7
    cases h7
    subst w6
    refine j_after (st' := [.int (zb (decide (e < ev)))]) (k' := 0) (n' := 0) rfl rfl rfl ?_
    refine j_if_eq 29 dX0_arrive_16 (by decide) (fun c16 => ?_) (fun c16 => ?_)
    · skip
      refine j_iconst (v := nI 0) dX0_arrive_29 (by decide) ?_
      exact j_zret rfl (Or.inl rfl) ⟨by rw [zb_f (by simp only [decide_eq_false_iff_not]; exact fun h => by first | omega | (have h1 := of_decide_eq_false (zb_0 c5); omega) | (have h1 := of_decide_eq_false (zb_0 c16); omega))]; rfl, by simp only [arrP]; rw [if_neg (fun h => by first | omega | (have h1 := of_decide_eq_false (zb_0 c5); omega) | (have h1 := of_decide_eq_false (zb_0 c16); omega))]; exact (up_same ha).symm⟩ (show 0 ≤ 0 by omega) (show 0 ≤ 0 by omega) dX0_arrive_30
    · skip
      refine j_iload_n dX0_arrive_19 2 rfl ?_
      refine j_aload_n dX0_arrive_20 0 rfl ?_
      refine j_get flX0_arrive_15 hfo rfl dX0_arrive_21 ?_
      refine j_iload_n dX0_arrive_24 1 rfl ?_
      refine j_ialdN (j := e) ha rfl (by omega) (by omega) dX0_arrive_25 ?_
      have hb9 := hab e
      refine j_icmp_ltN 31 (by omega) (by omega) dX0_arrive_26 (by decide) (fun c26 => ?_) (fun c26 => ?_)
      · skip
        refine j_aload_n dX0_arrive_31 0 rfl ?_
        refine j_get flX0_arrive_15 hfo rfl dX0_arrive_32 ?_
        refine j_iload_n dX0_arrive_35 1 rfl ?_
        refine j_iload_n dX0_arrive_36 2 rfl ?_
        refine j_iastn (j := e) (x := c) ha rfl (by omega) (by omega) dX0_arrive_37 ?_
        refine j_w (fun w10 hw10 => ?_)
        have f11 := up_ne hw10 (fk hfo ha rfl) hfo
        have f12 := up_ne hw10 (fk hs ha rfl) hs
        have f13 := up_ne hw10 (nd_ne hN 0 1 rfl rfl rfl) hf
        have f14 : w10 ar = some (.inl (0, 100, .inl (fun j9 => nI ((va_up a e c) j9)))) := up_at hw10
        have f15 := up_ne hw10 (nd_ne hN 2 1 rfl rfl rfl) hde
        have hb16 : ∀ j9, (va_up a e c) j9 ≤ 1000000 := up_le hab (by omega)
        refine j_iconst (v := nI 1) dX0_arrive_38 (by decide) ?_
        exact j_zret rfl (Or.inr rfl) ⟨by rw [zb_t (by simp only [decide_eq_true_eq]; exact ⟨of_decide_eq_true (zb_n' c16), c26⟩)]; rfl, by rw [hw10]; simp only [arrP]; rw [if_pos ⟨of_decide_eq_true (zb_n' c16), c26⟩]⟩ (show 0 ≤ 0 by omega) (show 0 ≤ 0 by omega) dX0_arrive_39
      · skip
        refine j_iconst (v := nI 0) dX0_arrive_29 (by decide) ?_
        exact j_zret rfl (Or.inl rfl) ⟨by rw [zb_f (by simp only [decide_eq_false_iff_not]; exact fun h => by first | omega | (have h1 := of_decide_eq_false (zb_0 c5); omega) | (have h1 := of_decide_eq_false (zb_0 c16); omega))]; rfl, by simp only [arrP]; rw [if_neg (fun h => by first | omega | (have h1 := of_decide_eq_false (zb_0 c5); omega) | (have h1 := of_decide_eq_false (zb_0 c16); omega))]; exact (up_same ha).symm⟩ (show 0 ≤ 0 by omega) (show 0 ≤ 0 by omega) dX0_arrive_30
set_option maxHeartbeats 4000000 in
set_option maxRecDepth 100000 in
theorem c_arriveM {w : pW} {fo sc pr ar de ms mn nt : Nat} {fa ev be cu st me pa : Nat} {f : Nat → Int32} {u : Nat → Nat → Nat} {bh : Nat → Option Nat} {a : Nat → Nat} {dd : Nat → Nat} (hfo : w fo = some (.inr (0, [.ref sc, .ref pr, .ref ar, .ref de, .ref ms, .ref mn, .int (nI nt)]))) (hs : w sc = some (.inr (3, [.ref fa, .int (nI ev), .int (nI be), .int (nI cu), .int (nI st), .int (nI me), .int (nI pa)]))) (hf : w fa = some (.inl (0, 1400, .inl f))) (ha : w ar = some (.inl (0, 100, .inl (fun j9 => nI (a j9))))) (hde : w de = some (.inl (0, 100, .inl (fun j9 => nI (dd j9))))) (hM : Mus f ev st u bh) (hab : ∀ j, a j ≤ 1000000) (hdb : ∀ j, dd j ≤ 1000000) (hN : va_nd [fa, ar, de] = true) {c : Nat} : Ct yX0_arrive wsX0_arrive rX0_arrive [.ref fo, .int ((-1)), .int (nI c)] w (fun o w9 => o = .inl (some (.int (nI 0))) ∧ w9 = w) := by
  refine Ct.of (cc := cX0_arrive) (own := RX0) (nm := "arrive") (nL := 3) (ret := (some .boolean)) (by decide +kernel) rfl rfl rfl (Nat.le_of_ble_eq_true rfl) ?_
  refine j_lvE (lv' := [(0, .ref fo), (1, .int ((-1))), (2, .int (nI c))]) rfl ?_
  refine j_aload_n dX0_arrive_0 0 rfl ?_
  refine j_iload_n dX0_arrive_1 1 rfl ?_
  refine j_callV (rm := rX0_hasRow) (As := [.int ((-1))]) (st := []) (b0 := fo) (ci := 0) (na := 1) (c_hasRowM hfo ha hde) (by intro E w9 h9; first | exact nomatch h9.1 | (obtain ⟨_, h9, _⟩ := h9; exact nomatch h9) | (obtain ⟨_, _, _, h9, _⟩ := h9; exact nomatch h9)) gX0_arrive_X0_hasRow rfl rfl hfo (by decide +kernel) rfl ⟨Nat.le_of_ble_eq_true rfl, Nat.le_of_ble_eq_true rfl⟩ rfl (Nat.le_of_ble_eq_true rfl) dX0_arrive_2 ⟨(show 0 + 0 ≤ 0 by omega), (show 0 + 0 ≤ 0 by omega)⟩ (fun v1 w2 h3 => ?_)
  obtain ⟨h3, h4⟩ := h3
  cases h3
  subst w2
  refine j_after (st' := [.int (nI 0)]) (k' := 0) (n' := 0) rfl rfl rfl ?_
  refine j_if_eqN 29 (by decide) dX0_arrive_5 (by decide) (fun _ => ?_) (fun h9 => absurd rfl h9)
  refine j_iconst (v := nI 0) dX0_arrive_29 (by decide) ?_
  exact j_zret rfl (Or.inl rfl) ⟨rfl, rfl⟩ (show 0 ≤ 0 by omega) (show 0 ≤ 0 by omega) dX0_arrive_30
theorem nd_2 {fa pr ar de : Nat} (h : va_nd [fa, pr, ar, de] = true) : va_nd [fa, ar, de] = true := by
  have h1 := nd_ne h 0 2 rfl rfl rfl
  have h2 := nd_ne h 0 3 rfl rfl rfl
  have h3 := nd_ne h 2 3 rfl rfl rfl
  simp [va_nd, h1, h2, h3]
abbrev rX0_walkOn : Room := { frames := 2, cells := 0, slots := 0, locals := 43 }
theorem flX0_walkOn_33 : FL wsX0_walkOn RX0 33 0 0 := ⟨RX0, TX0, 7, rfl, by decide, by decide +kernel, by decide +kernel⟩
theorem flX0_walkOn_91 : FL wsX0_walkOn RX0 91 3 1 := ⟨RX3, TX3, 7, rfl, by decide, by decide +kernel, by decide +kernel⟩
theorem flX0_walkOn_18 : FL wsX0_walkOn RX0 18 0 3 := ⟨RX0, TX0, 7, rfl, by decide, by decide +kernel, by decide +kernel⟩
theorem flX0_walkOn_15 : FL wsX0_walkOn RX0 15 0 2 := ⟨RX0, TX0, 7, rfl, by decide, by decide +kernel, by decide +kernel⟩
set_option maxRecDepth 100000 in
theorem mX0_walkOn_0 : Cond.methodLink RX0 97 Lib.Math.min.name ∈ wsX0_walkOn := by decide +kernel
set_option maxRecDepth 100000 in
theorem mX0_walkOn_1 : Cond.static Lib.Math.min.name ∈ wsX0_walkOn := by decide +kernel
set_option maxRecDepth 100000 in
theorem mX0_walkOn_2 : Cond.initialized "java/lang/Math" ∈ wsX0_walkOn := by decide +kernel
set_option maxRecDepth 100000 in
theorem mX0_walkOn_3 : Cond.code Lib.Math.min.name Lib.Math.min.code 2 (some .int) ∈ wsX0_walkOn := by decide +kernel
set_option maxHeartbeats 4000000 in
set_option maxRecDepth 100000 in
theorem l_walkOn {w : pW} {fo sc pr ar de ms mn nt : Nat} {fa ev be cu st me pa : Nat} {f : Nat → Int32} {u : Nat → Nat → Nat} {bh : Nat → Option Nat} {p : Nat → Nat} {dd : Nat → Nat} (hfo : w fo = some (.inr (0, [.ref sc, .ref pr, .ref ar, .ref de, .ref ms, .ref mn, .int (nI nt)]))) (hs : w sc = some (.inr (3, [.ref fa, .int (nI ev), .int (nI be), .int (nI cu), .int (nI st), .int (nI me), .int (nI pa)]))) (hf : w fa = some (.inl (0, 1400, .inl f))) (hp : w pr = some (.inl (0, 4, .inl (fun j9 => nI (p j9))))) (hde : w de = some (.inl (0, 100, .inl (fun j9 => nI (dd j9))))) (hM : Mus f ev st u bh) (hpb : ∀ j, p j ≤ 50) (hdb : ∀ j, dd j ≤ 1000000)  {R9 : (Nat → Nat) × Bool} {a0 : Nat → Nat} (ha : w ar = some (.inl (0, 100, .inl (fun j9 => nI (a0 j9))))) (hN : va_nd [fa, pr, ar, de] = true) : ∀ (m9 : Nat) (i : Nat) (a : Nat → Nat) (ch : Bool) (wl : pW), ev - i < m9 → (i ≤ ev) → (∀ j, a j ≤ 1000000) → (wkF dd (u 1) bh (p 2) ev (ev - i) i a ch = R9) → (wl = va_up w ar (some (.inl (0, 100, .inl (fun j9 => nI (a j9)))))) → J ((cX0_walkOn, RX0, 5, wsX0_walkOn), (rX0_walkOn, (some .boolean), "walkOn", []), fun o w9 => o = .inl (some (.int (zb R9.2))) ∧ w9 = va_up w ar (some (.inl (0, 100, .inl (fun j9 => nI (R9.1 j9))))), fun _ _ _ => True) 4 [(0, .ref fo), (1, .int (zb ch)), (2, .int (nI i))] [] wl 0 0 := by
  intro m9
  induction m9 with
  | zero => intro i a ch wl h9; omega
  | succ m9 ih =>
    intro i a ch wl hm9 hi hab hr hwl
    have hev := hM.hev
    have hst0 := hM.hst
    have g_fo := up_ne hwl (fk hfo ha rfl) hfo
    have g_sc := up_ne hwl (fk hs ha rfl) hs
    have g_fa := up_ne hwl (nd_ne hN 0 2 rfl rfl rfl) hf
    have g_pr := up_ne hwl (nd_ne hN 1 2 rfl rfl rfl) hp
    have g_ar : wl ar = some (.inl (0, 100, .inl (fun j9 => nI (a j9)))) := up_at hwl
    have g_de := up_ne hwl (nd_ne hN 3 2 rfl rfl rfl) hde
    refine j_iload_n dX0_walkOn_4 2 rfl ?_
    refine j_aload_n dX0_walkOn_5 0 rfl ?_
    refine j_get flX0_walkOn_33 g_fo rfl dX0_walkOn_6 ?_
    refine j_get flX0_walkOn_91 g_sc rfl dX0_walkOn_9 ?_
    refine j_icmp_geN 95 (by omega) (by omega) dX0_walkOn_12 (by decide) (fun c12 => ?_) (fun c12 => ?_)
    · skip
      refine j_iload_n dX0_walkOn_95 1 rfl ?_
      exact j_zret rfl (zb_01 _) ⟨by rw [← hr, show ev - i = 0 by omega]; rfl, by rw [← hr, show ev - i = 0 by omega]; exact hwl⟩ (show 0 ≤ 0 by omega) (show 0 ≤ 0 by omega) dX0_walkOn_96
    · skip
      refine j_aload_n dX0_walkOn_15 0 rfl ?_
      refine j_iload_n dX0_walkOn_16 2 rfl ?_
      refine j_callV (rm := rX0_hasRow) (As := [.int (nI i)]) (st := []) (b0 := fo) (ci := 0) (na := 1) (c_hasRow1 (x := i) g_fo g_ar g_de (by omega)) (by intro E w9 h9; first | exact nomatch h9.1 | (obtain ⟨_, h9, _⟩ := h9; exact nomatch h9) | (obtain ⟨_, _, _, h9, _⟩ := h9; exact nomatch h9)) gX0_walkOn_X0_hasRow rfl rfl g_fo (by decide +kernel) rfl ⟨Nat.le_of_ble_eq_true rfl, Nat.le_of_ble_eq_true rfl⟩ rfl (Nat.le_of_ble_eq_true rfl) dX0_walkOn_17 ⟨(show 0 + 0 ≤ 0 by omega), (show 0 + 0 ≤ 0 by omega)⟩ (fun v1 w2 h3 => ?_)
      obtain ⟨h3, h4⟩ := h3
      cases h3
      subst w2
      refine j_after (st' := [.int (nI 1)]) (k' := 0) (n' := 0) rfl rfl rfl ?_
      refine j_if_eqN 95 (by decide) dX0_walkOn_20 (by decide) (fun h9 => absurd h9 (by decide)) (fun _ => ?_)
      refine j_aload_n dX0_walkOn_23 0 rfl ?_
      refine j_get flX0_walkOn_33 g_fo rfl dX0_walkOn_24 ?_
      refine j_iload_n dX0_walkOn_27 2 rfl ?_
      refine j_iconst (v := nI 1) dX0_walkOn_28 (by decide) ?_
      have hrg5 := Mus.rg (e := i) hM (by omega)
      have hbd6 := Mus.bd (e := i) hM (by omega)
      refine j_callV (rm := rX3_fact) (As := [.int (nI i), .int (nI 1)]) (st := []) (b0 := sc) (ci := 3) (na := 2) (c_fact (e := i) (c := 1) g_sc g_fa (by omega) (by omega)) (by intro E w9 h9; first | exact nomatch h9.1 | (obtain ⟨_, h9, _⟩ := h9; exact nomatch h9) | (obtain ⟨_, _, _, h9, _⟩ := h9; exact nomatch h9)) gX0_walkOn_X3_fact rfl rfl g_sc (by decide +kernel) rfl ⟨Nat.le_of_ble_eq_true rfl, Nat.le_of_ble_eq_true rfl⟩ rfl (Nat.le_of_ble_eq_true rfl) dX0_walkOn_29 ⟨(show 0 + 0 ≤ 0 by omega), (show 0 + 0 ≤ 0 by omega)⟩ (fun v7 w8 h9 => ?_)
      obtain ⟨h9, h10⟩ := h9
      cases h9
      subst w8
      refine j_after (st' := [.int (f (i * 14 + 1))]) (k' := 0) (n' := 0) rfl rfl rfl ?_
      refine j_eqi (y := nI (u 1 i)) (Mus.c1 hM (by omega)) ?_
      refine j_istore_n (lv' := [(3, .int (nI (u 1 i))), (0, .ref fo), (1, .int (zb ch)), (2, .int (nI i))]) dX0_walkOn_32 (Nat.le_of_ble_eq_true rfl) rfl ?_
      refine j_aload_n dX0_walkOn_33 1 rfl ?_
      refine j_get flX0_walkOn_18 g_fo rfl dX0_walkOn_34 ?_
      refine j_iload_n dX0_walkOn_37 3 rfl ?_
      refine j_ialdN (j := i) g_de rfl (by omega) (by omega) dX0_walkOn_38 ?_
      have hb11 := hdb i
      refine j_aload_n dX0_walkOn_39 1 rfl ?_
      refine j_get flX0_walkOn_15 g_fo rfl dX0_walkOn_40 ?_
      refine j_iload_n dX0_walkOn_43 3 rfl ?_
      refine j_ialdN (j := i) g_ar rfl (by omega) (by omega) dX0_walkOn_44 ?_
      have hb12 := hab i
      refine j_iload_n dX0_walkOn_45 0 rfl ?_
      refine j_aload_n dX0_walkOn_46 1 rfl ?_
      refine j_iconst (v := nI 2) dX0_walkOn_47 (by decide) ?_
      refine j_callV (rm := rX0_priceOf) (As := [.int (nI 2)]) (st := [.int (nI (u 1 i)), .int (nI (a i)), .int (nI (dd i))]) (b0 := fo) (ci := 0) (na := 1) (c_priceOf (x := 2) g_fo g_pr hpb (by omega)) (by intro E w9 h9; first | exact nomatch h9.1 | (obtain ⟨_, h9, _⟩ := h9; exact nomatch h9) | (obtain ⟨_, _, _, h9, _⟩ := h9; exact nomatch h9)) gX0_walkOn_X0_priceOf rfl rfl g_fo (by decide +kernel) rfl ⟨Nat.le_of_ble_eq_true rfl, Nat.le_of_ble_eq_true rfl⟩ rfl (Nat.le_of_ble_eq_true rfl) dX0_walkOn_48 ⟨(show 0 + 0 ≤ 0 by omega), (show 0 + 0 ≤ 0 by omega)⟩ (fun v13 w14 h15 => ?_)
      obtain ⟨h15, h16⟩ := h15
      cases h15
      subst w14
      refine j_after (st' := [.int (nI (p 2)), .int (nI (u 1 i)), .int (nI (a i)), .int (nI (dd i))]) (k' := 0) (n' := 0) rfl rfl rfl ?_
      have hb17 := hpb 2
      refine j_imulN dX0_walkOn_51 ?_
      have hmu : u 1 i * p 2 ≤ 4 * 50 := Nat.mul_le_mul (by omega) (hpb 2)
      refine j_iaddN dX0_walkOn_52 ?_
      refine j_min mX0_walkOn_0 mX0_walkOn_1 mX0_walkOn_2 mX0_walkOn_3 (Nat.le_of_ble_eq_true rfl) (Nat.le_of_ble_eq_true rfl) ⟨(show 0 ≤ 0 by omega), (show 0 ≤ 0 by omega)⟩ dX0_walkOn_53 ?_
      refine j_eqi (y := nI (min (dd i) ((a i) + ((u 1 i) * (p 2))))) (mnN (by omega) (by omega)) ?_
      refine j_istore (lv' := [(4, .int (nI (min (dd i) ((a i) + ((u 1 i) * (p 2)))))), (3, .int (nI (u 1 i))), (0, .ref fo), (1, .int (zb ch)), (2, .int (nI i))]) dX0_walkOn_56 (Nat.le_of_ble_eq_true rfl) rfl ?_
      refine j_aload_n dX0_walkOn_58 2 rfl ?_
      refine j_iload_n dX0_walkOn_59 4 rfl ?_
      refine j_iconst (v := nI 1) dX0_walkOn_60 (by decide) ?_
      refine j_iaddN dX0_walkOn_61 ?_
      refine j_iload dX0_walkOn_62 0 rfl ?_
      refine j_callV (rm := rX0_arrive) (As := [.int (nI (i + 1)), .int (nI (min (dd i) ((a i) + ((u 1 i) * (p 2)))))]) (st := []) (b0 := fo) (ci := 0) (na := 2) (c_arrive (e := (i + 1)) (c := (min (dd i) ((a i) + ((u 1 i) * (p 2))))) g_fo g_sc g_fa g_ar g_de hM hab hdb (nd_2 hN) (by omega) (by omega)) (by intro E w9 h9; first | exact nomatch h9.1 | (obtain ⟨_, h9, _⟩ := h9; exact nomatch h9) | (obtain ⟨_, _, _, h9, _⟩ := h9; exact nomatch h9)) gX0_walkOn_X0_arrive rfl rfl g_fo (by decide +kernel) rfl ⟨Nat.le_of_ble_eq_true rfl, Nat.le_of_ble_eq_true rfl⟩ rfl (Nat.le_of_ble_eq_true rfl) dX0_walkOn_64 ⟨(show 0 + 0 ≤ 0 by omega), (show 0 + 0 ≤ 0 by omega)⟩ (fun v18 w19 h20 => ?_)
      obtain ⟨h20, h21⟩ := h20
      cases h20
      -- w19
      refine j_after (st' := [.int (zb (decide ((i + 1) < ev ∧ (min (dd i) ((a i) + ((u 1 i) * (p 2)))) < a (i + 1))))]) (k' := 0) (n' := 0) rfl rfl rfl ?_
      have f22 : w19 fo = some (.inr (0, [.ref sc, .ref pr, .ref ar, .ref de, .ref ms, .ref mn, .int (nI nt)])) := by rw [h21]; exact (va_up_ne _ _ (fk g_fo g_ar rfl)).trans (g_fo)
      have f23 : w19 sc = some (.inr (3, [.ref fa, .int (nI ev), .int (nI be), .int (nI cu), .int (nI st), .int (nI me), .int (nI pa)])) := by rw [h21]; exact (va_up_ne _ _ (fk g_sc g_ar rfl)).trans (g_sc)
      have f24 : w19 fa = some (.inl (0, 1400, .inl f)) := by rw [h21]; exact (va_up_ne _ _ (nd_ne hN 0 2 rfl rfl rfl)).trans (g_fa)
      have f25 : w19 pr = some (.inl (0, 4, .inl (fun j9 => nI (p j9)))) := by rw [h21]; exact (va_up_ne _ _ (nd_ne hN 1 2 rfl rfl rfl)).trans (g_pr)
      have f26 : w19 ar = some (.inl (0, 100, .inl (fun j9 => nI ((arrP a ev (i + 1) (min (dd i) ((a i) + ((u 1 i) * (p 2))))) j9)))) := by rw [h21]; exact va_up_self _ _ _
      have f27 : w19 de = some (.inl (0, 100, .inl (fun j9 => nI (dd j9)))) := by rw [h21]; exact (va_up_ne _ _ (nd_ne hN 3 2 rfl rfl rfl)).trans (g_de)
      have hb28 : ∀ j9, (arrP a ev (i + 1) (min (dd i) ((a i) + ((u 1 i) * (p 2))))) j9 ≤ 1000000 := arrP_le hab
      refine j_pop dX0_walkOn_67 rfl ?_
      refine j_aload_n dX0_walkOn_68 2 rfl ?_
      refine j_aload_n dX0_walkOn_69 2 rfl ?_
      refine j_get flX0_walkOn_33 f22 rfl dX0_walkOn_70 ?_
      refine j_iload_n dX0_walkOn_73 4 rfl ?_
      refine j_bipush (v := nI 8) dX0_walkOn_74 (by decide) ?_
      refine j_callV (rm := rX3_fact) (As := [.int (nI i), .int (nI 8)]) (st := [.ref fo]) (b0 := sc) (ci := 3) (na := 2) (c_fact (e := i) (c := 8) f23 f24 (by omega) (by omega)) (by intro E w9 h9; first | exact nomatch h9.1 | (obtain ⟨_, h9, _⟩ := h9; exact nomatch h9) | (obtain ⟨_, _, _, h9, _⟩ := h9; exact nomatch h9)) gX0_walkOn_X3_fact rfl rfl f23 (by decide +kernel) rfl ⟨Nat.le_of_ble_eq_true rfl, Nat.le_of_ble_eq_true rfl⟩ rfl (Nat.le_of_ble_eq_true rfl) dX0_walkOn_76 ⟨(show 0 + 0 ≤ 0 by omega), (show 0 + 0 ≤ 0 by omega)⟩ (fun v29 w30 h31 => ?_)
      obtain ⟨h31, h32⟩ := h31
      cases h31
      subst w30
      refine j_after (st' := [.int (f (i * 14 + 8)), .ref fo]) (k' := 0) (n' := 0) rfl rfl rfl ?_
      refine j_iload dX0_walkOn_79 0 rfl ?_
      have hb8 := Mus.c8 (e := i) hM (by omega)
      cases hbi : bh i with
      | none =>
        rw [hbi] at hb8
        refine j_stE (st' := [.int (nI (min (dd i) ((a i) + ((u 1 i) * (p 2))))), .int ((-1)), .ref fo]) (by rw [hb8]; rfl) ?_
        refine j_callV (rm := rX0_arrive) (As := [.int ((-1)), .int (nI (min (dd i) ((a i) + ((u 1 i) * (p 2)))))]) (st := []) (b0 := fo) (ci := 0) (na := 2) (c_arriveM (c := (min (dd i) ((a i) + ((u 1 i) * (p 2))))) f22 f23 f24 f26 f27 hM hb28 hdb (nd_2 hN)) (by intro E w9 h9; first | exact nomatch h9.1 | (obtain ⟨_, h9, _⟩ := h9; exact nomatch h9) | (obtain ⟨_, _, _, h9, _⟩ := h9; exact nomatch h9)) gX0_walkOn_X0_arrive rfl rfl f22 (by decide +kernel) rfl ⟨Nat.le_of_ble_eq_true rfl, Nat.le_of_ble_eq_true rfl⟩ rfl (Nat.le_of_ble_eq_true rfl) dX0_walkOn_81 ⟨(show 0 + 0 ≤ 0 by omega), (show 0 + 0 ≤ 0 by omega)⟩ (fun v33 w34 h35 => ?_)
        obtain ⟨h35, h36⟩ := h35
        cases h35
        subst w34
        refine j_after (st' := [.int (nI 0)]) (k' := 0) (n' := 0) rfl rfl rfl ?_
        refine j_if_eqN 89 (by decide) dX0_walkOn_84 (by decide) (fun _ => ?_) (fun h9 => absurd rfl h9)
        refine j_iinc (q := 4) (v := nI (i + 1)) (lv' := [(2, .int (nI (i + 1))), (4, .int (nI (min (dd i) ((a i) + ((u 1 i) * (p 2)))))), (3, .int (nI (u 1 i))), (0, .ref fo), (1, .int (zb ch))]) dX0_walkOn_89 rfl (by first | exact nI_1 _ | exact nI_add _ _) (Nat.le_of_ble_eq_true rfl) rfl ?_
        refine j_goto 4 dX0_walkOn_92 (by decide) ?_
        refine j_lv (lv' := [(0, .ref fo), (1, .int (zb ch)), (2, .int (nI (i + 1)))]) [3, 4, 0] rfl ?_
        have hS9 : wkS dd (u 1) bh (p 2) ev i a ch = (arrP a ev (i + 1) (min (dd i) ((a i) + ((u 1 i) * (p 2)))), ch) := by
          simp only [wkS, hbi]
        exact ih (i + 1) (arrP a ev (i + 1) (min (dd i) ((a i) + ((u 1 i) * (p 2))))) ch _ (by omega) (by omega) hb28 (by have h9 := wkF_step (dd := dd) (np := u 1) (bh := bh) (pL := p 2) (a := a) (ch := ch) (show i < ev by omega); rw [hS9] at h9; rw [← hr]; exact h9.symm) (by rw [h21, hwl]; simp only [bx_uu])
      | some b8 =>
        rw [hbi] at hb8
        have hb9 := Mus.hbh hM (e := i) (by omega) hbi
        refine j_stE (st' := [.int (nI (min (dd i) ((a i) + ((u 1 i) * (p 2))))), .int (nI b8), .ref fo]) (by rw [hb8]; rfl) ?_
        refine j_callV (rm := rX0_arrive) (As := [.int (nI b8), .int (nI (min (dd i) ((a i) + ((u 1 i) * (p 2)))))]) (st := []) (b0 := fo) (ci := 0) (na := 2) (c_arrive (e := b8) (c := (min (dd i) ((a i) + ((u 1 i) * (p 2))))) f22 f23 f24 f26 f27 hM hb28 hdb (nd_2 hN) (by omega) (by omega)) (by intro E w9 h9; first | exact nomatch h9.1 | (obtain ⟨_, h9, _⟩ := h9; exact nomatch h9) | (obtain ⟨_, _, _, h9, _⟩ := h9; exact nomatch h9)) gX0_walkOn_X0_arrive rfl rfl f22 (by decide +kernel) rfl ⟨Nat.le_of_ble_eq_true rfl, Nat.le_of_ble_eq_true rfl⟩ rfl (Nat.le_of_ble_eq_true rfl) dX0_walkOn_81 ⟨(show 0 + 0 ≤ 0 by omega), (show 0 + 0 ≤ 0 by omega)⟩ (fun v37 w38 h39 => ?_)
        obtain ⟨h39, h40⟩ := h39
        cases h39
        -- w38
        refine j_after (st' := [.int (zb (decide (b8 < ev ∧ (min (dd i) ((a i) + ((u 1 i) * (p 2)))) < (arrP a ev (i + 1) (min (dd i) ((a i) + ((u 1 i) * (p 2))))) b8)))]) (k' := 0) (n' := 0) rfl rfl rfl ?_
        have f41 : w38 fo = some (.inr (0, [.ref sc, .ref pr, .ref ar, .ref de, .ref ms, .ref mn, .int (nI nt)])) := by rw [h40]; exact (va_up_ne _ _ (fk f22 f26 rfl)).trans (f22)
        have f42 : w38 sc = some (.inr (3, [.ref fa, .int (nI ev), .int (nI be), .int (nI cu), .int (nI st), .int (nI me), .int (nI pa)])) := by rw [h40]; exact (va_up_ne _ _ (fk f23 f26 rfl)).trans (f23)
        have f43 : w38 fa = some (.inl (0, 1400, .inl f)) := by rw [h40]; exact (va_up_ne _ _ (nd_ne hN 0 2 rfl rfl rfl)).trans (f24)
        have f44 : w38 pr = some (.inl (0, 4, .inl (fun j9 => nI (p j9)))) := by rw [h40]; exact (va_up_ne _ _ (nd_ne hN 1 2 rfl rfl rfl)).trans (f25)
        have f45 : w38 ar = some (.inl (0, 100, .inl (fun j9 => nI ((arrP (arrP a ev (i + 1) (min (dd i) ((a i) + ((u 1 i) * (p 2))))) ev b8 (min (dd i) ((a i) + ((u 1 i) * (p 2))))) j9)))) := by rw [h40]; exact va_up_self _ _ _
        have f46 : w38 de = some (.inl (0, 100, .inl (fun j9 => nI (dd j9)))) := by rw [h40]; exact (va_up_ne _ _ (nd_ne hN 3 2 rfl rfl rfl)).trans (f27)
        have hb47 : ∀ j9, (arrP (arrP a ev (i + 1) (min (dd i) ((a i) + ((u 1 i) * (p 2))))) ev b8 (min (dd i) ((a i) + ((u 1 i) * (p 2))))) j9 ≤ 1000000 := arrP_le hb28
        refine j_if_eq 89 dX0_walkOn_84 (by decide) (fun c84 => ?_) (fun c84 => ?_)
        · skip
          refine j_iinc (q := 4) (v := nI (i + 1)) (lv' := [(2, .int (nI (i + 1))), (4, .int (nI (min (dd i) ((a i) + ((u 1 i) * (p 2)))))), (3, .int (nI (u 1 i))), (0, .ref fo), (1, .int (zb ch))]) dX0_walkOn_89 rfl (by first | exact nI_1 _ | exact nI_add _ _) (Nat.le_of_ble_eq_true rfl) rfl ?_
          refine j_goto 4 dX0_walkOn_92 (by decide) ?_
          refine j_lv (lv' := [(0, .ref fo), (1, .int (zb ch)), (2, .int (nI (i + 1)))]) [3, 4, 0] rfl ?_
          have hS9 : wkS dd (u 1) bh (p 2) ev i a ch = (arrP (arrP a ev (i + 1) (min (dd i) ((a i) + ((u 1 i) * (p 2))))) ev b8 (min (dd i) ((a i) + ((u 1 i) * (p 2)))), ch) := by
            simp only [wkS, hbi]; rw [zb_0 c84]; simp
          exact ih (i + 1) (arrP (arrP a ev (i + 1) (min (dd i) ((a i) + ((u 1 i) * (p 2))))) ev b8 (min (dd i) ((a i) + ((u 1 i) * (p 2))))) ch _ (by omega) (by omega) hb47 (by have h9 := wkF_step (dd := dd) (np := u 1) (bh := bh) (pL := p 2) (a := a) (ch := ch) (show i < ev by omega); rw [hS9] at h9; rw [← hr]; exact h9.symm) (by rw [h40, h21, hwl]; simp only [bx_uu])
        · skip
          refine j_iconst (v := nI 1) dX0_walkOn_87 (by decide) ?_
          refine j_istore_n (lv' := [(1, .int (nI 1)), (4, .int (nI (min (dd i) ((a i) + ((u 1 i) * (p 2)))))), (3, .int (nI (u 1 i))), (0, .ref fo), (2, .int (nI i))]) dX0_walkOn_88 (Nat.le_of_ble_eq_true rfl) rfl ?_
          refine j_iinc (q := 4) (v := nI (i + 1)) (lv' := [(2, .int (nI (i + 1))), (1, .int (nI 1)), (4, .int (nI (min (dd i) ((a i) + ((u 1 i) * (p 2)))))), (3, .int (nI (u 1 i))), (0, .ref fo)]) dX0_walkOn_89 rfl (by first | exact nI_1 _ | exact nI_add _ _) (Nat.le_of_ble_eq_true rfl) rfl ?_
          refine j_goto 4 dX0_walkOn_92 (by decide) ?_
          refine j_lv (lv' := [(0, .ref fo), (1, .int (nI 1)), (2, .int (nI (i + 1)))]) [4, 1, 0] rfl ?_
          have hS9 : wkS dd (u 1) bh (p 2) ev i a ch = (arrP (arrP a ev (i + 1) (min (dd i) ((a i) + ((u 1 i) * (p 2))))) ev b8 (min (dd i) ((a i) + ((u 1 i) * (p 2)))), true) := by
            simp only [wkS, hbi]; rw [zb_n' c84]; simp
          exact ih (i + 1) (arrP (arrP a ev (i + 1) (min (dd i) ((a i) + ((u 1 i) * (p 2))))) ev b8 (min (dd i) ((a i) + ((u 1 i) * (p 2))))) true _ (by omega) (by omega) hb47 (by have h9 := wkF_step (dd := dd) (np := u 1) (bh := bh) (pL := p 2) (a := a) (ch := ch) (show i < ev by omega); rw [hS9] at h9; rw [← hr]; exact h9.symm) (by rw [h40, h21, hwl]; simp only [bx_uu])
set_option maxHeartbeats 4000000 in
set_option maxRecDepth 100000 in
theorem c_walkOn {w : pW} {fo sc pr ar de ms mn nt : Nat} {fa ev be cu st me pa : Nat} {f : Nat → Int32} {u : Nat → Nat → Nat} {bh : Nat → Option Nat} {p : Nat → Nat} {a : Nat → Nat} {dd : Nat → Nat} (hfo : w fo = some (.inr (0, [.ref sc, .ref pr, .ref ar, .ref de, .ref ms, .ref mn, .int (nI nt)]))) (hs : w sc = some (.inr (3, [.ref fa, .int (nI ev), .int (nI be), .int (nI cu), .int (nI st), .int (nI me), .int (nI pa)]))) (hf : w fa = some (.inl (0, 1400, .inl f))) (hp : w pr = some (.inl (0, 4, .inl (fun j9 => nI (p j9))))) (ha : w ar = some (.inl (0, 100, .inl (fun j9 => nI (a j9))))) (hde : w de = some (.inl (0, 100, .inl (fun j9 => nI (dd j9))))) (hM : Mus f ev st u bh) (hpb : ∀ j, p j ≤ 50) (hab : ∀ j, a j ≤ 1000000) (hdb : ∀ j, dd j ≤ 1000000) (hN : va_nd [fa, pr, ar, de] = true) : Ct yX0_walkOn wsX0_walkOn rX0_walkOn [.ref fo] w (fun o w9 => o = .inl (some (.int (zb (wkF dd (u 1) bh (p 2) ev ev 0 a false).2))) ∧ w9 = va_up w ar (some (.inl (0, 100, .inl (fun j9 => nI (((wkF dd (u 1) bh (p 2) ev ev 0 a false).1) j9)))))) := by
  refine Ct.of (cc := cX0_walkOn) (own := RX0) (nm := "walkOn") (nL := 5) (ret := (some .boolean)) (by decide +kernel) rfl rfl rfl (Nat.le_of_ble_eq_true rfl) ?_
  refine j_lvE (lv' := [(0, .ref fo)]) rfl ?_
  refine j_iconst (v := nI 0) dX0_walkOn_0 (by decide) ?_
  refine j_istore_n (lv' := [(1, .int (nI 0)), (0, .ref fo)]) dX0_walkOn_1 (Nat.le_of_ble_eq_true rfl) rfl ?_
  refine j_iconst (v := nI 0) dX0_walkOn_2 (by decide) ?_
  refine j_istore_n (lv' := [(2, .int (nI 0)), (1, .int (nI 0)), (0, .ref fo)]) dX0_walkOn_3 (Nat.le_of_ble_eq_true rfl) rfl ?_
  refine j_lv (lv' := [(0, .ref fo), (1, .int (nI 0)), (2, .int (nI 0))]) [2, 1, 0] rfl ?_
  refine j_lvE (lv' := [(0, .ref fo), (1, .int (zb false)), (2, .int (nI 0))]) rfl ?_
  exact l_walkOn hfo hs hf hp hde hM hpb hdb ha hN (ev + 1) 0 a false w (by omega) (by omega) hab rfl (up_same ha).symm
theorem nd_3 {fa pr ar de cm : Nat} (h : va_nd [fa, pr, ar, de, cm] = true) : va_nd [fa, pr, ar, de] = true := by
  have h1 := nd_ne h 0 1 rfl rfl rfl
  have h2 := nd_ne h 0 2 rfl rfl rfl
  have h3 := nd_ne h 0 3 rfl rfl rfl
  have h4 := nd_ne h 1 2 rfl rfl rfl
  have h5 := nd_ne h 1 3 rfl rfl rfl
  have h6 := nd_ne h 2 3 rfl rfl rfl
  simp [va_nd, h1, h2, h3, h4, h5, h6]
theorem nd_4 {fa pr ar de cm : Nat} (h : va_nd [fa, pr, ar, de, cm] = true) : va_nd [fa, pr, cm] = true := by
  have h1 := nd_ne h 0 1 rfl rfl rfl
  have h2 := nd_ne h 0 4 rfl rfl rfl
  have h4 := nd_ne h 1 4 rfl rfl rfl
  simp [va_nd, h1, h2, h4]
abbrev rX0_departureFrom : Room := { frames := 2, cells := 0, slots := 0, locals := 44 }
theorem flX0_departureFrom_30 : FL wsX0_departureFrom RX0 30 0 5 := ⟨RX0, TX0, 7, rfl, by decide, by decide +kernel, by decide +kernel⟩
set_option maxRecDepth 100000 in
theorem mX0_departureFrom_0 : Cond.methodLink RX0 97 Lib.Math.min.name ∈ wsX0_departureFrom := by decide +kernel
set_option maxRecDepth 100000 in
theorem mX0_departureFrom_1 : Cond.static Lib.Math.min.name ∈ wsX0_departureFrom := by decide +kernel
set_option maxRecDepth 100000 in
theorem mX0_departureFrom_2 : Cond.initialized "java/lang/Math" ∈ wsX0_departureFrom := by decide +kernel
set_option maxRecDepth 100000 in
theorem mX0_departureFrom_3 : Cond.code Lib.Math.min.name Lib.Math.min.code 2 (some .int) ∈ wsX0_departureFrom := by decide +kernel
set_option maxHeartbeats 4000000 in
set_option maxRecDepth 100000 in
theorem l_departureFrom {w : pW} {fo sc pr ar de ms mn nt : Nat} {fa ev be cu st me pa : Nat} {f : Nat → Int32} {u : Nat → Nat → Nat} {bh : Nat → Option Nat} {p : Nat → Nat} {cm : Nat} {bf nx av ah : Option Nat} {cl pe pb pc an : Nat} {cn : Nat} {d : Nat → Nat} (hfo : w fo = some (.inr (0, [.ref sc, .ref pr, .ref ar, .ref de, .ref ms, .ref mn, .int (nI nt)]))) (hs : w sc = some (.inr (3, [.ref fa, .int (nI ev), .int (nI be), .int (nI cu), .int (nI st), .int (nI me), .int (nI pa)]))) (hf : w fa = some (.inl (0, 1400, .inl f))) (hp : w pr = some (.inl (0, 4, .inl (fun j9 => nI (p j9))))) (hm : w mn = some (.inr (1, [va_rf bf, va_rf nx, .ref cm, .int (nI cl), .int (nI pe), .int (nI pb), .int (nI pc), .int (nI an), va_rf av, va_rf ah]))) (hc : w cm = some (.inl (0, cn, .inl (fun j9 => nI (d j9))))) (hM : Mus f ev st u bh) (hpb : ∀ j, p j ≤ 50) (hst : st ≤ cn) (hcn : cn ≤ 100000) (hdd : ∀ j, d j ≤ 1000000) (hN : va_nd [fa, pr, cm] = true) {e R9 : Nat} (he : e < ev) : ∀ (m9 : Nat) (b : Nat) (acc : Nat), 2 ^ u 1 e - b < m9 → (b ≤ 2 ^ u 1 e) → (acc ≤ 1000000) → (mfold (fun b => d (sumP (u 1) e + b) + ones (2 ^ u 1 e - 1 - b) * p 2) (2 ^ u 1 e - b) b acc = R9) → J ((cX0_departureFrom, RX0, 7, wsX0_departureFrom), (rX0_departureFrom, (some .int), "departureFrom", []), fun o w9 => o = .inl (some (.int (nI R9))) ∧ w9 = w, fun _ _ _ => True) 27 [(0, .ref fo), (1, .int (nI e)), (2, .int (nI (sumP (u 1) e))), (3, .int (nI (2 ^ u 1 e - 1))), (4, .int (nI acc)), (5, .int (nI b))] [] w 0 0 := by
  intro m9
  induction m9 with
  | zero => intro b acc h9; omega
  | succ m9 ih =>
    intro b acc hm9 hb1 hacc hr
    have hev := hM.hev
    have hst0 := hM.hst
    have hrg := hM.rg (e := e) he
    have hbd := hM.bd (e := e) he
    refine j_iload dX0_departureFrom_27 5 rfl ?_
    refine j_iload_n dX0_departureFrom_29 3 rfl ?_
    refine j_icmp_gtN 75 (by omega) (by omega) dX0_departureFrom_30 (by decide) (fun c30 => ?_) (fun c30 => ?_)
    · skip
      refine j_iload dX0_departureFrom_75 4 rfl ?_
      exact j_iret rfl ⟨by rw [← hr, show 2 ^ u 1 e - b = 0 by omega]; rfl, rfl⟩ (show 0 ≤ 0 by omega) (show 0 ≤ 0 by omega) dX0_departureFrom_77
    · skip
      refine j_iload_n dX0_departureFrom_33 3 rfl ?_
      refine j_iload dX0_departureFrom_34 5 rfl ?_
      refine j_isubN (by omega) dX0_departureFrom_36 ?_
      refine j_callS (rm := rJ6_bitCount_0f7a4) (As := [.int (nI ((2 ^ u 1 e - 1) - b))]) (st := []) (na := 1) (c_bitCount (x := ((2 ^ u 1 e - 1) - b)) (by omega)) (by intro E w9 h9; first | exact nomatch h9.1 | (obtain ⟨_, h9, _⟩ := h9; exact nomatch h9) | (obtain ⟨_, _, _, h9, _⟩ := h9; exact nomatch h9)) gX0_departureFrom_J6_bitCount_0f7a4 rfl (by decide +kernel) rfl ⟨Nat.le_of_ble_eq_true rfl, Nat.le_of_ble_eq_true rfl⟩ rfl (Nat.le_of_ble_eq_true rfl) dX0_departureFrom_37 ⟨(show 0 + 0 ≤ 0 by omega), (show 0 + 0 ≤ 0 by omega)⟩ (fun v1 w2 h3 => ?_)
      obtain ⟨h3, h4⟩ := h3
      cases h3
      subst w2
      refine j_after (st' := [.int (nI (ones ((2 ^ u 1 e - 1) - b)))]) (k' := 0) (n' := 0) rfl rfl rfl ?_
      refine j_istore (lv' := [(6, .int (nI (ones ((2 ^ u 1 e - 1) - b)))), (0, .ref fo), (1, .int (nI e)), (2, .int (nI (sumP (u 1) e))), (3, .int (nI (2 ^ u 1 e - 1))), (4, .int (nI acc)), (5, .int (nI b))]) dX0_departureFrom_40 (Nat.le_of_ble_eq_true rfl) rfl ?_
      refine j_iload dX0_departureFrom_42 5 rfl ?_
      refine j_aload_n dX0_departureFrom_44 1 rfl ?_
      refine j_get flX0_departureFrom_30 hfo rfl dX0_departureFrom_45 ?_
      refine j_iload_n dX0_departureFrom_48 3 rfl ?_
      refine j_iload dX0_departureFrom_49 6 rfl ?_
      refine j_iaddN dX0_departureFrom_51 ?_
      have hb5 := hdd ((sumP (u 1) e) + b)
      refine j_callV (rm := rX1_costAt) (As := [.int (nI ((sumP (u 1) e) + b))]) (st := [.int (nI acc)]) (b0 := mn) (ci := 1) (na := 1) (c_costAt (s := ((sumP (u 1) e) + b)) hm hc (by omega) (by omega)) (by intro E w9 h9; first | exact nomatch h9.1 | (obtain ⟨_, h9, _⟩ := h9; exact nomatch h9) | (obtain ⟨_, _, _, h9, _⟩ := h9; exact nomatch h9)) gX0_departureFrom_X1_costAt rfl rfl hm (by decide +kernel) rfl ⟨Nat.le_of_ble_eq_true rfl, Nat.le_of_ble_eq_true rfl⟩ rfl (Nat.le_of_ble_eq_true rfl) dX0_departureFrom_52 ⟨(show 0 + 0 ≤ 0 by omega), (show 0 + 0 ≤ 0 by omega)⟩ (fun v6 w7 h8 => ?_)
      obtain ⟨h8, h9⟩ := h8
      cases h8
      subst w7
      refine j_after (st' := [.int (nI (d ((sumP (u 1) e) + b))), .int (nI acc)]) (k' := 0) (n' := 0) rfl rfl rfl ?_
      refine j_iload dX0_departureFrom_55 0 rfl ?_
      refine j_aload_n dX0_departureFrom_57 1 rfl ?_
      refine j_iconst (v := nI 2) dX0_departureFrom_58 (by decide) ?_
      refine j_callV (rm := rX0_priceOf) (As := [.int (nI 2)]) (st := [.int (nI (ones ((2 ^ u 1 e - 1) - b))), .int (nI (d ((sumP (u 1) e) + b))), .int (nI acc)]) (b0 := fo) (ci := 0) (na := 1) (c_priceOf (x := 2) hfo hp hpb (by omega)) (by intro E w9 h9; first | exact nomatch h9.1 | (obtain ⟨_, h9, _⟩ := h9; exact nomatch h9) | (obtain ⟨_, _, _, h9, _⟩ := h9; exact nomatch h9)) gX0_departureFrom_X0_priceOf rfl rfl hfo (by decide +kernel) rfl ⟨Nat.le_of_ble_eq_true rfl, Nat.le_of_ble_eq_true rfl⟩ rfl (Nat.le_of_ble_eq_true rfl) dX0_departureFrom_59 ⟨(show 0 + 0 ≤ 0 by omega), (show 0 + 0 ≤ 0 by omega)⟩ (fun v10 w11 h12 => ?_)
      obtain ⟨h12, h13⟩ := h12
      cases h12
      subst w11
      refine j_after (st' := [.int (nI (p 2)), .int (nI (ones ((2 ^ u 1 e - 1) - b))), .int (nI (d ((sumP (u 1) e) + b))), .int (nI acc)]) (k' := 0) (n' := 0) rfl rfl rfl ?_
      have hb14 := hpb 2
      refine j_imulN dX0_departureFrom_62 ?_
      have hon : ones (2 ^ u 1 e - 1 - b) * p 2 ≤ 4 * 50 := Nat.mul_le_mul (ones_le _) (hpb 2)
      refine j_iaddN dX0_departureFrom_63 ?_
      refine j_min mX0_departureFrom_0 mX0_departureFrom_1 mX0_departureFrom_2 mX0_departureFrom_3 (Nat.le_of_ble_eq_true rfl) (Nat.le_of_ble_eq_true rfl) ⟨(show 0 ≤ 0 by omega), (show 0 ≤ 0 by omega)⟩ dX0_departureFrom_64 ?_
      refine j_eqi (y := nI (min acc ((d ((sumP (u 1) e) + b)) + ((ones ((2 ^ u 1 e - 1) - b)) * (p 2))))) (mnN (by omega) (by omega)) ?_
      refine j_istore (lv' := [(4, .int (nI (min acc ((d ((sumP (u 1) e) + b)) + ((ones ((2 ^ u 1 e - 1) - b)) * (p 2)))))), (6, .int (nI (ones ((2 ^ u 1 e - 1) - b)))), (0, .ref fo), (1, .int (nI e)), (2, .int (nI (sumP (u 1) e))), (3, .int (nI (2 ^ u 1 e - 1))), (5, .int (nI b))]) dX0_departureFrom_67 (Nat.le_of_ble_eq_true rfl) rfl ?_
      refine j_iinc (q := 6) (v := nI (b + 1)) (lv' := [(5, .int (nI (b + 1))), (4, .int (nI (min acc ((d ((sumP (u 1) e) + b)) + ((ones ((2 ^ u 1 e - 1) - b)) * (p 2)))))), (6, .int (nI (ones ((2 ^ u 1 e - 1) - b)))), (0, .ref fo), (1, .int (nI e)), (2, .int (nI (sumP (u 1) e))), (3, .int (nI (2 ^ u 1 e - 1)))]) dX0_departureFrom_69 rfl (by first | exact nI_1 _ | exact nI_add _ _) (Nat.le_of_ble_eq_true rfl) rfl ?_
      refine j_goto 27 dX0_departureFrom_72 (by decide) ?_
      refine j_lv (lv' := [(0, .ref fo), (1, .int (nI e)), (2, .int (nI (sumP (u 1) e))), (3, .int (nI (2 ^ u 1 e - 1))), (4, .int (nI (min acc ((d ((sumP (u 1) e) + b)) + ((ones ((2 ^ u 1 e - 1) - b)) * (p 2)))))), (5, .int (nI (b + 1)))]) [3, 4, 5, 6, 1, 0] rfl ?_
      exact ih (b + 1) _ (by omega) (by omega) (by omega) (by rw [← hr]; exact (mf_step (g := (fun b => d (sumP (u 1) e + b) + ones (2 ^ u 1 e - 1 - b) * p 2)) (by omega)).symm)
theorem flX0_departureFrom_33 : FL wsX0_departureFrom RX0 33 0 0 := ⟨RX0, TX0, 7, rfl, by decide, by decide +kernel, by decide +kernel⟩
set_option maxRecDepth 100000 in
theorem mX0_departureFrom_4 : Cond.constant RX0 90 (1000000) ∈ wsX0_departureFrom := by decide +kernel
set_option maxHeartbeats 4000000 in
set_option maxRecDepth 100000 in
theorem c_departureFrom {w : pW} {fo sc pr ar de ms mn nt : Nat} {fa ev be cu st me pa : Nat} {f : Nat → Int32} {u : Nat → Nat → Nat} {bh : Nat → Option Nat} {p : Nat → Nat} {cm : Nat} {bf nx av ah : Option Nat} {cl pe pb pc an : Nat} {cn : Nat} {d : Nat → Nat} (hfo : w fo = some (.inr (0, [.ref sc, .ref pr, .ref ar, .ref de, .ref ms, .ref mn, .int (nI nt)]))) (hs : w sc = some (.inr (3, [.ref fa, .int (nI ev), .int (nI be), .int (nI cu), .int (nI st), .int (nI me), .int (nI pa)]))) (hf : w fa = some (.inl (0, 1400, .inl f))) (hp : w pr = some (.inl (0, 4, .inl (fun j9 => nI (p j9))))) (hm : w mn = some (.inr (1, [va_rf bf, va_rf nx, .ref cm, .int (nI cl), .int (nI pe), .int (nI pb), .int (nI pc), .int (nI an), va_rf av, va_rf ah]))) (hc : w cm = some (.inl (0, cn, .inl (fun j9 => nI (d j9))))) (hM : Mus f ev st u bh) (hpb : ∀ j, p j ≤ 50) (hst : st ≤ cn) (hcn : cn ≤ 100000) (hdd : ∀ j, d j ≤ 1000000) (hN : va_nd [fa, pr, cm] = true) {e : Nat} (he : e < ev) : Ct yX0_departureFrom wsX0_departureFrom rX0_departureFrom [.ref fo, .int (nI e)] w (fun o w9 => o = .inl (some (.int (nI (depF d (u 1) (p 2) e)))) ∧ w9 = w) := by
  refine Ct.of (cc := cX0_departureFrom) (own := RX0) (nm := "departureFrom") (nL := 7) (ret := (some .int)) (by decide +kernel) rfl rfl rfl (Nat.le_of_ble_eq_true rfl) ?_
  refine j_lvE (lv' := [(0, .ref fo), (1, .int (nI e))]) rfl ?_
  have hev := hM.hev
  have hst0 := hM.hst
  have hrg := hM.rg (e := e) he
  have hbd := hM.bd (e := e) he
  refine j_aload_n dX0_departureFrom_0 0 rfl ?_
  refine j_get flX0_departureFrom_33 hfo rfl dX0_departureFrom_1 ?_
  refine j_iload_n dX0_departureFrom_4 1 rfl ?_
  refine j_bipush (v := nI 13) dX0_departureFrom_5 (by decide) ?_
  have hrg1 := Mus.rg (e := e) hM (by omega)
  have hbd2 := Mus.bd (e := e) hM (by omega)
  refine j_callV (rm := rX3_fact) (As := [.int (nI e), .int (nI 13)]) (st := []) (b0 := sc) (ci := 3) (na := 2) (c_fact (e := e) (c := 13) hs hf (by omega) (by omega)) (by intro E w9 h9; first | exact nomatch h9.1 | (obtain ⟨_, h9, _⟩ := h9; exact nomatch h9) | (obtain ⟨_, _, _, h9, _⟩ := h9; exact nomatch h9)) gX0_departureFrom_X3_fact rfl rfl hs (by decide +kernel) rfl ⟨Nat.le_of_ble_eq_true rfl, Nat.le_of_ble_eq_true rfl⟩ rfl (Nat.le_of_ble_eq_true rfl) dX0_departureFrom_7 ⟨(show 0 + 0 ≤ 0 by omega), (show 0 + 0 ≤ 0 by omega)⟩ (fun v3 w4 h5 => ?_)
  obtain ⟨h5, h6⟩ := h5
  cases h5
  subst w4
  refine j_after (st' := [.int (f (e * 14 + 13))]) (k' := 0) (n' := 0) rfl rfl rfl ?_
  refine j_eqi (y := nI (sumP (u 1) e)) (Mus.c13 hM (by omega)) ?_
  refine j_istore_n (lv' := [(2, .int (nI (sumP (u 1) e))), (0, .ref fo), (1, .int (nI e))]) dX0_departureFrom_10 (Nat.le_of_ble_eq_true rfl) rfl ?_
  refine j_aload_n dX0_departureFrom_11 1 rfl ?_
  refine j_get flX0_departureFrom_33 hfo rfl dX0_departureFrom_12 ?_
  refine j_iload_n dX0_departureFrom_15 2 rfl ?_
  refine j_callV (rm := rX3_allBits) (As := [.int (nI e)]) (st := []) (b0 := sc) (ci := 3) (na := 1) (c_allBits (e := e) (np := (u 1 e)) hs hf (by omega) (Mus.bd (e := e) hM (by omega)).2.1 (Mus.c1 hM (by omega))) (by intro E w9 h9; first | exact nomatch h9.1 | (obtain ⟨_, h9, _⟩ := h9; exact nomatch h9) | (obtain ⟨_, _, _, h9, _⟩ := h9; exact nomatch h9)) gX0_departureFrom_X3_allBits rfl rfl hs (by decide +kernel) rfl ⟨Nat.le_of_ble_eq_true rfl, Nat.le_of_ble_eq_true rfl⟩ rfl (Nat.le_of_ble_eq_true rfl) dX0_departureFrom_16 ⟨(show 0 + 0 ≤ 0 by omega), (show 0 + 0 ≤ 0 by omega)⟩ (fun v7 w8 h9 => ?_)
  obtain ⟨h9, h10⟩ := h9
  cases h9
  subst w8
  refine j_after (st' := [.int (nI (2 ^ (u 1 e) - 1))]) (k' := 0) (n' := 0) rfl rfl rfl ?_
  refine j_istore_n (lv' := [(3, .int (nI (2 ^ (u 1 e) - 1))), (2, .int (nI (sumP (u 1) e))), (0, .ref fo), (1, .int (nI e))]) dX0_departureFrom_19 (Nat.le_of_ble_eq_true rfl) rfl ?_
  refine j_ldc (v := nI 1000000) dX0_departureFrom_20 mX0_departureFrom_4 ?_
  refine j_istore (lv' := [(4, .int (nI 1000000)), (3, .int (nI (2 ^ (u 1 e) - 1))), (2, .int (nI (sumP (u 1) e))), (0, .ref fo), (1, .int (nI e))]) dX0_departureFrom_22 (Nat.le_of_ble_eq_true rfl) rfl ?_
  refine j_iconst (v := nI 1) dX0_departureFrom_24 (by decide) ?_
  refine j_istore (lv' := [(5, .int (nI 1)), (4, .int (nI 1000000)), (3, .int (nI (2 ^ (u 1 e) - 1))), (2, .int (nI (sumP (u 1) e))), (0, .ref fo), (1, .int (nI e))]) dX0_departureFrom_25 (Nat.le_of_ble_eq_true rfl) rfl ?_
  refine j_lv (lv' := [(0, .ref fo), (1, .int (nI e)), (2, .int (nI (sumP (u 1) e))), (3, .int (nI (2 ^ u 1 e - 1))), (4, .int (nI 1000000)), (5, .int (nI 1))]) [4, 5, 3, 2, 1, 0] rfl ?_
  exact l_departureFrom hfo hs hf hp hm hc hM hpb (by omega) (by omega) hdd hN he (2 ^ u 1 e) 1 1000000 (by omega) (by omega) (by omega) rfl
abbrev rX0_makeSilentMoves : Room := { frames := 3, cells := 0, slots := 0, locals := 70 }
set_option maxHeartbeats 4000000 in
set_option maxRecDepth 100000 in
theorem l_ms2 {w : pW} {fo sc pr ar de ms mn nt : Nat} {fa ev be cu st me pa : Nat} {f : Nat → Int32} {u : Nat → Nat → Nat} {bh : Nat → Option Nat} {p : Nat → Nat} {dd : Nat → Nat} (hfo : w fo = some (.inr (0, [.ref sc, .ref pr, .ref ar, .ref de, .ref ms, .ref mn, .int (nI nt)]))) (hs : w sc = some (.inr (3, [.ref fa, .int (nI ev), .int (nI be), .int (nI cu), .int (nI st), .int (nI me), .int (nI pa)]))) (hf : w fa = some (.inl (0, 1400, .inl f))) (hp : w pr = some (.inl (0, 4, .inl (fun j9 => nI (p j9))))) (hde : w de = some (.inl (0, 100, .inl (fun j9 => nI (dd j9))))) (hM : Mus f ev st u bh) (hpb : ∀ j, p j ≤ 50) (hdb : ∀ j, dd j ≤ 1000000)  {R9 : Nat → Nat} {jv : Nat} {a0 : Nat → Nat} (ha : w ar = some (.inl (0, 100, .inl (fun j9 => nI (a0 j9))))) {cm : Nat} (hN : va_nd [fa, pr, ar, de, cm] = true) : ∀ (m9 : Nat) (k : Nat) (a : Nat → Nat) (ch : Bool) (wl : pW), 101 - k < m9 → (k ≤ 101) → (∀ j, a j ≤ 1000000) → ((if ch = true then psF dd (u 1) bh (p 2) ev (101 - k) a else a) = R9) → (wl = va_up w ar (some (.inl (0, 100, .inl (fun j9 => nI (a j9)))))) → J ((cX0_makeSilentMoves, RX0, 5, wsX0_makeSilentMoves), (rX0_makeSilentMoves, none, "makeSilentMoves", []), fun o w9 => o = .inl none ∧ w9 = va_up w ar (some (.inl (0, 100, .inl (fun j9 => nI (R9 j9))))), fun _ _ _ => True) 115 [(0, .ref fo), (1, .int (nI jv)), (2, .int (zb ch)), (3, .int (nI k))] [] wl 0 0 := by
  intro m9
  induction m9 with
  | zero => intro k a ch wl h9; omega
  | succ m9 ih =>
    intro k a ch wl hm9 hk hab hr hwl
    have hev := hM.hev
    have hst0 := hM.hst
    have g_fo := up_ne hwl (fk hfo ha rfl) hfo
    have g_sc := up_ne hwl (fk hs ha rfl) hs
    have g_fa := up_ne hwl (nd_ne hN 0 2 rfl rfl rfl) hf
    have g_pr := up_ne hwl (nd_ne hN 1 2 rfl rfl rfl) hp
    have g_ar : wl ar = some (.inl (0, 100, .inl (fun j9 => nI (a j9)))) := up_at hwl
    have g_de := up_ne hwl (nd_ne hN 3 2 rfl rfl rfl) hde
    refine j_iload_n dX0_makeSilentMoves_115 3 rfl ?_
    refine j_bipush (v := nI 100) dX0_makeSilentMoves_116 (by decide) ?_
    refine j_icmp_gtN 136 (by omega) (by omega) dX0_makeSilentMoves_118 (by decide) (fun c118 => ?_) (fun c118 => ?_)
    · skip
      exact j_vret rfl ⟨rfl, by rw [← hr, show 101 - k = 0 by omega]; cases ch <;> exact hwl⟩ (show 0 ≤ 0 by omega) (show 0 ≤ 0 by omega) dX0_makeSilentMoves_136
    · skip
      refine j_iload_n dX0_makeSilentMoves_121 2 rfl ?_
      refine j_if_eq 136 dX0_makeSilentMoves_122 (by decide) (fun c122 => ?_) (fun c122 => ?_)
      · skip
        exact j_vret rfl ⟨rfl, by rw [← hr, zb_0 c122]; exact hwl⟩ (show 0 ≤ 0 by omega) (show 0 ≤ 0 by omega) dX0_makeSilentMoves_136
      · skip
        refine j_aload_n dX0_makeSilentMoves_125 0 rfl ?_
        refine j_callV (rm := rX0_walkOn) (As := []) (st := []) (b0 := fo) (ci := 0) (na := 0) (c_walkOn g_fo g_sc g_fa g_pr g_ar g_de hM hpb hab hdb (nd_3 hN)) (by intro E w9 h9; first | exact nomatch h9.1 | (obtain ⟨_, h9, _⟩ := h9; exact nomatch h9) | (obtain ⟨_, _, _, h9, _⟩ := h9; exact nomatch h9)) gX0_makeSilentMoves_X0_walkOn rfl rfl g_fo (by decide +kernel) rfl ⟨Nat.le_of_ble_eq_true rfl, Nat.le_of_ble_eq_true rfl⟩ rfl (Nat.le_of_ble_eq_true rfl) dX0_makeSilentMoves_126 ⟨(show 0 + 0 ≤ 0 by omega), (show 0 + 0 ≤ 0 by omega)⟩ (fun v1 w2 h3 => ?_)
        obtain ⟨h3, h4⟩ := h3
        cases h3
        -- w2
        refine j_after (st' := [.int (zb (wkF dd (u 1) bh (p 2) ev ev 0 a false).2)]) (k' := 0) (n' := 0) rfl rfl rfl ?_
        have f5 : w2 fo = some (.inr (0, [.ref sc, .ref pr, .ref ar, .ref de, .ref ms, .ref mn, .int (nI nt)])) := by rw [h4]; exact (va_up_ne _ _ (fk g_fo g_ar rfl)).trans (g_fo)
        have f6 : w2 sc = some (.inr (3, [.ref fa, .int (nI ev), .int (nI be), .int (nI cu), .int (nI st), .int (nI me), .int (nI pa)])) := by rw [h4]; exact (va_up_ne _ _ (fk g_sc g_ar rfl)).trans (g_sc)
        have f7 : w2 fa = some (.inl (0, 1400, .inl f)) := by rw [h4]; exact (va_up_ne _ _ (nd_ne hN 0 2 rfl rfl rfl)).trans (g_fa)
        have f8 : w2 pr = some (.inl (0, 4, .inl (fun j9 => nI (p j9)))) := by rw [h4]; exact (va_up_ne _ _ (nd_ne hN 1 2 rfl rfl rfl)).trans (g_pr)
        have f9 : w2 ar = some (.inl (0, 100, .inl (fun j9 => nI (((wkF dd (u 1) bh (p 2) ev ev 0 a false).1) j9)))) := by rw [h4]; exact va_up_self _ _ _
        have f10 : w2 de = some (.inl (0, 100, .inl (fun j9 => nI (dd j9)))) := by rw [h4]; exact (va_up_ne _ _ (nd_ne hN 3 2 rfl rfl rfl)).trans (g_de)
        have hb11 : ∀ j9, (wkF dd (u 1) bh (p 2) ev ev 0 a false).1 j9 ≤ 1000000 := wkF_le hab
        refine j_istore_n (lv' := [(2, .int (zb (wkF dd (u 1) bh (p 2) ev ev 0 a false).2)), (0, .ref fo), (1, .int (nI jv)), (3, .int (nI k))]) dX0_makeSilentMoves_129 (Nat.le_of_ble_eq_true rfl) rfl ?_
        refine j_iinc (q := 3) (v := nI (k + 1)) (lv' := [(3, .int (nI (k + 1))), (2, .int (zb (wkF dd (u 1) bh (p 2) ev ev 0 a false).2)), (0, .ref fo), (1, .int (nI jv))]) dX0_makeSilentMoves_130 rfl (by first | exact nI_1 _ | exact nI_add _ _) (Nat.le_of_ble_eq_true rfl) rfl ?_
        refine j_goto 115 dX0_makeSilentMoves_133 (by decide) ?_
        refine j_lv (lv' := [(0, .ref fo), (1, .int (nI jv)), (2, .int (zb (wkF dd (u 1) bh (p 2) ev ev 0 a false).2)), (3, .int (nI (k + 1)))]) [2, 3, 1, 0] rfl ?_
        exact ih (k + 1) (wkF dd (u 1) bh (p 2) ev ev 0 a false).1 (wkF dd (u 1) bh (p 2) ev ev 0 a false).2 _ (by omega) (by omega) hb11 (by rw [← hr, zb_n' c122, if_pos rfl, show 101 - k = (101 - (k + 1)) + 1 by omega]; rfl) (by rw [h4, hwl]; simp only [bx_uu])
theorem flX0_makeSilentMoves_33 : FL wsX0_makeSilentMoves RX0 33 0 0 := ⟨RX0, TX0, 7, rfl, by decide, by decide +kernel, by decide +kernel⟩
theorem flX0_makeSilentMoves_91 : FL wsX0_makeSilentMoves RX0 91 3 1 := ⟨RX3, TX3, 7, rfl, by decide, by decide +kernel, by decide +kernel⟩
theorem flX0_makeSilentMoves_30 : FL wsX0_makeSilentMoves RX0 30 0 5 := ⟨RX0, TX0, 7, rfl, by decide, by decide +kernel, by decide +kernel⟩
theorem flX0_makeSilentMoves_15 : FL wsX0_makeSilentMoves RX0 15 0 2 := ⟨RX0, TX0, 7, rfl, by decide, by decide +kernel, by decide +kernel⟩
theorem flX0_makeSilentMoves_18 : FL wsX0_makeSilentMoves RX0 18 0 3 := ⟨RX0, TX0, 7, rfl, by decide, by decide +kernel, by decide +kernel⟩
set_option maxRecDepth 100000 in
theorem mX0_makeSilentMoves_0 : Cond.methodLink RX0 97 Lib.Math.min.name ∈ wsX0_makeSilentMoves := by decide +kernel
set_option maxRecDepth 100000 in
theorem mX0_makeSilentMoves_1 : Cond.static Lib.Math.min.name ∈ wsX0_makeSilentMoves := by decide +kernel
set_option maxRecDepth 100000 in
theorem mX0_makeSilentMoves_2 : Cond.initialized "java/lang/Math" ∈ wsX0_makeSilentMoves := by decide +kernel
set_option maxRecDepth 100000 in
theorem mX0_makeSilentMoves_3 : Cond.code Lib.Math.min.name Lib.Math.min.code 2 (some .int) ∈ wsX0_makeSilentMoves := by decide +kernel
set_option maxHeartbeats 4000000 in
set_option maxRecDepth 100000 in
theorem l_ms1 {w : pW} {fo sc pr ar de ms mn nt : Nat} {fa ev be cu st me pa : Nat} {f : Nat → Int32} {u : Nat → Nat → Nat} {bh : Nat → Option Nat} {p : Nat → Nat} {a : Nat → Nat} {dd : Nat → Nat} {cm : Nat} {bf nx av ah : Option Nat} {cl pe pb pc an : Nat} {cn : Nat} {d : Nat → Nat} (hfo : w fo = some (.inr (0, [.ref sc, .ref pr, .ref ar, .ref de, .ref ms, .ref mn, .int (nI nt)]))) (hs : w sc = some (.inr (3, [.ref fa, .int (nI ev), .int (nI be), .int (nI cu), .int (nI st), .int (nI me), .int (nI pa)]))) (hf : w fa = some (.inl (0, 1400, .inl f))) (hp : w pr = some (.inl (0, 4, .inl (fun j9 => nI (p j9))))) (ha : w ar = some (.inl (0, 100, .inl (fun j9 => nI (a j9))))) (hde : w de = some (.inl (0, 100, .inl (fun j9 => nI (dd j9))))) (hm : w mn = some (.inr (1, [va_rf bf, va_rf nx, .ref cm, .int (nI cl), .int (nI pe), .int (nI pb), .int (nI pc), .int (nI an), va_rf av, va_rf ah]))) (hc : w cm = some (.inl (0, cn, .inl (fun j9 => nI (d j9))))) (hM : Mus f ev st u bh) (hpb : ∀ j, p j ≤ 50) (hab : ∀ j, a j ≤ 1000000) (hdb : ∀ j, dd j ≤ 1000000) (hst : st ≤ cn) (hcn : cn ≤ 100000) (hdd : ∀ j, d j ≤ 1000000) (hN : va_nd [fa, pr, ar, de, cm] = true) (hpc : pc ≤ 1000000) : ∀ (m9 : Nat) (i : Nat) (wl : pW), ev - i < m9 → (i ≤ ev) → (wl = va_up (va_up w ar (some (.inl (0, 100, .inl (fun j9 => nI ((fil a (ar0 d (u 1) (u 6) (pc + p 3)) i) j9)))))) de (some (.inl (0, 100, .inl (fun j9 => nI ((fil dd (depF d (u 1) (p 2)) i) j9)))))) → J ((cX0_makeSilentMoves, RX0, 5, wsX0_makeSilentMoves), (rX0_makeSilentMoves, none, "makeSilentMoves", []), fun o w9 => o = .inl none ∧ w9 = va_up (va_up w ar (some (.inl (0, 100, .inl (fun j9 => nI ((silA d a (u 1) (u 6) dd bh (p 2) (pc + p 3) ev) j9)))))) de (some (.inl (0, 100, .inl (fun j9 => nI ((silD d (u 1) dd (p 2) ev) j9))))), fun _ _ _ => True) 16 [(0, .ref fo), (1, .int (nI (pc + p 3))), (2, .int (nI i))] [] wl 0 0 := by
  intro m9
  induction m9 with
  | zero => intro i wl h9; omega
  | succ m9 ih =>
    intro i wl hm9 hi hwl
    have hev := hM.hev
    have hst0 := hM.hst
    have hp3 := hpb 3
    have g_fo : wl fo = some (.inr (0, [.ref sc, .ref pr, .ref ar, .ref de, .ref ms, .ref mn, .int (nI nt)])) := by rw [hwl]; exact (va_up_ne _ _ (fk hfo hde rfl)).trans ((va_up_ne _ _ (fk hfo ha rfl)).trans (hfo))
    have g_sc : wl sc = some (.inr (3, [.ref fa, .int (nI ev), .int (nI be), .int (nI cu), .int (nI st), .int (nI me), .int (nI pa)])) := by rw [hwl]; exact (va_up_ne _ _ (fk hs hde rfl)).trans ((va_up_ne _ _ (fk hs ha rfl)).trans (hs))
    have g_fa : wl fa = some (.inl (0, 1400, .inl f)) := by rw [hwl]; exact (va_up_ne _ _ (nd_ne hN 0 3 rfl rfl rfl)).trans ((va_up_ne _ _ (nd_ne hN 0 2 rfl rfl rfl)).trans (hf))
    have g_pr : wl pr = some (.inl (0, 4, .inl (fun j9 => nI (p j9)))) := by rw [hwl]; exact (va_up_ne _ _ (nd_ne hN 1 3 rfl rfl rfl)).trans ((va_up_ne _ _ (nd_ne hN 1 2 rfl rfl rfl)).trans (hp))
    have g_ar : wl ar = some (.inl (0, 100, .inl (fun j9 => nI ((fil a (ar0 d (u 1) (u 6) (pc + p 3)) i) j9)))) := by rw [hwl]; exact (va_up_ne _ _ (nd_ne hN 2 3 rfl rfl rfl)).trans (va_up_self _ _ _)
    have g_de : wl de = some (.inl (0, 100, .inl (fun j9 => nI ((fil dd (depF d (u 1) (p 2)) i) j9)))) := by rw [hwl]; exact va_up_self _ _ _
    have g_mn : wl mn = some (.inr (1, [va_rf bf, va_rf nx, .ref cm, .int (nI cl), .int (nI pe), .int (nI pb), .int (nI pc), .int (nI an), va_rf av, va_rf ah])) := by rw [hwl]; exact (va_up_ne _ _ (fk hm hde rfl)).trans ((va_up_ne _ _ (fk hm ha rfl)).trans (hm))
    have g_cm : wl cm = some (.inl (0, cn, .inl (fun j9 => nI (d j9)))) := by rw [hwl]; exact (va_up_ne _ _ (nd_ne hN 4 3 rfl rfl rfl)).trans ((va_up_ne _ _ (nd_ne hN 4 2 rfl rfl rfl)).trans (hc))
    have g_ba : ∀ j, (fil a (ar0 d (u 1) (u 6) (pc + p 3)) i) j ≤ 1000000 := fil_le hab (fun j _ => ar0_le hdd)
    have g_bd : ∀ j, (fil dd (depF d (u 1) (p 2)) i) j ≤ 1000000 := fil_le hdb (fun j _ => depF_le)
    refine j_iload_n dX0_makeSilentMoves_16 2 rfl ?_
    refine j_aload_n dX0_makeSilentMoves_17 0 rfl ?_
    refine j_get flX0_makeSilentMoves_33 g_fo rfl dX0_makeSilentMoves_18 ?_
    refine j_get flX0_makeSilentMoves_91 g_sc rfl dX0_makeSilentMoves_21 ?_
    refine j_icmp_geN 111 (by omega) (by omega) dX0_makeSilentMoves_24 (by decide) (fun c24 => ?_) (fun c24 => ?_)
    · skip
      have hi9 : i = ev := by omega
      subst hi9
      refine j_iconst (v := nI 1) dX0_makeSilentMoves_111 (by decide) ?_
      refine j_istore_n (lv' := [(2, .int (nI 1)), (0, .ref fo), (1, .int (nI (pc + p 3)))]) dX0_makeSilentMoves_112 (Nat.le_of_ble_eq_true rfl) rfl ?_
      refine j_iconst (v := nI 0) dX0_makeSilentMoves_113 (by decide) ?_
      refine j_istore_n (lv' := [(3, .int (nI 0)), (2, .int (nI 1)), (0, .ref fo), (1, .int (nI (pc + p 3)))]) dX0_makeSilentMoves_114 (Nat.le_of_ble_eq_true rfl) rfl ?_
      refine j_lv (lv' := [(0, .ref fo), (1, .int (nI (pc + p 3))), (2, .int (nI 1)), (3, .int (nI 0))]) [2, 3, 1, 0] rfl ?_
      refine j_lvE (lv' := [(0, .ref fo), (1, .int (nI (pc + p 3))), (2, .int (zb true)), (3, .int (nI 0))]) rfl ?_
      refine J.post (fun o w9 h => ?_) (l_ms2 g_fo g_sc g_fa g_pr g_de hM hpb g_bd g_ar hN 102 0 _ true wl (by omega) (by omega) g_ba rfl (up_same g_ar).symm)
      refine ⟨h.1, ?_⟩
      rw [h.2, hwl, up_sw (w := va_up w ar _) (a := de) (b := ar) (nd_ne hN 3 2 rfl rfl rfl), bx_uu]; rfl
    · skip
      refine j_aload_n dX0_makeSilentMoves_27 0 rfl ?_
      refine j_iload_n dX0_makeSilentMoves_28 2 rfl ?_
      refine j_callV (rm := rX0_hasRow) (As := [.int (nI i)]) (st := []) (b0 := fo) (ci := 0) (na := 1) (c_hasRow1 (x := i) g_fo g_ar g_de (by omega)) (by intro E w9 h9; first | exact nomatch h9.1 | (obtain ⟨_, h9, _⟩ := h9; exact nomatch h9) | (obtain ⟨_, _, _, h9, _⟩ := h9; exact nomatch h9)) gX0_makeSilentMoves_X0_hasRow rfl rfl g_fo (by decide +kernel) rfl ⟨Nat.le_of_ble_eq_true rfl, Nat.le_of_ble_eq_true rfl⟩ rfl (Nat.le_of_ble_eq_true rfl) dX0_makeSilentMoves_29 ⟨(show 0 + 0 ≤ 0 by omega), (show 0 + 0 ≤ 0 by omega)⟩ (fun v1 w2 h3 => ?_)
      obtain ⟨h3, h4⟩ := h3
      cases h3
      subst w2
      refine j_after (st' := [.int (nI 1)]) (k' := 0) (n' := 0) rfl rfl rfl ?_
      refine j_if_eqN 111 (by decide) dX0_makeSilentMoves_32 (by decide) (fun h9 => absurd h9 (by decide)) (fun _ => ?_)
      refine j_aload_n dX0_makeSilentMoves_35 0 rfl ?_
      refine j_get flX0_makeSilentMoves_30 g_fo rfl dX0_makeSilentMoves_36 ?_
      refine j_aload_n dX0_makeSilentMoves_39 0 rfl ?_
      refine j_get flX0_makeSilentMoves_33 g_fo rfl dX0_makeSilentMoves_40 ?_
      refine j_iload_n dX0_makeSilentMoves_43 2 rfl ?_
      refine j_bipush (v := nI 13) dX0_makeSilentMoves_44 (by decide) ?_
      have hrg5 := Mus.rg (e := i) hM (by omega)
      have hbd6 := Mus.bd (e := i) hM (by omega)
      refine j_callV (rm := rX3_fact) (As := [.int (nI i), .int (nI 13)]) (st := [.ref mn]) (b0 := sc) (ci := 3) (na := 2) (c_fact (e := i) (c := 13) g_sc g_fa (by omega) (by omega)) (by intro E w9 h9; first | exact nomatch h9.1 | (obtain ⟨_, h9, _⟩ := h9; exact nomatch h9) | (obtain ⟨_, _, _, h9, _⟩ := h9; exact nomatch h9)) gX0_makeSilentMoves_X3_fact rfl rfl g_sc (by decide +kernel) rfl ⟨Nat.le_of_ble_eq_true rfl, Nat.le_of_ble_eq_true rfl⟩ rfl (Nat.le_of_ble_eq_true rfl) dX0_makeSilentMoves_46 ⟨(show 0 + 0 ≤ 0 by omega), (show 0 + 0 ≤ 0 by omega)⟩ (fun v7 w8 h9 => ?_)
      obtain ⟨h9, h10⟩ := h9
      cases h9
      subst w8
      refine j_after (st' := [.int (f (i * 14 + 13)), .ref mn]) (k' := 0) (n' := 0) rfl rfl rfl ?_
      refine j_eqi (y := nI (sumP (u 1) i)) (Mus.c13 hM (by omega)) ?_
      have hb11 := hdd (sumP (u 1) i)
      refine j_callV (rm := rX1_costAt) (As := [.int (nI (sumP (u 1) i))]) (st := []) (b0 := mn) (ci := 1) (na := 1) (c_costAt (s := (sumP (u 1) i)) g_mn g_cm (by omega) (by omega)) (by intro E w9 h9; first | exact nomatch h9.1 | (obtain ⟨_, h9, _⟩ := h9; exact nomatch h9) | (obtain ⟨_, _, _, h9, _⟩ := h9; exact nomatch h9)) gX0_makeSilentMoves_X1_costAt rfl rfl g_mn (by decide +kernel) rfl ⟨Nat.le_of_ble_eq_true rfl, Nat.le_of_ble_eq_true rfl⟩ rfl (Nat.le_of_ble_eq_true rfl) dX0_makeSilentMoves_49 ⟨(show 0 + 0 ≤ 0 by omega), (show 0 + 0 ≤ 0 by omega)⟩ (fun v12 w13 h14 => ?_)
      obtain ⟨h14, h15⟩ := h14
      cases h14
      subst w13
      refine j_after (st' := [.int (nI (d (sumP (u 1) i)))]) (k' := 0) (n' := 0) rfl rfl rfl ?_
      refine j_istore_n (lv' := [(3, .int (nI (d (sumP (u 1) i)))), (0, .ref fo), (1, .int (nI (pc + p 3))), (2, .int (nI i))]) dX0_makeSilentMoves_52 (Nat.le_of_ble_eq_true rfl) rfl ?_
      refine j_aload_n dX0_makeSilentMoves_53 1 rfl ?_
      refine j_get flX0_makeSilentMoves_33 g_fo rfl dX0_makeSilentMoves_54 ?_
      refine j_iload_n dX0_makeSilentMoves_57 3 rfl ?_
      refine j_bipush (v := nI 6) dX0_makeSilentMoves_58 (by decide) ?_
      refine j_callV (rm := rX3_fact) (As := [.int (nI i), .int (nI 6)]) (st := []) (b0 := sc) (ci := 3) (na := 2) (c_fact (e := i) (c := 6) g_sc g_fa (by omega) (by omega)) (by intro E w9 h9; first | exact nomatch h9.1 | (obtain ⟨_, h9, _⟩ := h9; exact nomatch h9) | (obtain ⟨_, _, _, h9, _⟩ := h9; exact nomatch h9)) gX0_makeSilentMoves_X3_fact rfl rfl g_sc (by decide +kernel) rfl ⟨Nat.le_of_ble_eq_true rfl, Nat.le_of_ble_eq_true rfl⟩ rfl (Nat.le_of_ble_eq_true rfl) dX0_makeSilentMoves_60 ⟨(show 0 + 0 ≤ 0 by omega), (show 0 + 0 ≤ 0 by omega)⟩ (fun v16 w17 h18 => ?_)
      obtain ⟨h18, h19⟩ := h18
      cases h18
      subst w17
      refine j_after (st' := [.int (f (i * 14 + 6))]) (k' := 0) (n' := 0) rfl rfl rfl ?_
      refine j_eqi (y := nI (u 6 i)) (Mus.c6 hM (by omega)) ?_
      refine j_iconst (v := nI 1) dX0_makeSilentMoves_63 (by decide) ?_
      refine j_icmp_neN 71 (by omega) (by omega) dX0_makeSilentMoves_64 (by decide) (fun c64 => ?_) (fun c64 => ?_)
      · skip
        refine j_iconst (v := nI 0) dX0_makeSilentMoves_71 (by decide) ?_
        refine j_istore (lv' := [(4, .int (nI 0)), (3, .int (nI (d (sumP (u 1) i)))), (0, .ref fo), (1, .int (nI (pc + p 3))), (2, .int (nI i))]) dX0_makeSilentMoves_72 (Nat.le_of_ble_eq_true rfl) rfl ?_
        refine j_aload_n dX0_makeSilentMoves_74 2 rfl ?_
        refine j_get flX0_makeSilentMoves_15 g_fo rfl dX0_makeSilentMoves_75 ?_
        refine j_iload_n dX0_makeSilentMoves_78 4 rfl ?_
        refine j_iload dX0_makeSilentMoves_79 0 rfl ?_
        refine j_if_eqN 92 (by decide) dX0_makeSilentMoves_81 (by decide) (fun _ => ?_) (fun h9 => absurd rfl h9)
        refine j_iload_n dX0_makeSilentMoves_92 1 rfl ?_
        refine j_iastn (j := i) (x := d (sumP (u 1) i)) g_ar rfl (by omega) (by omega) dX0_makeSilentMoves_93 ?_
        refine j_w (fun w20 hw20 => ?_)
        have f21 := up_ne hw20 (fk g_fo g_ar rfl) g_fo
        have f22 := up_ne hw20 (fk g_sc g_ar rfl) g_sc
        have f23 := up_ne hw20 (nd_ne hN 0 2 rfl rfl rfl) g_fa
        have f24 := up_ne hw20 (nd_ne hN 1 2 rfl rfl rfl) g_pr
        have f25 : w20 ar = some (.inl (0, 100, .inl (fun j9 => nI ((va_up (fil a (ar0 d (u 1) (u 6) (pc + p 3)) i) i (d (sumP (u 1) i))) j9)))) := up_at hw20
        have f26 := up_ne hw20 (nd_ne hN 3 2 rfl rfl rfl) g_de
        have f27 := up_ne hw20 (fk g_mn g_ar rfl) g_mn
        have f28 := up_ne hw20 (nd_ne hN 4 2 rfl rfl rfl) g_cm
        have hb29 : ∀ j9, (va_up (fil a (ar0 d (u 1) (u 6) (pc + p 3)) i) i (d (sumP (u 1) i))) j9 ≤ 1000000 := up_le g_ba (by omega)
        refine j_aload_n dX0_makeSilentMoves_94 2 rfl ?_
        refine j_get flX0_makeSilentMoves_18 f21 rfl dX0_makeSilentMoves_95 ?_
        refine j_iload_n dX0_makeSilentMoves_98 4 rfl ?_
        refine j_aload_n dX0_makeSilentMoves_99 2 rfl ?_
        refine j_iload_n dX0_makeSilentMoves_100 4 rfl ?_
        have hb30 : depF d (u 1) (p 2) i ≤ 1000000 := depF_le
        refine j_callV (rm := rX0_departureFrom) (As := [.int (nI i)]) (st := [.int (nI i), .ref de]) (b0 := fo) (ci := 0) (na := 1) (c_departureFrom (e := i) f21 f22 f23 f24 f27 f28 hM hpb (by omega) (by omega) hdd (nd_4 hN) (by omega)) (by intro E w9 h9; first | exact nomatch h9.1 | (obtain ⟨_, h9, _⟩ := h9; exact nomatch h9) | (obtain ⟨_, _, _, h9, _⟩ := h9; exact nomatch h9)) gX0_makeSilentMoves_X0_departureFrom rfl rfl f21 (by decide +kernel) rfl ⟨Nat.le_of_ble_eq_true rfl, Nat.le_of_ble_eq_true rfl⟩ rfl (Nat.le_of_ble_eq_true rfl) dX0_makeSilentMoves_101 ⟨(show 0 + 0 ≤ 0 by omega), (show 0 + 0 ≤ 0 by omega)⟩ (fun v31 w32 h33 => ?_)
        obtain ⟨h33, h34⟩ := h33
        cases h33
        subst w32
        refine j_after (st' := [.int (nI (depF d (u 1) (p 2) i)), .int (nI i), .ref de]) (k' := 0) (n' := 0) rfl rfl rfl ?_
        refine j_iastn (j := i) (x := depF d (u 1) (p 2) i) f26 rfl (by omega) (by omega) dX0_makeSilentMoves_104 ?_
        refine j_w (fun w35 hw35 => ?_)
        have f36 := up_ne hw35 (fk f21 f26 rfl) f21
        have f37 := up_ne hw35 (fk f22 f26 rfl) f22
        have f38 := up_ne hw35 (nd_ne hN 0 3 rfl rfl rfl) f23
        have f39 := up_ne hw35 (nd_ne hN 1 3 rfl rfl rfl) f24
        have f40 := up_ne hw35 (nd_ne hN 2 3 rfl rfl rfl) f25
        have f41 : w35 de = some (.inl (0, 100, .inl (fun j9 => nI ((va_up (fil dd (depF d (u 1) (p 2)) i) i (depF d (u 1) (p 2) i)) j9)))) := up_at hw35
        have f42 := up_ne hw35 (fk f27 f26 rfl) f27
        have f43 := up_ne hw35 (nd_ne hN 4 3 rfl rfl rfl) f28
        have hb44 : ∀ j9, (va_up (fil dd (depF d (u 1) (p 2)) i) i (depF d (u 1) (p 2) i)) j9 ≤ 1000000 := up_le g_bd (by omega)
        refine j_iinc (q := 4) (v := nI (i + 1)) (lv' := [(2, .int (nI (i + 1))), (4, .int (nI 0)), (3, .int (nI (d (sumP (u 1) i)))), (0, .ref fo), (1, .int (nI (pc + p 3)))]) dX0_makeSilentMoves_105 rfl (by first | exact nI_1 _ | exact nI_add _ _) (Nat.le_of_ble_eq_true rfl) rfl ?_
        refine j_goto 16 dX0_makeSilentMoves_108 (by decide) ?_
        refine j_lv (lv' := [(0, .ref fo), (1, .int (nI (pc + p 3))), (2, .int (nI (i + 1)))]) [3, 4, 0] rfl ?_
        have e1 : va_up (fil a (ar0 d (u 1) (u 6) (pc + p 3)) i) i (d (sumP (u 1) i)) = fil a (ar0 d (u 1) (u 6) (pc + p 3)) (i + 1) := by rw [← fil_s]; congr 1; simp only [ar0]; first | rw [if_pos c64] | rw [if_neg c64]
        have e2 : va_up (fil dd (depF d (u 1) (p 2)) i) i (depF d (u 1) (p 2) i) = fil dd (depF d (u 1) (p 2)) (i + 1) := fil_s _ _ _
        exact ih (i + 1) _ (by omega) (by omega) (by rw [hw35, hw20, hwl, e1, e2]; rw [up_sw (w := va_up w ar _) (a := de) (b := ar) (nd_ne hN 3 2 rfl rfl rfl)]; rw [bx_uu, bx_uu])
      · skip
        refine j_iconst (v := nI 1) dX0_makeSilentMoves_67 (by decide) ?_
        refine j_goto 72 dX0_makeSilentMoves_68 (by decide) ?_
        refine j_istore (lv' := [(4, .int (nI 1)), (3, .int (nI (d (sumP (u 1) i)))), (0, .ref fo), (1, .int (nI (pc + p 3))), (2, .int (nI i))]) dX0_makeSilentMoves_72 (Nat.le_of_ble_eq_true rfl) rfl ?_
        refine j_aload_n dX0_makeSilentMoves_74 2 rfl ?_
        refine j_get flX0_makeSilentMoves_15 g_fo rfl dX0_makeSilentMoves_75 ?_
        refine j_iload_n dX0_makeSilentMoves_78 4 rfl ?_
        refine j_iload dX0_makeSilentMoves_79 0 rfl ?_
        refine j_if_eqN 92 (by decide) dX0_makeSilentMoves_81 (by decide) (fun h9 => absurd h9 (by decide)) (fun _ => ?_)
        refine j_iload_n dX0_makeSilentMoves_84 1 rfl ?_
        refine j_iload_n dX0_makeSilentMoves_85 3 rfl ?_
        refine j_min mX0_makeSilentMoves_0 mX0_makeSilentMoves_1 mX0_makeSilentMoves_2 mX0_makeSilentMoves_3 (Nat.le_of_ble_eq_true rfl) (Nat.le_of_ble_eq_true rfl) ⟨(show 0 ≤ 0 by omega), (show 0 ≤ 0 by omega)⟩ dX0_makeSilentMoves_86 ?_
        refine j_eqi (y := nI (min (d (sumP (u 1) i)) (pc + p 3))) (mnN (by omega) (by omega)) ?_
        refine j_goto 93 dX0_makeSilentMoves_89 (by decide) ?_
        refine j_iastn (j := i) (x := min (d (sumP (u 1) i)) (pc + p 3)) g_ar rfl (by omega) (by omega) dX0_makeSilentMoves_93 ?_
        refine j_w (fun w45 hw45 => ?_)
        have f46 := up_ne hw45 (fk g_fo g_ar rfl) g_fo
        have f47 := up_ne hw45 (fk g_sc g_ar rfl) g_sc
        have f48 := up_ne hw45 (nd_ne hN 0 2 rfl rfl rfl) g_fa
        have f49 := up_ne hw45 (nd_ne hN 1 2 rfl rfl rfl) g_pr
        have f50 : w45 ar = some (.inl (0, 100, .inl (fun j9 => nI ((va_up (fil a (ar0 d (u 1) (u 6) (pc + p 3)) i) i (min (d (sumP (u 1) i)) (pc + p 3))) j9)))) := up_at hw45
        have f51 := up_ne hw45 (nd_ne hN 3 2 rfl rfl rfl) g_de
        have f52 := up_ne hw45 (fk g_mn g_ar rfl) g_mn
        have f53 := up_ne hw45 (nd_ne hN 4 2 rfl rfl rfl) g_cm
        have hb54 : ∀ j9, (va_up (fil a (ar0 d (u 1) (u 6) (pc + p 3)) i) i (min (d (sumP (u 1) i)) (pc + p 3))) j9 ≤ 1000000 := up_le g_ba (by omega)
        refine j_aload_n dX0_makeSilentMoves_94 2 rfl ?_
        refine j_get flX0_makeSilentMoves_18 f46 rfl dX0_makeSilentMoves_95 ?_
        refine j_iload_n dX0_makeSilentMoves_98 4 rfl ?_
        refine j_aload_n dX0_makeSilentMoves_99 2 rfl ?_
        refine j_iload_n dX0_makeSilentMoves_100 4 rfl ?_
        have hb55 : depF d (u 1) (p 2) i ≤ 1000000 := depF_le
        refine j_callV (rm := rX0_departureFrom) (As := [.int (nI i)]) (st := [.int (nI i), .ref de]) (b0 := fo) (ci := 0) (na := 1) (c_departureFrom (e := i) f46 f47 f48 f49 f52 f53 hM hpb (by omega) (by omega) hdd (nd_4 hN) (by omega)) (by intro E w9 h9; first | exact nomatch h9.1 | (obtain ⟨_, h9, _⟩ := h9; exact nomatch h9) | (obtain ⟨_, _, _, h9, _⟩ := h9; exact nomatch h9)) gX0_makeSilentMoves_X0_departureFrom rfl rfl f46 (by decide +kernel) rfl ⟨Nat.le_of_ble_eq_true rfl, Nat.le_of_ble_eq_true rfl⟩ rfl (Nat.le_of_ble_eq_true rfl) dX0_makeSilentMoves_101 ⟨(show 0 + 0 ≤ 0 by omega), (show 0 + 0 ≤ 0 by omega)⟩ (fun v56 w57 h58 => ?_)
        obtain ⟨h58, h59⟩ := h58
        cases h58
        subst w57
        refine j_after (st' := [.int (nI (depF d (u 1) (p 2) i)), .int (nI i), .ref de]) (k' := 0) (n' := 0) rfl rfl rfl ?_
        refine j_iastn (j := i) (x := depF d (u 1) (p 2) i) f51 rfl (by omega) (by omega) dX0_makeSilentMoves_104 ?_
        refine j_w (fun w60 hw60 => ?_)
        have f61 := up_ne hw60 (fk f46 f51 rfl) f46
        have f62 := up_ne hw60 (fk f47 f51 rfl) f47
        have f63 := up_ne hw60 (nd_ne hN 0 3 rfl rfl rfl) f48
        have f64 := up_ne hw60 (nd_ne hN 1 3 rfl rfl rfl) f49
        have f65 := up_ne hw60 (nd_ne hN 2 3 rfl rfl rfl) f50
        have f66 : w60 de = some (.inl (0, 100, .inl (fun j9 => nI ((va_up (fil dd (depF d (u 1) (p 2)) i) i (depF d (u 1) (p 2) i)) j9)))) := up_at hw60
        have f67 := up_ne hw60 (fk f52 f51 rfl) f52
        have f68 := up_ne hw60 (nd_ne hN 4 3 rfl rfl rfl) f53
        have hb69 : ∀ j9, (va_up (fil dd (depF d (u 1) (p 2)) i) i (depF d (u 1) (p 2) i)) j9 ≤ 1000000 := up_le g_bd (by omega)
        refine j_iinc (q := 4) (v := nI (i + 1)) (lv' := [(2, .int (nI (i + 1))), (4, .int (nI 1)), (3, .int (nI (d (sumP (u 1) i)))), (0, .ref fo), (1, .int (nI (pc + p 3)))]) dX0_makeSilentMoves_105 rfl (by first | exact nI_1 _ | exact nI_add _ _) (Nat.le_of_ble_eq_true rfl) rfl ?_
        refine j_goto 16 dX0_makeSilentMoves_108 (by decide) ?_
        refine j_lv (lv' := [(0, .ref fo), (1, .int (nI (pc + p 3))), (2, .int (nI (i + 1)))]) [3, 4, 0] rfl ?_
        have e1 : va_up (fil a (ar0 d (u 1) (u 6) (pc + p 3)) i) i (min (d (sumP (u 1) i)) (pc + p 3)) = fil a (ar0 d (u 1) (u 6) (pc + p 3)) (i + 1) := by rw [← fil_s]; congr 1; simp only [ar0]; first | rw [if_pos c64] | rw [if_neg c64]
        have e2 : va_up (fil dd (depF d (u 1) (p 2)) i) i (depF d (u 1) (p 2) i) = fil dd (depF d (u 1) (p 2)) (i + 1) := fil_s _ _ _
        exact ih (i + 1) _ (by omega) (by omega) (by rw [hw60, hw45, hwl, e1, e2]; rw [up_sw (w := va_up w ar _) (a := de) (b := ar) (nd_ne hN 3 2 rfl rfl rfl)]; rw [bx_uu, bx_uu])
theorem flX0_makeSilentMoves_51 : FL wsX0_makeSilentMoves RX0 51 1 6 := ⟨RX1, TX1, 10, rfl, by decide, by decide +kernel, by decide +kernel⟩
set_option maxHeartbeats 4000000 in
set_option maxRecDepth 100000 in
theorem c_makeSilentMoves {w : pW} {fo sc pr ar de ms mn nt : Nat} {fa ev be cu st me pa : Nat} {f : Nat → Int32} {u : Nat → Nat → Nat} {bh : Nat → Option Nat} {p : Nat → Nat} {a : Nat → Nat} {dd : Nat → Nat} {cm : Nat} {bf nx av ah : Option Nat} {cl pe pb pc an : Nat} {cn : Nat} {d : Nat → Nat} (hfo : w fo = some (.inr (0, [.ref sc, .ref pr, .ref ar, .ref de, .ref ms, .ref mn, .int (nI nt)]))) (hs : w sc = some (.inr (3, [.ref fa, .int (nI ev), .int (nI be), .int (nI cu), .int (nI st), .int (nI me), .int (nI pa)]))) (hf : w fa = some (.inl (0, 1400, .inl f))) (hp : w pr = some (.inl (0, 4, .inl (fun j9 => nI (p j9))))) (ha : w ar = some (.inl (0, 100, .inl (fun j9 => nI (a j9))))) (hde : w de = some (.inl (0, 100, .inl (fun j9 => nI (dd j9))))) (hm : w mn = some (.inr (1, [va_rf bf, va_rf nx, .ref cm, .int (nI cl), .int (nI pe), .int (nI pb), .int (nI pc), .int (nI an), va_rf av, va_rf ah]))) (hc : w cm = some (.inl (0, cn, .inl (fun j9 => nI (d j9))))) (hM : Mus f ev st u bh) (hpb : ∀ j, p j ≤ 50) (hab : ∀ j, a j ≤ 1000000) (hdb : ∀ j, dd j ≤ 1000000) (hst : st ≤ cn) (hcn : cn ≤ 100000) (hdd : ∀ j, d j ≤ 1000000) (hN : va_nd [fa, pr, ar, de, cm] = true) (hpc : pc ≤ 1000000) : Ct yX0_makeSilentMoves wsX0_makeSilentMoves rX0_makeSilentMoves [.ref fo] w (fun o w9 => o = .inl none ∧ w9 = va_up (va_up w ar (some (.inl (0, 100, .inl (fun j9 => nI ((silA d a (u 1) (u 6) dd bh (p 2) (pc + p 3) ev) j9)))))) de (some (.inl (0, 100, .inl (fun j9 => nI ((silD d (u 1) dd (p 2) ev) j9)))))) := by
  refine Ct.of (cc := cX0_makeSilentMoves) (own := RX0) (nm := "makeSilentMoves") (nL := 5) (ret := none) (by decide +kernel) rfl rfl rfl (Nat.le_of_ble_eq_true rfl) ?_
  refine j_lvE (lv' := [(0, .ref fo)]) rfl ?_
  have hev := hM.hev
  have hst0 := hM.hst
  refine j_aload_n dX0_makeSilentMoves_0 0 rfl ?_
  refine j_get flX0_makeSilentMoves_30 hfo rfl dX0_makeSilentMoves_1 ?_
  refine j_get flX0_makeSilentMoves_51 hm rfl dX0_makeSilentMoves_4 ?_
  refine j_aload_n dX0_makeSilentMoves_7 0 rfl ?_
  refine j_iconst (v := nI 3) dX0_makeSilentMoves_8 (by decide) ?_
  refine j_callV (rm := rX0_priceOf) (As := [.int (nI 3)]) (st := [.int (nI pc)]) (b0 := fo) (ci := 0) (na := 1) (c_priceOf (x := 3) hfo hp hpb (by omega)) (by intro E w9 h9; first | exact nomatch h9.1 | (obtain ⟨_, h9, _⟩ := h9; exact nomatch h9) | (obtain ⟨_, _, _, h9, _⟩ := h9; exact nomatch h9)) gX0_makeSilentMoves_X0_priceOf rfl rfl hfo (by decide +kernel) rfl ⟨Nat.le_of_ble_eq_true rfl, Nat.le_of_ble_eq_true rfl⟩ rfl (Nat.le_of_ble_eq_true rfl) dX0_makeSilentMoves_9 ⟨(show 0 + 0 ≤ 0 by omega), (show 0 + 0 ≤ 0 by omega)⟩ (fun v1 w2 h3 => ?_)
  obtain ⟨h3, h4⟩ := h3
  cases h3
  subst w2
  refine j_after (st' := [.int (nI (p 3)), .int (nI pc)]) (k' := 0) (n' := 0) rfl rfl rfl ?_
  have hb5 := hpb 3
  refine j_iaddN dX0_makeSilentMoves_12 ?_
  refine j_istore_n (lv' := [(1, .int (nI (pc + (p 3)))), (0, .ref fo)]) dX0_makeSilentMoves_13 (Nat.le_of_ble_eq_true rfl) rfl ?_
  refine j_iconst (v := nI 0) dX0_makeSilentMoves_14 (by decide) ?_
  refine j_istore_n (lv' := [(2, .int (nI 0)), (1, .int (nI (pc + (p 3)))), (0, .ref fo)]) dX0_makeSilentMoves_15 (Nat.le_of_ble_eq_true rfl) rfl ?_
  refine j_lv (lv' := [(0, .ref fo), (1, .int (nI (pc + p 3))), (2, .int (nI 0))]) [2, 1, 0] rfl ?_
  exact l_ms1 hfo hs hf hp ha hde hm hc hM hpb hab hdb (by omega) (by omega) hdd hN hpc (ev + 1) 0 w (by omega) (by omega) (by rw [fil_0, fil_0, up_same ha, up_same hde])
theorem nd_cx {fa pr ar de cm cx : Nat} (h : va_nd [fa, pr, ar, de, cm, cx] = true) : va_nd [fa, pr, ar, cm, cx] = true ∧ va_nd [fa, cx] = true ∧ va_nd [fa, pr, ar, de, cm] = true := by
  have h1 := nd_ne h 0 1 rfl rfl rfl
  have h2 := nd_ne h 0 2 rfl rfl rfl
  have h3 := nd_ne h 0 3 rfl rfl rfl
  have h4 := nd_ne h 0 4 rfl rfl rfl
  have h5 := nd_ne h 0 5 rfl rfl rfl
  have h6 := nd_ne h 1 2 rfl rfl rfl
  have h7 := nd_ne h 1 3 rfl rfl rfl
  have h8 := nd_ne h 1 4 rfl rfl rfl
  have h9 := nd_ne h 1 5 rfl rfl rfl
  have k1 := nd_ne h 2 3 rfl rfl rfl
  have k2 := nd_ne h 2 4 rfl rfl rfl
  have k3 := nd_ne h 2 5 rfl rfl rfl
  have k4 := nd_ne h 3 4 rfl rfl rfl
  have k5 := nd_ne h 3 5 rfl rfl rfl
  have k6 := nd_ne h 4 5 rfl rfl rfl
  refine ⟨?_, ?_, ?_⟩ <;> simp [va_nd, h1, h2, h3, h4, h5, h6, h7, h8, h9, k1, k2, k3, k4, k5, k6]
abbrev rX0_takeNote : Room := { frames := 2, cells := 0, slots := 0, locals := 49 }
theorem flX0_takeNote_30 : FL wsX0_takeNote RX0 30 0 5 := ⟨RX0, TX0, 7, rfl, by decide, by decide +kernel, by decide +kernel⟩
theorem flX0_takeNote_15 : FL wsX0_takeNote RX0 15 0 2 := ⟨RX0, TX0, 7, rfl, by decide, by decide +kernel, by decide +kernel⟩
set_option maxHeartbeats 4000000 in
set_option maxRecDepth 100000 in
theorem l_takeNote {w : pW} {fo sc pr ar de ms mn nt : Nat} {fa ev be cu st me pa : Nat} {f : Nat → Int32} {u : Nat → Nat → Nat} {bh : Nat → Option Nat} {p : Nat → Nat} {a : Nat → Nat} {cm : Nat} {bf nx av ah : Option Nat} {cl pe pb pc an : Nat} {cn : Nat} {d : Nat → Nat} {nm cx : Nat} {bf2 nx2 av2 ah2 : Option Nat} {cl2 pe2 pb2 pc2 an2 : Nat} (hfo : w fo = some (.inr (0, [.ref sc, .ref pr, .ref ar, .ref de, .ref ms, .ref mn, .int (nI nt)]))) (hs : w sc = some (.inr (3, [.ref fa, .int (nI ev), .int (nI be), .int (nI cu), .int (nI st), .int (nI me), .int (nI pa)]))) (hf : w fa = some (.inl (0, 1400, .inl f))) (hp : w pr = some (.inl (0, 4, .inl (fun j9 => nI (p j9))))) (ha : w ar = some (.inl (0, 100, .inl (fun j9 => nI (a j9))))) (hm : w mn = some (.inr (1, [va_rf bf, va_rf nx, .ref cm, .int (nI cl), .int (nI pe), .int (nI pb), .int (nI pc), .int (nI an), va_rf av, va_rf ah]))) (hc : w cm = some (.inl (0, cn, .inl (fun j9 => nI (d j9))))) (hnm : w nm = some (.inr (1, [va_rf bf2, va_rf nx2, .ref cx, .int (nI cl2), .int (nI pe2), .int (nI pb2), .int (nI pc2), .int (nI an2), va_rf av2, va_rf ah2]))) (hM : Mus f ev st u bh) (hpb : ∀ j, p j ≤ 50) (hab : ∀ j, a j ≤ 1000000) (hst : st ≤ cn) (hcn : cn ≤ 100000) (hdd : ∀ j, d j ≤ 1000000) {xn e no ri : Nat} {x0 R9 : Nat → Nat} {orn : Bool} (hcx : w cx = some (.inl (0, xn, .inl (fun j9 => nI (x0 j9))))) (hsx : st ≤ xn) (hxn : xn ≤ 100000) (hN : va_nd [fa, pr, ar, cm, cx] = true) (he : e < ev) (hri : ri < 2 ^ u 1 e) : ∀ (m9 : Nat) (b : Nat) (x : Nat → Nat) (wl : pW), 2 ^ u 1 e - b < m9 → (b ≤ 2 ^ u 1 e) → (∀ j, x j ≤ 1000000) → (tnF d xn (sumP (u 1) e) (a e) (2 ^ u 1 e - 1) ri orn (p 1) (p 0) (2 ^ u 1 e - b) b x = R9) → (wl = va_up w cx (some (.inl (0, xn, .inl (fun j9 => nI (x j9)))))) → J ((cX0_takeNote, RX0, 11, wsX0_takeNote), (rX0_takeNote, none, "takeNote", []), fun o w9 => o = .inl none ∧ w9 = va_up w cx (some (.inl (0, xn, .inl (fun j9 => nI (R9 j9))))), fun _ _ _ => True) 65 [(0, .ref fo), (1, .int (nI e)), (2, .int (nI no)), (3, .ref nm), (4, .int (nI (sumP (u 1) e))), (5, .int (nI (2 ^ u 1 e - 1))), (6, .int (nI ri)), (7, .int (zb orn)), (8, .int (nI b))] [] wl 0 0 := by
  intro m9
  induction m9 with
  | zero => intro b x wl h9; omega
  | succ m9 ih =>
    intro b x wl hm9 hb1 hxb hr hwl
    have hev := hM.hev
    have hst0 := hM.hst
    have hrg := hM.rg (e := e) he
    have hbd := hM.bd (e := e) he
    have g_fo := up_ne hwl (fk hfo hcx rfl) hfo
    have g_sc := up_ne hwl (fk hs hcx rfl) hs
    have g_fa := up_ne hwl (nd_ne hN 0 4 rfl rfl rfl) hf
    have g_pr := up_ne hwl (nd_ne hN 1 4 rfl rfl rfl) hp
    have g_ar := up_ne hwl (nd_ne hN 2 4 rfl rfl rfl) ha
    have g_mn := up_ne hwl (fk hm hcx rfl) hm
    have g_cm := up_ne hwl (nd_ne hN 3 4 rfl rfl rfl) hc
    have g_nm := up_ne hwl (fk hnm hcx rfl) hnm
    have g_cx : wl cx = some (.inl (0, xn, .inl (fun j9 => nI (x j9)))) := up_at hwl
    refine j_iload dX0_takeNote_65 8 rfl ?_
    refine j_iload dX0_takeNote_67 5 rfl ?_
    refine j_icmp_gtN 188 (by omega) (by omega) dX0_takeNote_69 (by decide) (fun c69 => ?_) (fun c69 => ?_)
    · skip
      exact j_vret rfl ⟨rfl, by rw [← hr, show 2 ^ u 1 e - b = 0 by omega]; exact hwl⟩ (show 0 ≤ 0 by omega) (show 0 ≤ 0 by omega) dX0_takeNote_188
    · skip
      have hp0 := hpb 0
      have hp1 := hpb 1
      refine j_iload dX0_takeNote_72 8 rfl ?_
      refine j_if_neN 86 (by omega) dX0_takeNote_74 (by decide) (fun c74 => ?_) (fun c74 => ?_)
      · skip
        refine j_aload_n dX0_takeNote_86 0 rfl ?_
        refine j_get flX0_takeNote_30 g_fo rfl dX0_takeNote_87 ?_
        refine j_iload dX0_takeNote_90 4 rfl ?_
        refine j_iload dX0_takeNote_92 8 rfl ?_
        refine j_iaddN dX0_takeNote_94 ?_
        have hb1 := hdd ((sumP (u 1) e) + b)
        refine j_callV (rm := rX1_costAt) (As := [.int (nI ((sumP (u 1) e) + b))]) (st := []) (b0 := mn) (ci := 1) (na := 1) (c_costAt (s := ((sumP (u 1) e) + b)) g_mn g_cm (by omega) (by omega)) (by intro E w9 h9; first | exact nomatch h9.1 | (obtain ⟨_, h9, _⟩ := h9; exact nomatch h9) | (obtain ⟨_, _, _, h9, _⟩ := h9; exact nomatch h9)) gX0_takeNote_X1_costAt rfl rfl g_mn (by decide +kernel) rfl ⟨Nat.le_of_ble_eq_true rfl, Nat.le_of_ble_eq_true rfl⟩ rfl (Nat.le_of_ble_eq_true rfl) dX0_takeNote_95 ⟨(show 0 + 0 ≤ 0 by omega), (show 0 + 0 ≤ 0 by omega)⟩ (fun v2 w3 h4 => ?_)
        obtain ⟨h4, h5⟩ := h4
        cases h4
        subst w3
        refine j_after (st' := [.int (nI (d ((sumP (u 1) e) + b)))]) (k' := 0) (n' := 0) rfl rfl rfl ?_
        refine j_istore (lv' := [(9, .int (nI (d ((sumP (u 1) e) + b)))), (0, .ref fo), (1, .int (nI e)), (2, .int (nI no)), (3, .ref nm), (4, .int (nI (sumP (u 1) e))), (5, .int (nI (2 ^ u 1 e - 1))), (6, .int (nI ri)), (7, .int (zb orn)), (8, .int (nI b))]) dX0_takeNote_98 (Nat.le_of_ble_eq_true rfl) rfl ?_
        refine j_aload_n dX0_takeNote_100 4 rfl ?_
        refine j_iload dX0_takeNote_101 5 rfl ?_
        refine j_iload dX0_takeNote_103 9 rfl ?_
        refine j_iaddN dX0_takeNote_105 ?_
        refine j_iload dX0_takeNote_106 0 rfl ?_
        refine j_aload_n dX0_takeNote_108 1 rfl ?_
        refine j_iconst (v := nI 1) dX0_takeNote_109 (by decide) ?_
        refine j_callV (rm := rX0_priceOf) (As := [.int (nI 1)]) (st := [.int (nI (d ((sumP (u 1) e) + b))), .int (nI ((sumP (u 1) e) + b)), .ref nm]) (b0 := fo) (ci := 0) (na := 1) (c_priceOf (x := 1) g_fo g_pr hpb (by omega)) (by intro E w9 h9; first | exact nomatch h9.1 | (obtain ⟨_, h9, _⟩ := h9; exact nomatch h9) | (obtain ⟨_, _, _, h9, _⟩ := h9; exact nomatch h9)) gX0_takeNote_X0_priceOf rfl rfl g_fo (by decide +kernel) rfl ⟨Nat.le_of_ble_eq_true rfl, Nat.le_of_ble_eq_true rfl⟩ rfl (Nat.le_of_ble_eq_true rfl) dX0_takeNote_110 ⟨(show 0 + 0 ≤ 0 by omega), (show 0 + 0 ≤ 0 by omega)⟩ (fun v6 w7 h8 => ?_)
        obtain ⟨h8, h9⟩ := h8
        cases h8
        subst w7
        refine j_after (st' := [.int (nI (p 1)), .int (nI (d ((sumP (u 1) e) + b))), .int (nI ((sumP (u 1) e) + b)), .ref nm]) (k' := 0) (n' := 0) rfl rfl rfl ?_
        have hb10 := hpb 1
        refine j_iaddN dX0_takeNote_113 ?_
        refine j_callV (rm := rX1_offer) (As := [.int (nI ((sumP (u 1) e) + b)), .int (nI ((d ((sumP (u 1) e) + b)) + (p 1)))]) (st := []) (b0 := nm) (ci := 1) (na := 2) (c_offer (s := ((sumP (u 1) e) + b)) (c := ((d ((sumP (u 1) e) + b)) + (p 1))) g_nm g_cx (by omega) (by omega) (by omega) (fun j => Nat.lt_of_le_of_lt (hxb j) (by decide))) (by intro E w9 h9; first | exact nomatch h9.1 | (obtain ⟨_, h9, _⟩ := h9; exact nomatch h9) | (obtain ⟨_, _, _, h9, _⟩ := h9; exact nomatch h9)) gX0_takeNote_X1_offer rfl rfl g_nm (by decide +kernel) rfl ⟨Nat.le_of_ble_eq_true rfl, Nat.le_of_ble_eq_true rfl⟩ rfl (Nat.le_of_ble_eq_true rfl) dX0_takeNote_114 ⟨(show 0 + 0 ≤ 0 by omega), (show 0 + 0 ≤ 0 by omega)⟩ (fun v11 w12 h13 => ?_)
        obtain ⟨h13, h14⟩ := h13
        cases h13
        -- w12
        refine j_after (st' := []) (k' := 0) (n' := 0) rfl rfl rfl ?_
        have f15 : w12 fo = some (.inr (0, [.ref sc, .ref pr, .ref ar, .ref de, .ref ms, .ref mn, .int (nI nt)])) := by rw [h14]; exact (va_up_ne _ _ (fk g_fo g_cx rfl)).trans (g_fo)
        have f16 : w12 sc = some (.inr (3, [.ref fa, .int (nI ev), .int (nI be), .int (nI cu), .int (nI st), .int (nI me), .int (nI pa)])) := by rw [h14]; exact (va_up_ne _ _ (fk g_sc g_cx rfl)).trans (g_sc)
        have f17 : w12 fa = some (.inl (0, 1400, .inl f)) := by rw [h14]; exact (va_up_ne _ _ (nd_ne hN 0 4 rfl rfl rfl)).trans (g_fa)
        have f18 : w12 pr = some (.inl (0, 4, .inl (fun j9 => nI (p j9)))) := by rw [h14]; exact (va_up_ne _ _ (nd_ne hN 1 4 rfl rfl rfl)).trans (g_pr)
        have f19 : w12 ar = some (.inl (0, 100, .inl (fun j9 => nI (a j9)))) := by rw [h14]; exact (va_up_ne _ _ (nd_ne hN 2 4 rfl rfl rfl)).trans (g_ar)
        have f20 : w12 mn = some (.inr (1, [va_rf bf, va_rf nx, .ref cm, .int (nI cl), .int (nI pe), .int (nI pb), .int (nI pc), .int (nI an), va_rf av, va_rf ah])) := by rw [h14]; exact (va_up_ne _ _ (fk g_mn g_cx rfl)).trans (g_mn)
        have f21 : w12 cm = some (.inl (0, cn, .inl (fun j9 => nI (d j9)))) := by rw [h14]; exact (va_up_ne _ _ (nd_ne hN 3 4 rfl rfl rfl)).trans (g_cm)
        have f22 : w12 nm = some (.inr (1, [va_rf bf2, va_rf nx2, .ref cx, .int (nI cl2), .int (nI pe2), .int (nI pb2), .int (nI pc2), .int (nI an2), va_rf av2, va_rf ah2])) := by rw [h14]; exact (va_up_ne _ _ (fk g_nm g_cx rfl)).trans (g_nm)
        have f23 : w12 cx = some (.inl (0, xn, .inl (fun j9 => nI ((offN x xn ((sumP (u 1) e) + b) ((d ((sumP (u 1) e) + b)) + (p 1))) j9)))) := by rw [h14]; exact va_up_self _ _ _
        have hb24 : ∀ j9, (offN x xn ((sumP (u 1) e) + b) ((d ((sumP (u 1) e) + b)) + (p 1))) j9 ≤ 1000000 := offN_le hxb
        refine j_iload dX0_takeNote_117 9 rfl ?_
        refine j_iload dX0_takeNote_119 6 rfl ?_
        refine j_icmp_eqN 150 (by omega) (by omega) dX0_takeNote_121 (by decide) (fun c121 => ?_) (fun c121 => ?_)
        · skip
          refine j_iload dX0_takeNote_150 7 rfl ?_
          refine j_if_eqN 182 (by omega) dX0_takeNote_152 (by decide) (fun c152 => ?_) (fun c152 => ?_)
          · skip
            refine j_iinc (q := 9) (v := nI (b + 1)) (lv' := [(8, .int (nI (b + 1))), (9, .int (nI (d ((sumP (u 1) e) + b)))), (0, .ref fo), (1, .int (nI e)), (2, .int (nI no)), (3, .ref nm), (4, .int (nI (sumP (u 1) e))), (5, .int (nI (2 ^ u 1 e - 1))), (6, .int (nI ri)), (7, .int (zb orn))]) dX0_takeNote_182 rfl (by first | exact nI_1 _ | exact nI_add _ _) (Nat.le_of_ble_eq_true rfl) rfl ?_
            refine j_goto 65 dX0_takeNote_185 (by decide) ?_
            refine j_lv (lv' := [(0, .ref fo), (1, .int (nI e)), (2, .int (nI no)), (3, .ref nm), (4, .int (nI (sumP (u 1) e))), (5, .int (nI (2 ^ u 1 e - 1))), (6, .int (nI ri)), (7, .int (zb orn)), (8, .int (nI (b + 1)))]) [2, 3, 4, 5, 6, 7, 8, 9, 0] rfl ?_
            have hS9 : tnS x xn (sumP (u 1) e) (2 ^ u 1 e - 1) ri orn (tnC d (sumP (u 1) e) (a e) b) (p 1) (p 0) b = offN x xn ((sumP (u 1) e) + b) ((d ((sumP (u 1) e) + b)) + (p 1)) := by
              simp only [tnC]; rw [if_neg c74]; unfold tnS; rw [if_neg (fun h => h.1 c152), if_pos c121]
            exact ih (b + 1) _ _ (by omega) (by omega) hb24 (by rw [← hr, tnF_step (show b < 2 ^ u 1 e by omega), hS9]) (by rw [h14, hwl]; simp only [bx_uu])
          · skip
            refine j_iload dX0_takeNote_155 8 rfl ?_
            refine j_if_ne 168 dX0_takeNote_157 (by decide) (fun c157 => ?_) (fun c157 => ?_)
            · skip
              have hor2 : b ||| ri < 2 ^ u 1 e := or_lt4 (by omega) hri
              refine j_aload_n dX0_takeNote_168 4 rfl ?_
              refine j_iload dX0_takeNote_169 5 rfl ?_
              refine j_iload dX0_takeNote_171 9 rfl ?_
              refine j_iload dX0_takeNote_173 7 rfl ?_
              refine j_ior dX0_takeNote_175 ?_
              refine j_eqi (y := nI (b ||| ri)) (fa_or _ _) ?_
              refine j_iaddN dX0_takeNote_176 ?_
              refine j_iload dX0_takeNote_177 0 rfl ?_
              refine j_callV (rm := rX1_offer) (As := [.int (nI ((sumP (u 1) e) + (b ||| ri))), .int (nI (d ((sumP (u 1) e) + b)))]) (st := []) (b0 := nm) (ci := 1) (na := 2) (c_offer (s := ((sumP (u 1) e) + (b ||| ri))) (c := (d ((sumP (u 1) e) + b))) f22 f23 (by omega) (by omega) (by omega) (fun j => Nat.lt_of_le_of_lt (hb24 j) (by decide))) (by intro E w9 h9; first | exact nomatch h9.1 | (obtain ⟨_, h9, _⟩ := h9; exact nomatch h9) | (obtain ⟨_, _, _, h9, _⟩ := h9; exact nomatch h9)) gX0_takeNote_X1_offer rfl rfl f22 (by decide +kernel) rfl ⟨Nat.le_of_ble_eq_true rfl, Nat.le_of_ble_eq_true rfl⟩ rfl (Nat.le_of_ble_eq_true rfl) dX0_takeNote_179 ⟨(show 0 + 0 ≤ 0 by omega), (show 0 + 0 ≤ 0 by omega)⟩ (fun v25 w26 h27 => ?_)
              obtain ⟨h27, h28⟩ := h27
              cases h27
              -- w26
              refine j_after (st' := []) (k' := 0) (n' := 0) rfl rfl rfl ?_
              have f29 : w26 fo = some (.inr (0, [.ref sc, .ref pr, .ref ar, .ref de, .ref ms, .ref mn, .int (nI nt)])) := by rw [h28]; exact (va_up_ne _ _ (fk f15 f23 rfl)).trans (f15)
              have f30 : w26 sc = some (.inr (3, [.ref fa, .int (nI ev), .int (nI be), .int (nI cu), .int (nI st), .int (nI me), .int (nI pa)])) := by rw [h28]; exact (va_up_ne _ _ (fk f16 f23 rfl)).trans (f16)
              have f31 : w26 fa = some (.inl (0, 1400, .inl f)) := by rw [h28]; exact (va_up_ne _ _ (nd_ne hN 0 4 rfl rfl rfl)).trans (f17)
              have f32 : w26 pr = some (.inl (0, 4, .inl (fun j9 => nI (p j9)))) := by rw [h28]; exact (va_up_ne _ _ (nd_ne hN 1 4 rfl rfl rfl)).trans (f18)
              have f33 : w26 ar = some (.inl (0, 100, .inl (fun j9 => nI (a j9)))) := by rw [h28]; exact (va_up_ne _ _ (nd_ne hN 2 4 rfl rfl rfl)).trans (f19)
              have f34 : w26 mn = some (.inr (1, [va_rf bf, va_rf nx, .ref cm, .int (nI cl), .int (nI pe), .int (nI pb), .int (nI pc), .int (nI an), va_rf av, va_rf ah])) := by rw [h28]; exact (va_up_ne _ _ (fk f20 f23 rfl)).trans (f20)
              have f35 : w26 cm = some (.inl (0, cn, .inl (fun j9 => nI (d j9)))) := by rw [h28]; exact (va_up_ne _ _ (nd_ne hN 3 4 rfl rfl rfl)).trans (f21)
              have f36 : w26 nm = some (.inr (1, [va_rf bf2, va_rf nx2, .ref cx, .int (nI cl2), .int (nI pe2), .int (nI pb2), .int (nI pc2), .int (nI an2), va_rf av2, va_rf ah2])) := by rw [h28]; exact (va_up_ne _ _ (fk f22 f23 rfl)).trans (f22)
              have f37 : w26 cx = some (.inl (0, xn, .inl (fun j9 => nI ((offN (offN x xn ((sumP (u 1) e) + b) ((d ((sumP (u 1) e) + b)) + (p 1))) xn ((sumP (u 1) e) + (b ||| ri)) (d ((sumP (u 1) e) + b))) j9)))) := by rw [h28]; exact va_up_self _ _ _
              have hb38 : ∀ j9, (offN (offN x xn ((sumP (u 1) e) + b) ((d ((sumP (u 1) e) + b)) + (p 1))) xn ((sumP (u 1) e) + (b ||| ri)) (d ((sumP (u 1) e) + b))) j9 ≤ 1000000 := offN_le hb24
              refine j_iinc (q := 9) (v := nI (b + 1)) (lv' := [(8, .int (nI (b + 1))), (9, .int (nI (d ((sumP (u 1) e) + b)))), (0, .ref fo), (1, .int (nI e)), (2, .int (nI no)), (3, .ref nm), (4, .int (nI (sumP (u 1) e))), (5, .int (nI (2 ^ u 1 e - 1))), (6, .int (nI ri)), (7, .int (zb orn))]) dX0_takeNote_182 rfl (by first | exact nI_1 _ | exact nI_add _ _) (Nat.le_of_ble_eq_true rfl) rfl ?_
              refine j_goto 65 dX0_takeNote_185 (by decide) ?_
              refine j_lv (lv' := [(0, .ref fo), (1, .int (nI e)), (2, .int (nI no)), (3, .ref nm), (4, .int (nI (sumP (u 1) e))), (5, .int (nI (2 ^ u 1 e - 1))), (6, .int (nI ri)), (7, .int (zb orn)), (8, .int (nI (b + 1)))]) [2, 3, 4, 5, 6, 7, 8, 9, 0] rfl ?_
              have hS9 : tnS x xn (sumP (u 1) e) (2 ^ u 1 e - 1) ri orn (tnC d (sumP (u 1) e) (a e) b) (p 1) (p 0) b = offN (offN x xn ((sumP (u 1) e) + b) ((d ((sumP (u 1) e) + b)) + (p 1))) xn ((sumP (u 1) e) + (b ||| ri)) (d ((sumP (u 1) e) + b)) := by
                simp only [tnC]; rw [if_neg c74]; unfold tnS; rw [if_pos ⟨c152, Or.inl (zb_n c157)⟩, if_pos c121]
              exact ih (b + 1) _ _ (by omega) (by omega) hb38 (by rw [← hr, tnF_step (show b < 2 ^ u 1 e by omega), hS9]) (by rw [h28, h14, hwl]; simp only [bx_uu])
            · skip
              refine j_iload dX0_takeNote_160 9 rfl ?_
              refine j_iload dX0_takeNote_162 7 rfl ?_
              have hand : b &&& ri ≤ b := Nat.and_le_left
              refine j_iand dX0_takeNote_164 ?_
              refine j_eqi (y := nI (b &&& ri)) (fa_and _ _) ?_
              refine j_if_neN 182 (by omega) dX0_takeNote_165 (by decide) (fun c165 => ?_) (fun c165 => ?_)
              · skip
                refine j_iinc (q := 9) (v := nI (b + 1)) (lv' := [(8, .int (nI (b + 1))), (9, .int (nI (d ((sumP (u 1) e) + b)))), (0, .ref fo), (1, .int (nI e)), (2, .int (nI no)), (3, .ref nm), (4, .int (nI (sumP (u 1) e))), (5, .int (nI (2 ^ u 1 e - 1))), (6, .int (nI ri)), (7, .int (zb orn))]) dX0_takeNote_182 rfl (by first | exact nI_1 _ | exact nI_add _ _) (Nat.le_of_ble_eq_true rfl) rfl ?_
                refine j_goto 65 dX0_takeNote_185 (by decide) ?_
                refine j_lv (lv' := [(0, .ref fo), (1, .int (nI e)), (2, .int (nI no)), (3, .ref nm), (4, .int (nI (sumP (u 1) e))), (5, .int (nI (2 ^ u 1 e - 1))), (6, .int (nI ri)), (7, .int (zb orn)), (8, .int (nI (b + 1)))]) [2, 3, 4, 5, 6, 7, 8, 9, 0] rfl ?_
                have hS9 : tnS x xn (sumP (u 1) e) (2 ^ u 1 e - 1) ri orn (tnC d (sumP (u 1) e) (a e) b) (p 1) (p 0) b = offN x xn ((sumP (u 1) e) + b) ((d ((sumP (u 1) e) + b)) + (p 1)) := by
                  simp only [tnC]; rw [if_neg c74]; unfold tnS; rw [if_neg (fun h => h.2.elim (fun q => by rw [zb_0 c157] at q; cases q) c165), if_pos c121]
                exact ih (b + 1) _ _ (by omega) (by omega) hb24 (by rw [← hr, tnF_step (show b < 2 ^ u 1 e by omega), hS9]) (by rw [h14, hwl]; simp only [bx_uu])
              · skip
                have hor2 : b ||| ri < 2 ^ u 1 e := or_lt4 (by omega) hri
                refine j_aload_n dX0_takeNote_168 4 rfl ?_
                refine j_iload dX0_takeNote_169 5 rfl ?_
                refine j_iload dX0_takeNote_171 9 rfl ?_
                refine j_iload dX0_takeNote_173 7 rfl ?_
                refine j_ior dX0_takeNote_175 ?_
                refine j_eqi (y := nI (b ||| ri)) (fa_or _ _) ?_
                refine j_iaddN dX0_takeNote_176 ?_
                refine j_iload dX0_takeNote_177 0 rfl ?_
                refine j_callV (rm := rX1_offer) (As := [.int (nI ((sumP (u 1) e) + (b ||| ri))), .int (nI (d ((sumP (u 1) e) + b)))]) (st := []) (b0 := nm) (ci := 1) (na := 2) (c_offer (s := ((sumP (u 1) e) + (b ||| ri))) (c := (d ((sumP (u 1) e) + b))) f22 f23 (by omega) (by omega) (by omega) (fun j => Nat.lt_of_le_of_lt (hb24 j) (by decide))) (by intro E w9 h9; first | exact nomatch h9.1 | (obtain ⟨_, h9, _⟩ := h9; exact nomatch h9) | (obtain ⟨_, _, _, h9, _⟩ := h9; exact nomatch h9)) gX0_takeNote_X1_offer rfl rfl f22 (by decide +kernel) rfl ⟨Nat.le_of_ble_eq_true rfl, Nat.le_of_ble_eq_true rfl⟩ rfl (Nat.le_of_ble_eq_true rfl) dX0_takeNote_179 ⟨(show 0 + 0 ≤ 0 by omega), (show 0 + 0 ≤ 0 by omega)⟩ (fun v39 w40 h41 => ?_)
                obtain ⟨h41, h42⟩ := h41
                cases h41
                -- w40
                refine j_after (st' := []) (k' := 0) (n' := 0) rfl rfl rfl ?_
                have f43 : w40 fo = some (.inr (0, [.ref sc, .ref pr, .ref ar, .ref de, .ref ms, .ref mn, .int (nI nt)])) := by rw [h42]; exact (va_up_ne _ _ (fk f15 f23 rfl)).trans (f15)
                have f44 : w40 sc = some (.inr (3, [.ref fa, .int (nI ev), .int (nI be), .int (nI cu), .int (nI st), .int (nI me), .int (nI pa)])) := by rw [h42]; exact (va_up_ne _ _ (fk f16 f23 rfl)).trans (f16)
                have f45 : w40 fa = some (.inl (0, 1400, .inl f)) := by rw [h42]; exact (va_up_ne _ _ (nd_ne hN 0 4 rfl rfl rfl)).trans (f17)
                have f46 : w40 pr = some (.inl (0, 4, .inl (fun j9 => nI (p j9)))) := by rw [h42]; exact (va_up_ne _ _ (nd_ne hN 1 4 rfl rfl rfl)).trans (f18)
                have f47 : w40 ar = some (.inl (0, 100, .inl (fun j9 => nI (a j9)))) := by rw [h42]; exact (va_up_ne _ _ (nd_ne hN 2 4 rfl rfl rfl)).trans (f19)
                have f48 : w40 mn = some (.inr (1, [va_rf bf, va_rf nx, .ref cm, .int (nI cl), .int (nI pe), .int (nI pb), .int (nI pc), .int (nI an), va_rf av, va_rf ah])) := by rw [h42]; exact (va_up_ne _ _ (fk f20 f23 rfl)).trans (f20)
                have f49 : w40 cm = some (.inl (0, cn, .inl (fun j9 => nI (d j9)))) := by rw [h42]; exact (va_up_ne _ _ (nd_ne hN 3 4 rfl rfl rfl)).trans (f21)
                have f50 : w40 nm = some (.inr (1, [va_rf bf2, va_rf nx2, .ref cx, .int (nI cl2), .int (nI pe2), .int (nI pb2), .int (nI pc2), .int (nI an2), va_rf av2, va_rf ah2])) := by rw [h42]; exact (va_up_ne _ _ (fk f22 f23 rfl)).trans (f22)
                have f51 : w40 cx = some (.inl (0, xn, .inl (fun j9 => nI ((offN (offN x xn ((sumP (u 1) e) + b) ((d ((sumP (u 1) e) + b)) + (p 1))) xn ((sumP (u 1) e) + (b ||| ri)) (d ((sumP (u 1) e) + b))) j9)))) := by rw [h42]; exact va_up_self _ _ _
                have hb52 : ∀ j9, (offN (offN x xn ((sumP (u 1) e) + b) ((d ((sumP (u 1) e) + b)) + (p 1))) xn ((sumP (u 1) e) + (b ||| ri)) (d ((sumP (u 1) e) + b))) j9 ≤ 1000000 := offN_le hb24
                refine j_iinc (q := 9) (v := nI (b + 1)) (lv' := [(8, .int (nI (b + 1))), (9, .int (nI (d ((sumP (u 1) e) + b)))), (0, .ref fo), (1, .int (nI e)), (2, .int (nI no)), (3, .ref nm), (4, .int (nI (sumP (u 1) e))), (5, .int (nI (2 ^ u 1 e - 1))), (6, .int (nI ri)), (7, .int (zb orn))]) dX0_takeNote_182 rfl (by first | exact nI_1 _ | exact nI_add _ _) (Nat.le_of_ble_eq_true rfl) rfl ?_
                refine j_goto 65 dX0_takeNote_185 (by decide) ?_
                refine j_lv (lv' := [(0, .ref fo), (1, .int (nI e)), (2, .int (nI no)), (3, .ref nm), (4, .int (nI (sumP (u 1) e))), (5, .int (nI (2 ^ u 1 e - 1))), (6, .int (nI ri)), (7, .int (zb orn)), (8, .int (nI (b + 1)))]) [2, 3, 4, 5, 6, 7, 8, 9, 0] rfl ?_
                have hS9 : tnS x xn (sumP (u 1) e) (2 ^ u 1 e - 1) ri orn (tnC d (sumP (u 1) e) (a e) b) (p 1) (p 0) b = offN (offN x xn ((sumP (u 1) e) + b) ((d ((sumP (u 1) e) + b)) + (p 1))) xn ((sumP (u 1) e) + (b ||| ri)) (d ((sumP (u 1) e) + b)) := by
                  simp only [tnC]; rw [if_neg c74]; unfold tnS; rw [if_pos ⟨c152, Or.inr c165⟩, if_pos c121]
                exact ih (b + 1) _ _ (by omega) (by omega) hb52 (by rw [← hr, tnF_step (show b < 2 ^ u 1 e by omega), hS9]) (by rw [h42, h14, hwl]; simp only [bx_uu])
        · skip
          have hor1 : b ||| (b + 1) < 2 ^ u 1 e := or_lt4 (by omega) (by omega)
          refine j_iload dX0_takeNote_124 9 rfl ?_
          refine j_iload dX0_takeNote_126 9 rfl ?_
          refine j_iconst (v := nI 1) dX0_takeNote_128 (by decide) ?_
          refine j_iaddN dX0_takeNote_129 ?_
          refine j_ior dX0_takeNote_130 ?_
          refine j_eqi (y := nI (b ||| (b + 1))) (fa_or _ _) ?_
          refine j_istore (lv' := [(10, .int (nI (b ||| (b + 1)))), (9, .int (nI (d ((sumP (u 1) e) + b)))), (0, .ref fo), (1, .int (nI e)), (2, .int (nI no)), (3, .ref nm), (4, .int (nI (sumP (u 1) e))), (5, .int (nI (2 ^ u 1 e - 1))), (6, .int (nI ri)), (7, .int (zb orn)), (8, .int (nI b))]) dX0_takeNote_131 (Nat.le_of_ble_eq_true rfl) rfl ?_
          refine j_aload_n dX0_takeNote_133 5 rfl ?_
          refine j_iload dX0_takeNote_134 6 rfl ?_
          refine j_iload dX0_takeNote_136 0 rfl ?_
          refine j_iaddN dX0_takeNote_138 ?_
          refine j_iload dX0_takeNote_139 1 rfl ?_
          refine j_aload_n dX0_takeNote_141 2 rfl ?_
          refine j_iconst (v := nI 0) dX0_takeNote_142 (by decide) ?_
          refine j_callV (rm := rX0_priceOf) (As := [.int (nI 0)]) (st := [.int (nI (d ((sumP (u 1) e) + b))), .int (nI ((sumP (u 1) e) + (b ||| (b + 1)))), .ref nm]) (b0 := fo) (ci := 0) (na := 1) (c_priceOf (x := 0) f15 f18 hpb (by omega)) (by intro E w9 h9; first | exact nomatch h9.1 | (obtain ⟨_, h9, _⟩ := h9; exact nomatch h9) | (obtain ⟨_, _, _, h9, _⟩ := h9; exact nomatch h9)) gX0_takeNote_X0_priceOf rfl rfl f15 (by decide +kernel) rfl ⟨Nat.le_of_ble_eq_true rfl, Nat.le_of_ble_eq_true rfl⟩ rfl (Nat.le_of_ble_eq_true rfl) dX0_takeNote_143 ⟨(show 0 + 0 ≤ 0 by omega), (show 0 + 0 ≤ 0 by omega)⟩ (fun v53 w54 h55 => ?_)
          obtain ⟨h55, h56⟩ := h55
          cases h55
          subst w54
          refine j_after (st' := [.int (nI (p 0)), .int (nI (d ((sumP (u 1) e) + b))), .int (nI ((sumP (u 1) e) + (b ||| (b + 1)))), .ref nm]) (k' := 0) (n' := 0) rfl rfl rfl ?_
          have hb57 := hpb 0
          refine j_iaddN dX0_takeNote_146 ?_
          refine j_callV (rm := rX1_offer) (As := [.int (nI ((sumP (u 1) e) + (b ||| (b + 1)))), .int (nI ((d ((sumP (u 1) e) + b)) + (p 0)))]) (st := []) (b0 := nm) (ci := 1) (na := 2) (c_offer (s := ((sumP (u 1) e) + (b ||| (b + 1)))) (c := ((d ((sumP (u 1) e) + b)) + (p 0))) f22 f23 (by omega) (by omega) (by omega) (fun j => Nat.lt_of_le_of_lt (hb24 j) (by decide))) (by intro E w9 h9; first | exact nomatch h9.1 | (obtain ⟨_, h9, _⟩ := h9; exact nomatch h9) | (obtain ⟨_, _, _, h9, _⟩ := h9; exact nomatch h9)) gX0_takeNote_X1_offer rfl rfl f22 (by decide +kernel) rfl ⟨Nat.le_of_ble_eq_true rfl, Nat.le_of_ble_eq_true rfl⟩ rfl (Nat.le_of_ble_eq_true rfl) dX0_takeNote_147 ⟨(show 0 + 0 ≤ 0 by omega), (show 0 + 0 ≤ 0 by omega)⟩ (fun v58 w59 h60 => ?_)
          obtain ⟨h60, h61⟩ := h60
          cases h60
          -- w59
          refine j_after (st' := []) (k' := 0) (n' := 0) rfl rfl rfl ?_
          have f62 : w59 fo = some (.inr (0, [.ref sc, .ref pr, .ref ar, .ref de, .ref ms, .ref mn, .int (nI nt)])) := by rw [h61]; exact (va_up_ne _ _ (fk f15 f23 rfl)).trans (f15)
          have f63 : w59 sc = some (.inr (3, [.ref fa, .int (nI ev), .int (nI be), .int (nI cu), .int (nI st), .int (nI me), .int (nI pa)])) := by rw [h61]; exact (va_up_ne _ _ (fk f16 f23 rfl)).trans (f16)
          have f64 : w59 fa = some (.inl (0, 1400, .inl f)) := by rw [h61]; exact (va_up_ne _ _ (nd_ne hN 0 4 rfl rfl rfl)).trans (f17)
          have f65 : w59 pr = some (.inl (0, 4, .inl (fun j9 => nI (p j9)))) := by rw [h61]; exact (va_up_ne _ _ (nd_ne hN 1 4 rfl rfl rfl)).trans (f18)
          have f66 : w59 ar = some (.inl (0, 100, .inl (fun j9 => nI (a j9)))) := by rw [h61]; exact (va_up_ne _ _ (nd_ne hN 2 4 rfl rfl rfl)).trans (f19)
          have f67 : w59 mn = some (.inr (1, [va_rf bf, va_rf nx, .ref cm, .int (nI cl), .int (nI pe), .int (nI pb), .int (nI pc), .int (nI an), va_rf av, va_rf ah])) := by rw [h61]; exact (va_up_ne _ _ (fk f20 f23 rfl)).trans (f20)
          have f68 : w59 cm = some (.inl (0, cn, .inl (fun j9 => nI (d j9)))) := by rw [h61]; exact (va_up_ne _ _ (nd_ne hN 3 4 rfl rfl rfl)).trans (f21)
          have f69 : w59 nm = some (.inr (1, [va_rf bf2, va_rf nx2, .ref cx, .int (nI cl2), .int (nI pe2), .int (nI pb2), .int (nI pc2), .int (nI an2), va_rf av2, va_rf ah2])) := by rw [h61]; exact (va_up_ne _ _ (fk f22 f23 rfl)).trans (f22)
          have f70 : w59 cx = some (.inl (0, xn, .inl (fun j9 => nI ((offN (offN x xn ((sumP (u 1) e) + b) ((d ((sumP (u 1) e) + b)) + (p 1))) xn ((sumP (u 1) e) + (b ||| (b + 1))) ((d ((sumP (u 1) e) + b)) + (p 0))) j9)))) := by rw [h61]; exact va_up_self _ _ _
          have hb71 : ∀ j9, (offN (offN x xn ((sumP (u 1) e) + b) ((d ((sumP (u 1) e) + b)) + (p 1))) xn ((sumP (u 1) e) + (b ||| (b + 1))) ((d ((sumP (u 1) e) + b)) + (p 0))) j9 ≤ 1000000 := offN_le hb24
          refine j_iload dX0_takeNote_150 8 rfl ?_
          refine j_if_eqN 182 (by omega) dX0_takeNote_152 (by decide) (fun c152 => ?_) (fun c152 => ?_)
          · skip
            refine j_iinc (q := 10) (v := nI (b + 1)) (lv' := [(8, .int (nI (b + 1))), (10, .int (nI (b ||| (b + 1)))), (9, .int (nI (d ((sumP (u 1) e) + b)))), (0, .ref fo), (1, .int (nI e)), (2, .int (nI no)), (3, .ref nm), (4, .int (nI (sumP (u 1) e))), (5, .int (nI (2 ^ u 1 e - 1))), (6, .int (nI ri)), (7, .int (zb orn))]) dX0_takeNote_182 rfl (by first | exact nI_1 _ | exact nI_add _ _) (Nat.le_of_ble_eq_true rfl) rfl ?_
            refine j_goto 65 dX0_takeNote_185 (by decide) ?_
            refine j_lv (lv' := [(0, .ref fo), (1, .int (nI e)), (2, .int (nI no)), (3, .ref nm), (4, .int (nI (sumP (u 1) e))), (5, .int (nI (2 ^ u 1 e - 1))), (6, .int (nI ri)), (7, .int (zb orn)), (8, .int (nI (b + 1)))]) [3, 4, 5, 6, 7, 8, 9, 10, 0] rfl ?_
            have hS9 : tnS x xn (sumP (u 1) e) (2 ^ u 1 e - 1) ri orn (tnC d (sumP (u 1) e) (a e) b) (p 1) (p 0) b = offN (offN x xn ((sumP (u 1) e) + b) ((d ((sumP (u 1) e) + b)) + (p 1))) xn ((sumP (u 1) e) + (b ||| (b + 1))) ((d ((sumP (u 1) e) + b)) + (p 0)) := by
              simp only [tnC]; rw [if_neg c74]; unfold tnS; rw [if_neg (fun h => h.1 c152), if_neg c121]
            exact ih (b + 1) _ _ (by omega) (by omega) hb71 (by rw [← hr, tnF_step (show b < 2 ^ u 1 e by omega), hS9]) (by rw [h61, h14, hwl]; simp only [bx_uu])
          · skip
            refine j_iload dX0_takeNote_155 9 rfl ?_
            refine j_if_ne 168 dX0_takeNote_157 (by decide) (fun c157 => ?_) (fun c157 => ?_)
            · skip
              have hor2 : b ||| ri < 2 ^ u 1 e := or_lt4 (by omega) hri
              refine j_aload_n dX0_takeNote_168 5 rfl ?_
              refine j_iload dX0_takeNote_169 6 rfl ?_
              refine j_iload dX0_takeNote_171 10 rfl ?_
              refine j_iload dX0_takeNote_173 8 rfl ?_
              refine j_ior dX0_takeNote_175 ?_
              refine j_eqi (y := nI (b ||| ri)) (fa_or _ _) ?_
              refine j_iaddN dX0_takeNote_176 ?_
              refine j_iload dX0_takeNote_177 1 rfl ?_
              refine j_callV (rm := rX1_offer) (As := [.int (nI ((sumP (u 1) e) + (b ||| ri))), .int (nI (d ((sumP (u 1) e) + b)))]) (st := []) (b0 := nm) (ci := 1) (na := 2) (c_offer (s := ((sumP (u 1) e) + (b ||| ri))) (c := (d ((sumP (u 1) e) + b))) f69 f70 (by omega) (by omega) (by omega) (fun j => Nat.lt_of_le_of_lt (hb71 j) (by decide))) (by intro E w9 h9; first | exact nomatch h9.1 | (obtain ⟨_, h9, _⟩ := h9; exact nomatch h9) | (obtain ⟨_, _, _, h9, _⟩ := h9; exact nomatch h9)) gX0_takeNote_X1_offer rfl rfl f69 (by decide +kernel) rfl ⟨Nat.le_of_ble_eq_true rfl, Nat.le_of_ble_eq_true rfl⟩ rfl (Nat.le_of_ble_eq_true rfl) dX0_takeNote_179 ⟨(show 0 + 0 ≤ 0 by omega), (show 0 + 0 ≤ 0 by omega)⟩ (fun v72 w73 h74 => ?_)
              obtain ⟨h74, h75⟩ := h74
              cases h74
              -- w73
              refine j_after (st' := []) (k' := 0) (n' := 0) rfl rfl rfl ?_
              have f76 : w73 fo = some (.inr (0, [.ref sc, .ref pr, .ref ar, .ref de, .ref ms, .ref mn, .int (nI nt)])) := by rw [h75]; exact (va_up_ne _ _ (fk f62 f70 rfl)).trans (f62)
              have f77 : w73 sc = some (.inr (3, [.ref fa, .int (nI ev), .int (nI be), .int (nI cu), .int (nI st), .int (nI me), .int (nI pa)])) := by rw [h75]; exact (va_up_ne _ _ (fk f63 f70 rfl)).trans (f63)
              have f78 : w73 fa = some (.inl (0, 1400, .inl f)) := by rw [h75]; exact (va_up_ne _ _ (nd_ne hN 0 4 rfl rfl rfl)).trans (f64)
              have f79 : w73 pr = some (.inl (0, 4, .inl (fun j9 => nI (p j9)))) := by rw [h75]; exact (va_up_ne _ _ (nd_ne hN 1 4 rfl rfl rfl)).trans (f65)
              have f80 : w73 ar = some (.inl (0, 100, .inl (fun j9 => nI (a j9)))) := by rw [h75]; exact (va_up_ne _ _ (nd_ne hN 2 4 rfl rfl rfl)).trans (f66)
              have f81 : w73 mn = some (.inr (1, [va_rf bf, va_rf nx, .ref cm, .int (nI cl), .int (nI pe), .int (nI pb), .int (nI pc), .int (nI an), va_rf av, va_rf ah])) := by rw [h75]; exact (va_up_ne _ _ (fk f67 f70 rfl)).trans (f67)
              have f82 : w73 cm = some (.inl (0, cn, .inl (fun j9 => nI (d j9)))) := by rw [h75]; exact (va_up_ne _ _ (nd_ne hN 3 4 rfl rfl rfl)).trans (f68)
              have f83 : w73 nm = some (.inr (1, [va_rf bf2, va_rf nx2, .ref cx, .int (nI cl2), .int (nI pe2), .int (nI pb2), .int (nI pc2), .int (nI an2), va_rf av2, va_rf ah2])) := by rw [h75]; exact (va_up_ne _ _ (fk f69 f70 rfl)).trans (f69)
              have f84 : w73 cx = some (.inl (0, xn, .inl (fun j9 => nI ((offN (offN (offN x xn ((sumP (u 1) e) + b) ((d ((sumP (u 1) e) + b)) + (p 1))) xn ((sumP (u 1) e) + (b ||| (b + 1))) ((d ((sumP (u 1) e) + b)) + (p 0))) xn ((sumP (u 1) e) + (b ||| ri)) (d ((sumP (u 1) e) + b))) j9)))) := by rw [h75]; exact va_up_self _ _ _
              have hb85 : ∀ j9, (offN (offN (offN x xn ((sumP (u 1) e) + b) ((d ((sumP (u 1) e) + b)) + (p 1))) xn ((sumP (u 1) e) + (b ||| (b + 1))) ((d ((sumP (u 1) e) + b)) + (p 0))) xn ((sumP (u 1) e) + (b ||| ri)) (d ((sumP (u 1) e) + b))) j9 ≤ 1000000 := offN_le hb71
              refine j_iinc (q := 10) (v := nI (b + 1)) (lv' := [(8, .int (nI (b + 1))), (10, .int (nI (b ||| (b + 1)))), (9, .int (nI (d ((sumP (u 1) e) + b)))), (0, .ref fo), (1, .int (nI e)), (2, .int (nI no)), (3, .ref nm), (4, .int (nI (sumP (u 1) e))), (5, .int (nI (2 ^ u 1 e - 1))), (6, .int (nI ri)), (7, .int (zb orn))]) dX0_takeNote_182 rfl (by first | exact nI_1 _ | exact nI_add _ _) (Nat.le_of_ble_eq_true rfl) rfl ?_
              refine j_goto 65 dX0_takeNote_185 (by decide) ?_
              refine j_lv (lv' := [(0, .ref fo), (1, .int (nI e)), (2, .int (nI no)), (3, .ref nm), (4, .int (nI (sumP (u 1) e))), (5, .int (nI (2 ^ u 1 e - 1))), (6, .int (nI ri)), (7, .int (zb orn)), (8, .int (nI (b + 1)))]) [3, 4, 5, 6, 7, 8, 9, 10, 0] rfl ?_
              have hS9 : tnS x xn (sumP (u 1) e) (2 ^ u 1 e - 1) ri orn (tnC d (sumP (u 1) e) (a e) b) (p 1) (p 0) b = offN (offN (offN x xn ((sumP (u 1) e) + b) ((d ((sumP (u 1) e) + b)) + (p 1))) xn ((sumP (u 1) e) + (b ||| (b + 1))) ((d ((sumP (u 1) e) + b)) + (p 0))) xn ((sumP (u 1) e) + (b ||| ri)) (d ((sumP (u 1) e) + b)) := by
                simp only [tnC]; rw [if_neg c74]; unfold tnS; rw [if_pos ⟨c152, Or.inl (zb_n c157)⟩, if_neg c121]
              exact ih (b + 1) _ _ (by omega) (by omega) hb85 (by rw [← hr, tnF_step (show b < 2 ^ u 1 e by omega), hS9]) (by rw [h75, h61, h14, hwl]; simp only [bx_uu])
            · skip
              refine j_iload dX0_takeNote_160 10 rfl ?_
              refine j_iload dX0_takeNote_162 8 rfl ?_
              have hand : b &&& ri ≤ b := Nat.and_le_left
              refine j_iand dX0_takeNote_164 ?_
              refine j_eqi (y := nI (b &&& ri)) (fa_and _ _) ?_
              refine j_if_neN 182 (by omega) dX0_takeNote_165 (by decide) (fun c165 => ?_) (fun c165 => ?_)
              · skip
                refine j_iinc (q := 10) (v := nI (b + 1)) (lv' := [(8, .int (nI (b + 1))), (10, .int (nI (b ||| (b + 1)))), (9, .int (nI (d ((sumP (u 1) e) + b)))), (0, .ref fo), (1, .int (nI e)), (2, .int (nI no)), (3, .ref nm), (4, .int (nI (sumP (u 1) e))), (5, .int (nI (2 ^ u 1 e - 1))), (6, .int (nI ri)), (7, .int (zb orn))]) dX0_takeNote_182 rfl (by first | exact nI_1 _ | exact nI_add _ _) (Nat.le_of_ble_eq_true rfl) rfl ?_
                refine j_goto 65 dX0_takeNote_185 (by decide) ?_
                refine j_lv (lv' := [(0, .ref fo), (1, .int (nI e)), (2, .int (nI no)), (3, .ref nm), (4, .int (nI (sumP (u 1) e))), (5, .int (nI (2 ^ u 1 e - 1))), (6, .int (nI ri)), (7, .int (zb orn)), (8, .int (nI (b + 1)))]) [3, 4, 5, 6, 7, 8, 9, 10, 0] rfl ?_
                have hS9 : tnS x xn (sumP (u 1) e) (2 ^ u 1 e - 1) ri orn (tnC d (sumP (u 1) e) (a e) b) (p 1) (p 0) b = offN (offN x xn ((sumP (u 1) e) + b) ((d ((sumP (u 1) e) + b)) + (p 1))) xn ((sumP (u 1) e) + (b ||| (b + 1))) ((d ((sumP (u 1) e) + b)) + (p 0)) := by
                  simp only [tnC]; rw [if_neg c74]; unfold tnS; rw [if_neg (fun h => h.2.elim (fun q => by rw [zb_0 c157] at q; cases q) c165), if_neg c121]
                exact ih (b + 1) _ _ (by omega) (by omega) hb71 (by rw [← hr, tnF_step (show b < 2 ^ u 1 e by omega), hS9]) (by rw [h61, h14, hwl]; simp only [bx_uu])
              · skip
                have hor2 : b ||| ri < 2 ^ u 1 e := or_lt4 (by omega) hri
                refine j_aload_n dX0_takeNote_168 5 rfl ?_
                refine j_iload dX0_takeNote_169 6 rfl ?_
                refine j_iload dX0_takeNote_171 10 rfl ?_
                refine j_iload dX0_takeNote_173 8 rfl ?_
                refine j_ior dX0_takeNote_175 ?_
                refine j_eqi (y := nI (b ||| ri)) (fa_or _ _) ?_
                refine j_iaddN dX0_takeNote_176 ?_
                refine j_iload dX0_takeNote_177 1 rfl ?_
                refine j_callV (rm := rX1_offer) (As := [.int (nI ((sumP (u 1) e) + (b ||| ri))), .int (nI (d ((sumP (u 1) e) + b)))]) (st := []) (b0 := nm) (ci := 1) (na := 2) (c_offer (s := ((sumP (u 1) e) + (b ||| ri))) (c := (d ((sumP (u 1) e) + b))) f69 f70 (by omega) (by omega) (by omega) (fun j => Nat.lt_of_le_of_lt (hb71 j) (by decide))) (by intro E w9 h9; first | exact nomatch h9.1 | (obtain ⟨_, h9, _⟩ := h9; exact nomatch h9) | (obtain ⟨_, _, _, h9, _⟩ := h9; exact nomatch h9)) gX0_takeNote_X1_offer rfl rfl f69 (by decide +kernel) rfl ⟨Nat.le_of_ble_eq_true rfl, Nat.le_of_ble_eq_true rfl⟩ rfl (Nat.le_of_ble_eq_true rfl) dX0_takeNote_179 ⟨(show 0 + 0 ≤ 0 by omega), (show 0 + 0 ≤ 0 by omega)⟩ (fun v86 w87 h88 => ?_)
                obtain ⟨h88, h89⟩ := h88
                cases h88
                -- w87
                refine j_after (st' := []) (k' := 0) (n' := 0) rfl rfl rfl ?_
                have f90 : w87 fo = some (.inr (0, [.ref sc, .ref pr, .ref ar, .ref de, .ref ms, .ref mn, .int (nI nt)])) := by rw [h89]; exact (va_up_ne _ _ (fk f62 f70 rfl)).trans (f62)
                have f91 : w87 sc = some (.inr (3, [.ref fa, .int (nI ev), .int (nI be), .int (nI cu), .int (nI st), .int (nI me), .int (nI pa)])) := by rw [h89]; exact (va_up_ne _ _ (fk f63 f70 rfl)).trans (f63)
                have f92 : w87 fa = some (.inl (0, 1400, .inl f)) := by rw [h89]; exact (va_up_ne _ _ (nd_ne hN 0 4 rfl rfl rfl)).trans (f64)
                have f93 : w87 pr = some (.inl (0, 4, .inl (fun j9 => nI (p j9)))) := by rw [h89]; exact (va_up_ne _ _ (nd_ne hN 1 4 rfl rfl rfl)).trans (f65)
                have f94 : w87 ar = some (.inl (0, 100, .inl (fun j9 => nI (a j9)))) := by rw [h89]; exact (va_up_ne _ _ (nd_ne hN 2 4 rfl rfl rfl)).trans (f66)
                have f95 : w87 mn = some (.inr (1, [va_rf bf, va_rf nx, .ref cm, .int (nI cl), .int (nI pe), .int (nI pb), .int (nI pc), .int (nI an), va_rf av, va_rf ah])) := by rw [h89]; exact (va_up_ne _ _ (fk f67 f70 rfl)).trans (f67)
                have f96 : w87 cm = some (.inl (0, cn, .inl (fun j9 => nI (d j9)))) := by rw [h89]; exact (va_up_ne _ _ (nd_ne hN 3 4 rfl rfl rfl)).trans (f68)
                have f97 : w87 nm = some (.inr (1, [va_rf bf2, va_rf nx2, .ref cx, .int (nI cl2), .int (nI pe2), .int (nI pb2), .int (nI pc2), .int (nI an2), va_rf av2, va_rf ah2])) := by rw [h89]; exact (va_up_ne _ _ (fk f69 f70 rfl)).trans (f69)
                have f98 : w87 cx = some (.inl (0, xn, .inl (fun j9 => nI ((offN (offN (offN x xn ((sumP (u 1) e) + b) ((d ((sumP (u 1) e) + b)) + (p 1))) xn ((sumP (u 1) e) + (b ||| (b + 1))) ((d ((sumP (u 1) e) + b)) + (p 0))) xn ((sumP (u 1) e) + (b ||| ri)) (d ((sumP (u 1) e) + b))) j9)))) := by rw [h89]; exact va_up_self _ _ _
                have hb99 : ∀ j9, (offN (offN (offN x xn ((sumP (u 1) e) + b) ((d ((sumP (u 1) e) + b)) + (p 1))) xn ((sumP (u 1) e) + (b ||| (b + 1))) ((d ((sumP (u 1) e) + b)) + (p 0))) xn ((sumP (u 1) e) + (b ||| ri)) (d ((sumP (u 1) e) + b))) j9 ≤ 1000000 := offN_le hb71
                refine j_iinc (q := 10) (v := nI (b + 1)) (lv' := [(8, .int (nI (b + 1))), (10, .int (nI (b ||| (b + 1)))), (9, .int (nI (d ((sumP (u 1) e) + b)))), (0, .ref fo), (1, .int (nI e)), (2, .int (nI no)), (3, .ref nm), (4, .int (nI (sumP (u 1) e))), (5, .int (nI (2 ^ u 1 e - 1))), (6, .int (nI ri)), (7, .int (zb orn))]) dX0_takeNote_182 rfl (by first | exact nI_1 _ | exact nI_add _ _) (Nat.le_of_ble_eq_true rfl) rfl ?_
                refine j_goto 65 dX0_takeNote_185 (by decide) ?_
                refine j_lv (lv' := [(0, .ref fo), (1, .int (nI e)), (2, .int (nI no)), (3, .ref nm), (4, .int (nI (sumP (u 1) e))), (5, .int (nI (2 ^ u 1 e - 1))), (6, .int (nI ri)), (7, .int (zb orn)), (8, .int (nI (b + 1)))]) [3, 4, 5, 6, 7, 8, 9, 10, 0] rfl ?_
                have hS9 : tnS x xn (sumP (u 1) e) (2 ^ u 1 e - 1) ri orn (tnC d (sumP (u 1) e) (a e) b) (p 1) (p 0) b = offN (offN (offN x xn ((sumP (u 1) e) + b) ((d ((sumP (u 1) e) + b)) + (p 1))) xn ((sumP (u 1) e) + (b ||| (b + 1))) ((d ((sumP (u 1) e) + b)) + (p 0))) xn ((sumP (u 1) e) + (b ||| ri)) (d ((sumP (u 1) e) + b)) := by
                  simp only [tnC]; rw [if_neg c74]; unfold tnS; rw [if_pos ⟨c152, Or.inr c165⟩, if_neg c121]
                exact ih (b + 1) _ _ (by omega) (by omega) hb99 (by rw [← hr, tnF_step (show b < 2 ^ u 1 e by omega), hS9]) (by rw [h89, h61, h14, hwl]; simp only [bx_uu])
      · skip
        refine j_aload_n dX0_takeNote_77 0 rfl ?_
        refine j_get flX0_takeNote_15 g_fo rfl dX0_takeNote_78 ?_
        refine j_iload_n dX0_takeNote_81 1 rfl ?_
        refine j_ialdN (j := e) g_ar rfl (by omega) (by omega) dX0_takeNote_82 ?_
        have hb100 := hab e
        refine j_goto 98 dX0_takeNote_83 (by decide) ?_
        refine j_istore (lv' := [(9, .int (nI (a e))), (0, .ref fo), (1, .int (nI e)), (2, .int (nI no)), (3, .ref nm), (4, .int (nI (sumP (u 1) e))), (5, .int (nI (2 ^ u 1 e - 1))), (6, .int (nI ri)), (7, .int (zb orn)), (8, .int (nI b))]) dX0_takeNote_98 (Nat.le_of_ble_eq_true rfl) rfl ?_
        refine j_aload_n dX0_takeNote_100 4 rfl ?_
        refine j_iload dX0_takeNote_101 5 rfl ?_
        refine j_iload dX0_takeNote_103 9 rfl ?_
        refine j_iaddN dX0_takeNote_105 ?_
        refine j_iload dX0_takeNote_106 0 rfl ?_
        refine j_aload_n dX0_takeNote_108 1 rfl ?_
        refine j_iconst (v := nI 1) dX0_takeNote_109 (by decide) ?_
        refine j_callV (rm := rX0_priceOf) (As := [.int (nI 1)]) (st := [.int (nI (a e)), .int (nI ((sumP (u 1) e) + b)), .ref nm]) (b0 := fo) (ci := 0) (na := 1) (c_priceOf (x := 1) g_fo g_pr hpb (by omega)) (by intro E w9 h9; first | exact nomatch h9.1 | (obtain ⟨_, h9, _⟩ := h9; exact nomatch h9) | (obtain ⟨_, _, _, h9, _⟩ := h9; exact nomatch h9)) gX0_takeNote_X0_priceOf rfl rfl g_fo (by decide +kernel) rfl ⟨Nat.le_of_ble_eq_true rfl, Nat.le_of_ble_eq_true rfl⟩ rfl (Nat.le_of_ble_eq_true rfl) dX0_takeNote_110 ⟨(show 0 + 0 ≤ 0 by omega), (show 0 + 0 ≤ 0 by omega)⟩ (fun v101 w102 h103 => ?_)
        obtain ⟨h103, h104⟩ := h103
        cases h103
        subst w102
        refine j_after (st' := [.int (nI (p 1)), .int (nI (a e)), .int (nI ((sumP (u 1) e) + b)), .ref nm]) (k' := 0) (n' := 0) rfl rfl rfl ?_
        have hb105 := hpb 1
        refine j_iaddN dX0_takeNote_113 ?_
        refine j_callV (rm := rX1_offer) (As := [.int (nI ((sumP (u 1) e) + b)), .int (nI ((a e) + (p 1)))]) (st := []) (b0 := nm) (ci := 1) (na := 2) (c_offer (s := ((sumP (u 1) e) + b)) (c := ((a e) + (p 1))) g_nm g_cx (by omega) (by omega) (by omega) (fun j => Nat.lt_of_le_of_lt (hxb j) (by decide))) (by intro E w9 h9; first | exact nomatch h9.1 | (obtain ⟨_, h9, _⟩ := h9; exact nomatch h9) | (obtain ⟨_, _, _, h9, _⟩ := h9; exact nomatch h9)) gX0_takeNote_X1_offer rfl rfl g_nm (by decide +kernel) rfl ⟨Nat.le_of_ble_eq_true rfl, Nat.le_of_ble_eq_true rfl⟩ rfl (Nat.le_of_ble_eq_true rfl) dX0_takeNote_114 ⟨(show 0 + 0 ≤ 0 by omega), (show 0 + 0 ≤ 0 by omega)⟩ (fun v106 w107 h108 => ?_)
        obtain ⟨h108, h109⟩ := h108
        cases h108
        -- w107
        refine j_after (st' := []) (k' := 0) (n' := 0) rfl rfl rfl ?_
        have f110 : w107 fo = some (.inr (0, [.ref sc, .ref pr, .ref ar, .ref de, .ref ms, .ref mn, .int (nI nt)])) := by rw [h109]; exact (va_up_ne _ _ (fk g_fo g_cx rfl)).trans (g_fo)
        have f111 : w107 sc = some (.inr (3, [.ref fa, .int (nI ev), .int (nI be), .int (nI cu), .int (nI st), .int (nI me), .int (nI pa)])) := by rw [h109]; exact (va_up_ne _ _ (fk g_sc g_cx rfl)).trans (g_sc)
        have f112 : w107 fa = some (.inl (0, 1400, .inl f)) := by rw [h109]; exact (va_up_ne _ _ (nd_ne hN 0 4 rfl rfl rfl)).trans (g_fa)
        have f113 : w107 pr = some (.inl (0, 4, .inl (fun j9 => nI (p j9)))) := by rw [h109]; exact (va_up_ne _ _ (nd_ne hN 1 4 rfl rfl rfl)).trans (g_pr)
        have f114 : w107 ar = some (.inl (0, 100, .inl (fun j9 => nI (a j9)))) := by rw [h109]; exact (va_up_ne _ _ (nd_ne hN 2 4 rfl rfl rfl)).trans (g_ar)
        have f115 : w107 mn = some (.inr (1, [va_rf bf, va_rf nx, .ref cm, .int (nI cl), .int (nI pe), .int (nI pb), .int (nI pc), .int (nI an), va_rf av, va_rf ah])) := by rw [h109]; exact (va_up_ne _ _ (fk g_mn g_cx rfl)).trans (g_mn)
        have f116 : w107 cm = some (.inl (0, cn, .inl (fun j9 => nI (d j9)))) := by rw [h109]; exact (va_up_ne _ _ (nd_ne hN 3 4 rfl rfl rfl)).trans (g_cm)
        have f117 : w107 nm = some (.inr (1, [va_rf bf2, va_rf nx2, .ref cx, .int (nI cl2), .int (nI pe2), .int (nI pb2), .int (nI pc2), .int (nI an2), va_rf av2, va_rf ah2])) := by rw [h109]; exact (va_up_ne _ _ (fk g_nm g_cx rfl)).trans (g_nm)
        have f118 : w107 cx = some (.inl (0, xn, .inl (fun j9 => nI ((offN x xn ((sumP (u 1) e) + b) ((a e) + (p 1))) j9)))) := by rw [h109]; exact va_up_self _ _ _
        have hb119 : ∀ j9, (offN x xn ((sumP (u 1) e) + b) ((a e) + (p 1))) j9 ≤ 1000000 := offN_le hxb
        refine j_iload dX0_takeNote_117 9 rfl ?_
        refine j_iload dX0_takeNote_119 6 rfl ?_
        refine j_icmp_eqN 150 (by omega) (by omega) dX0_takeNote_121 (by decide) (fun c121 => ?_) (fun c121 => ?_)
        · skip
          refine j_iload dX0_takeNote_150 7 rfl ?_
          refine j_if_eqN 182 (by omega) dX0_takeNote_152 (by decide) (fun c152 => ?_) (fun c152 => ?_)
          · skip
            refine j_iinc (q := 9) (v := nI (b + 1)) (lv' := [(8, .int (nI (b + 1))), (9, .int (nI (a e))), (0, .ref fo), (1, .int (nI e)), (2, .int (nI no)), (3, .ref nm), (4, .int (nI (sumP (u 1) e))), (5, .int (nI (2 ^ u 1 e - 1))), (6, .int (nI ri)), (7, .int (zb orn))]) dX0_takeNote_182 rfl (by first | exact nI_1 _ | exact nI_add _ _) (Nat.le_of_ble_eq_true rfl) rfl ?_
            refine j_goto 65 dX0_takeNote_185 (by decide) ?_
            refine j_lv (lv' := [(0, .ref fo), (1, .int (nI e)), (2, .int (nI no)), (3, .ref nm), (4, .int (nI (sumP (u 1) e))), (5, .int (nI (2 ^ u 1 e - 1))), (6, .int (nI ri)), (7, .int (zb orn)), (8, .int (nI (b + 1)))]) [2, 3, 4, 5, 6, 7, 8, 9, 0] rfl ?_
            have hS9 : tnS x xn (sumP (u 1) e) (2 ^ u 1 e - 1) ri orn (tnC d (sumP (u 1) e) (a e) b) (p 1) (p 0) b = offN x xn ((sumP (u 1) e) + b) ((a e) + (p 1)) := by
              simp only [tnC]; rw [if_pos c74]; unfold tnS; rw [if_neg (fun h => h.1 c152), if_pos c121]
            exact ih (b + 1) _ _ (by omega) (by omega) hb119 (by rw [← hr, tnF_step (show b < 2 ^ u 1 e by omega), hS9]) (by rw [h109, hwl]; simp only [bx_uu])
          · skip
            refine j_iload dX0_takeNote_155 8 rfl ?_
            refine j_if_ne 168 dX0_takeNote_157 (by decide) (fun c157 => ?_) (fun c157 => ?_)
            · skip
              have hor2 : b ||| ri < 2 ^ u 1 e := or_lt4 (by omega) hri
              refine j_aload_n dX0_takeNote_168 4 rfl ?_
              refine j_iload dX0_takeNote_169 5 rfl ?_
              refine j_iload dX0_takeNote_171 9 rfl ?_
              refine j_iload dX0_takeNote_173 7 rfl ?_
              refine j_ior dX0_takeNote_175 ?_
              refine j_eqi (y := nI (b ||| ri)) (fa_or _ _) ?_
              refine j_iaddN dX0_takeNote_176 ?_
              refine j_iload dX0_takeNote_177 0 rfl ?_
              refine j_callV (rm := rX1_offer) (As := [.int (nI ((sumP (u 1) e) + (b ||| ri))), .int (nI (a e))]) (st := []) (b0 := nm) (ci := 1) (na := 2) (c_offer (s := ((sumP (u 1) e) + (b ||| ri))) (c := (a e)) f117 f118 (by omega) (by omega) (by omega) (fun j => Nat.lt_of_le_of_lt (hb119 j) (by decide))) (by intro E w9 h9; first | exact nomatch h9.1 | (obtain ⟨_, h9, _⟩ := h9; exact nomatch h9) | (obtain ⟨_, _, _, h9, _⟩ := h9; exact nomatch h9)) gX0_takeNote_X1_offer rfl rfl f117 (by decide +kernel) rfl ⟨Nat.le_of_ble_eq_true rfl, Nat.le_of_ble_eq_true rfl⟩ rfl (Nat.le_of_ble_eq_true rfl) dX0_takeNote_179 ⟨(show 0 + 0 ≤ 0 by omega), (show 0 + 0 ≤ 0 by omega)⟩ (fun v120 w121 h122 => ?_)
              obtain ⟨h122, h123⟩ := h122
              cases h122
              -- w121
              refine j_after (st' := []) (k' := 0) (n' := 0) rfl rfl rfl ?_
              have f124 : w121 fo = some (.inr (0, [.ref sc, .ref pr, .ref ar, .ref de, .ref ms, .ref mn, .int (nI nt)])) := by rw [h123]; exact (va_up_ne _ _ (fk f110 f118 rfl)).trans (f110)
              have f125 : w121 sc = some (.inr (3, [.ref fa, .int (nI ev), .int (nI be), .int (nI cu), .int (nI st), .int (nI me), .int (nI pa)])) := by rw [h123]; exact (va_up_ne _ _ (fk f111 f118 rfl)).trans (f111)
              have f126 : w121 fa = some (.inl (0, 1400, .inl f)) := by rw [h123]; exact (va_up_ne _ _ (nd_ne hN 0 4 rfl rfl rfl)).trans (f112)
              have f127 : w121 pr = some (.inl (0, 4, .inl (fun j9 => nI (p j9)))) := by rw [h123]; exact (va_up_ne _ _ (nd_ne hN 1 4 rfl rfl rfl)).trans (f113)
              have f128 : w121 ar = some (.inl (0, 100, .inl (fun j9 => nI (a j9)))) := by rw [h123]; exact (va_up_ne _ _ (nd_ne hN 2 4 rfl rfl rfl)).trans (f114)
              have f129 : w121 mn = some (.inr (1, [va_rf bf, va_rf nx, .ref cm, .int (nI cl), .int (nI pe), .int (nI pb), .int (nI pc), .int (nI an), va_rf av, va_rf ah])) := by rw [h123]; exact (va_up_ne _ _ (fk f115 f118 rfl)).trans (f115)
              have f130 : w121 cm = some (.inl (0, cn, .inl (fun j9 => nI (d j9)))) := by rw [h123]; exact (va_up_ne _ _ (nd_ne hN 3 4 rfl rfl rfl)).trans (f116)
              have f131 : w121 nm = some (.inr (1, [va_rf bf2, va_rf nx2, .ref cx, .int (nI cl2), .int (nI pe2), .int (nI pb2), .int (nI pc2), .int (nI an2), va_rf av2, va_rf ah2])) := by rw [h123]; exact (va_up_ne _ _ (fk f117 f118 rfl)).trans (f117)
              have f132 : w121 cx = some (.inl (0, xn, .inl (fun j9 => nI ((offN (offN x xn ((sumP (u 1) e) + b) ((a e) + (p 1))) xn ((sumP (u 1) e) + (b ||| ri)) (a e)) j9)))) := by rw [h123]; exact va_up_self _ _ _
              have hb133 : ∀ j9, (offN (offN x xn ((sumP (u 1) e) + b) ((a e) + (p 1))) xn ((sumP (u 1) e) + (b ||| ri)) (a e)) j9 ≤ 1000000 := offN_le hb119
              refine j_iinc (q := 9) (v := nI (b + 1)) (lv' := [(8, .int (nI (b + 1))), (9, .int (nI (a e))), (0, .ref fo), (1, .int (nI e)), (2, .int (nI no)), (3, .ref nm), (4, .int (nI (sumP (u 1) e))), (5, .int (nI (2 ^ u 1 e - 1))), (6, .int (nI ri)), (7, .int (zb orn))]) dX0_takeNote_182 rfl (by first | exact nI_1 _ | exact nI_add _ _) (Nat.le_of_ble_eq_true rfl) rfl ?_
              refine j_goto 65 dX0_takeNote_185 (by decide) ?_
              refine j_lv (lv' := [(0, .ref fo), (1, .int (nI e)), (2, .int (nI no)), (3, .ref nm), (4, .int (nI (sumP (u 1) e))), (5, .int (nI (2 ^ u 1 e - 1))), (6, .int (nI ri)), (7, .int (zb orn)), (8, .int (nI (b + 1)))]) [2, 3, 4, 5, 6, 7, 8, 9, 0] rfl ?_
              have hS9 : tnS x xn (sumP (u 1) e) (2 ^ u 1 e - 1) ri orn (tnC d (sumP (u 1) e) (a e) b) (p 1) (p 0) b = offN (offN x xn ((sumP (u 1) e) + b) ((a e) + (p 1))) xn ((sumP (u 1) e) + (b ||| ri)) (a e) := by
                simp only [tnC]; rw [if_pos c74]; unfold tnS; rw [if_pos ⟨c152, Or.inl (zb_n c157)⟩, if_pos c121]
              exact ih (b + 1) _ _ (by omega) (by omega) hb133 (by rw [← hr, tnF_step (show b < 2 ^ u 1 e by omega), hS9]) (by rw [h123, h109, hwl]; simp only [bx_uu])
            · skip
              refine j_iload dX0_takeNote_160 9 rfl ?_
              refine j_iload dX0_takeNote_162 7 rfl ?_
              have hand : b &&& ri ≤ b := Nat.and_le_left
              refine j_iand dX0_takeNote_164 ?_
              refine j_eqi (y := nI (b &&& ri)) (fa_and _ _) ?_
              refine j_if_neN 182 (by omega) dX0_takeNote_165 (by decide) (fun c165 => ?_) (fun c165 => ?_)
              · skip
                refine j_iinc (q := 9) (v := nI (b + 1)) (lv' := [(8, .int (nI (b + 1))), (9, .int (nI (a e))), (0, .ref fo), (1, .int (nI e)), (2, .int (nI no)), (3, .ref nm), (4, .int (nI (sumP (u 1) e))), (5, .int (nI (2 ^ u 1 e - 1))), (6, .int (nI ri)), (7, .int (zb orn))]) dX0_takeNote_182 rfl (by first | exact nI_1 _ | exact nI_add _ _) (Nat.le_of_ble_eq_true rfl) rfl ?_
                refine j_goto 65 dX0_takeNote_185 (by decide) ?_
                refine j_lv (lv' := [(0, .ref fo), (1, .int (nI e)), (2, .int (nI no)), (3, .ref nm), (4, .int (nI (sumP (u 1) e))), (5, .int (nI (2 ^ u 1 e - 1))), (6, .int (nI ri)), (7, .int (zb orn)), (8, .int (nI (b + 1)))]) [2, 3, 4, 5, 6, 7, 8, 9, 0] rfl ?_
                have hS9 : tnS x xn (sumP (u 1) e) (2 ^ u 1 e - 1) ri orn (tnC d (sumP (u 1) e) (a e) b) (p 1) (p 0) b = offN x xn ((sumP (u 1) e) + b) ((a e) + (p 1)) := by
                  simp only [tnC]; rw [if_pos c74]; unfold tnS; rw [if_neg (fun h => h.2.elim (fun q => by rw [zb_0 c157] at q; cases q) c165), if_pos c121]
                exact ih (b + 1) _ _ (by omega) (by omega) hb119 (by rw [← hr, tnF_step (show b < 2 ^ u 1 e by omega), hS9]) (by rw [h109, hwl]; simp only [bx_uu])
              · skip
                have hor2 : b ||| ri < 2 ^ u 1 e := or_lt4 (by omega) hri
                refine j_aload_n dX0_takeNote_168 4 rfl ?_
                refine j_iload dX0_takeNote_169 5 rfl ?_
                refine j_iload dX0_takeNote_171 9 rfl ?_
                refine j_iload dX0_takeNote_173 7 rfl ?_
                refine j_ior dX0_takeNote_175 ?_
                refine j_eqi (y := nI (b ||| ri)) (fa_or _ _) ?_
                refine j_iaddN dX0_takeNote_176 ?_
                refine j_iload dX0_takeNote_177 0 rfl ?_
                refine j_callV (rm := rX1_offer) (As := [.int (nI ((sumP (u 1) e) + (b ||| ri))), .int (nI (a e))]) (st := []) (b0 := nm) (ci := 1) (na := 2) (c_offer (s := ((sumP (u 1) e) + (b ||| ri))) (c := (a e)) f117 f118 (by omega) (by omega) (by omega) (fun j => Nat.lt_of_le_of_lt (hb119 j) (by decide))) (by intro E w9 h9; first | exact nomatch h9.1 | (obtain ⟨_, h9, _⟩ := h9; exact nomatch h9) | (obtain ⟨_, _, _, h9, _⟩ := h9; exact nomatch h9)) gX0_takeNote_X1_offer rfl rfl f117 (by decide +kernel) rfl ⟨Nat.le_of_ble_eq_true rfl, Nat.le_of_ble_eq_true rfl⟩ rfl (Nat.le_of_ble_eq_true rfl) dX0_takeNote_179 ⟨(show 0 + 0 ≤ 0 by omega), (show 0 + 0 ≤ 0 by omega)⟩ (fun v134 w135 h136 => ?_)
                obtain ⟨h136, h137⟩ := h136
                cases h136
                -- w135
                refine j_after (st' := []) (k' := 0) (n' := 0) rfl rfl rfl ?_
                have f138 : w135 fo = some (.inr (0, [.ref sc, .ref pr, .ref ar, .ref de, .ref ms, .ref mn, .int (nI nt)])) := by rw [h137]; exact (va_up_ne _ _ (fk f110 f118 rfl)).trans (f110)
                have f139 : w135 sc = some (.inr (3, [.ref fa, .int (nI ev), .int (nI be), .int (nI cu), .int (nI st), .int (nI me), .int (nI pa)])) := by rw [h137]; exact (va_up_ne _ _ (fk f111 f118 rfl)).trans (f111)
                have f140 : w135 fa = some (.inl (0, 1400, .inl f)) := by rw [h137]; exact (va_up_ne _ _ (nd_ne hN 0 4 rfl rfl rfl)).trans (f112)
                have f141 : w135 pr = some (.inl (0, 4, .inl (fun j9 => nI (p j9)))) := by rw [h137]; exact (va_up_ne _ _ (nd_ne hN 1 4 rfl rfl rfl)).trans (f113)
                have f142 : w135 ar = some (.inl (0, 100, .inl (fun j9 => nI (a j9)))) := by rw [h137]; exact (va_up_ne _ _ (nd_ne hN 2 4 rfl rfl rfl)).trans (f114)
                have f143 : w135 mn = some (.inr (1, [va_rf bf, va_rf nx, .ref cm, .int (nI cl), .int (nI pe), .int (nI pb), .int (nI pc), .int (nI an), va_rf av, va_rf ah])) := by rw [h137]; exact (va_up_ne _ _ (fk f115 f118 rfl)).trans (f115)
                have f144 : w135 cm = some (.inl (0, cn, .inl (fun j9 => nI (d j9)))) := by rw [h137]; exact (va_up_ne _ _ (nd_ne hN 3 4 rfl rfl rfl)).trans (f116)
                have f145 : w135 nm = some (.inr (1, [va_rf bf2, va_rf nx2, .ref cx, .int (nI cl2), .int (nI pe2), .int (nI pb2), .int (nI pc2), .int (nI an2), va_rf av2, va_rf ah2])) := by rw [h137]; exact (va_up_ne _ _ (fk f117 f118 rfl)).trans (f117)
                have f146 : w135 cx = some (.inl (0, xn, .inl (fun j9 => nI ((offN (offN x xn ((sumP (u 1) e) + b) ((a e) + (p 1))) xn ((sumP (u 1) e) + (b ||| ri)) (a e)) j9)))) := by rw [h137]; exact va_up_self _ _ _
                have hb147 : ∀ j9, (offN (offN x xn ((sumP (u 1) e) + b) ((a e) + (p 1))) xn ((sumP (u 1) e) + (b ||| ri)) (a e)) j9 ≤ 1000000 := offN_le hb119
                refine j_iinc (q := 9) (v := nI (b + 1)) (lv' := [(8, .int (nI (b + 1))), (9, .int (nI (a e))), (0, .ref fo), (1, .int (nI e)), (2, .int (nI no)), (3, .ref nm), (4, .int (nI (sumP (u 1) e))), (5, .int (nI (2 ^ u 1 e - 1))), (6, .int (nI ri)), (7, .int (zb orn))]) dX0_takeNote_182 rfl (by first | exact nI_1 _ | exact nI_add _ _) (Nat.le_of_ble_eq_true rfl) rfl ?_
                refine j_goto 65 dX0_takeNote_185 (by decide) ?_
                refine j_lv (lv' := [(0, .ref fo), (1, .int (nI e)), (2, .int (nI no)), (3, .ref nm), (4, .int (nI (sumP (u 1) e))), (5, .int (nI (2 ^ u 1 e - 1))), (6, .int (nI ri)), (7, .int (zb orn)), (8, .int (nI (b + 1)))]) [2, 3, 4, 5, 6, 7, 8, 9, 0] rfl ?_
                have hS9 : tnS x xn (sumP (u 1) e) (2 ^ u 1 e - 1) ri orn (tnC d (sumP (u 1) e) (a e) b) (p 1) (p 0) b = offN (offN x xn ((sumP (u 1) e) + b) ((a e) + (p 1))) xn ((sumP (u 1) e) + (b ||| ri)) (a e) := by
                  simp only [tnC]; rw [if_pos c74]; unfold tnS; rw [if_pos ⟨c152, Or.inr c165⟩, if_pos c121]
                exact ih (b + 1) _ _ (by omega) (by omega) hb147 (by rw [← hr, tnF_step (show b < 2 ^ u 1 e by omega), hS9]) (by rw [h137, h109, hwl]; simp only [bx_uu])
        · skip
          have hor1 : b ||| (b + 1) < 2 ^ u 1 e := or_lt4 (by omega) (by omega)
          refine j_iload dX0_takeNote_124 9 rfl ?_
          refine j_iload dX0_takeNote_126 9 rfl ?_
          refine j_iconst (v := nI 1) dX0_takeNote_128 (by decide) ?_
          refine j_iaddN dX0_takeNote_129 ?_
          refine j_ior dX0_takeNote_130 ?_
          refine j_eqi (y := nI (b ||| (b + 1))) (fa_or _ _) ?_
          refine j_istore (lv' := [(10, .int (nI (b ||| (b + 1)))), (9, .int (nI (a e))), (0, .ref fo), (1, .int (nI e)), (2, .int (nI no)), (3, .ref nm), (4, .int (nI (sumP (u 1) e))), (5, .int (nI (2 ^ u 1 e - 1))), (6, .int (nI ri)), (7, .int (zb orn)), (8, .int (nI b))]) dX0_takeNote_131 (Nat.le_of_ble_eq_true rfl) rfl ?_
          refine j_aload_n dX0_takeNote_133 5 rfl ?_
          refine j_iload dX0_takeNote_134 6 rfl ?_
          refine j_iload dX0_takeNote_136 0 rfl ?_
          refine j_iaddN dX0_takeNote_138 ?_
          refine j_iload dX0_takeNote_139 1 rfl ?_
          refine j_aload_n dX0_takeNote_141 2 rfl ?_
          refine j_iconst (v := nI 0) dX0_takeNote_142 (by decide) ?_
          refine j_callV (rm := rX0_priceOf) (As := [.int (nI 0)]) (st := [.int (nI (a e)), .int (nI ((sumP (u 1) e) + (b ||| (b + 1)))), .ref nm]) (b0 := fo) (ci := 0) (na := 1) (c_priceOf (x := 0) f110 f113 hpb (by omega)) (by intro E w9 h9; first | exact nomatch h9.1 | (obtain ⟨_, h9, _⟩ := h9; exact nomatch h9) | (obtain ⟨_, _, _, h9, _⟩ := h9; exact nomatch h9)) gX0_takeNote_X0_priceOf rfl rfl f110 (by decide +kernel) rfl ⟨Nat.le_of_ble_eq_true rfl, Nat.le_of_ble_eq_true rfl⟩ rfl (Nat.le_of_ble_eq_true rfl) dX0_takeNote_143 ⟨(show 0 + 0 ≤ 0 by omega), (show 0 + 0 ≤ 0 by omega)⟩ (fun v148 w149 h150 => ?_)
          obtain ⟨h150, h151⟩ := h150
          cases h150
          subst w149
          refine j_after (st' := [.int (nI (p 0)), .int (nI (a e)), .int (nI ((sumP (u 1) e) + (b ||| (b + 1)))), .ref nm]) (k' := 0) (n' := 0) rfl rfl rfl ?_
          have hb152 := hpb 0
          refine j_iaddN dX0_takeNote_146 ?_
          refine j_callV (rm := rX1_offer) (As := [.int (nI ((sumP (u 1) e) + (b ||| (b + 1)))), .int (nI ((a e) + (p 0)))]) (st := []) (b0 := nm) (ci := 1) (na := 2) (c_offer (s := ((sumP (u 1) e) + (b ||| (b + 1)))) (c := ((a e) + (p 0))) f117 f118 (by omega) (by omega) (by omega) (fun j => Nat.lt_of_le_of_lt (hb119 j) (by decide))) (by intro E w9 h9; first | exact nomatch h9.1 | (obtain ⟨_, h9, _⟩ := h9; exact nomatch h9) | (obtain ⟨_, _, _, h9, _⟩ := h9; exact nomatch h9)) gX0_takeNote_X1_offer rfl rfl f117 (by decide +kernel) rfl ⟨Nat.le_of_ble_eq_true rfl, Nat.le_of_ble_eq_true rfl⟩ rfl (Nat.le_of_ble_eq_true rfl) dX0_takeNote_147 ⟨(show 0 + 0 ≤ 0 by omega), (show 0 + 0 ≤ 0 by omega)⟩ (fun v153 w154 h155 => ?_)
          obtain ⟨h155, h156⟩ := h155
          cases h155
          -- w154
          refine j_after (st' := []) (k' := 0) (n' := 0) rfl rfl rfl ?_
          have f157 : w154 fo = some (.inr (0, [.ref sc, .ref pr, .ref ar, .ref de, .ref ms, .ref mn, .int (nI nt)])) := by rw [h156]; exact (va_up_ne _ _ (fk f110 f118 rfl)).trans (f110)
          have f158 : w154 sc = some (.inr (3, [.ref fa, .int (nI ev), .int (nI be), .int (nI cu), .int (nI st), .int (nI me), .int (nI pa)])) := by rw [h156]; exact (va_up_ne _ _ (fk f111 f118 rfl)).trans (f111)
          have f159 : w154 fa = some (.inl (0, 1400, .inl f)) := by rw [h156]; exact (va_up_ne _ _ (nd_ne hN 0 4 rfl rfl rfl)).trans (f112)
          have f160 : w154 pr = some (.inl (0, 4, .inl (fun j9 => nI (p j9)))) := by rw [h156]; exact (va_up_ne _ _ (nd_ne hN 1 4 rfl rfl rfl)).trans (f113)
          have f161 : w154 ar = some (.inl (0, 100, .inl (fun j9 => nI (a j9)))) := by rw [h156]; exact (va_up_ne _ _ (nd_ne hN 2 4 rfl rfl rfl)).trans (f114)
          have f162 : w154 mn = some (.inr (1, [va_rf bf, va_rf nx, .ref cm, .int (nI cl), .int (nI pe), .int (nI pb), .int (nI pc), .int (nI an), va_rf av, va_rf ah])) := by rw [h156]; exact (va_up_ne _ _ (fk f115 f118 rfl)).trans (f115)
          have f163 : w154 cm = some (.inl (0, cn, .inl (fun j9 => nI (d j9)))) := by rw [h156]; exact (va_up_ne _ _ (nd_ne hN 3 4 rfl rfl rfl)).trans (f116)
          have f164 : w154 nm = some (.inr (1, [va_rf bf2, va_rf nx2, .ref cx, .int (nI cl2), .int (nI pe2), .int (nI pb2), .int (nI pc2), .int (nI an2), va_rf av2, va_rf ah2])) := by rw [h156]; exact (va_up_ne _ _ (fk f117 f118 rfl)).trans (f117)
          have f165 : w154 cx = some (.inl (0, xn, .inl (fun j9 => nI ((offN (offN x xn ((sumP (u 1) e) + b) ((a e) + (p 1))) xn ((sumP (u 1) e) + (b ||| (b + 1))) ((a e) + (p 0))) j9)))) := by rw [h156]; exact va_up_self _ _ _
          have hb166 : ∀ j9, (offN (offN x xn ((sumP (u 1) e) + b) ((a e) + (p 1))) xn ((sumP (u 1) e) + (b ||| (b + 1))) ((a e) + (p 0))) j9 ≤ 1000000 := offN_le hb119
          refine j_iload dX0_takeNote_150 8 rfl ?_
          refine j_if_eqN 182 (by omega) dX0_takeNote_152 (by decide) (fun c152 => ?_) (fun c152 => ?_)
          · skip
            refine j_iinc (q := 10) (v := nI (b + 1)) (lv' := [(8, .int (nI (b + 1))), (10, .int (nI (b ||| (b + 1)))), (9, .int (nI (a e))), (0, .ref fo), (1, .int (nI e)), (2, .int (nI no)), (3, .ref nm), (4, .int (nI (sumP (u 1) e))), (5, .int (nI (2 ^ u 1 e - 1))), (6, .int (nI ri)), (7, .int (zb orn))]) dX0_takeNote_182 rfl (by first | exact nI_1 _ | exact nI_add _ _) (Nat.le_of_ble_eq_true rfl) rfl ?_
            refine j_goto 65 dX0_takeNote_185 (by decide) ?_
            refine j_lv (lv' := [(0, .ref fo), (1, .int (nI e)), (2, .int (nI no)), (3, .ref nm), (4, .int (nI (sumP (u 1) e))), (5, .int (nI (2 ^ u 1 e - 1))), (6, .int (nI ri)), (7, .int (zb orn)), (8, .int (nI (b + 1)))]) [3, 4, 5, 6, 7, 8, 9, 10, 0] rfl ?_
            have hS9 : tnS x xn (sumP (u 1) e) (2 ^ u 1 e - 1) ri orn (tnC d (sumP (u 1) e) (a e) b) (p 1) (p 0) b = offN (offN x xn ((sumP (u 1) e) + b) ((a e) + (p 1))) xn ((sumP (u 1) e) + (b ||| (b + 1))) ((a e) + (p 0)) := by
              simp only [tnC]; rw [if_pos c74]; unfold tnS; rw [if_neg (fun h => h.1 c152), if_neg c121]
            exact ih (b + 1) _ _ (by omega) (by omega) hb166 (by rw [← hr, tnF_step (show b < 2 ^ u 1 e by omega), hS9]) (by rw [h156, h109, hwl]; simp only [bx_uu])
          · skip
            refine j_iload dX0_takeNote_155 9 rfl ?_
            refine j_if_ne 168 dX0_takeNote_157 (by decide) (fun c157 => ?_) (fun c157 => ?_)
            · skip
              have hor2 : b ||| ri < 2 ^ u 1 e := or_lt4 (by omega) hri
              refine j_aload_n dX0_takeNote_168 5 rfl ?_
              refine j_iload dX0_takeNote_169 6 rfl ?_
              refine j_iload dX0_takeNote_171 10 rfl ?_
              refine j_iload dX0_takeNote_173 8 rfl ?_
              refine j_ior dX0_takeNote_175 ?_
              refine j_eqi (y := nI (b ||| ri)) (fa_or _ _) ?_
              refine j_iaddN dX0_takeNote_176 ?_
              refine j_iload dX0_takeNote_177 1 rfl ?_
              refine j_callV (rm := rX1_offer) (As := [.int (nI ((sumP (u 1) e) + (b ||| ri))), .int (nI (a e))]) (st := []) (b0 := nm) (ci := 1) (na := 2) (c_offer (s := ((sumP (u 1) e) + (b ||| ri))) (c := (a e)) f164 f165 (by omega) (by omega) (by omega) (fun j => Nat.lt_of_le_of_lt (hb166 j) (by decide))) (by intro E w9 h9; first | exact nomatch h9.1 | (obtain ⟨_, h9, _⟩ := h9; exact nomatch h9) | (obtain ⟨_, _, _, h9, _⟩ := h9; exact nomatch h9)) gX0_takeNote_X1_offer rfl rfl f164 (by decide +kernel) rfl ⟨Nat.le_of_ble_eq_true rfl, Nat.le_of_ble_eq_true rfl⟩ rfl (Nat.le_of_ble_eq_true rfl) dX0_takeNote_179 ⟨(show 0 + 0 ≤ 0 by omega), (show 0 + 0 ≤ 0 by omega)⟩ (fun v167 w168 h169 => ?_)
              obtain ⟨h169, h170⟩ := h169
              cases h169
              -- w168
              refine j_after (st' := []) (k' := 0) (n' := 0) rfl rfl rfl ?_
              have f171 : w168 fo = some (.inr (0, [.ref sc, .ref pr, .ref ar, .ref de, .ref ms, .ref mn, .int (nI nt)])) := by rw [h170]; exact (va_up_ne _ _ (fk f157 f165 rfl)).trans (f157)
              have f172 : w168 sc = some (.inr (3, [.ref fa, .int (nI ev), .int (nI be), .int (nI cu), .int (nI st), .int (nI me), .int (nI pa)])) := by rw [h170]; exact (va_up_ne _ _ (fk f158 f165 rfl)).trans (f158)
              have f173 : w168 fa = some (.inl (0, 1400, .inl f)) := by rw [h170]; exact (va_up_ne _ _ (nd_ne hN 0 4 rfl rfl rfl)).trans (f159)
              have f174 : w168 pr = some (.inl (0, 4, .inl (fun j9 => nI (p j9)))) := by rw [h170]; exact (va_up_ne _ _ (nd_ne hN 1 4 rfl rfl rfl)).trans (f160)
              have f175 : w168 ar = some (.inl (0, 100, .inl (fun j9 => nI (a j9)))) := by rw [h170]; exact (va_up_ne _ _ (nd_ne hN 2 4 rfl rfl rfl)).trans (f161)
              have f176 : w168 mn = some (.inr (1, [va_rf bf, va_rf nx, .ref cm, .int (nI cl), .int (nI pe), .int (nI pb), .int (nI pc), .int (nI an), va_rf av, va_rf ah])) := by rw [h170]; exact (va_up_ne _ _ (fk f162 f165 rfl)).trans (f162)
              have f177 : w168 cm = some (.inl (0, cn, .inl (fun j9 => nI (d j9)))) := by rw [h170]; exact (va_up_ne _ _ (nd_ne hN 3 4 rfl rfl rfl)).trans (f163)
              have f178 : w168 nm = some (.inr (1, [va_rf bf2, va_rf nx2, .ref cx, .int (nI cl2), .int (nI pe2), .int (nI pb2), .int (nI pc2), .int (nI an2), va_rf av2, va_rf ah2])) := by rw [h170]; exact (va_up_ne _ _ (fk f164 f165 rfl)).trans (f164)
              have f179 : w168 cx = some (.inl (0, xn, .inl (fun j9 => nI ((offN (offN (offN x xn ((sumP (u 1) e) + b) ((a e) + (p 1))) xn ((sumP (u 1) e) + (b ||| (b + 1))) ((a e) + (p 0))) xn ((sumP (u 1) e) + (b ||| ri)) (a e)) j9)))) := by rw [h170]; exact va_up_self _ _ _
              have hb180 : ∀ j9, (offN (offN (offN x xn ((sumP (u 1) e) + b) ((a e) + (p 1))) xn ((sumP (u 1) e) + (b ||| (b + 1))) ((a e) + (p 0))) xn ((sumP (u 1) e) + (b ||| ri)) (a e)) j9 ≤ 1000000 := offN_le hb166
              refine j_iinc (q := 10) (v := nI (b + 1)) (lv' := [(8, .int (nI (b + 1))), (10, .int (nI (b ||| (b + 1)))), (9, .int (nI (a e))), (0, .ref fo), (1, .int (nI e)), (2, .int (nI no)), (3, .ref nm), (4, .int (nI (sumP (u 1) e))), (5, .int (nI (2 ^ u 1 e - 1))), (6, .int (nI ri)), (7, .int (zb orn))]) dX0_takeNote_182 rfl (by first | exact nI_1 _ | exact nI_add _ _) (Nat.le_of_ble_eq_true rfl) rfl ?_
              refine j_goto 65 dX0_takeNote_185 (by decide) ?_
              refine j_lv (lv' := [(0, .ref fo), (1, .int (nI e)), (2, .int (nI no)), (3, .ref nm), (4, .int (nI (sumP (u 1) e))), (5, .int (nI (2 ^ u 1 e - 1))), (6, .int (nI ri)), (7, .int (zb orn)), (8, .int (nI (b + 1)))]) [3, 4, 5, 6, 7, 8, 9, 10, 0] rfl ?_
              have hS9 : tnS x xn (sumP (u 1) e) (2 ^ u 1 e - 1) ri orn (tnC d (sumP (u 1) e) (a e) b) (p 1) (p 0) b = offN (offN (offN x xn ((sumP (u 1) e) + b) ((a e) + (p 1))) xn ((sumP (u 1) e) + (b ||| (b + 1))) ((a e) + (p 0))) xn ((sumP (u 1) e) + (b ||| ri)) (a e) := by
                simp only [tnC]; rw [if_pos c74]; unfold tnS; rw [if_pos ⟨c152, Or.inl (zb_n c157)⟩, if_neg c121]
              exact ih (b + 1) _ _ (by omega) (by omega) hb180 (by rw [← hr, tnF_step (show b < 2 ^ u 1 e by omega), hS9]) (by rw [h170, h156, h109, hwl]; simp only [bx_uu])
            · skip
              refine j_iload dX0_takeNote_160 10 rfl ?_
              refine j_iload dX0_takeNote_162 8 rfl ?_
              have hand : b &&& ri ≤ b := Nat.and_le_left
              refine j_iand dX0_takeNote_164 ?_
              refine j_eqi (y := nI (b &&& ri)) (fa_and _ _) ?_
              refine j_if_neN 182 (by omega) dX0_takeNote_165 (by decide) (fun c165 => ?_) (fun c165 => ?_)
              · skip
                refine j_iinc (q := 10) (v := nI (b + 1)) (lv' := [(8, .int (nI (b + 1))), (10, .int (nI (b ||| (b + 1)))), (9, .int (nI (a e))), (0, .ref fo), (1, .int (nI e)), (2, .int (nI no)), (3, .ref nm), (4, .int (nI (sumP (u 1) e))), (5, .int (nI (2 ^ u 1 e - 1))), (6, .int (nI ri)), (7, .int (zb orn))]) dX0_takeNote_182 rfl (by first | exact nI_1 _ | exact nI_add _ _) (Nat.le_of_ble_eq_true rfl) rfl ?_
                refine j_goto 65 dX0_takeNote_185 (by decide) ?_
                refine j_lv (lv' := [(0, .ref fo), (1, .int (nI e)), (2, .int (nI no)), (3, .ref nm), (4, .int (nI (sumP (u 1) e))), (5, .int (nI (2 ^ u 1 e - 1))), (6, .int (nI ri)), (7, .int (zb orn)), (8, .int (nI (b + 1)))]) [3, 4, 5, 6, 7, 8, 9, 10, 0] rfl ?_
                have hS9 : tnS x xn (sumP (u 1) e) (2 ^ u 1 e - 1) ri orn (tnC d (sumP (u 1) e) (a e) b) (p 1) (p 0) b = offN (offN x xn ((sumP (u 1) e) + b) ((a e) + (p 1))) xn ((sumP (u 1) e) + (b ||| (b + 1))) ((a e) + (p 0)) := by
                  simp only [tnC]; rw [if_pos c74]; unfold tnS; rw [if_neg (fun h => h.2.elim (fun q => by rw [zb_0 c157] at q; cases q) c165), if_neg c121]
                exact ih (b + 1) _ _ (by omega) (by omega) hb166 (by rw [← hr, tnF_step (show b < 2 ^ u 1 e by omega), hS9]) (by rw [h156, h109, hwl]; simp only [bx_uu])
              · skip
                have hor2 : b ||| ri < 2 ^ u 1 e := or_lt4 (by omega) hri
                refine j_aload_n dX0_takeNote_168 5 rfl ?_
                refine j_iload dX0_takeNote_169 6 rfl ?_
                refine j_iload dX0_takeNote_171 10 rfl ?_
                refine j_iload dX0_takeNote_173 8 rfl ?_
                refine j_ior dX0_takeNote_175 ?_
                refine j_eqi (y := nI (b ||| ri)) (fa_or _ _) ?_
                refine j_iaddN dX0_takeNote_176 ?_
                refine j_iload dX0_takeNote_177 1 rfl ?_
                refine j_callV (rm := rX1_offer) (As := [.int (nI ((sumP (u 1) e) + (b ||| ri))), .int (nI (a e))]) (st := []) (b0 := nm) (ci := 1) (na := 2) (c_offer (s := ((sumP (u 1) e) + (b ||| ri))) (c := (a e)) f164 f165 (by omega) (by omega) (by omega) (fun j => Nat.lt_of_le_of_lt (hb166 j) (by decide))) (by intro E w9 h9; first | exact nomatch h9.1 | (obtain ⟨_, h9, _⟩ := h9; exact nomatch h9) | (obtain ⟨_, _, _, h9, _⟩ := h9; exact nomatch h9)) gX0_takeNote_X1_offer rfl rfl f164 (by decide +kernel) rfl ⟨Nat.le_of_ble_eq_true rfl, Nat.le_of_ble_eq_true rfl⟩ rfl (Nat.le_of_ble_eq_true rfl) dX0_takeNote_179 ⟨(show 0 + 0 ≤ 0 by omega), (show 0 + 0 ≤ 0 by omega)⟩ (fun v181 w182 h183 => ?_)
                obtain ⟨h183, h184⟩ := h183
                cases h183
                -- w182
                refine j_after (st' := []) (k' := 0) (n' := 0) rfl rfl rfl ?_
                have f185 : w182 fo = some (.inr (0, [.ref sc, .ref pr, .ref ar, .ref de, .ref ms, .ref mn, .int (nI nt)])) := by rw [h184]; exact (va_up_ne _ _ (fk f157 f165 rfl)).trans (f157)
                have f186 : w182 sc = some (.inr (3, [.ref fa, .int (nI ev), .int (nI be), .int (nI cu), .int (nI st), .int (nI me), .int (nI pa)])) := by rw [h184]; exact (va_up_ne _ _ (fk f158 f165 rfl)).trans (f158)
                have f187 : w182 fa = some (.inl (0, 1400, .inl f)) := by rw [h184]; exact (va_up_ne _ _ (nd_ne hN 0 4 rfl rfl rfl)).trans (f159)
                have f188 : w182 pr = some (.inl (0, 4, .inl (fun j9 => nI (p j9)))) := by rw [h184]; exact (va_up_ne _ _ (nd_ne hN 1 4 rfl rfl rfl)).trans (f160)
                have f189 : w182 ar = some (.inl (0, 100, .inl (fun j9 => nI (a j9)))) := by rw [h184]; exact (va_up_ne _ _ (nd_ne hN 2 4 rfl rfl rfl)).trans (f161)
                have f190 : w182 mn = some (.inr (1, [va_rf bf, va_rf nx, .ref cm, .int (nI cl), .int (nI pe), .int (nI pb), .int (nI pc), .int (nI an), va_rf av, va_rf ah])) := by rw [h184]; exact (va_up_ne _ _ (fk f162 f165 rfl)).trans (f162)
                have f191 : w182 cm = some (.inl (0, cn, .inl (fun j9 => nI (d j9)))) := by rw [h184]; exact (va_up_ne _ _ (nd_ne hN 3 4 rfl rfl rfl)).trans (f163)
                have f192 : w182 nm = some (.inr (1, [va_rf bf2, va_rf nx2, .ref cx, .int (nI cl2), .int (nI pe2), .int (nI pb2), .int (nI pc2), .int (nI an2), va_rf av2, va_rf ah2])) := by rw [h184]; exact (va_up_ne _ _ (fk f164 f165 rfl)).trans (f164)
                have f193 : w182 cx = some (.inl (0, xn, .inl (fun j9 => nI ((offN (offN (offN x xn ((sumP (u 1) e) + b) ((a e) + (p 1))) xn ((sumP (u 1) e) + (b ||| (b + 1))) ((a e) + (p 0))) xn ((sumP (u 1) e) + (b ||| ri)) (a e)) j9)))) := by rw [h184]; exact va_up_self _ _ _
                have hb194 : ∀ j9, (offN (offN (offN x xn ((sumP (u 1) e) + b) ((a e) + (p 1))) xn ((sumP (u 1) e) + (b ||| (b + 1))) ((a e) + (p 0))) xn ((sumP (u 1) e) + (b ||| ri)) (a e)) j9 ≤ 1000000 := offN_le hb166
                refine j_iinc (q := 10) (v := nI (b + 1)) (lv' := [(8, .int (nI (b + 1))), (10, .int (nI (b ||| (b + 1)))), (9, .int (nI (a e))), (0, .ref fo), (1, .int (nI e)), (2, .int (nI no)), (3, .ref nm), (4, .int (nI (sumP (u 1) e))), (5, .int (nI (2 ^ u 1 e - 1))), (6, .int (nI ri)), (7, .int (zb orn))]) dX0_takeNote_182 rfl (by first | exact nI_1 _ | exact nI_add _ _) (Nat.le_of_ble_eq_true rfl) rfl ?_
                refine j_goto 65 dX0_takeNote_185 (by decide) ?_
                refine j_lv (lv' := [(0, .ref fo), (1, .int (nI e)), (2, .int (nI no)), (3, .ref nm), (4, .int (nI (sumP (u 1) e))), (5, .int (nI (2 ^ u 1 e - 1))), (6, .int (nI ri)), (7, .int (zb orn)), (8, .int (nI (b + 1)))]) [3, 4, 5, 6, 7, 8, 9, 10, 0] rfl ?_
                have hS9 : tnS x xn (sumP (u 1) e) (2 ^ u 1 e - 1) ri orn (tnC d (sumP (u 1) e) (a e) b) (p 1) (p 0) b = offN (offN (offN x xn ((sumP (u 1) e) + b) ((a e) + (p 1))) xn ((sumP (u 1) e) + (b ||| (b + 1))) ((a e) + (p 0))) xn ((sumP (u 1) e) + (b ||| ri)) (a e) := by
                  simp only [tnC]; rw [if_pos c74]; unfold tnS; rw [if_pos ⟨c152, Or.inr c165⟩, if_neg c121]
                exact ih (b + 1) _ _ (by omega) (by omega) hb194 (by rw [← hr, tnF_step (show b < 2 ^ u 1 e by omega), hS9]) (by rw [h184, h156, h109, hwl]; simp only [bx_uu])
theorem flX0_takeNote_33 : FL wsX0_takeNote RX0 33 0 0 := ⟨RX0, TX0, 7, rfl, by decide, by decide +kernel, by decide +kernel⟩
set_option maxHeartbeats 4000000 in
set_option maxRecDepth 100000 in
theorem c_takeNote {w : pW} {fo sc pr ar de ms mn nt : Nat} {fa ev be cu st me pa : Nat} {f : Nat → Int32} {u : Nat → Nat → Nat} {bh : Nat → Option Nat} {p : Nat → Nat} {a : Nat → Nat} {dd : Nat → Nat} {cm : Nat} {bf nx av ah : Option Nat} {cl pe pb pc an : Nat} {cn : Nat} {d : Nat → Nat} {nm cx : Nat} {bf2 nx2 av2 ah2 : Option Nat} {cl2 pe2 pb2 pc2 an2 : Nat} {xn : Nat} {x : Nat → Nat} (hfo : w fo = some (.inr (0, [.ref sc, .ref pr, .ref ar, .ref de, .ref ms, .ref mn, .int (nI nt)]))) (hs : w sc = some (.inr (3, [.ref fa, .int (nI ev), .int (nI be), .int (nI cu), .int (nI st), .int (nI me), .int (nI pa)]))) (hf : w fa = some (.inl (0, 1400, .inl f))) (hp : w pr = some (.inl (0, 4, .inl (fun j9 => nI (p j9))))) (ha : w ar = some (.inl (0, 100, .inl (fun j9 => nI (a j9))))) (hde : w de = some (.inl (0, 100, .inl (fun j9 => nI (dd j9))))) (hm : w mn = some (.inr (1, [va_rf bf, va_rf nx, .ref cm, .int (nI cl), .int (nI pe), .int (nI pb), .int (nI pc), .int (nI an), va_rf av, va_rf ah]))) (hc : w cm = some (.inl (0, cn, .inl (fun j9 => nI (d j9))))) (hnm : w nm = some (.inr (1, [va_rf bf2, va_rf nx2, .ref cx, .int (nI cl2), .int (nI pe2), .int (nI pb2), .int (nI pc2), .int (nI an2), va_rf av2, va_rf ah2]))) (hcx : w cx = some (.inl (0, xn, .inl (fun j9 => nI (x j9))))) (hM : Mus f ev st u bh) (hpb : ∀ j, p j ≤ 50) (hab : ∀ j, a j ≤ 1000000) (hdb : ∀ j, dd j ≤ 1000000) (hst : st ≤ cn) (hcn : cn ≤ 100000) (hdd : ∀ j, d j ≤ 1000000) (hsx : st ≤ xn) (hxn : xn ≤ 100000) (hxb : ∀ j, x j ≤ 1000000) (hN : va_nd [fa, pr, ar, de, cm, cx] = true) {e no : Nat} (he : e < ev) (hno : no < 128) : Ct yX0_takeNote wsX0_takeNote rX0_takeNote [.ref fo, .int (nI e), .int (nI no), .ref nm] w (fun o w9 => o = .inl none ∧ w9 = va_up w cx (some (.inl (0, xn, .inl (fun j9 => nI ((tnF d xn (sumP (u 1) e) (a e) (2 ^ u 1 e - 1) (riB f e no (u 0 e) (u 1 e)) (decide (u 0 e = 2)) (p 1) (p 0) (2 ^ u 1 e) 0 x) j9)))))) := by
  refine Ct.of (cc := cX0_takeNote) (own := RX0) (nm := "takeNote") (nL := 11) (ret := none) (by decide +kernel) rfl rfl rfl (Nat.le_of_ble_eq_true rfl) ?_
  refine j_lvE (lv' := [(0, .ref fo), (1, .int (nI e)), (2, .int (nI no)), (3, .ref nm)]) rfl ?_
  have hev := hM.hev
  have hst0 := hM.hst
  have hrg := hM.rg (e := e) he
  have hbd := hM.bd (e := e) he
  refine j_aload_n dX0_takeNote_0 0 rfl ?_
  refine j_iload_n dX0_takeNote_1 1 rfl ?_
  refine j_callV (rm := rX0_hasRow) (As := [.int (nI e)]) (st := []) (b0 := fo) (ci := 0) (na := 1) (c_hasRow1 (x := e) hfo ha hde (by omega)) (by intro E w9 h9; first | exact nomatch h9.1 | (obtain ⟨_, h9, _⟩ := h9; exact nomatch h9) | (obtain ⟨_, _, _, h9, _⟩ := h9; exact nomatch h9)) gX0_takeNote_X0_hasRow rfl rfl hfo (by decide +kernel) rfl ⟨Nat.le_of_ble_eq_true rfl, Nat.le_of_ble_eq_true rfl⟩ rfl (Nat.le_of_ble_eq_true rfl) dX0_takeNote_2 ⟨(show 0 + 0 ≤ 0 by omega), (show 0 + 0 ≤ 0 by omega)⟩ (fun v1 w2 h3 => ?_)
  obtain ⟨h3, h4⟩ := h3
  cases h3
  subst w2
  refine j_after (st' := [.int (nI 1)]) (k' := 0) (n' := 0) rfl rfl rfl ?_
  refine j_if_neN 9 (by decide) dX0_takeNote_5 (by decide) (fun _ => ?_) (fun h9 => absurd h9 (by decide))
  refine j_aload_n dX0_takeNote_9 0 rfl ?_
  refine j_get flX0_takeNote_33 hfo rfl dX0_takeNote_10 ?_
  refine j_iload_n dX0_takeNote_13 1 rfl ?_
  refine j_bipush (v := nI 13) dX0_takeNote_14 (by decide) ?_
  have hrg5 := Mus.rg (e := e) hM (by omega)
  have hbd6 := Mus.bd (e := e) hM (by omega)
  refine j_callV (rm := rX3_fact) (As := [.int (nI e), .int (nI 13)]) (st := []) (b0 := sc) (ci := 3) (na := 2) (c_fact (e := e) (c := 13) hs hf (by omega) (by omega)) (by intro E w9 h9; first | exact nomatch h9.1 | (obtain ⟨_, h9, _⟩ := h9; exact nomatch h9) | (obtain ⟨_, _, _, h9, _⟩ := h9; exact nomatch h9)) gX0_takeNote_X3_fact rfl rfl hs (by decide +kernel) rfl ⟨Nat.le_of_ble_eq_true rfl, Nat.le_of_ble_eq_true rfl⟩ rfl (Nat.le_of_ble_eq_true rfl) dX0_takeNote_16 ⟨(show 0 + 0 ≤ 0 by omega), (show 0 + 0 ≤ 0 by omega)⟩ (fun v7 w8 h9 => ?_)
  obtain ⟨h9, h10⟩ := h9
  cases h9
  subst w8
  refine j_after (st' := [.int (f (e * 14 + 13))]) (k' := 0) (n' := 0) rfl rfl rfl ?_
  refine j_eqi (y := nI (sumP (u 1) e)) (Mus.c13 hM (by omega)) ?_
  refine j_istore (lv' := [(4, .int (nI (sumP (u 1) e))), (0, .ref fo), (1, .int (nI e)), (2, .int (nI no)), (3, .ref nm)]) dX0_takeNote_19 (Nat.le_of_ble_eq_true rfl) rfl ?_
  refine j_aload_n dX0_takeNote_21 1 rfl ?_
  refine j_get flX0_takeNote_33 hfo rfl dX0_takeNote_22 ?_
  refine j_iload_n dX0_takeNote_25 2 rfl ?_
  refine j_callV (rm := rX3_allBits) (As := [.int (nI e)]) (st := []) (b0 := sc) (ci := 3) (na := 1) (c_allBits (e := e) (np := (u 1 e)) hs hf (by omega) (Mus.bd (e := e) hM (by omega)).2.1 (Mus.c1 hM (by omega))) (by intro E w9 h9; first | exact nomatch h9.1 | (obtain ⟨_, h9, _⟩ := h9; exact nomatch h9) | (obtain ⟨_, _, _, h9, _⟩ := h9; exact nomatch h9)) gX0_takeNote_X3_allBits rfl rfl hs (by decide +kernel) rfl ⟨Nat.le_of_ble_eq_true rfl, Nat.le_of_ble_eq_true rfl⟩ rfl (Nat.le_of_ble_eq_true rfl) dX0_takeNote_26 ⟨(show 0 + 0 ≤ 0 by omega), (show 0 + 0 ≤ 0 by omega)⟩ (fun v11 w12 h13 => ?_)
  obtain ⟨h13, h14⟩ := h13
  cases h13
  subst w12
  refine j_after (st' := [.int (nI (2 ^ (u 1 e) - 1))]) (k' := 0) (n' := 0) rfl rfl rfl ?_
  refine j_istore (lv' := [(5, .int (nI (2 ^ (u 1 e) - 1))), (4, .int (nI (sumP (u 1) e))), (0, .ref fo), (1, .int (nI e)), (2, .int (nI no)), (3, .ref nm)]) dX0_takeNote_29 (Nat.le_of_ble_eq_true rfl) rfl ?_
  refine j_aload_n dX0_takeNote_31 2 rfl ?_
  refine j_get flX0_takeNote_33 hfo rfl dX0_takeNote_32 ?_
  refine j_iload_n dX0_takeNote_35 3 rfl ?_
  refine j_iload_n dX0_takeNote_36 4 rfl ?_
  refine j_callV (rm := rX3_rightBit) (As := [.int (nI e), .int (nI no)]) (st := []) (b0 := sc) (ci := 3) (na := 2) (c_rightBit (e := e) (no := no) (kd := (u 0 e)) (np := (u 1 e)) hs hf (by omega) (by have := Mus.bd (e := e) hM (by omega); omega) (Mus.c0 hM (by omega)) (Mus.bd (e := e) hM (by omega)).2.1 (Mus.c1 hM (by omega))) (by intro E w9 h9; first | exact nomatch h9.1 | (obtain ⟨_, h9, _⟩ := h9; exact nomatch h9) | (obtain ⟨_, _, _, h9, _⟩ := h9; exact nomatch h9)) gX0_takeNote_X3_rightBit rfl rfl hs (by decide +kernel) rfl ⟨Nat.le_of_ble_eq_true rfl, Nat.le_of_ble_eq_true rfl⟩ rfl (Nat.le_of_ble_eq_true rfl) dX0_takeNote_37 ⟨(show 0 + 0 ≤ 0 by omega), (show 0 + 0 ≤ 0 by omega)⟩ (fun v15 w16 h17 => ?_)
  obtain ⟨h17, h18⟩ := h17
  cases h17
  subst w16
  refine j_after (st' := [.int (nI (riB f e no (u 0 e) (u 1 e)))]) (k' := 0) (n' := 0) rfl rfl rfl ?_
  have hri9 : riB f e no (u 0 e) (u 1 e) < 2 ^ u 1 e := riB_lt
  refine j_istore (lv' := [(6, .int (nI (riB f e no (u 0 e) (u 1 e)))), (5, .int (nI (2 ^ (u 1 e) - 1))), (4, .int (nI (sumP (u 1) e))), (0, .ref fo), (1, .int (nI e)), (2, .int (nI no)), (3, .ref nm)]) dX0_takeNote_40 (Nat.le_of_ble_eq_true rfl) rfl ?_
  refine j_aload_n dX0_takeNote_42 3 rfl ?_
  refine j_get flX0_takeNote_33 hfo rfl dX0_takeNote_43 ?_
  refine j_iload_n dX0_takeNote_46 4 rfl ?_
  refine j_iconst (v := nI 0) dX0_takeNote_47 (by decide) ?_
  refine j_callV (rm := rX3_fact) (As := [.int (nI e), .int (nI 0)]) (st := []) (b0 := sc) (ci := 3) (na := 2) (c_fact (e := e) (c := 0) hs hf (by omega) (by omega)) (by intro E w9 h9; first | exact nomatch h9.1 | (obtain ⟨_, h9, _⟩ := h9; exact nomatch h9) | (obtain ⟨_, _, _, h9, _⟩ := h9; exact nomatch h9)) gX0_takeNote_X3_fact rfl rfl hs (by decide +kernel) rfl ⟨Nat.le_of_ble_eq_true rfl, Nat.le_of_ble_eq_true rfl⟩ rfl (Nat.le_of_ble_eq_true rfl) dX0_takeNote_48 ⟨(show 0 + 0 ≤ 0 by omega), (show 0 + 0 ≤ 0 by omega)⟩ (fun v19 w20 h21 => ?_)
  obtain ⟨h21, h22⟩ := h21
  cases h21
  subst w20
  refine j_after (st' := [.int (f (e * 14 + 0))]) (k' := 0) (n' := 0) rfl rfl rfl ?_
  refine j_eqi (y := nI (u 0 e)) (Mus.c0 hM (by omega)) ?_
  refine j_iconst (v := nI 2) dX0_takeNote_51 (by decide) ?_
  refine j_icmp_neN 59 (by omega) (by omega) dX0_takeNote_52 (by decide) (fun c52 => ?_) (fun c52 => ?_)
  · skip
    refine j_iconst (v := nI 0) dX0_takeNote_59 (by decide) ?_
    refine j_istore (lv' := [(7, .int (nI 0)), (6, .int (nI (riB f e no (u 0 e) (u 1 e)))), (5, .int (nI (2 ^ (u 1 e) - 1))), (4, .int (nI (sumP (u 1) e))), (0, .ref fo), (1, .int (nI e)), (2, .int (nI no)), (3, .ref nm)]) dX0_takeNote_60 (Nat.le_of_ble_eq_true rfl) rfl ?_
    refine j_iconst (v := nI 0) dX0_takeNote_62 (by decide) ?_
    refine j_istore (lv' := [(8, .int (nI 0)), (7, .int (nI 0)), (6, .int (nI (riB f e no (u 0 e) (u 1 e)))), (5, .int (nI (2 ^ (u 1 e) - 1))), (4, .int (nI (sumP (u 1) e))), (0, .ref fo), (1, .int (nI e)), (2, .int (nI no)), (3, .ref nm)]) dX0_takeNote_63 (Nat.le_of_ble_eq_true rfl) rfl ?_
    refine j_lv (lv' := [(0, .ref fo), (1, .int (nI e)), (2, .int (nI no)), (3, .ref nm), (4, .int (nI (sumP (u 1) e))), (5, .int (nI (2 ^ u 1 e - 1))), (6, .int (nI (riB f e no (u 0 e) (u 1 e)))), (7, .int (nI 0)), (8, .int (nI 0))]) [5, 6, 7, 8, 4, 3, 2, 1, 0] rfl ?_
    refine j_lvE (lv' := [(0, .ref fo), (1, .int (nI e)), (2, .int (nI no)), (3, .ref nm), (4, .int (nI (sumP (u 1) e))), (5, .int (nI (2 ^ u 1 e - 1))), (6, .int (nI (riB f e no (u 0 e) (u 1 e)))), (7, .int (zb false)), (8, .int (nI 0))]) rfl ?_
    refine J.post (fun o w9 h => ?_) (l_takeNote hfo hs hf hp ha hm hc hnm hM hpb hab hst hcn hdd hcx hsx hxn (nd_cx hN).1 he riB_lt (2 ^ u 1 e + 1) 0 x w (by omega) (by omega) hxb rfl (up_same hcx).symm)
    rw [show decide (u 0 e = 2) = false by simp [c52]]; exact h
  · skip
    refine j_iconst (v := nI 1) dX0_takeNote_55 (by decide) ?_
    refine j_goto 60 dX0_takeNote_56 (by decide) ?_
    refine j_istore (lv' := [(7, .int (nI 1)), (6, .int (nI (riB f e no (u 0 e) (u 1 e)))), (5, .int (nI (2 ^ (u 1 e) - 1))), (4, .int (nI (sumP (u 1) e))), (0, .ref fo), (1, .int (nI e)), (2, .int (nI no)), (3, .ref nm)]) dX0_takeNote_60 (Nat.le_of_ble_eq_true rfl) rfl ?_
    refine j_iconst (v := nI 0) dX0_takeNote_62 (by decide) ?_
    refine j_istore (lv' := [(8, .int (nI 0)), (7, .int (nI 1)), (6, .int (nI (riB f e no (u 0 e) (u 1 e)))), (5, .int (nI (2 ^ (u 1 e) - 1))), (4, .int (nI (sumP (u 1) e))), (0, .ref fo), (1, .int (nI e)), (2, .int (nI no)), (3, .ref nm)]) dX0_takeNote_63 (Nat.le_of_ble_eq_true rfl) rfl ?_
    refine j_lv (lv' := [(0, .ref fo), (1, .int (nI e)), (2, .int (nI no)), (3, .ref nm), (4, .int (nI (sumP (u 1) e))), (5, .int (nI (2 ^ u 1 e - 1))), (6, .int (nI (riB f e no (u 0 e) (u 1 e)))), (7, .int (nI 1)), (8, .int (nI 0))]) [5, 6, 7, 8, 4, 3, 2, 1, 0] rfl ?_
    refine j_lvE (lv' := [(0, .ref fo), (1, .int (nI e)), (2, .int (nI no)), (3, .ref nm), (4, .int (nI (sumP (u 1) e))), (5, .int (nI (2 ^ u 1 e - 1))), (6, .int (nI (riB f e no (u 0 e) (u 1 e)))), (7, .int (zb true)), (8, .int (nI 0))]) rfl ?_
    refine J.post (fun o w9 h => ?_) (l_takeNote hfo hs hf hp ha hm hc hnm hM hpb hab hst hcn hdd hcx hsx hxn (nd_cx hN).1 he riB_lt (2 ^ u 1 e + 1) 0 x w (by omega) (by omega) hxb rfl (up_same hcx).symm)
    rw [show decide (u 0 e = 2) = true by simp [c52]]; exact h
abbrev rX0_findPlace : Room := { frames := 2, cells := 0, slots := 0, locals := 44 }
theorem flX0_findPlace_51 : FL wsX0_findPlace RX0 51 1 6 := ⟨RX1, TX1, 10, rfl, by decide, by decide +kernel, by decide +kernel⟩
theorem fsX0_findPlace_51 : FS wsX0_findPlace RX0 51 1 6 false (.int) := ⟨RX1, TX1, 10, tyX1, rfl, by decide, by decide +kernel, by decide +kernel, tyX1_ok, nmX1, rfl, rfl, rfl⟩
theorem fsX0_findPlace_74 : FS wsX0_findPlace RX0 74 1 4 false (.int) := ⟨RX1, TX1, 10, tyX1, rfl, by decide, by decide +kernel, by decide +kernel, tyX1_ok, nmX1, rfl, rfl, rfl⟩
theorem fsX0_findPlace_77 : FS wsX0_findPlace RX0 77 1 5 false (.int) := ⟨RX1, TX1, 10, tyX1, rfl, by decide, by decide +kernel, by decide +kernel, tyX1_ok, nmX1, rfl, rfl, rfl⟩
set_option maxHeartbeats 4000000 in
set_option maxRecDepth 100000 in
theorem l_findPlace {w : pW} {fo sc pr ar de ms mn nt : Nat} {fa ev be cu st me pa : Nat} {f : Nat → Int32} {u : Nat → Nat → Nat} {bh : Nat → Option Nat} {nm cx : Nat} {bf2 nx2 av2 ah2 : Option Nat} {cl2 pe2 pb2 pc2 an2 : Nat} {xn : Nat} {x : Nat → Nat} (hfo : w fo = some (.inr (0, [.ref sc, .ref pr, .ref ar, .ref de, .ref ms, .ref mn, .int (nI nt)]))) (hs : w sc = some (.inr (3, [.ref fa, .int (nI ev), .int (nI be), .int (nI cu), .int (nI st), .int (nI me), .int (nI pa)]))) (hf : w fa = some (.inl (0, 1400, .inl f))) (hnm : w nm = some (.inr (1, [va_rf bf2, va_rf nx2, .ref cx, .int (nI cl2), .int (nI pe2), .int (nI pb2), .int (nI pc2), .int (nI an2), va_rf av2, va_rf ah2]))) (hcx : w cx = some (.inl (0, xn, .inl (fun j9 => nI (x j9))))) (hM : Mus f ev st u bh) (hsx : st ≤ xn) (hxn : xn ≤ 100000) (hxb : ∀ j, x j ≤ 1000000) (hN : va_nd [fa, cx] = true) {e : Nat} {R9 : Nat × Nat × Nat} (he : e < ev) : ∀ (m9 : Nat) (b : Nat) (te : Nat) (tb : Nat) (tc : Nat) (wl : pW), 2 ^ u 1 e - b < m9 → (b ≤ 2 ^ u 1 e) → (tc ≤ 1000000) → (fpF x (sumP (u 1) e) e (2 ^ u 1 e - b) b (tc, te, tb) = R9) → (wl = va_up w nm (some (.inr (1, [va_rf bf2, va_rf nx2, .ref cx, .int (nI cl2), .int (nI te), .int (nI tb), .int (nI tc), .int (nI an2), va_rf av2, va_rf ah2])))) → J ((cX0_findPlace, RX0, 7, wsX0_findPlace), (rX0_findPlace, none, "findPlace", []), fun o w9 => o = .inl none ∧ w9 = va_up w nm (some (.inr (1, [va_rf bf2, va_rf nx2, .ref cx, .int (nI cl2), .int (nI R9.2.1), .int (nI R9.2.2), .int (nI R9.1), .int (nI an2), va_rf av2, va_rf ah2]))), fun _ _ _ => True) 24 [(0, .ref fo), (1, .int (nI e)), (2, .ref nm), (3, .int (nI (sumP (u 1) e))), (4, .int (nI (2 ^ u 1 e - 1))), (5, .int (nI b))] [] wl 0 0 := by
  intro m9
  induction m9 with
  | zero => intro b te tb tc wl h9; omega
  | succ m9 ih =>
    intro b te tb tc wl hm9 hb1 htc hr hwl
    have hev := hM.hev
    have hst0 := hM.hst
    have hrg := hM.rg (e := e) he
    have hbd := hM.bd (e := e) he
    have g_fo := up_ne hwl (fk hfo hnm rfl) hfo
    have g_sc := up_ne hwl (fk hs hnm rfl) hs
    have g_fa := up_ne hwl (fk hf hnm rfl) hf
    have g_nm : wl nm = some (.inr (1, [va_rf bf2, va_rf nx2, .ref cx, .int (nI cl2), .int (nI te), .int (nI tb), .int (nI tc), .int (nI an2), va_rf av2, va_rf ah2])) := up_at hwl
    have g_cx := up_ne hwl (fk hcx hnm rfl) hcx
    refine j_iload dX0_findPlace_24 5 rfl ?_
    refine j_iload dX0_findPlace_26 4 rfl ?_
    refine j_icmp_gtN 73 (by omega) (by omega) dX0_findPlace_28 (by decide) (fun c28 => ?_) (fun c28 => ?_)
    · skip
      exact j_vret rfl ⟨rfl, by rw [← hr, show 2 ^ u 1 e - b = 0 by omega]; exact hwl⟩ (show 0 ≤ 0 by omega) (show 0 ≤ 0 by omega) dX0_findPlace_73
    · skip
      refine j_aload_n dX0_findPlace_31 2 rfl ?_
      refine j_iload_n dX0_findPlace_32 3 rfl ?_
      refine j_iload dX0_findPlace_33 5 rfl ?_
      refine j_iaddN dX0_findPlace_35 ?_
      have hb1 := hxb ((sumP (u 1) e) + b)
      refine j_callV (rm := rX1_costAt) (As := [.int (nI ((sumP (u 1) e) + b))]) (st := []) (b0 := nm) (ci := 1) (na := 1) (c_costAt (s := ((sumP (u 1) e) + b)) g_nm g_cx (by omega) (by omega)) (by intro E w9 h9; first | exact nomatch h9.1 | (obtain ⟨_, h9, _⟩ := h9; exact nomatch h9) | (obtain ⟨_, _, _, h9, _⟩ := h9; exact nomatch h9)) gX0_findPlace_X1_costAt rfl rfl g_nm (by decide +kernel) rfl ⟨Nat.le_of_ble_eq_true rfl, Nat.le_of_ble_eq_true rfl⟩ rfl (Nat.le_of_ble_eq_true rfl) dX0_findPlace_36 ⟨(show 0 + 0 ≤ 0 by omega), (show 0 + 0 ≤ 0 by omega)⟩ (fun v2 w3 h4 => ?_)
      obtain ⟨h4, h5⟩ := h4
      cases h4
      subst w3
      refine j_after (st' := [.int (nI (x ((sumP (u 1) e) + b)))]) (k' := 0) (n' := 0) rfl rfl rfl ?_
      refine j_istore (lv' := [(6, .int (nI (x ((sumP (u 1) e) + b)))), (0, .ref fo), (1, .int (nI e)), (2, .ref nm), (3, .int (nI (sumP (u 1) e))), (4, .int (nI (2 ^ u 1 e - 1))), (5, .int (nI b))]) dX0_findPlace_39 (Nat.le_of_ble_eq_true rfl) rfl ?_
      refine j_iload dX0_findPlace_41 0 rfl ?_
      refine j_aload_n dX0_findPlace_43 3 rfl ?_
      refine j_get flX0_findPlace_51 g_nm rfl dX0_findPlace_44 ?_
      refine j_icmp_geN 67 (by omega) (by omega) dX0_findPlace_47 (by decide) (fun c47 => ?_) (fun c47 => ?_)
      · skip
        refine j_iinc (q := 6) (v := nI (b + 1)) (lv' := [(5, .int (nI (b + 1))), (6, .int (nI (x ((sumP (u 1) e) + b)))), (0, .ref fo), (1, .int (nI e)), (2, .ref nm), (3, .int (nI (sumP (u 1) e))), (4, .int (nI (2 ^ u 1 e - 1)))]) dX0_findPlace_67 rfl (by first | exact nI_1 _ | exact nI_add _ _) (Nat.le_of_ble_eq_true rfl) rfl ?_
        refine j_goto 24 dX0_findPlace_70 (by decide) ?_
        refine j_lv (lv' := [(0, .ref fo), (1, .int (nI e)), (2, .ref nm), (3, .int (nI (sumP (u 1) e))), (4, .int (nI (2 ^ u 1 e - 1))), (5, .int (nI (b + 1)))]) [2, 3, 4, 5, 6, 0] rfl ?_
        exact ih (b + 1) (te) (tb) (tc) _ (by omega) (by omega) (by omega) (by rw [← hr, fpF_step (show b < 2 ^ u 1 e by omega)]; unfold fpS; rw [if_neg (by show ¬ x (sumP (u 1) e + b) < tc; omega)]) (by rw [hwl] <;> (try simp only [bx_uu]))
      · skip
        refine j_aload_n dX0_findPlace_50 3 rfl ?_
        refine j_iload dX0_findPlace_51 0 rfl ?_
        refine j_put (fs9 := [va_rf bf2, va_rf nx2, .ref cx, .int (nI cl2), .int (nI te), .int (nI tb), .int (nI (x ((sumP (u 1) e) + b))), .int (nI an2), va_rf av2, va_rf ah2]) fsX0_findPlace_51 g_nm rfl rfl (Nat.le_of_ble_eq_true rfl) rfl dX0_findPlace_53 ?_
        refine j_w (fun w6 hw6 => ?_)
        have f7 := up_ne hw6 (fk g_fo g_nm rfl) g_fo
        have f8 := up_ne hw6 (fk g_sc g_nm rfl) g_sc
        have f9 := up_ne hw6 (fk g_fa g_nm rfl) g_fa
        have f10 : w6 nm = some (.inr (1, [va_rf bf2, va_rf nx2, .ref cx, .int (nI cl2), .int (nI te), .int (nI tb), .int (nI (x ((sumP (u 1) e) + b))), .int (nI an2), va_rf av2, va_rf ah2])) := up_at hw6
        have f11 := up_ne hw6 (fk g_cx g_nm rfl) g_cx
        refine j_aload_n dX0_findPlace_56 3 rfl ?_
        refine j_iload_n dX0_findPlace_57 2 rfl ?_
        refine j_put (fs9 := [va_rf bf2, va_rf nx2, .ref cx, .int (nI cl2), .int (nI e), .int (nI tb), .int (nI (x ((sumP (u 1) e) + b))), .int (nI an2), va_rf av2, va_rf ah2]) fsX0_findPlace_74 f10 rfl rfl (Nat.le_of_ble_eq_true rfl) rfl dX0_findPlace_58 ?_
        refine j_w (fun w12 hw12 => ?_)
        have f13 := up_ne hw12 (fk f7 f10 rfl) f7
        have f14 := up_ne hw12 (fk f8 f10 rfl) f8
        have f15 := up_ne hw12 (fk f9 f10 rfl) f9
        have f16 : w12 nm = some (.inr (1, [va_rf bf2, va_rf nx2, .ref cx, .int (nI cl2), .int (nI e), .int (nI tb), .int (nI (x ((sumP (u 1) e) + b))), .int (nI an2), va_rf av2, va_rf ah2])) := up_at hw12
        have f17 := up_ne hw12 (fk f11 f10 rfl) f11
        refine j_aload_n dX0_findPlace_61 3 rfl ?_
        refine j_iload dX0_findPlace_62 6 rfl ?_
        refine j_put (fs9 := [va_rf bf2, va_rf nx2, .ref cx, .int (nI cl2), .int (nI e), .int (nI b), .int (nI (x ((sumP (u 1) e) + b))), .int (nI an2), va_rf av2, va_rf ah2]) fsX0_findPlace_77 f16 rfl rfl (Nat.le_of_ble_eq_true rfl) rfl dX0_findPlace_64 ?_
        refine j_w (fun w18 hw18 => ?_)
        have f19 := up_ne hw18 (fk f13 f16 rfl) f13
        have f20 := up_ne hw18 (fk f14 f16 rfl) f14
        have f21 := up_ne hw18 (fk f15 f16 rfl) f15
        have f22 : w18 nm = some (.inr (1, [va_rf bf2, va_rf nx2, .ref cx, .int (nI cl2), .int (nI e), .int (nI b), .int (nI (x ((sumP (u 1) e) + b))), .int (nI an2), va_rf av2, va_rf ah2])) := up_at hw18
        have f23 := up_ne hw18 (fk f17 f16 rfl) f17
        refine j_iinc (q := 6) (v := nI (b + 1)) (lv' := [(5, .int (nI (b + 1))), (6, .int (nI (x ((sumP (u 1) e) + b)))), (0, .ref fo), (1, .int (nI e)), (2, .ref nm), (3, .int (nI (sumP (u 1) e))), (4, .int (nI (2 ^ u 1 e - 1)))]) dX0_findPlace_67 rfl (by first | exact nI_1 _ | exact nI_add _ _) (Nat.le_of_ble_eq_true rfl) rfl ?_
        refine j_goto 24 dX0_findPlace_70 (by decide) ?_
        refine j_lv (lv' := [(0, .ref fo), (1, .int (nI e)), (2, .ref nm), (3, .int (nI (sumP (u 1) e))), (4, .int (nI (2 ^ u 1 e - 1))), (5, .int (nI (b + 1)))]) [2, 3, 4, 5, 6, 0] rfl ?_
        exact ih (b + 1) (e) (b) (x ((sumP (u 1) e) + b)) _ (by omega) (by omega) (by omega) (by rw [← hr, fpF_step (show b < 2 ^ u 1 e by omega)]; unfold fpS; rw [if_pos c47]) (by rw [hw18, hw12, hw6, hwl] <;> (try simp only [bx_uu]))
theorem flX0_findPlace_33 : FL wsX0_findPlace RX0 33 0 0 := ⟨RX0, TX0, 7, rfl, by decide, by decide +kernel, by decide +kernel⟩
set_option maxHeartbeats 4000000 in
set_option maxRecDepth 100000 in
theorem c_findPlace {w : pW} {fo sc pr ar de ms mn nt : Nat} {fa ev be cu st me pa : Nat} {f : Nat → Int32} {u : Nat → Nat → Nat} {bh : Nat → Option Nat} {nm cx : Nat} {bf2 nx2 av2 ah2 : Option Nat} {cl2 pe2 pb2 pc2 an2 : Nat} {xn : Nat} {x : Nat → Nat} (hfo : w fo = some (.inr (0, [.ref sc, .ref pr, .ref ar, .ref de, .ref ms, .ref mn, .int (nI nt)]))) (hs : w sc = some (.inr (3, [.ref fa, .int (nI ev), .int (nI be), .int (nI cu), .int (nI st), .int (nI me), .int (nI pa)]))) (hf : w fa = some (.inl (0, 1400, .inl f))) (hnm : w nm = some (.inr (1, [va_rf bf2, va_rf nx2, .ref cx, .int (nI cl2), .int (nI pe2), .int (nI pb2), .int (nI pc2), .int (nI an2), va_rf av2, va_rf ah2]))) (hcx : w cx = some (.inl (0, xn, .inl (fun j9 => nI (x j9))))) (hM : Mus f ev st u bh) (hsx : st ≤ xn) (hxn : xn ≤ 100000) (hxb : ∀ j, x j ≤ 1000000) (hN : va_nd [fa, cx] = true) {e : Nat} (he : e < ev) (hpc2 : pc2 ≤ 1000000) : Ct yX0_findPlace wsX0_findPlace rX0_findPlace [.ref fo, .int (nI e), .ref nm] w (fun o w9 => o = .inl none ∧ w9 = va_up w nm (some (.inr (1, [va_rf bf2, va_rf nx2, .ref cx, .int (nI cl2), .int (nI ((fpF x (sumP (u 1) e) e (2 ^ u 1 e) 0 (pc2, pe2, pb2)).2.1)), .int (nI ((fpF x (sumP (u 1) e) e (2 ^ u 1 e) 0 (pc2, pe2, pb2)).2.2)), .int (nI ((fpF x (sumP (u 1) e) e (2 ^ u 1 e) 0 (pc2, pe2, pb2)).1)), .int (nI an2), va_rf av2, va_rf ah2])))) := by
  refine Ct.of (cc := cX0_findPlace) (own := RX0) (nm := "findPlace") (nL := 7) (ret := none) (by decide +kernel) rfl rfl rfl (Nat.le_of_ble_eq_true rfl) ?_
  refine j_lvE (lv' := [(0, .ref fo), (1, .int (nI e)), (2, .ref nm)]) rfl ?_
  have hev := hM.hev
  have hst0 := hM.hst
  have hrg := hM.rg (e := e) he
  have hbd := hM.bd (e := e) he
  refine j_aload_n dX0_findPlace_0 0 rfl ?_
  refine j_get flX0_findPlace_33 hfo rfl dX0_findPlace_1 ?_
  refine j_iload_n dX0_findPlace_4 1 rfl ?_
  refine j_bipush (v := nI 13) dX0_findPlace_5 (by decide) ?_
  have hrg1 := Mus.rg (e := e) hM (by omega)
  have hbd2 := Mus.bd (e := e) hM (by omega)
  refine j_callV (rm := rX3_fact) (As := [.int (nI e), .int (nI 13)]) (st := []) (b0 := sc) (ci := 3) (na := 2) (c_fact (e := e) (c := 13) hs hf (by omega) (by omega)) (by intro E w9 h9; first | exact nomatch h9.1 | (obtain ⟨_, h9, _⟩ := h9; exact nomatch h9) | (obtain ⟨_, _, _, h9, _⟩ := h9; exact nomatch h9)) gX0_findPlace_X3_fact rfl rfl hs (by decide +kernel) rfl ⟨Nat.le_of_ble_eq_true rfl, Nat.le_of_ble_eq_true rfl⟩ rfl (Nat.le_of_ble_eq_true rfl) dX0_findPlace_7 ⟨(show 0 + 0 ≤ 0 by omega), (show 0 + 0 ≤ 0 by omega)⟩ (fun v3 w4 h5 => ?_)
  obtain ⟨h5, h6⟩ := h5
  cases h5
  subst w4
  refine j_after (st' := [.int (f (e * 14 + 13))]) (k' := 0) (n' := 0) rfl rfl rfl ?_
  refine j_eqi (y := nI (sumP (u 1) e)) (Mus.c13 hM (by omega)) ?_
  refine j_istore_n (lv' := [(3, .int (nI (sumP (u 1) e))), (0, .ref fo), (1, .int (nI e)), (2, .ref nm)]) dX0_findPlace_10 (Nat.le_of_ble_eq_true rfl) rfl ?_
  refine j_aload_n dX0_findPlace_11 1 rfl ?_
  refine j_get flX0_findPlace_33 hfo rfl dX0_findPlace_12 ?_
  refine j_iload_n dX0_findPlace_15 2 rfl ?_
  refine j_callV (rm := rX3_allBits) (As := [.int (nI e)]) (st := []) (b0 := sc) (ci := 3) (na := 1) (c_allBits (e := e) (np := (u 1 e)) hs hf (by omega) (Mus.bd (e := e) hM (by omega)).2.1 (Mus.c1 hM (by omega))) (by intro E w9 h9; first | exact nomatch h9.1 | (obtain ⟨_, h9, _⟩ := h9; exact nomatch h9) | (obtain ⟨_, _, _, h9, _⟩ := h9; exact nomatch h9)) gX0_findPlace_X3_allBits rfl rfl hs (by decide +kernel) rfl ⟨Nat.le_of_ble_eq_true rfl, Nat.le_of_ble_eq_true rfl⟩ rfl (Nat.le_of_ble_eq_true rfl) dX0_findPlace_16 ⟨(show 0 + 0 ≤ 0 by omega), (show 0 + 0 ≤ 0 by omega)⟩ (fun v7 w8 h9 => ?_)
  obtain ⟨h9, h10⟩ := h9
  cases h9
  subst w8
  refine j_after (st' := [.int (nI (2 ^ (u 1 e) - 1))]) (k' := 0) (n' := 0) rfl rfl rfl ?_
  refine j_istore (lv' := [(4, .int (nI (2 ^ (u 1 e) - 1))), (3, .int (nI (sumP (u 1) e))), (0, .ref fo), (1, .int (nI e)), (2, .ref nm)]) dX0_findPlace_19 (Nat.le_of_ble_eq_true rfl) rfl ?_
  refine j_iconst (v := nI 0) dX0_findPlace_21 (by decide) ?_
  refine j_istore (lv' := [(5, .int (nI 0)), (4, .int (nI (2 ^ (u 1 e) - 1))), (3, .int (nI (sumP (u 1) e))), (0, .ref fo), (1, .int (nI e)), (2, .ref nm)]) dX0_findPlace_22 (Nat.le_of_ble_eq_true rfl) rfl ?_
  refine j_lv (lv' := [(0, .ref fo), (1, .int (nI e)), (2, .ref nm), (3, .int (nI (sumP (u 1) e))), (4, .int (nI (2 ^ u 1 e - 1))), (5, .int (nI 0))]) [3, 4, 5, 2, 1, 0] rfl ?_
  exact l_findPlace hfo hs hf hnm hcx hM (by omega) (by omega) hxb hN he (2 ^ u 1 e + 1) 0 pe2 pb2 pc2 w (by omega) (by omega) hpc2 rfl (up_same hnm).symm
