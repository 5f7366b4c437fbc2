abbrev rJ6_bitCount_0f7a4 : Room := { frames := 0, cells := 0, slots := 0, locals := 0 }
set_option maxRecDepth 100000 in
theorem mJ6_bitCount_0f7a4_0 : Cond.constant RJ6 265 (1431655765) ∈ wsJ6_bitCount_0f7a4 := by decide +kernel
set_option maxRecDepth 100000 in
theorem mJ6_bitCount_0f7a4_1 : Cond.constant RJ6 266 (858993459) ∈ wsJ6_bitCount_0f7a4 := by decide +kernel
set_option maxRecDepth 100000 in
theorem mJ6_bitCount_0f7a4_2 : Cond.constant RJ6 267 (252645135) ∈ wsJ6_bitCount_0f7a4 := by decide +kernel
set_option maxHeartbeats 4000000 in
set_option maxRecDepth 100000 in
theorem c_bitCount {w : pW} {x : Nat} (hx : x < 16) : Ct yJ6_bitCount_0f7a4 wsJ6_bitCount_0f7a4 rJ6_bitCount_0f7a4 [.int (nI x)] w (fun o w9 => o = .inl (some (.int (nI (ones x)))) ∧ w9 = w) := by
  refine Ct.of (cc := cJ6_bitCount_0f7a4) (own := RJ6) (nm := "bitCount") (nL := 1) (ret := (some .int)) (by decide +kernel) rfl rfl rfl (Nat.le_of_ble_eq_true rfl) ?_
  refine j_lvE (lv' := [(0, .int (nI x))]) rfl ?_
  refine j_iload_n dJ6_bitCount_0f7a4_0 0 rfl ?_
  refine j_iload_n dJ6_bitCount_0f7a4_1 0 rfl ?_
  refine j_iconst (v := nI 1) dJ6_bitCount_0f7a4_2 (by decide) ?_
  refine j_iushr dJ6_bitCount_0f7a4_3 ?_
  refine j_ldcw (v := nI 1431655765) dJ6_bitCount_0f7a4_4 mJ6_bitCount_0f7a4_0 ?_
  refine j_iand dJ6_bitCount_0f7a4_7 ?_
  refine j_isub dJ6_bitCount_0f7a4_8 ?_
  refine j_istore_n (lv' := [(0, .int ((nI x) - ((((nI x).toUInt32 >>> ((nI 1).toUInt32 &&& Int32.toUInt32 31)).toInt32) &&& (nI 1431655765))))]) dJ6_bitCount_0f7a4_9 (Nat.le_of_ble_eq_true rfl) rfl ?_
  refine j_iload_n dJ6_bitCount_0f7a4_10 0 rfl ?_
  refine j_ldcw (v := nI 858993459) dJ6_bitCount_0f7a4_11 mJ6_bitCount_0f7a4_1 ?_
  refine j_iand dJ6_bitCount_0f7a4_14 ?_
  refine j_iload_n dJ6_bitCount_0f7a4_15 0 rfl ?_
  refine j_iconst (v := nI 2) dJ6_bitCount_0f7a4_16 (by decide) ?_
  refine j_iushr dJ6_bitCount_0f7a4_17 ?_
  refine j_ldcw (v := nI 858993459) dJ6_bitCount_0f7a4_18 mJ6_bitCount_0f7a4_1 ?_
  refine j_iand dJ6_bitCount_0f7a4_21 ?_
  refine j_iadd dJ6_bitCount_0f7a4_22 ?_
  refine j_istore_n (lv' := [(0, .int ((((nI x) - ((((nI x).toUInt32 >>> ((nI 1).toUInt32 &&& Int32.toUInt32 31)).toInt32) &&& (nI 1431655765))) &&& (nI 858993459)) + (((((nI x) - ((((nI x).toUInt32 >>> ((nI 1).toUInt32 &&& Int32.toUInt32 31)).toInt32) &&& (nI 1431655765))).toUInt32 >>> ((nI 2).toUInt32 &&& Int32.toUInt32 31)).toInt32) &&& (nI 858993459))))]) dJ6_bitCount_0f7a4_23 (Nat.le_of_ble_eq_true rfl) rfl ?_
  refine j_iload_n dJ6_bitCount_0f7a4_24 0 rfl ?_
  refine j_iload_n dJ6_bitCount_0f7a4_25 0 rfl ?_
  refine j_iconst (v := nI 4) dJ6_bitCount_0f7a4_26 (by decide) ?_
  refine j_iushr dJ6_bitCount_0f7a4_27 ?_
  refine j_iadd dJ6_bitCount_0f7a4_28 ?_
  refine j_ldcw (v := nI 252645135) dJ6_bitCount_0f7a4_29 mJ6_bitCount_0f7a4_2 ?_
  refine j_iand dJ6_bitCount_0f7a4_32 ?_
  refine j_istore_n (lv' := [(0, .int ((((((nI x) - ((((nI x).toUInt32 >>> ((nI 1).toUInt32 &&& Int32.toUInt32 31)).toInt32) &&& (nI 1431655765))) &&& (nI 858993459)) + (((((nI x) - ((((nI x).toUInt32 >>> ((nI 1).toUInt32 &&& Int32.toUInt32 31)).toInt32) &&& (nI 1431655765))).toUInt32 >>> ((nI 2).toUInt32 &&& Int32.toUInt32 31)).toInt32) &&& (nI 858993459))) + ((((((nI x) - ((((nI x).toUInt32 >>> ((nI 1).toUInt32 &&& Int32.toUInt32 31)).toInt32) &&& (nI 1431655765))) &&& (nI 858993459)) + (((((nI x) - ((((nI x).toUInt32 >>> ((nI 1).toUInt32 &&& Int32.toUInt32 31)).toInt32) &&& (nI 1431655765))).toUInt32 >>> ((nI 2).toUInt32 &&& Int32.toUInt32 31)).toInt32) &&& (nI 858993459))).toUInt32 >>> ((nI 4).toUInt32 &&& Int32.toUInt32 31)).toInt32)) &&& (nI 252645135)))]) dJ6_bitCount_0f7a4_33 (Nat.le_of_ble_eq_true rfl) rfl ?_
  refine j_iload_n dJ6_bitCount_0f7a4_34 0 rfl ?_
  refine j_iload_n dJ6_bitCount_0f7a4_35 0 rfl ?_
  refine j_bipush (v := nI 8) dJ6_bitCount_0f7a4_36 (by decide) ?_
  refine j_iushr dJ6_bitCount_0f7a4_38 ?_
  refine j_iadd dJ6_bitCount_0f7a4_39 ?_
  refine j_istore_n (lv' := [(0, .int (((((((nI x) - ((((nI x).toUInt32 >>> ((nI 1).toUInt32 &&& Int32.toUInt32 31)).toInt32) &&& (nI 1431655765))) &&& (nI 858993459)) + (((((nI x) - ((((nI x).toUInt32 >>> ((nI 1).toUInt32 &&& Int32.toUInt32 31)).toInt32) &&& (nI 1431655765))).toUInt32 >>> ((nI 2).toUInt32 &&& Int32.toUInt32 31)).toInt32) &&& (nI 858993459))) + ((((((nI x) - ((((nI x).toUInt32 >>> ((nI 1).toUInt32 &&& Int32.toUInt32 31)).toInt32) &&& (nI 1431655765))) &&& (nI 858993459)) + (((((nI x) - ((((nI x).toUInt32 >>> ((nI 1).toUInt32 &&& Int32.toUInt32 31)).toInt32) &&& (nI 1431655765))).toUInt32 >>> ((nI 2).toUInt32 &&& Int32.toUInt32 31)).toInt32) &&& (nI 858993459))).toUInt32 >>> ((nI 4).toUInt32 &&& Int32.toUInt32 31)).toInt32)) &&& (nI 252645135)) + ((((((((nI x) - ((((nI x).toUInt32 >>> ((nI 1).toUInt32 &&& Int32.toUInt32 31)).toInt32) &&& (nI 1431655765))) &&& (nI 858993459)) + (((((nI x) - ((((nI x).toUInt32 >>> ((nI 1).toUInt32 &&& Int32.toUInt32 31)).toInt32) &&& (nI 1431655765))).toUInt32 >>> ((nI 2).toUInt32 &&& Int32.toUInt32 31)).toInt32) &&& (nI 858993459))) + ((((((nI x) - ((((nI x).toUInt32 >>> ((nI 1).toUInt32 &&& Int32.toUInt32 31)).toInt32) &&& (nI 1431655765))) &&& (nI 858993459)) + (((((nI x) - ((((nI x).toUInt32 >>> ((nI 1).toUInt32 &&& Int32.toUInt32 31)).toInt32) &&& (nI 1431655765))).toUInt32 >>> ((nI 2).toUInt32 &&& Int32.toUInt32 31)).toInt32) &&& (nI 858993459))).toUInt32 >>> ((nI 4).toUInt32 &&& Int32.toUInt32 31)).toInt32)) &&& (nI 252645135)).toUInt32 >>> ((nI 8).toUInt32 &&& Int32.toUInt32 31)).toInt32)))]) dJ6_bitCount_0f7a4_40 (Nat.le_of_ble_eq_true rfl) rfl ?_
  refine j_iload_n dJ6_bitCount_0f7a4_41 0 rfl ?_
  refine j_iload_n dJ6_bitCount_0f7a4_42 0 rfl ?_
  refine j_bipush (v := nI 16) dJ6_bitCount_0f7a4_43 (by decide) ?_
  refine j_iushr dJ6_bitCount_0f7a4_45 ?_
  refine j_iadd dJ6_bitCount_0f7a4_46 ?_
  refine j_istore_n (lv' := [(0, .int ((((((((nI x) - ((((nI x).toUInt32 >>> ((nI 1).toUInt32 &&& Int32.toUInt32 31)).toInt32) &&& (nI 1431655765))) &&& (nI 858993459)) + (((((nI x) - ((((nI x).toUInt32 >>> ((nI 1).toUInt32 &&& Int32.toUInt32 31)).toInt32) &&& (nI 1431655765))).toUInt32 >>> ((nI 2).toUInt32 &&& Int32.toUInt32 31)).toInt32) &&& (nI 858993459))) + ((((((nI x) - ((((nI x).toUInt32 >>> ((nI 1).toUInt32 &&& Int32.toUInt32 31)).toInt32) &&& (nI 1431655765))) &&& (nI 858993459)) + (((((nI x) - ((((nI x).toUInt32 >>> ((nI 1).toUInt32 &&& Int32.toUInt32 31)).toInt32) &&& (nI 1431655765))).toUInt32 >>> ((nI 2).toUInt32 &&& Int32.toUInt32 31)).toInt32) &&& (nI 858993459))).toUInt32 >>> ((nI 4).toUInt32 &&& Int32.toUInt32 31)).toInt32)) &&& (nI 252645135)) + ((((((((nI x) - ((((nI x).toUInt32 >>> ((nI 1).toUInt32 &&& Int32.toUInt32 31)).toInt32) &&& (nI 1431655765))) &&& (nI 858993459)) + (((((nI x) - ((((nI x).toUInt32 >>> ((nI 1).toUInt32 &&& Int32.toUInt32 31)).toInt32) &&& (nI 1431655765))).toUInt32 >>> ((nI 2).toUInt32 &&& Int32.toUInt32 31)).toInt32) &&& (nI 858993459))) + ((((((nI x) - ((((nI x).toUInt32 >>> ((nI 1).toUInt32 &&& Int32.toUInt32 31)).toInt32) &&& (nI 1431655765))) &&& (nI 858993459)) + (((((nI x) - ((((nI x).toUInt32 >>> ((nI 1).toUInt32 &&& Int32.toUInt32 31)).toInt32) &&& (nI 1431655765))).toUInt32 >>> ((nI 2).toUInt32 &&& Int32.toUInt32 31)).toInt32) &&& (nI 858993459))).toUInt32 >>> ((nI 4).toUInt32 &&& Int32.toUInt32 31)).toInt32)) &&& (nI 252645135)).toUInt32 >>> ((nI 8).toUInt32 &&& Int32.toUInt32 31)).toInt32)) + (((((((((nI x) - ((((nI x).toUInt32 >>> ((nI 1).toUInt32 &&& Int32.toUInt32 31)).toInt32) &&& (nI 1431655765))) &&& (nI 858993459)) + (((((nI x) - ((((nI x).toUInt32 >>> ((nI 1).toUInt32 &&& Int32.toUInt32 31)).toInt32) &&& (nI 1431655765))).toUInt32 >>> ((nI 2).toUInt32 &&& Int32.toUInt32 31)).toInt32) &&& (nI 858993459))) + ((((((nI x) - ((((nI x).toUInt32 >>> ((nI 1).toUInt32 &&& Int32.toUInt32 31)).toInt32) &&& (nI 1431655765))) &&& (nI 858993459)) + (((((nI x) - ((((nI x).toUInt32 >>> ((nI 1).toUInt32 &&& Int32.toUInt32 31)).toInt32) &&& (nI 1431655765))).toUInt32 >>> ((nI 2).toUInt32 &&& Int32.toUInt32 31)).toInt32) &&& (nI 858993459))).toUInt32 >>> ((nI 4).toUInt32 &&& Int32.toUInt32 31)).toInt32)) &&& (nI 252645135)) + ((((((((nI x) - ((((nI x).toUInt32 >>> ((nI 1).toUInt32 &&& Int32.toUInt32 31)).toInt32) &&& (nI 1431655765))) &&& (nI 858993459)) + (((((nI x) - ((((nI x).toUInt32 >>> ((nI 1).toUInt32 &&& Int32.toUInt32 31)).toInt32) &&& (nI 1431655765))).toUInt32 >>> ((nI 2).toUInt32 &&& Int32.toUInt32 31)).toInt32) &&& (nI 858993459))) + ((((((nI x) - ((((nI x).toUInt32 >>> ((nI 1).toUInt32 &&& Int32.toUInt32 31)).toInt32) &&& (nI 1431655765))) &&& (nI 858993459)) + (((((nI x) - ((((nI x).toUInt32 >>> ((nI 1).toUInt32 &&& Int32.toUInt32 31)).toInt32) &&& (nI 1431655765))).toUInt32 >>> ((nI 2).toUInt32 &&& Int32.toUInt32 31)).toInt32) &&& (nI 858993459))).toUInt32 >>> ((nI 4).toUInt32 &&& Int32.toUInt32 31)).toInt32)) &&& (nI 252645135)).toUInt32 >>> ((nI 8).toUInt32 &&& Int32.toUInt32 31)).toInt32)).toUInt32 >>> ((nI 16).toUInt32 &&& Int32.toUInt32 31)).toInt32)))]) dJ6_bitCount_0f7a4_47 (Nat.le_of_ble_eq_true rfl) rfl ?_
  refine j_iload_n dJ6_bitCount_0f7a4_48 0 rfl ?_
  refine j_bipush (v := nI 63) dJ6_bitCount_0f7a4_49 (by decide) ?_
  refine j_iand dJ6_bitCount_0f7a4_51 ?_
  exact j_iret rfl ⟨by congr 3; subst_vars; rcases (show x = 0 ∨ x = 1 ∨ x = 2 ∨ x = 3 ∨ x = 4 ∨ x = 5 ∨ x = 6 ∨ x = 7 ∨ x = 8 ∨ x = 9 ∨ x = 10 ∨ x = 11 ∨ x = 12 ∨ x = 13 ∨ x = 14 ∨ x = 15 by omega) with rfl | rfl | rfl | rfl | rfl | rfl | rfl | rfl | rfl | rfl | rfl | rfl | rfl | rfl | rfl | rfl <;> decide, rfl⟩ (show 0 ≤ 0 by omega) (show 0 ≤ 0 by omega) dJ6_bitCount_0f7a4_52
abbrev rX0_arrive : Room := { frames := 1, cells := 0, slots := 0, locals := 21 }
theorem flX0_arrive_15 : FL wsX0_arrive RX0 15 0 2 := ⟨RX0, TX0, 7, rfl, by decide, by decide +kernel, by decide +kernel⟩
theorem flX0_arrive_33 : FL wsX0_arrive RX0 33 0 0 := ⟨RX0, TX0, 7, rfl, by decide, by decide +kernel, by decide +kernel⟩
set_option maxHeartbeats 4000000 in
set_option maxRecDepth 100000 in
theorem c_arrive {w : pW} {fo sc pr ar de ms mn nt : Nat} {fa ev be cu st me pa : Nat} {f : Nat → Int32} {u : Nat → Nat → Nat} {bh : Nat → Option Nat} {a : Nat → Nat} (hfo : w fo = some (.inr (0, [.ref sc, .ref pr, .ref ar, .ref de, .ref ms, .ref mn, .int (nI nt)]))) (hs : w sc = some (.inr (3, [.ref fa, .int (nI ev), .int (nI be), .int (nI cu), .int (nI st), .int (nI me), .int (nI pa)]))) (hf : w fa = some (.inl (0, 1400, .inl f))) (ha : w ar = some (.inl (0, 100, .inl (fun j9 => nI (a j9))))) (hM : Mus f ev st u bh) (hab : ∀ j, a j ≤ 1000000) (hN : va_nd [fa, ar] = true) {e c : Nat} (he : e ≤ 100) (hc9 : c < 2 ^ 31) : Ct yX0_arrive wsX0_arrive rX0_arrive [.ref fo, .int (nI e), .int (nI c)] w (fun o w9 => o = .inl (some (.int (zb (decide (e < ev ∧ c < a e))))) ∧ w9 = va_up w ar (some (.inl (0, 100, .inl (fun j9 => nI ((arrP a ev e c) j9)))))) := by
  refine Ct.of (cc := cX0_arrive) (own := RX0) (nm := "arrive") (nL := 3) (ret := (some .boolean)) (by decide +kernel) rfl rfl rfl (Nat.le_of_ble_eq_true rfl) ?_
  refine j_lvE (lv' := [(0, .ref fo), (1, .int (nI e)), (2, .int (nI c))]) rfl ?_
  have hev := hM.hev
  refine j_iload_n dX0_arrive_0 1 rfl ?_
  refine j_if_ltN (by omega) dX0_arrive_1 (by decide : _ = ((34 : Nat) : Int)) ?_
  refine j_iload_n dX0_arrive_4 1 rfl ?_
  refine j_aload_n dX0_arrive_5 0 rfl ?_
  refine j_get flX0_arrive_15 hfo rfl dX0_arrive_6 ?_
  refine j_alen (v := nI 100) (by decide) ha rfl dX0_arrive_9 ?_
  refine j_icmp_geN 34 (by omega) (by omega) dX0_arrive_10 (by decide) (fun c10 => ?_) (fun c10 => ?_)
  · skip
    refine j_iconst (v := nI 0) dX0_arrive_34 (by decide) ?_
    exact j_zret rfl (Or.inl rfl) ⟨by rw [zb_f (by simp only [decide_eq_false_iff_not]; exact fun h => by first | omega | (have h1 := of_decide_eq_false (zb_0 c21); omega))]; rfl, by simp only [arrP]; rw [if_neg (fun h => by first | omega | (have h1 := of_decide_eq_false (zb_0 c21); omega))]; exact (up_same ha).symm⟩ (show 0 ≤ 0 by omega) (show 0 ≤ 0 by omega) dX0_arrive_35
  · skip
    refine j_aload_n dX0_arrive_13 0 rfl ?_
    refine j_get flX0_arrive_33 hfo rfl dX0_arrive_14 ?_
    refine j_iload_n dX0_arrive_17 1 rfl ?_
    refine j_callV (rm := rX3_has) (As := [.int (nI e)]) (st := []) (b0 := sc) (ci := 3) (na := 1) (c_hasN (e := e) hs hf (by omega) (by omega)) (by intro E w9 h9; first | exact nomatch h9.1 | (obtain ⟨_, h9, _⟩ := h9; exact nomatch h9) | (obtain ⟨_, _, _, h9, _⟩ := h9; exact nomatch h9)) gX0_arrive_X3_has rfl rfl hs (by decide +kernel) rfl ⟨Nat.le_of_ble_eq_true rfl, Nat.le_of_ble_eq_true rfl⟩ rfl (Nat.le_of_ble_eq_true rfl) dX0_arrive_18 ⟨(show 0 + 0 ≤ 0 by omega), (show 0 + 0 ≤ 0 by omega)⟩ (fun v1 w2 h3 => ?_)
    obtain ⟨h3, h4⟩ := h3
    cases h3
    subst w2
    refine j_after (st' := [.int (zb (decide (e < ev)))]) (k' := 0) (n' := 0) rfl rfl rfl ?_
    refine j_if_eq 34 dX0_arrive_21 (by decide) (fun c21 => ?_) (fun c21 => ?_)
    · skip
      refine j_iconst (v := nI 0) dX0_arrive_34 (by decide) ?_
      exact j_zret rfl (Or.inl rfl) ⟨by rw [zb_f (by simp only [decide_eq_false_iff_not]; exact fun h => by first | omega | (have h1 := of_decide_eq_false (zb_0 c21); omega))]; rfl, by simp only [arrP]; rw [if_neg (fun h => by first | omega | (have h1 := of_decide_eq_false (zb_0 c21); omega))]; exact (up_same ha).symm⟩ (show 0 ≤ 0 by omega) (show 0 ≤ 0 by omega) dX0_arrive_35
    · skip
      refine j_iload_n dX0_arrive_24 2 rfl ?_
      refine j_aload_n dX0_arrive_25 0 rfl ?_
      refine j_get flX0_arrive_15 hfo rfl dX0_arrive_26 ?_
      refine j_iload_n dX0_arrive_29 1 rfl ?_
      refine j_ialdN (j := e) ha rfl (by omega) (by omega) dX0_arrive_30 ?_
      have hb5 := hab e
      refine j_icmp_ltN 36 (by omega) (by omega) dX0_arrive_31 (by decide) (fun c31 => ?_) (fun c31 => ?_)
      · skip
        refine j_aload_n dX0_arrive_36 0 rfl ?_
        refine j_get flX0_arrive_15 hfo rfl dX0_arrive_37 ?_
        refine j_iload_n dX0_arrive_40 1 rfl ?_
        refine j_iload_n dX0_arrive_41 2 rfl ?_
        refine j_iastn (j := e) (x := c) ha rfl (by omega) (by omega) dX0_arrive_42 ?_
        refine j_w (fun w6 hw6 => ?_)
        have f7 := up_ne hw6 (fk hfo ha rfl) hfo
        have f8 := up_ne hw6 (fk hs ha rfl) hs
        have f9 := up_ne hw6 (nd_ne hN 0 1 rfl rfl rfl) hf
        have f10 : w6 ar = some (.inl (0, 100, .inl (fun j9 => nI ((va_up a e c) j9)))) := up_at hw6
        have hb11 : ∀ j9, (va_up a e c) j9 ≤ 1000000 := up_le hab (by omega)
        refine j_iconst (v := nI 1) dX0_arrive_43 (by decide) ?_
        exact j_zret rfl (Or.inr rfl) ⟨by rw [zb_t (by simp only [decide_eq_true_eq]; exact ⟨of_decide_eq_true (zb_n' c21), c31⟩)]; rfl, by rw [hw6]; simp only [arrP]; rw [if_pos ⟨of_decide_eq_true (zb_n' c21), c31⟩]⟩ (show 0 ≤ 0 by omega) (show 0 ≤ 0 by omega) dX0_arrive_44
      · skip
        refine j_iconst (v := nI 0) dX0_arrive_34 (by decide) ?_
        exact j_zret rfl (Or.inl rfl) ⟨by rw [zb_f (by simp only [decide_eq_false_iff_not]; exact fun h => by first | omega | (have h1 := of_decide_eq_false (zb_0 c21); omega))]; rfl, by simp only [arrP]; rw [if_neg (fun h => by first | omega | (have h1 := of_decide_eq_false (zb_0 c21); omega))]; exact (up_same ha).symm⟩ (show 0 ≤ 0 by omega) (show 0 ≤ 0 by omega) dX0_arrive_35
set_option maxHeartbeats 4000000 in
set_option maxRecDepth 100000 in
theorem c_arriveM {w : pW} {fo sc pr ar de ms mn nt : Nat} {fa ev be cu st me pa : Nat} {f : Nat → Int32} {u : Nat → Nat → Nat} {bh : Nat → Option Nat} {a : Nat → Nat} (hfo : w fo = some (.inr (0, [.ref sc, .ref pr, .ref ar, .ref de, .ref ms, .ref mn, .int (nI nt)]))) (hs : w sc = some (.inr (3, [.ref fa, .int (nI ev), .int (nI be), .int (nI cu), .int (nI st), .int (nI me), .int (nI pa)]))) (hf : w fa = some (.inl (0, 1400, .inl f))) (ha : w ar = some (.inl (0, 100, .inl (fun j9 => nI (a j9))))) (hM : Mus f ev st u bh) (hab : ∀ j, a j ≤ 1000000) (hN : va_nd [fa, ar] = true) {c : Nat} : Ct yX0_arrive wsX0_arrive rX0_arrive [.ref fo, .int ((-1)), .int (nI c)] w (fun o w9 => o = .inl (some (.int (nI 0))) ∧ w9 = w) := by
  refine Ct.of (cc := cX0_arrive) (own := RX0) (nm := "arrive") (nL := 3) (ret := (some .boolean)) (by decide +kernel) rfl rfl rfl (Nat.le_of_ble_eq_true rfl) ?_
  refine j_lvE (lv' := [(0, .ref fo), (1, .int ((-1))), (2, .int (nI c))]) rfl ?_
  refine j_iload_n dX0_arrive_0 1 rfl ?_
  refine j_if_lt 34 dX0_arrive_1 (by decide) (fun c1 => ?_) (fun c1 => ?_)
  · skip
    refine j_iconst (v := nI 0) dX0_arrive_34 (by decide) ?_
    exact j_zret rfl (Or.inl rfl) ⟨rfl, rfl⟩ (show 0 ≤ 0 by omega) (show 0 ≤ 0 by omega) dX0_arrive_35
  · skip
    exact absurd (by decide) c1
theorem nd_2 {fa pr ar de : Nat} (h : va_nd [fa, pr, ar, de] = true) : va_nd [fa, ar] = true := by
  have h1 := nd_ne h 0 2 rfl rfl rfl
  simp [va_nd, h1]
abbrev rX0_walkOn : Room := { frames := 2, cells := 0, slots := 0, locals := 43 }
theorem flX0_walkOn_33 : FL wsX0_walkOn RX0 33 0 0 := ⟨RX0, TX0, 7, rfl, by decide, by decide +kernel, by decide +kernel⟩
theorem flX0_walkOn_88 : FL wsX0_walkOn RX0 88 3 1 := ⟨RX3, TX3, 7, rfl, by decide, by decide +kernel, by decide +kernel⟩
theorem flX0_walkOn_15 : FL wsX0_walkOn RX0 15 0 2 := ⟨RX0, TX0, 7, rfl, by decide, by decide +kernel, by decide +kernel⟩
theorem flX0_walkOn_18 : FL wsX0_walkOn RX0 18 0 3 := ⟨RX0, TX0, 7, rfl, by decide, by decide +kernel, by decide +kernel⟩
theorem flX0_walkOn_9 : FL wsX0_walkOn RX0 9 0 1 := ⟨RX0, TX0, 7, rfl, by decide, by decide +kernel, by decide +kernel⟩
set_option maxRecDepth 100000 in
theorem mX0_walkOn_0 : Cond.methodLink RX0 94 Lib.Math.min.name ∈ wsX0_walkOn := by decide +kernel
set_option maxRecDepth 100000 in
theorem mX0_walkOn_1 : Cond.static Lib.Math.min.name ∈ wsX0_walkOn := by decide +kernel
set_option maxRecDepth 100000 in
theorem mX0_walkOn_2 : Cond.initialized "java/lang/Math" ∈ wsX0_walkOn := by decide +kernel
set_option maxRecDepth 100000 in
theorem mX0_walkOn_3 : Cond.code Lib.Math.min.name Lib.Math.min.code 2 (some .int) ∈ wsX0_walkOn := by decide +kernel
set_option maxHeartbeats 4000000 in
set_option maxRecDepth 100000 in
theorem l_walkOn {w : pW} {fo sc pr ar de ms mn nt : Nat} {fa ev be cu st me pa : Nat} {f : Nat → Int32} {u : Nat → Nat → Nat} {bh : Nat → Option Nat} {p : Nat → Nat} {dd : Nat → Nat} (hfo : w fo = some (.inr (0, [.ref sc, .ref pr, .ref ar, .ref de, .ref ms, .ref mn, .int (nI nt)]))) (hs : w sc = some (.inr (3, [.ref fa, .int (nI ev), .int (nI be), .int (nI cu), .int (nI st), .int (nI me), .int (nI pa)]))) (hf : w fa = some (.inl (0, 1400, .inl f))) (hp : w pr = some (.inl (0, 4, .inl (fun j9 => nI (p j9))))) (hde : w de = some (.inl (0, 100, .inl (fun j9 => nI (dd j9))))) (hM : Mus f ev st u bh) (hpb : ∀ j, p j ≤ 50) (hdb : ∀ j, dd j ≤ 1000000)  {R9 : (Nat → Nat) × Bool} {a0 : Nat → Nat} (ha : w ar = some (.inl (0, 100, .inl (fun j9 => nI (a0 j9))))) (hN : va_nd [fa, pr, ar, de] = true) : ∀ (m9 : Nat) (i : Nat) (a : Nat → Nat) (ch : Bool) (wl : pW), ev - i < m9 → (i ≤ ev) → (∀ j, a j ≤ 1000000) → (wkF dd (u 1) bh (p 2) ev (ev - i) i a ch = R9) → (wl = va_up w ar (some (.inl (0, 100, .inl (fun j9 => nI (a j9)))))) → J ((cX0_walkOn, RX0, 5, wsX0_walkOn), (rX0_walkOn, (some .boolean), "walkOn", []), fun o w9 => o = .inl (some (.int (zb R9.2))) ∧ w9 = va_up w ar (some (.inl (0, 100, .inl (fun j9 => nI (R9.1 j9))))), fun _ _ _ => True) 4 [(0, .ref fo), (1, .int (zb ch)), (2, .int (nI i))] [] wl 0 0 := by
  intro m9
  induction m9 with
  | zero => intro i a ch wl h9; omega
  | succ m9 ih =>
    intro i a ch wl hm9 hi hab hr hwl
    have hev := hM.hev
    have hst0 := hM.hst
    have g_fo := up_ne hwl (fk hfo ha rfl) hfo
    have g_sc := up_ne hwl (fk hs ha rfl) hs
    have g_fa := up_ne hwl (nd_ne hN 0 2 rfl rfl rfl) hf
    have g_pr := up_ne hwl (nd_ne hN 1 2 rfl rfl rfl) hp
    have g_ar : wl ar = some (.inl (0, 100, .inl (fun j9 => nI (a j9)))) := up_at hwl
    have g_de := up_ne hwl (nd_ne hN 3 2 rfl rfl rfl) hde
    refine j_iload_n dX0_walkOn_4 2 rfl ?_
    refine j_aload_n dX0_walkOn_5 0 rfl ?_
    refine j_get flX0_walkOn_33 g_fo rfl dX0_walkOn_6 ?_
    refine j_get flX0_walkOn_88 g_sc rfl dX0_walkOn_9 ?_
    refine j_icmp_geN 97 (by omega) (by omega) dX0_walkOn_12 (by decide) (fun c12 => ?_) (fun c12 => ?_)
    · skip
      refine j_iload_n dX0_walkOn_97 1 rfl ?_
      exact j_zret rfl (zb_01 _) ⟨by rw [← hr, show ev - i = 0 by omega]; rfl, by rw [← hr, show ev - i = 0 by omega]; exact hwl⟩ (show 0 ≤ 0 by omega) (show 0 ≤ 0 by omega) dX0_walkOn_98
    · skip
      refine j_iload_n dX0_walkOn_15 2 rfl ?_
      refine j_aload_n dX0_walkOn_16 0 rfl ?_
      refine j_get flX0_walkOn_15 g_fo rfl dX0_walkOn_17 ?_
      refine j_alen (v := nI 100) (by decide) g_ar rfl dX0_walkOn_20 ?_
      refine j_icmp_geN 97 (by omega) (by omega) dX0_walkOn_21 (by decide) (fun c21 => ?_) (fun c21 => ?_)
      · skip
        refine j_iload_n dX0_walkOn_97 1 rfl ?_
        exact j_zret rfl (zb_01 _) ⟨by rw [← hr, show ev - i = 0 by omega]; rfl, by rw [← hr, show ev - i = 0 by omega]; exact hwl⟩ (show 0 ≤ 0 by omega) (show 0 ≤ 0 by omega) dX0_walkOn_98
      · skip
        refine j_aload_n dX0_walkOn_24 0 rfl ?_
        refine j_get flX0_walkOn_33 g_fo rfl dX0_walkOn_25 ?_
        refine j_iload_n dX0_walkOn_28 2 rfl ?_
        refine j_iconst (v := nI 1) dX0_walkOn_29 (by decide) ?_
        have hrg1 := Mus.rg (e := i) hM (by omega)
        have hbd2 := Mus.bd (e := i) hM (by omega)
        refine j_callV (rm := rX3_fact) (As := [.int (nI i), .int (nI 1)]) (st := []) (b0 := sc) (ci := 3) (na := 2) (c_fact (e := i) (c := 1) g_sc g_fa (by omega) (by omega)) (by intro E w9 h9; first | exact nomatch h9.1 | (obtain ⟨_, h9, _⟩ := h9; exact nomatch h9) | (obtain ⟨_, _, _, h9, _⟩ := h9; exact nomatch h9)) gX0_walkOn_X3_fact rfl rfl g_sc (by decide +kernel) rfl ⟨Nat.le_of_ble_eq_true rfl, Nat.le_of_ble_eq_true rfl⟩ rfl (Nat.le_of_ble_eq_true rfl) dX0_walkOn_30 ⟨(show 0 + 0 ≤ 0 by omega), (show 0 + 0 ≤ 0 by omega)⟩ (fun v3 w4 h5 => ?_)
        obtain ⟨h5, h6⟩ := h5
        cases h5
        subst w4
        refine j_after (st' := [.int (f (i * 14 + 1))]) (k' := 0) (n' := 0) rfl rfl rfl ?_
        refine j_eqi (y := nI (u 1 i)) (Mus.c1 hM (by omega)) ?_
        refine j_istore_n (lv' := [(3, .int (nI (u 1 i))), (0, .ref fo), (1, .int (zb ch)), (2, .int (nI i))]) dX0_walkOn_33 (Nat.le_of_ble_eq_true rfl) rfl ?_
        refine j_aload_n dX0_walkOn_34 1 rfl ?_
        refine j_get flX0_walkOn_18 g_fo rfl dX0_walkOn_35 ?_
        refine j_iload_n dX0_walkOn_38 3 rfl ?_
        refine j_ialdN (j := i) g_de rfl (by omega) (by omega) dX0_walkOn_39 ?_
        have hb7 := hdb i
        refine j_aload_n dX0_walkOn_40 1 rfl ?_
        refine j_get flX0_walkOn_15 g_fo rfl dX0_walkOn_41 ?_
        refine j_iload_n dX0_walkOn_44 3 rfl ?_
        refine j_ialdN (j := i) g_ar rfl (by omega) (by omega) dX0_walkOn_45 ?_
        have hb8 := hab i
        refine j_iload_n dX0_walkOn_46 0 rfl ?_
        refine j_aload_n dX0_walkOn_47 1 rfl ?_
        refine j_get flX0_walkOn_9 g_fo rfl dX0_walkOn_48 ?_
        refine j_iconst (v := nI 2) dX0_walkOn_51 (by decide) ?_
        refine j_ialdN (j := 2) g_pr rfl (by omega) (by omega) dX0_walkOn_52 ?_
        have hb9 := hpb 2
        refine j_imulN dX0_walkOn_53 ?_
        have hmu : u 1 i * p 2 ≤ 4 * 50 := Nat.mul_le_mul (by omega) (hpb 2)
        refine j_iaddN dX0_walkOn_54 ?_
        refine j_min mX0_walkOn_0 mX0_walkOn_1 mX0_walkOn_2 mX0_walkOn_3 (Nat.le_of_ble_eq_true rfl) (Nat.le_of_ble_eq_true rfl) ⟨(show 0 ≤ 0 by omega), (show 0 ≤ 0 by omega)⟩ dX0_walkOn_55 ?_
        refine j_eqi (y := nI (min (dd i) ((a i) + ((u 1 i) * (p 2))))) (mnN (by omega) (by omega)) ?_
        refine j_istore (lv' := [(4, .int (nI (min (dd i) ((a i) + ((u 1 i) * (p 2)))))), (3, .int (nI (u 1 i))), (0, .ref fo), (1, .int (zb ch)), (2, .int (nI i))]) dX0_walkOn_58 (Nat.le_of_ble_eq_true rfl) rfl ?_
        refine j_aload_n dX0_walkOn_60 2 rfl ?_
        refine j_iload_n dX0_walkOn_61 4 rfl ?_
        refine j_iconst (v := nI 1) dX0_walkOn_62 (by decide) ?_
        refine j_iaddN dX0_walkOn_63 ?_
        refine j_iload dX0_walkOn_64 0 rfl ?_
        refine j_callV (rm := rX0_arrive) (As := [.int (nI (i + 1)), .int (nI (min (dd i) ((a i) + ((u 1 i) * (p 2)))))]) (st := []) (b0 := fo) (ci := 0) (na := 2) (c_arrive (e := (i + 1)) (c := (min (dd i) ((a i) + ((u 1 i) * (p 2))))) g_fo g_sc g_fa g_ar hM hab (nd_2 hN) (by omega) (by omega)) (by intro E w9 h9; first | exact nomatch h9.1 | (obtain ⟨_, h9, _⟩ := h9; exact nomatch h9) | (obtain ⟨_, _, _, h9, _⟩ := h9; exact nomatch h9)) gX0_walkOn_X0_arrive rfl rfl g_fo (by decide +kernel) rfl ⟨Nat.le_of_ble_eq_true rfl, Nat.le_of_ble_eq_true rfl⟩ rfl (Nat.le_of_ble_eq_true rfl) dX0_walkOn_66 ⟨(show 0 + 0 ≤ 0 by omega), (show 0 + 0 ≤ 0 by omega)⟩ (fun v10 w11 h12 => ?_)
        obtain ⟨h12, h13⟩ := h12
        cases h12
        -- w11
        refine j_after (st' := [.int (zb (decide ((i + 1) < ev ∧ (min (dd i) ((a i) + ((u 1 i) * (p 2)))) < a (i + 1))))]) (k' := 0) (n' := 0) rfl rfl rfl ?_
        have f14 : w11 fo = some (.inr (0, [.ref sc, .ref pr, .ref ar, .ref de, .ref ms, .ref mn, .int (nI nt)])) := by rw [h13]; exact (va_up_ne _ _ (fk g_fo g_ar rfl)).trans (g_fo)
        have f15 : w11 sc = some (.inr (3, [.ref fa, .int (nI ev), .int (nI be), .int (nI cu), .int (nI st), .int (nI me), .int (nI pa)])) := by rw [h13]; exact (va_up_ne _ _ (fk g_sc g_ar rfl)).trans (g_sc)
        have f16 : w11 fa = some (.inl (0, 1400, .inl f)) := by rw [h13]; exact (va_up_ne _ _ (nd_ne hN 0 2 rfl rfl rfl)).trans (g_fa)
        have f17 : w11 pr = some (.inl (0, 4, .inl (fun j9 => nI (p j9)))) := by rw [h13]; exact (va_up_ne _ _ (nd_ne hN 1 2 rfl rfl rfl)).trans (g_pr)
        have f18 : w11 ar = some (.inl (0, 100, .inl (fun j9 => nI ((arrP a ev (i + 1) (min (dd i) ((a i) + ((u 1 i) * (p 2))))) j9)))) := by rw [h13]; exact va_up_self _ _ _
        have f19 : w11 de = some (.inl (0, 100, .inl (fun j9 => nI (dd j9)))) := by rw [h13]; exact (va_up_ne _ _ (nd_ne hN 3 2 rfl rfl rfl)).trans (g_de)
        have hb20 : ∀ j9, (arrP a ev (i + 1) (min (dd i) ((a i) + ((u 1 i) * (p 2))))) j9 ≤ 1000000 := arrP_le hab
        refine j_pop dX0_walkOn_69 rfl ?_
        refine j_aload_n dX0_walkOn_70 2 rfl ?_
        refine j_aload_n dX0_walkOn_71 2 rfl ?_
        refine j_get flX0_walkOn_33 f14 rfl dX0_walkOn_72 ?_
        refine j_iload_n dX0_walkOn_75 4 rfl ?_
        refine j_bipush (v := nI 8) dX0_walkOn_76 (by decide) ?_
        refine j_callV (rm := rX3_fact) (As := [.int (nI i), .int (nI 8)]) (st := [.ref fo]) (b0 := sc) (ci := 3) (na := 2) (c_fact (e := i) (c := 8) f15 f16 (by omega) (by omega)) (by intro E w9 h9; first | exact nomatch h9.1 | (obtain ⟨_, h9, _⟩ := h9; exact nomatch h9) | (obtain ⟨_, _, _, h9, _⟩ := h9; exact nomatch h9)) gX0_walkOn_X3_fact rfl rfl f15 (by decide +kernel) rfl ⟨Nat.le_of_ble_eq_true rfl, Nat.le_of_ble_eq_true rfl⟩ rfl (Nat.le_of_ble_eq_true rfl) dX0_walkOn_78 ⟨(show 0 + 0 ≤ 0 by omega), (show 0 + 0 ≤ 0 by omega)⟩ (fun v21 w22 h23 => ?_)
        obtain ⟨h23, h24⟩ := h23
        cases h23
        subst w22
        refine j_after (st' := [.int (f (i * 14 + 8)), .ref fo]) (k' := 0) (n' := 0) rfl rfl rfl ?_
        refine j_iload dX0_walkOn_81 0 rfl ?_
        have hb8 := Mus.c8 (e := i) hM (by omega)
        cases hbi : bh i with
        | none =>
          rw [hbi] at hb8
          refine j_stE (st' := [.int (nI (min (dd i) ((a i) + ((u 1 i) * (p 2))))), .int ((-1)), .ref fo]) (by rw [hb8]; rfl) ?_
          refine j_callV (rm := rX0_arrive) (As := [.int ((-1)), .int (nI (min (dd i) ((a i) + ((u 1 i) * (p 2)))))]) (st := []) (b0 := fo) (ci := 0) (na := 2) (c_arriveM (c := (min (dd i) ((a i) + ((u 1 i) * (p 2))))) f14 f15 f16 f18 hM hb20 (nd_2 hN)) (by intro E w9 h9; first | exact nomatch h9.1 | (obtain ⟨_, h9, _⟩ := h9; exact nomatch h9) | (obtain ⟨_, _, _, h9, _⟩ := h9; exact nomatch h9)) gX0_walkOn_X0_arrive rfl rfl f14 (by decide +kernel) rfl ⟨Nat.le_of_ble_eq_true rfl, Nat.le_of_ble_eq_true rfl⟩ rfl (Nat.le_of_ble_eq_true rfl) dX0_walkOn_83 ⟨(show 0 + 0 ≤ 0 by omega), (show 0 + 0 ≤ 0 by omega)⟩ (fun v25 w26 h27 => ?_)
          obtain ⟨h27, h28⟩ := h27
          cases h27
          subst w26
          refine j_after (st' := [.int (nI 0)]) (k' := 0) (n' := 0) rfl rfl rfl ?_
          refine j_if_eqN 91 (by decide) dX0_walkOn_86 (by decide) (fun _ => ?_) (fun h9 => absurd rfl h9)
          refine j_iinc (q := 4) (v := nI (i + 1)) (lv' := [(2, .int (nI (i + 1))), (4, .int (nI (min (dd i) ((a i) + ((u 1 i) * (p 2)))))), (3, .int (nI (u 1 i))), (0, .ref fo), (1, .int (zb ch))]) dX0_walkOn_91 rfl (by first | exact nI_1 _ | exact nI_add _ _) (Nat.le_of_ble_eq_true rfl) rfl ?_
          refine j_goto 4 dX0_walkOn_94 (by decide) ?_
          refine j_lv (lv' := [(0, .ref fo), (1, .int (zb ch)), (2, .int (nI (i + 1)))]) [3, 4, 0] rfl ?_
          have hS9 : wkS dd (u 1) bh (p 2) ev i a ch = (arrP a ev (i + 1) (min (dd i) ((a i) + ((u 1 i) * (p 2)))), ch) := by
            simp only [wkS, hbi]
          exact ih (i + 1) (arrP a ev (i + 1) (min (dd i) ((a i) + ((u 1 i) * (p 2))))) ch _ (by omega) (by omega) hb20 (by have h9 := wkF_step (dd := dd) (np := u 1) (bh := bh) (pL := p 2) (a := a) (ch := ch) (show i < ev by omega); rw [hS9] at h9; rw [← hr]; exact h9.symm) (by rw [h13, hwl]; simp only [bx_uu])
        | some b8 =>
          rw [hbi] at hb8
          have hb9 := Mus.hbh hM (e := i) (by omega) hbi
          refine j_stE (st' := [.int (nI (min (dd i) ((a i) + ((u 1 i) * (p 2))))), .int (nI b8), .ref fo]) (by rw [hb8]; rfl) ?_
          refine j_callV (rm := rX0_arrive) (As := [.int (nI b8), .int (nI (min (dd i) ((a i) + ((u 1 i) * (p 2)))))]) (st := []) (b0 := fo) (ci := 0) (na := 2) (c_arrive (e := b8) (c := (min (dd i) ((a i) + ((u 1 i) * (p 2))))) f14 f15 f16 f18 hM hb20 (nd_2 hN) (by omega) (by omega)) (by intro E w9 h9; first | exact nomatch h9.1 | (obtain ⟨_, h9, _⟩ := h9; exact nomatch h9) | (obtain ⟨_, _, _, h9, _⟩ := h9; exact nomatch h9)) gX0_walkOn_X0_arrive rfl rfl f14 (by decide +kernel) rfl ⟨Nat.le_of_ble_eq_true rfl, Nat.le_of_ble_eq_true rfl⟩ rfl (Nat.le_of_ble_eq_true rfl) dX0_walkOn_83 ⟨(show 0 + 0 ≤ 0 by omega), (show 0 + 0 ≤ 0 by omega)⟩ (fun v29 w30 h31 => ?_)
          obtain ⟨h31, h32⟩ := h31
          cases h31
          -- w30
          refine j_after (st' := [.int (zb (decide (b8 < ev ∧ (min (dd i) ((a i) + ((u 1 i) * (p 2)))) < (arrP a ev (i + 1) (min (dd i) ((a i) + ((u 1 i) * (p 2))))) b8)))]) (k' := 0) (n' := 0) rfl rfl rfl ?_
          have f33 : w30 fo = some (.inr (0, [.ref sc, .ref pr, .ref ar, .ref de, .ref ms, .ref mn, .int (nI nt)])) := by rw [h32]; exact (va_up_ne _ _ (fk f14 f18 rfl)).trans (f14)
          have f34 : w30 sc = some (.inr (3, [.ref fa, .int (nI ev), .int (nI be), .int (nI cu), .int (nI st), .int (nI me), .int (nI pa)])) := by rw [h32]; exact (va_up_ne _ _ (fk f15 f18 rfl)).trans (f15)
          have f35 : w30 fa = some (.inl (0, 1400, .inl f)) := by rw [h32]; exact (va_up_ne _ _ (nd_ne hN 0 2 rfl rfl rfl)).trans (f16)
          have f36 : w30 pr = some (.inl (0, 4, .inl (fun j9 => nI (p j9)))) := by rw [h32]; exact (va_up_ne _ _ (nd_ne hN 1 2 rfl rfl rfl)).trans (f17)
          have f37 : w30 ar = some (.inl (0, 100, .inl (fun j9 => nI ((arrP (arrP a ev (i + 1) (min (dd i) ((a i) + ((u 1 i) * (p 2))))) ev b8 (min (dd i) ((a i) + ((u 1 i) * (p 2))))) j9)))) := by rw [h32]; exact va_up_self _ _ _
          have f38 : w30 de = some (.inl (0, 100, .inl (fun j9 => nI (dd j9)))) := by rw [h32]; exact (va_up_ne _ _ (nd_ne hN 3 2 rfl rfl rfl)).trans (f19)
          have hb39 : ∀ j9, (arrP (arrP a ev (i + 1) (min (dd i) ((a i) + ((u 1 i) * (p 2))))) ev b8 (min (dd i) ((a i) + ((u 1 i) * (p 2))))) j9 ≤ 1000000 := arrP_le hb20
          refine j_if_eq 91 dX0_walkOn_86 (by decide) (fun c86 => ?_) (fun c86 => ?_)
          · skip
            refine j_iinc (q := 4) (v := nI (i + 1)) (lv' := [(2, .int (nI (i + 1))), (4, .int (nI (min (dd i) ((a i) + ((u 1 i) * (p 2)))))), (3, .int (nI (u 1 i))), (0, .ref fo), (1, .int (zb ch))]) dX0_walkOn_91 rfl (by first | exact nI_1 _ | exact nI_add _ _) (Nat.le_of_ble_eq_true rfl) rfl ?_
            refine j_goto 4 dX0_walkOn_94 (by decide) ?_
            refine j_lv (lv' := [(0, .ref fo), (1, .int (zb ch)), (2, .int (nI (i + 1)))]) [3, 4, 0] rfl ?_
            have hS9 : wkS dd (u 1) bh (p 2) ev i a ch = (arrP (arrP a ev (i + 1) (min (dd i) ((a i) + ((u 1 i) * (p 2))))) ev b8 (min (dd i) ((a i) + ((u 1 i) * (p 2)))), ch) := by
              simp only [wkS, hbi]; rw [zb_0 c86]; simp
            exact ih (i + 1) (arrP (arrP a ev (i + 1) (min (dd i) ((a i) + ((u 1 i) * (p 2))))) ev b8 (min (dd i) ((a i) + ((u 1 i) * (p 2))))) ch _ (by omega) (by omega) hb39 (by have h9 := wkF_step (dd := dd) (np := u 1) (bh := bh) (pL := p 2) (a := a) (ch := ch) (show i < ev by omega); rw [hS9] at h9; rw [← hr]; exact h9.symm) (by rw [h32, h13, hwl]; simp only [bx_uu])
          · skip
            refine j_iconst (v := nI 1) dX0_walkOn_89 (by decide) ?_
            refine j_istore_n (lv' := [(1, .int (nI 1)), (4, .int (nI (min (dd i) ((a i) + ((u 1 i) * (p 2)))))), (3, .int (nI (u 1 i))), (0, .ref fo), (2, .int (nI i))]) dX0_walkOn_90 (Nat.le_of_ble_eq_true rfl) rfl ?_
            refine j_iinc (q := 4) (v := nI (i + 1)) (lv' := [(2, .int (nI (i + 1))), (1, .int (nI 1)), (4, .int (nI (min (dd i) ((a i) + ((u 1 i) * (p 2)))))), (3, .int (nI (u 1 i))), (0, .ref fo)]) dX0_walkOn_91 rfl (by first | exact nI_1 _ | exact nI_add _ _) (Nat.le_of_ble_eq_true rfl) rfl ?_
            refine j_goto 4 dX0_walkOn_94 (by decide) ?_
            refine j_lv (lv' := [(0, .ref fo), (1, .int (nI 1)), (2, .int (nI (i + 1)))]) [4, 1, 0] rfl ?_
            have hS9 : wkS dd (u 1) bh (p 2) ev i a ch = (arrP (arrP a ev (i + 1) (min (dd i) ((a i) + ((u 1 i) * (p 2))))) ev b8 (min (dd i) ((a i) + ((u 1 i) * (p 2)))), true) := by
              simp only [wkS, hbi]; rw [zb_n' c86]; simp
            exact ih (i + 1) (arrP (arrP a ev (i + 1) (min (dd i) ((a i) + ((u 1 i) * (p 2))))) ev b8 (min (dd i) ((a i) + ((u 1 i) * (p 2))))) true _ (by omega) (by omega) hb39 (by have h9 := wkF_step (dd := dd) (np := u 1) (bh := bh) (pL := p 2) (a := a) (ch := ch) (show i < ev by omega); rw [hS9] at h9; rw [← hr]; exact h9.symm) (by rw [h32, h13, hwl]; simp only [bx_uu])
set_option maxHeartbeats 4000000 in
set_option maxRecDepth 100000 in
theorem c_walkOn {w : pW} {fo sc pr ar de ms mn nt : Nat} {fa ev be cu st me pa : Nat} {f : Nat → Int32} {u : Nat → Nat → Nat} {bh : Nat → Option Nat} {p : Nat → Nat} {a : Nat → Nat} {dd : Nat → Nat} (hfo : w fo = some (.inr (0, [.ref sc, .ref pr, .ref ar, .ref de, .ref ms, .ref mn, .int (nI nt)]))) (hs : w sc = some (.inr (3, [.ref fa, .int (nI ev), .int (nI be), .int (nI cu), .int (nI st), .int (nI me), .int (nI pa)]))) (hf : w fa = some (.inl (0, 1400, .inl f))) (hp : w pr = some (.inl (0, 4, .inl (fun j9 => nI (p j9))))) (ha : w ar = some (.inl (0, 100, .inl (fun j9 => nI (a j9))))) (hde : w de = some (.inl (0, 100, .inl (fun j9 => nI (dd j9))))) (hM : Mus f ev st u bh) (hpb : ∀ j, p j ≤ 50) (hab : ∀ j, a j ≤ 1000000) (hdb : ∀ j, dd j ≤ 1000000) (hN : va_nd [fa, pr, ar, de] = true) : Ct yX0_walkOn wsX0_walkOn rX0_walkOn [.ref fo] w (fun o w9 => o = .inl (some (.int (zb (wkF dd (u 1) bh (p 2) ev ev 0 a false).2))) ∧ w9 = va_up w ar (some (.inl (0, 100, .inl (fun j9 => nI (((wkF dd (u 1) bh (p 2) ev ev 0 a false).1) j9)))))) := by
  refine Ct.of (cc := cX0_walkOn) (own := RX0) (nm := "walkOn") (nL := 5) (ret := (some .boolean)) (by decide +kernel) rfl rfl rfl (Nat.le_of_ble_eq_true rfl) ?_
  refine j_lvE (lv' := [(0, .ref fo)]) rfl ?_
  refine j_iconst (v := nI 0) dX0_walkOn_0 (by decide) ?_
  refine j_istore_n (lv' := [(1, .int (nI 0)), (0, .ref fo)]) dX0_walkOn_1 (Nat.le_of_ble_eq_true rfl) rfl ?_
  refine j_iconst (v := nI 0) dX0_walkOn_2 (by decide) ?_
  refine j_istore_n (lv' := [(2, .int (nI 0)), (1, .int (nI 0)), (0, .ref fo)]) dX0_walkOn_3 (Nat.le_of_ble_eq_true rfl) rfl ?_
  refine j_lv (lv' := [(0, .ref fo), (1, .int (nI 0)), (2, .int (nI 0))]) [2, 1, 0] rfl ?_
  refine j_lvE (lv' := [(0, .ref fo), (1, .int (zb false)), (2, .int (nI 0))]) rfl ?_
  exact l_walkOn hfo hs hf hp hde hM hpb hdb ha hN (ev + 1) 0 a false w (by omega) (by omega) hab rfl (up_same ha).symm
theorem nd_3 {fa pr ar de cm : Nat} (h : va_nd [fa, pr, ar, de, cm] = true) : va_nd [fa, pr, ar, de] = true := by
  have h1 := nd_ne h 0 1 rfl rfl rfl
  have h2 := nd_ne h 0 2 rfl rfl rfl
  have h3 := nd_ne h 0 3 rfl rfl rfl
  have h4 := nd_ne h 1 2 rfl rfl rfl
  have h5 := nd_ne h 1 3 rfl rfl rfl
  have h6 := nd_ne h 2 3 rfl rfl rfl
  simp [va_nd, h1, h2, h3, h4, h5, h6]
theorem nd_4 {fa pr ar de cm : Nat} (h : va_nd [fa, pr, ar, de, cm] = true) : va_nd [fa, pr, cm] = true := by
  have h1 := nd_ne h 0 1 rfl rfl rfl
  have h2 := nd_ne h 0 4 rfl rfl rfl
  have h4 := nd_ne h 1 4 rfl rfl rfl
  simp [va_nd, h1, h2, h4]
abbrev rX0_departureFrom : Room := { frames := 2, cells := 0, slots := 0, locals := 44 }
theorem flX0_departureFrom_30 : FL wsX0_departureFrom RX0 30 0 5 := ⟨RX0, TX0, 7, rfl, by decide, by decide +kernel, by decide +kernel⟩
theorem flX0_departureFrom_9 : FL wsX0_departureFrom RX0 9 0 1 := ⟨RX0, TX0, 7, rfl, by decide, by decide +kernel, by decide +kernel⟩
set_option maxRecDepth 100000 in
theorem mX0_departureFrom_0 : Cond.methodLink RX0 94 Lib.Math.min.name ∈ wsX0_departureFrom := by decide +kernel
set_option maxRecDepth 100000 in
theorem mX0_departureFrom_1 : Cond.static Lib.Math.min.name ∈ wsX0_departureFrom := by decide +kernel
set_option maxRecDepth 100000 in
theorem mX0_departureFrom_2 : Cond.initialized "java/lang/Math" ∈ wsX0_departureFrom := by decide +kernel
set_option maxRecDepth 100000 in
theorem mX0_departureFrom_3 : Cond.code Lib.Math.min.name Lib.Math.min.code 2 (some .int) ∈ wsX0_departureFrom := by decide +kernel
set_option maxHeartbeats 4000000 in
set_option maxRecDepth 100000 in
theorem l_departureFrom {w : pW} {fo sc pr ar de ms mn nt : Nat} {fa ev be cu st me pa : Nat} {f : Nat → Int32} {u : Nat → Nat → Nat} {bh : Nat → Option Nat} {p : Nat → Nat} {cm : Nat} {bf nx av ah : Option Nat} {cl pe pb pc an : Nat} {cn : Nat} {d : Nat → Nat} (hfo : w fo = some (.inr (0, [.ref sc, .ref pr, .ref ar, .ref de, .ref ms, .ref mn, .int (nI nt)]))) (hs : w sc = some (.inr (3, [.ref fa, .int (nI ev), .int (nI be), .int (nI cu), .int (nI st), .int (nI me), .int (nI pa)]))) (hf : w fa = some (.inl (0, 1400, .inl f))) (hp : w pr = some (.inl (0, 4, .inl (fun j9 => nI (p j9))))) (hm : w mn = some (.inr (1, [va_rf bf, va_rf nx, .ref cm, .int (nI cl), .int (nI pe), .int (nI pb), .int (nI pc), .int (nI an), va_rf av, va_rf ah]))) (hc : w cm = some (.inl (0, cn, .inl (fun j9 => nI (d j9))))) (hM : Mus f ev st u bh) (hpb : ∀ j, p j ≤ 50) (hst : st ≤ cn) (hcn : cn ≤ 100000) (hdd : ∀ j, d j ≤ 1000000) (hN : va_nd [fa, pr, cm] = true) {e R9 : Nat} (he : e < ev) : ∀ (m9 : Nat) (b : Nat) (acc : Nat), 2 ^ u 1 e - b < m9 → (b ≤ 2 ^ u 1 e) → (acc ≤ 1000000) → (mfold (fun b => d (sumP (u 1) e + b) + ones (2 ^ u 1 e - 1 - b) * p 2) (2 ^ u 1 e - b) b acc = R9) → J ((cX0_departureFrom, RX0, 7, wsX0_departureFrom), (rX0_departureFrom, (some .int), "departureFrom", []), fun o w9 => o = .inl (some (.int (nI R9))) ∧ w9 = w, fun _ _ _ => True) 27 [(0, .ref fo), (1, .int (nI e)), (2, .int (nI (sumP (u 1) e))), (3, .int (nI (2 ^ u 1 e - 1))), (4, .int (nI acc)), (5, .int (nI b))] [] w 0 0 := by
  intro m9
  induction m9 with
  | zero => intro b acc h9; omega
  | succ m9 ih =>
    intro b acc hm9 hb1 hacc hr
    have hev := hM.hev
    have hst0 := hM.hst
    have hrg := hM.rg (e := e) he
    have hbd := hM.bd (e := e) he
    refine j_iload dX0_departureFrom_27 5 rfl ?_
    refine j_iload_n dX0_departureFrom_29 3 rfl ?_
    refine j_icmp_gtN 76 (by omega) (by omega) dX0_departureFrom_30 (by decide) (fun c30 => ?_) (fun c30 => ?_)
    · skip
      refine j_iload dX0_departureFrom_76 4 rfl ?_
      exact j_iret rfl ⟨by rw [← hr, show 2 ^ u 1 e - b = 0 by omega]; rfl, rfl⟩ (show 0 ≤ 0 by omega) (show 0 ≤ 0 by omega) dX0_departureFrom_78
    · skip
      refine j_iload_n dX0_departureFrom_33 3 rfl ?_
      refine j_iload dX0_departureFrom_34 5 rfl ?_
      refine j_isubN (by omega) dX0_departureFrom_36 ?_
      refine j_callS (rm := rJ6_bitCount_0f7a4) (As := [.int (nI ((2 ^ u 1 e - 1) - b))]) (st := []) (na := 1) (c_bitCount (x := ((2 ^ u 1 e - 1) - b)) (by omega)) (by intro E w9 h9; first | exact nomatch h9.1 | (obtain ⟨_, h9, _⟩ := h9; exact nomatch h9) | (obtain ⟨_, _, _, h9, _⟩ := h9; exact nomatch h9)) gX0_departureFrom_J6_bitCount_0f7a4 rfl (by decide +kernel) rfl ⟨Nat.le_of_ble_eq_true rfl, Nat.le_of_ble_eq_true rfl⟩ rfl (Nat.le_of_ble_eq_true rfl) dX0_departureFrom_37 ⟨(show 0 + 0 ≤ 0 by omega), (show 0 + 0 ≤ 0 by omega)⟩ (fun v1 w2 h3 => ?_)
      obtain ⟨h3, h4⟩ := h3
      cases h3
      subst w2
      refine j_after (st' := [.int (nI (ones ((2 ^ u 1 e - 1) - b)))]) (k' := 0) (n' := 0) rfl rfl rfl ?_
      refine j_istore (lv' := [(6, .int (nI (ones ((2 ^ u 1 e - 1) - b)))), (0, .ref fo), (1, .int (nI e)), (2, .int (nI (sumP (u 1) e))), (3, .int (nI (2 ^ u 1 e - 1))), (4, .int (nI acc)), (5, .int (nI b))]) dX0_departureFrom_40 (Nat.le_of_ble_eq_true rfl) rfl ?_
      refine j_iload dX0_departureFrom_42 5 rfl ?_
      refine j_aload_n dX0_departureFrom_44 1 rfl ?_
      refine j_get flX0_departureFrom_30 hfo rfl dX0_departureFrom_45 ?_
      refine j_iload_n dX0_departureFrom_48 3 rfl ?_
      refine j_iload dX0_departureFrom_49 6 rfl ?_
      refine j_iaddN dX0_departureFrom_51 ?_
      have hb5 := hdd ((sumP (u 1) e) + b)
      refine j_callV (rm := rX1_costAt) (As := [.int (nI ((sumP (u 1) e) + b))]) (st := [.int (nI acc)]) (b0 := mn) (ci := 1) (na := 1) (c_costAt (s := ((sumP (u 1) e) + b)) hm hc (by omega) (by omega)) (by intro E w9 h9; first | exact nomatch h9.1 | (obtain ⟨_, h9, _⟩ := h9; exact nomatch h9) | (obtain ⟨_, _, _, h9, _⟩ := h9; exact nomatch h9)) gX0_departureFrom_X1_costAt rfl rfl hm (by decide +kernel) rfl ⟨Nat.le_of_ble_eq_true rfl, Nat.le_of_ble_eq_true rfl⟩ rfl (Nat.le_of_ble_eq_true rfl) dX0_departureFrom_52 ⟨(show 0 + 0 ≤ 0 by omega), (show 0 + 0 ≤ 0 by omega)⟩ (fun v6 w7 h8 => ?_)
      obtain ⟨h8, h9⟩ := h8
      cases h8
      subst w7
      refine j_after (st' := [.int (nI (d ((sumP (u 1) e) + b))), .int (nI acc)]) (k' := 0) (n' := 0) rfl rfl rfl ?_
      refine j_iload dX0_departureFrom_55 0 rfl ?_
      refine j_aload_n dX0_departureFrom_57 1 rfl ?_
      refine j_get flX0_departureFrom_9 hfo rfl dX0_departureFrom_58 ?_
      refine j_iconst (v := nI 2) dX0_departureFrom_61 (by decide) ?_
      refine j_ialdN (j := 2) hp rfl (by omega) (by omega) dX0_departureFrom_62 ?_
      have hb10 := hpb 2
      refine j_imulN dX0_departureFrom_63 ?_
      have hon : ones (2 ^ u 1 e - 1 - b) * p 2 ≤ 4 * 50 := Nat.mul_le_mul (ones_le _) (hpb 2)
      refine j_iaddN dX0_departureFrom_64 ?_
      refine j_min mX0_departureFrom_0 mX0_departureFrom_1 mX0_departureFrom_2 mX0_departureFrom_3 (Nat.le_of_ble_eq_true rfl) (Nat.le_of_ble_eq_true rfl) ⟨(show 0 ≤ 0 by omega), (show 0 ≤ 0 by omega)⟩ dX0_departureFrom_65 ?_
      refine j_eqi (y := nI (min acc ((d ((sumP (u 1) e) + b)) + ((ones ((2 ^ u 1 e - 1) - b)) * (p 2))))) (mnN (by omega) (by omega)) ?_
      refine j_istore (lv' := [(4, .int (nI (min acc ((d ((sumP (u 1) e) + b)) + ((ones ((2 ^ u 1 e - 1) - b)) * (p 2)))))), (6, .int (nI (ones ((2 ^ u 1 e - 1) - b)))), (0, .ref fo), (1, .int (nI e)), (2, .int (nI (sumP (u 1) e))), (3, .int (nI (2 ^ u 1 e - 1))), (5, .int (nI b))]) dX0_departureFrom_68 (Nat.le_of_ble_eq_true rfl) rfl ?_
      refine j_iinc (q := 6) (v := nI (b + 1)) (lv' := [(5, .int (nI (b + 1))), (4, .int (nI (min acc ((d ((sumP (u 1) e) + b)) + ((ones ((2 ^ u 1 e - 1) - b)) * (p 2)))))), (6, .int (nI (ones ((2 ^ u 1 e - 1) - b)))), (0, .ref fo), (1, .int (nI e)), (2, .int (nI (sumP (u 1) e))), (3, .int (nI (2 ^ u 1 e - 1)))]) dX0_departureFrom_70 rfl (by first | exact nI_1 _ | exact nI_add _ _) (Nat.le_of_ble_eq_true rfl) rfl ?_
      refine j_goto 27 dX0_departureFrom_73 (by decide) ?_
      refine j_lv (lv' := [(0, .ref fo), (1, .int (nI e)), (2, .int (nI (sumP (u 1) e))), (3, .int (nI (2 ^ u 1 e - 1))), (4, .int (nI (min acc ((d ((sumP (u 1) e) + b)) + ((ones ((2 ^ u 1 e - 1) - b)) * (p 2)))))), (5, .int (nI (b + 1)))]) [3, 4, 5, 6, 1, 0] rfl ?_
      exact ih (b + 1) _ (by omega) (by omega) (by omega) (by rw [← hr]; exact (mf_step (g := (fun b => d (sumP (u 1) e + b) + ones (2 ^ u 1 e - 1 - b) * p 2)) (by omega)).symm)
theorem flX0_departureFrom_33 : FL wsX0_departureFrom RX0 33 0 0 := ⟨RX0, TX0, 7, rfl, by decide, by decide +kernel, by decide +kernel⟩
set_option maxRecDepth 100000 in
theorem mX0_departureFrom_4 : Cond.constant RX0 87 (1000000) ∈ wsX0_departureFrom := by decide +kernel
set_option maxHeartbeats 4000000 in
set_option maxRecDepth 100000 in
theorem c_departureFrom {w : pW} {fo sc pr ar de ms mn nt : Nat} {fa ev be cu st me pa : Nat} {f : Nat → Int32} {u : Nat → Nat → Nat} {bh : Nat → Option Nat} {p : Nat → Nat} {cm : Nat} {bf nx av ah : Option Nat} {cl pe pb pc an : Nat} {cn : Nat} {d : Nat → Nat} (hfo : w fo = some (.inr (0, [.ref sc, .ref pr, .ref ar, .ref de, .ref ms, .ref mn, .int (nI nt)]))) (hs : w sc = some (.inr (3, [.ref fa, .int (nI ev), .int (nI be), .int (nI cu), .int (nI st), .int (nI me), .int (nI pa)]))) (hf : w fa = some (.inl (0, 1400, .inl f))) (hp : w pr = some (.inl (0, 4, .inl (fun j9 => nI (p j9))))) (hm : w mn = some (.inr (1, [va_rf bf, va_rf nx, .ref cm, .int (nI cl), .int (nI pe), .int (nI pb), .int (nI pc), .int (nI an), va_rf av, va_rf ah]))) (hc : w cm = some (.inl (0, cn, .inl (fun j9 => nI (d j9))))) (hM : Mus f ev st u bh) (hpb : ∀ j, p j ≤ 50) (hst : st ≤ cn) (hcn : cn ≤ 100000) (hdd : ∀ j, d j ≤ 1000000) (hN : va_nd [fa, pr, cm] = true) {e : Nat} (he : e < ev) : Ct yX0_departureFrom wsX0_departureFrom rX0_departureFrom [.ref fo, .int (nI e)] w (fun o w9 => o = .inl (some (.int (nI (depF d (u 1) (p 2) e)))) ∧ w9 = w) := by
  refine Ct.of (cc := cX0_departureFrom) (own := RX0) (nm := "departureFrom") (nL := 7) (ret := (some .int)) (by decide +kernel) rfl rfl rfl (Nat.le_of_ble_eq_true rfl) ?_
  refine j_lvE (lv' := [(0, .ref fo), (1, .int (nI e))]) rfl ?_
  have hev := hM.hev
  have hst0 := hM.hst
  have hrg := hM.rg (e := e) he
  have hbd := hM.bd (e := e) he
  refine j_aload_n dX0_departureFrom_0 0 rfl ?_
  refine j_get flX0_departureFrom_33 hfo rfl dX0_departureFrom_1 ?_
  refine j_iload_n dX0_departureFrom_4 1 rfl ?_
  refine j_bipush (v := nI 13) dX0_departureFrom_5 (by decide) ?_
  have hrg1 := Mus.rg (e := e) hM (by omega)
  have hbd2 := Mus.bd (e := e) hM (by omega)
  refine j_callV (rm := rX3_fact) (As := [.int (nI e), .int (nI 13)]) (st := []) (b0 := sc) (ci := 3) (na := 2) (c_fact (e := e) (c := 13) hs hf (by omega) (by omega)) (by intro E w9 h9; first | exact nomatch h9.1 | (obtain ⟨_, h9, _⟩ := h9; exact nomatch h9) | (obtain ⟨_, _, _, h9, _⟩ := h9; exact nomatch h9)) gX0_departureFrom_X3_fact rfl rfl hs (by decide +kernel) rfl ⟨Nat.le_of_ble_eq_true rfl, Nat.le_of_ble_eq_true rfl⟩ rfl (Nat.le_of_ble_eq_true rfl) dX0_departureFrom_7 ⟨(show 0 + 0 ≤ 0 by omega), (show 0 + 0 ≤ 0 by omega)⟩ (fun v3 w4 h5 => ?_)
  obtain ⟨h5, h6⟩ := h5
  cases h5
  subst w4
  refine j_after (st' := [.int (f (e * 14 + 13))]) (k' := 0) (n' := 0) rfl rfl rfl ?_
  refine j_eqi (y := nI (sumP (u 1) e)) (Mus.c13 hM (by omega)) ?_
  refine j_istore_n (lv' := [(2, .int (nI (sumP (u 1) e))), (0, .ref fo), (1, .int (nI e))]) dX0_departureFrom_10 (Nat.le_of_ble_eq_true rfl) rfl ?_
  refine j_aload_n dX0_departureFrom_11 1 rfl ?_
  refine j_get flX0_departureFrom_33 hfo rfl dX0_departureFrom_12 ?_
  refine j_iload_n dX0_departureFrom_15 2 rfl ?_
  refine j_callV (rm := rX3_allBits) (As := [.int (nI e)]) (st := []) (b0 := sc) (ci := 3) (na := 1) (c_allBits (e := e) (np := (u 1 e)) hs hf (by omega) (Mus.bd (e := e) hM (by omega)).2.1 (Mus.c1 hM (by omega))) (by intro E w9 h9; first | exact nomatch h9.1 | (obtain ⟨_, h9, _⟩ := h9; exact nomatch h9) | (obtain ⟨_, _, _, h9, _⟩ := h9; exact nomatch h9)) gX0_departureFrom_X3_allBits rfl rfl hs (by decide +kernel) rfl ⟨Nat.le_of_ble_eq_true rfl, Nat.le_of_ble_eq_true rfl⟩ rfl (Nat.le_of_ble_eq_true rfl) dX0_departureFrom_16 ⟨(show 0 + 0 ≤ 0 by omega), (show 0 + 0 ≤ 0 by omega)⟩ (fun v7 w8 h9 => ?_)
  obtain ⟨h9, h10⟩ := h9
  cases h9
  subst w8
  refine j_after (st' := [.int (nI (2 ^ (u 1 e) - 1))]) (k' := 0) (n' := 0) rfl rfl rfl ?_
  refine j_istore_n (lv' := [(3, .int (nI (2 ^ (u 1 e) - 1))), (2, .int (nI (sumP (u 1) e))), (0, .ref fo), (1, .int (nI e))]) dX0_departureFrom_19 (Nat.le_of_ble_eq_true rfl) rfl ?_
  refine j_ldc (v := nI 1000000) dX0_departureFrom_20 mX0_departureFrom_4 ?_
  refine j_istore (lv' := [(4, .int (nI 1000000)), (3, .int (nI (2 ^ (u 1 e) - 1))), (2, .int (nI (sumP (u 1) e))), (0, .ref fo), (1, .int (nI e))]) dX0_departureFrom_22 (Nat.le_of_ble_eq_true rfl) rfl ?_
  refine j_iconst (v := nI 1) dX0_departureFrom_24 (by decide) ?_
  refine j_istore (lv' := [(5, .int (nI 1)), (4, .int (nI 1000000)), (3, .int (nI (2 ^ (u 1 e) - 1))), (2, .int (nI (sumP (u 1) e))), (0, .ref fo), (1, .int (nI e))]) dX0_departureFrom_25 (Nat.le_of_ble_eq_true rfl) rfl ?_
  refine j_lv (lv' := [(0, .ref fo), (1, .int (nI e)), (2, .int (nI (sumP (u 1) e))), (3, .int (nI (2 ^ u 1 e - 1))), (4, .int (nI 1000000)), (5, .int (nI 1))]) [4, 5, 3, 2, 1, 0] rfl ?_
  exact l_departureFrom hfo hs hf hp hm hc hM hpb (by omega) (by omega) hdd hN he (2 ^ u 1 e) 1 1000000 (by omega) (by omega) (by omega) rfl
abbrev rX0_makeSilentMoves : Room := { frames := 3, cells := 0, slots := 0, locals := 70 }
set_option maxHeartbeats 4000000 in
set_option maxRecDepth 100000 in
theorem l_ms2 {w : pW} {fo sc pr ar de ms mn nt : Nat} {fa ev be cu st me pa : Nat} {f : Nat → Int32} {u : Nat → Nat → Nat} {bh : Nat → Option Nat} {p : Nat → Nat} {dd : Nat → Nat} (hfo : w fo = some (.inr (0, [.ref sc, .ref pr, .ref ar, .ref de, .ref ms, .ref mn, .int (nI nt)]))) (hs : w sc = some (.inr (3, [.ref fa, .int (nI ev), .int (nI be), .int (nI cu), .int (nI st), .int (nI me), .int (nI pa)]))) (hf : w fa = some (.inl (0, 1400, .inl f))) (hp : w pr = some (.inl (0, 4, .inl (fun j9 => nI (p j9))))) (hde : w de = some (.inl (0, 100, .inl (fun j9 => nI (dd j9))))) (hM : Mus f ev st u bh) (hpb : ∀ j, p j ≤ 50) (hdb : ∀ j, dd j ≤ 1000000)  {R9 : Nat → Nat} {jv : Nat} {a0 : Nat → Nat} (ha : w ar = some (.inl (0, 100, .inl (fun j9 => nI (a0 j9))))) {cm : Nat} (hN : va_nd [fa, pr, ar, de, cm] = true) : ∀ (m9 : Nat) (k : Nat) (a : Nat → Nat) (ch : Bool) (wl : pW), 101 - k < m9 → (k ≤ 101) → (∀ j, a j ≤ 1000000) → ((if ch = true then psF dd (u 1) bh (p 2) ev (101 - k) a else a) = R9) → (wl = va_up w ar (some (.inl (0, 100, .inl (fun j9 => nI (a j9)))))) → J ((cX0_makeSilentMoves, RX0, 5, wsX0_makeSilentMoves), (rX0_makeSilentMoves, none, "makeSilentMoves", []), fun o w9 => o = .inl none ∧ w9 = va_up w ar (some (.inl (0, 100, .inl (fun j9 => nI (R9 j9))))), fun _ _ _ => True) 117 [(0, .ref fo), (1, .int (nI jv)), (2, .int (zb ch)), (3, .int (nI k))] [] wl 0 0 := by
  intro m9
  induction m9 with
  | zero => intro k a ch wl h9; omega
  | succ m9 ih =>
    intro k a ch wl hm9 hk hab hr hwl
    have hev := hM.hev
    have hst0 := hM.hst
    have g_fo := up_ne hwl (fk hfo ha rfl) hfo
    have g_sc := up_ne hwl (fk hs ha rfl) hs
    have g_fa := up_ne hwl (nd_ne hN 0 2 rfl rfl rfl) hf
    have g_pr := up_ne hwl (nd_ne hN 1 2 rfl rfl rfl) hp
    have g_ar : wl ar = some (.inl (0, 100, .inl (fun j9 => nI (a j9)))) := up_at hwl
    have g_de := up_ne hwl (nd_ne hN 3 2 rfl rfl rfl) hde
    refine j_iload_n dX0_makeSilentMoves_117 3 rfl ?_
    refine j_bipush (v := nI 100) dX0_makeSilentMoves_118 (by decide) ?_
    refine j_icmp_gtN 138 (by omega) (by omega) dX0_makeSilentMoves_120 (by decide) (fun c120 => ?_) (fun c120 => ?_)
    · skip
      exact j_vret rfl ⟨rfl, by rw [← hr, show 101 - k = 0 by omega]; cases ch <;> exact hwl⟩ (show 0 ≤ 0 by omega) (show 0 ≤ 0 by omega) dX0_makeSilentMoves_138
    · skip
      refine j_iload_n dX0_makeSilentMoves_123 2 rfl ?_
      refine j_if_eq 138 dX0_makeSilentMoves_124 (by decide) (fun c124 => ?_) (fun c124 => ?_)
      · skip
        exact j_vret rfl ⟨rfl, by rw [← hr, zb_0 c124]; exact hwl⟩ (show 0 ≤ 0 by omega) (show 0 ≤ 0 by omega) dX0_makeSilentMoves_138
      · skip
        refine j_aload_n dX0_makeSilentMoves_127 0 rfl ?_
        refine j_callV (rm := rX0_walkOn) (As := []) (st := []) (b0 := fo) (ci := 0) (na := 0) (c_walkOn g_fo g_sc g_fa g_pr g_ar g_de hM hpb hab hdb (nd_3 hN)) (by intro E w9 h9; first | exact nomatch h9.1 | (obtain ⟨_, h9, _⟩ := h9; exact nomatch h9) | (obtain ⟨_, _, _, h9, _⟩ := h9; exact nomatch h9)) gX0_makeSilentMoves_X0_walkOn rfl rfl g_fo (by decide +kernel) rfl ⟨Nat.le_of_ble_eq_true rfl, Nat.le_of_ble_eq_true rfl⟩ rfl (Nat.le_of_ble_eq_true rfl) dX0_makeSilentMoves_128 ⟨(show 0 + 0 ≤ 0 by omega), (show 0 + 0 ≤ 0 by omega)⟩ (fun v1 w2 h3 => ?_)
        obtain ⟨h3, h4⟩ := h3
        cases h3
        -- w2
        refine j_after (st' := [.int (zb (wkF dd (u 1) bh (p 2) ev ev 0 a false).2)]) (k' := 0) (n' := 0) rfl rfl rfl ?_
        have f5 : w2 fo = some (.inr (0, [.ref sc, .ref pr, .ref ar, .ref de, .ref ms, .ref mn, .int (nI nt)])) := by rw [h4]; exact (va_up_ne _ _ (fk g_fo g_ar rfl)).trans (g_fo)
        have f6 : w2 sc = some (.inr (3, [.ref fa, .int (nI ev), .int (nI be), .int (nI cu), .int (nI st), .int (nI me), .int (nI pa)])) := by rw [h4]; exact (va_up_ne _ _ (fk g_sc g_ar rfl)).trans (g_sc)
        have f7 : w2 fa = some (.inl (0, 1400, .inl f)) := by rw [h4]; exact (va_up_ne _ _ (nd_ne hN 0 2 rfl rfl rfl)).trans (g_fa)
        have f8 : w2 pr = some (.inl (0, 4, .inl (fun j9 => nI (p j9)))) := by rw [h4]; exact (va_up_ne _ _ (nd_ne hN 1 2 rfl rfl rfl)).trans (g_pr)
        have f9 : w2 ar = some (.inl (0, 100, .inl (fun j9 => nI (((wkF dd (u 1) bh (p 2) ev ev 0 a false).1) j9)))) := by rw [h4]; exact va_up_self _ _ _
        have f10 : w2 de = some (.inl (0, 100, .inl (fun j9 => nI (dd j9)))) := by rw [h4]; exact (va_up_ne _ _ (nd_ne hN 3 2 rfl rfl rfl)).trans (g_de)
        have hb11 : ∀ j9, (wkF dd (u 1) bh (p 2) ev ev 0 a false).1 j9 ≤ 1000000 := wkF_le hab
        refine j_istore_n (lv' := [(2, .int (zb (wkF dd (u 1) bh (p 2) ev ev 0 a false).2)), (0, .ref fo), (1, .int (nI jv)), (3, .int (nI k))]) dX0_makeSilentMoves_131 (Nat.le_of_ble_eq_true rfl) rfl ?_
        refine j_iinc (q := 3) (v := nI (k + 1)) (lv' := [(3, .int (nI (k + 1))), (2, .int (zb (wkF dd (u 1) bh (p 2) ev ev 0 a false).2)), (0, .ref fo), (1, .int (nI jv))]) dX0_makeSilentMoves_132 rfl (by first | exact nI_1 _ | exact nI_add _ _) (Nat.le_of_ble_eq_true rfl) rfl ?_
        refine j_goto 117 dX0_makeSilentMoves_135 (by decide) ?_
        refine j_lv (lv' := [(0, .ref fo), (1, .int (nI jv)), (2, .int (zb (wkF dd (u 1) bh (p 2) ev ev 0 a false).2)), (3, .int (nI (k + 1)))]) [2, 3, 1, 0] rfl ?_
        exact ih (k + 1) (wkF dd (u 1) bh (p 2) ev ev 0 a false).1 (wkF dd (u 1) bh (p 2) ev ev 0 a false).2 _ (by omega) (by omega) hb11 (by rw [← hr, zb_n' c124, if_pos rfl, show 101 - k = (101 - (k + 1)) + 1 by omega]; rfl) (by rw [h4, hwl]; simp only [bx_uu])
theorem flX0_makeSilentMoves_33 : FL wsX0_makeSilentMoves RX0 33 0 0 := ⟨RX0, TX0, 7, rfl, by decide, by decide +kernel, by decide +kernel⟩
theorem flX0_makeSilentMoves_88 : FL wsX0_makeSilentMoves RX0 88 3 1 := ⟨RX3, TX3, 7, rfl, by decide, by decide +kernel, by decide +kernel⟩
theorem flX0_makeSilentMoves_15 : FL wsX0_makeSilentMoves RX0 15 0 2 := ⟨RX0, TX0, 7, rfl, by decide, by decide +kernel, by decide +kernel⟩
theorem flX0_makeSilentMoves_30 : FL wsX0_makeSilentMoves RX0 30 0 5 := ⟨RX0, TX0, 7, rfl, by decide, by decide +kernel, by decide +kernel⟩
theorem flX0_makeSilentMoves_18 : FL wsX0_makeSilentMoves RX0 18 0 3 := ⟨RX0, TX0, 7, rfl, by decide, by decide +kernel, by decide +kernel⟩
set_option maxRecDepth 100000 in
theorem mX0_makeSilentMoves_0 : Cond.methodLink RX0 94 Lib.Math.min.name ∈ wsX0_makeSilentMoves := by decide +kernel
set_option maxRecDepth 100000 in
theorem mX0_makeSilentMoves_1 : Cond.static Lib.Math.min.name ∈ wsX0_makeSilentMoves := by decide +kernel
set_option maxRecDepth 100000 in
theorem mX0_makeSilentMoves_2 : Cond.initialized "java/lang/Math" ∈ wsX0_makeSilentMoves := by decide +kernel
set_option maxRecDepth 100000 in
theorem mX0_makeSilentMoves_3 : Cond.code Lib.Math.min.name Lib.Math.min.code 2 (some .int) ∈ wsX0_makeSilentMoves := by decide +kernel
set_option maxHeartbeats 4000000 in
set_option maxRecDepth 100000 in
theorem l_ms1 {w : pW} {fo sc pr ar de ms mn nt : Nat} {fa ev be cu st me pa : Nat} {f : Nat → Int32} {u : Nat → Nat → Nat} {bh : Nat → Option Nat} {p : Nat → Nat} {a : Nat → Nat} {dd : Nat → Nat} {cm : Nat} {bf nx av ah : Option Nat} {cl pe pb pc an : Nat} {cn : Nat} {d : Nat → Nat} (hfo : w fo = some (.inr (0, [.ref sc, .ref pr, .ref ar, .ref de, .ref ms, .ref mn, .int (nI nt)]))) (hs : w sc = some (.inr (3, [.ref fa, .int (nI ev), .int (nI be), .int (nI cu), .int (nI st), .int (nI me), .int (nI pa)]))) (hf : w fa = some (.inl (0, 1400, .inl f))) (hp : w pr = some (.inl (0, 4, .inl (fun j9 => nI (p j9))))) (ha : w ar = some (.inl (0, 100, .inl (fun j9 => nI (a j9))))) (hde : w de = some (.inl (0, 100, .inl (fun j9 => nI (dd j9))))) (hm : w mn = some (.inr (1, [va_rf bf, va_rf nx, .ref cm, .int (nI cl), .int (nI pe), .int (nI pb), .int (nI pc), .int (nI an), va_rf av, va_rf ah]))) (hc : w cm = some (.inl (0, cn, .inl (fun j9 => nI (d j9))))) (hM : Mus f ev st u bh) (hpb : ∀ j, p j ≤ 50) (hab : ∀ j, a j ≤ 1000000) (hdb : ∀ j, dd j ≤ 1000000) (hst : st ≤ cn) (hcn : cn ≤ 100000) (hdd : ∀ j, d j ≤ 1000000) (hN : va_nd [fa, pr, ar, de, cm] = true) (hpc : pc ≤ 1000000) : ∀ (m9 : Nat) (i : Nat) (wl : pW), ev - i < m9 → (i ≤ ev) → (wl = va_up (va_up w ar (some (.inl (0, 100, .inl (fun j9 => nI ((fil a (ar0 d (u 1) (u 6) (pc + p 3)) i) j9)))))) de (some (.inl (0, 100, .inl (fun j9 => nI ((fil dd (depF d (u 1) (p 2)) i) j9)))))) → J ((cX0_makeSilentMoves, RX0, 5, wsX0_makeSilentMoves), (rX0_makeSilentMoves, none, "makeSilentMoves", []), fun o w9 => o = .inl none ∧ w9 = va_up (va_up w ar (some (.inl (0, 100, .inl (fun j9 => nI ((silA d a (u 1) (u 6) dd bh (p 2) (pc + p 3) ev) j9)))))) de (some (.inl (0, 100, .inl (fun j9 => nI ((silD d (u 1) dd (p 2) ev) j9))))), fun _ _ _ => True) 17 [(0, .ref fo), (1, .int (nI (pc + p 3))), (2, .int (nI i))] [] wl 0 0 := by
  intro m9
  induction m9 with
  | zero => intro i wl h9; omega
  | succ m9 ih =>
    intro i wl hm9 hi hwl
    have hev := hM.hev
    have hst0 := hM.hst
    have hp3 := hpb 3
    have g_fo : wl fo = some (.inr (0, [.ref sc, .ref pr, .ref ar, .ref de, .ref ms, .ref mn, .int (nI nt)])) := by rw [hwl]; exact (va_up_ne _ _ (fk hfo hde rfl)).trans ((va_up_ne _ _ (fk hfo ha rfl)).trans (hfo))
    have g_sc : wl sc = some (.inr (3, [.ref fa, .int (nI ev), .int (nI be), .int (nI cu), .int (nI st), .int (nI me), .int (nI pa)])) := by rw [hwl]; exact (va_up_ne _ _ (fk hs hde rfl)).trans ((va_up_ne _ _ (fk hs ha rfl)).trans (hs))
    have g_fa : wl fa = some (.inl (0, 1400, .inl f)) := by rw [hwl]; exact (va_up_ne _ _ (nd_ne hN 0 3 rfl rfl rfl)).trans ((va_up_ne _ _ (nd_ne hN 0 2 rfl rfl rfl)).trans (hf))
    have g_pr : wl pr = some (.inl (0, 4, .inl (fun j9 => nI (p j9)))) := by rw [hwl]; exact (va_up_ne _ _ (nd_ne hN 1 3 rfl rfl rfl)).trans ((va_up_ne _ _ (nd_ne hN 1 2 rfl rfl rfl)).trans (hp))
    have g_ar : wl ar = some (.inl (0, 100, .inl (fun j9 => nI ((fil a (ar0 d (u 1) (u 6) (pc + p 3)) i) j9)))) := by rw [hwl]; exact (va_up_ne _ _ (nd_ne hN 2 3 rfl rfl rfl)).trans (va_up_self _ _ _)
    have g_de : wl de = some (.inl (0, 100, .inl (fun j9 => nI ((fil dd (depF d (u 1) (p 2)) i) j9)))) := by rw [hwl]; exact va_up_self _ _ _
    have g_mn : wl mn = some (.inr (1, [va_rf bf, va_rf nx, .ref cm, .int (nI cl), .int (nI pe), .int (nI pb), .int (nI pc), .int (nI an), va_rf av, va_rf ah])) := by rw [hwl]; exact (va_up_ne _ _ (fk hm hde rfl)).trans ((va_up_ne _ _ (fk hm ha rfl)).trans (hm))
    have g_cm : wl cm = some (.inl (0, cn, .inl (fun j9 => nI (d j9)))) := by rw [hwl]; exact (va_up_ne _ _ (nd_ne hN 4 3 rfl rfl rfl)).trans ((va_up_ne _ _ (nd_ne hN 4 2 rfl rfl rfl)).trans (hc))
    have g_ba : ∀ j, (fil a (ar0 d (u 1) (u 6) (pc + p 3)) i) j ≤ 1000000 := fil_le hab (fun j _ => ar0_le hdd)
    have g_bd : ∀ j, (fil dd (depF d (u 1) (p 2)) i) j ≤ 1000000 := fil_le hdb (fun j _ => depF_le)
    refine j_iload_n dX0_makeSilentMoves_17 2 rfl ?_
    refine j_aload_n dX0_makeSilentMoves_18 0 rfl ?_
    refine j_get flX0_makeSilentMoves_33 g_fo rfl dX0_makeSilentMoves_19 ?_
    refine j_get flX0_makeSilentMoves_88 g_sc rfl dX0_makeSilentMoves_22 ?_
    refine j_icmp_geN 113 (by omega) (by omega) dX0_makeSilentMoves_25 (by decide) (fun c25 => ?_) (fun c25 => ?_)
    · skip
      have hi9 : i = ev := by omega
      subst hi9
      refine j_iconst (v := nI 1) dX0_makeSilentMoves_113 (by decide) ?_
      refine j_istore_n (lv' := [(2, .int (nI 1)), (0, .ref fo), (1, .int (nI (pc + p 3)))]) dX0_makeSilentMoves_114 (Nat.le_of_ble_eq_true rfl) rfl ?_
      refine j_iconst (v := nI 0) dX0_makeSilentMoves_115 (by decide) ?_
      refine j_istore_n (lv' := [(3, .int (nI 0)), (2, .int (nI 1)), (0, .ref fo), (1, .int (nI (pc + p 3)))]) dX0_makeSilentMoves_116 (Nat.le_of_ble_eq_true rfl) rfl ?_
      refine j_lv (lv' := [(0, .ref fo), (1, .int (nI (pc + p 3))), (2, .int (nI 1)), (3, .int (nI 0))]) [2, 3, 1, 0] rfl ?_
      refine j_lvE (lv' := [(0, .ref fo), (1, .int (nI (pc + p 3))), (2, .int (zb true)), (3, .int (nI 0))]) rfl ?_
      refine J.post (fun o w9 h => ?_) (l_ms2 g_fo g_sc g_fa g_pr g_de hM hpb g_bd g_ar hN 102 0 _ true wl (by omega) (by omega) g_ba rfl (up_same g_ar).symm)
      refine ⟨h.1, ?_⟩
      rw [h.2, hwl, up_sw (w := va_up w ar _) (a := de) (b := ar) (nd_ne hN 3 2 rfl rfl rfl), bx_uu]; rfl
    · skip
      refine j_iload_n dX0_makeSilentMoves_28 2 rfl ?_
      refine j_aload_n dX0_makeSilentMoves_29 0 rfl ?_
      refine j_get flX0_makeSilentMoves_15 g_fo rfl dX0_makeSilentMoves_30 ?_
      refine j_alen (v := nI 100) (by decide) g_ar rfl dX0_makeSilentMoves_33 ?_
      refine j_icmp_geN 113 (by omega) (by omega) dX0_makeSilentMoves_34 (by decide) (fun c34 => ?_) (fun c34 => ?_)
      · skip
        exfalso; omega
      · skip
        refine j_aload_n dX0_makeSilentMoves_37 0 rfl ?_
        refine j_get flX0_makeSilentMoves_30 g_fo rfl dX0_makeSilentMoves_38 ?_
        refine j_aload_n dX0_makeSilentMoves_41 0 rfl ?_
        refine j_get flX0_makeSilentMoves_33 g_fo rfl dX0_makeSilentMoves_42 ?_
        refine j_iload_n dX0_makeSilentMoves_45 2 rfl ?_
        refine j_bipush (v := nI 13) dX0_makeSilentMoves_46 (by decide) ?_
        have hrg1 := Mus.rg (e := i) hM (by omega)
        have hbd2 := Mus.bd (e := i) hM (by omega)
        refine j_callV (rm := rX3_fact) (As := [.int (nI i), .int (nI 13)]) (st := [.ref mn]) (b0 := sc) (ci := 3) (na := 2) (c_fact (e := i) (c := 13) g_sc g_fa (by omega) (by omega)) (by intro E w9 h9; first | exact nomatch h9.1 | (obtain ⟨_, h9, _⟩ := h9; exact nomatch h9) | (obtain ⟨_, _, _, h9, _⟩ := h9; exact nomatch h9)) gX0_makeSilentMoves_X3_fact rfl rfl g_sc (by decide +kernel) rfl ⟨Nat.le_of_ble_eq_true rfl, Nat.le_of_ble_eq_true rfl⟩ rfl (Nat.le_of_ble_eq_true rfl) dX0_makeSilentMoves_48 ⟨(show 0 + 0 ≤ 0 by omega), (show 0 + 0 ≤ 0 by omega)⟩ (fun v3 w4 h5 => ?_)
        obtain ⟨h5, h6⟩ := h5
        cases h5
        subst w4
        refine j_after (st' := [.int (f (i * 14 + 13)), .ref mn]) (k' := 0) (n' := 0) rfl rfl rfl ?_
        refine j_eqi (y := nI (sumP (u 1) i)) (Mus.c13 hM (by omega)) ?_
        have hb7 := hdd (sumP (u 1) i)
        refine j_callV (rm := rX1_costAt) (As := [.int (nI (sumP (u 1) i))]) (st := []) (b0 := mn) (ci := 1) (na := 1) (c_costAt (s := (sumP (u 1) i)) g_mn g_cm (by omega) (by omega)) (by intro E w9 h9; first | exact nomatch h9.1 | (obtain ⟨_, h9, _⟩ := h9; exact nomatch h9) | (obtain ⟨_, _, _, h9, _⟩ := h9; exact nomatch h9)) gX0_makeSilentMoves_X1_costAt rfl rfl g_mn (by decide +kernel) rfl ⟨Nat.le_of_ble_eq_true rfl, Nat.le_of_ble_eq_true rfl⟩ rfl (Nat.le_of_ble_eq_true rfl) dX0_makeSilentMoves_51 ⟨(show 0 + 0 ≤ 0 by omega), (show 0 + 0 ≤ 0 by omega)⟩ (fun v8 w9 h10 => ?_)
        obtain ⟨h10, h11⟩ := h10
        cases h10
        subst w9
        refine j_after (st' := [.int (nI (d (sumP (u 1) i)))]) (k' := 0) (n' := 0) rfl rfl rfl ?_
        refine j_istore_n (lv' := [(3, .int (nI (d (sumP (u 1) i)))), (0, .ref fo), (1, .int (nI (pc + p 3))), (2, .int (nI i))]) dX0_makeSilentMoves_54 (Nat.le_of_ble_eq_true rfl) rfl ?_
        refine j_aload_n dX0_makeSilentMoves_55 1 rfl ?_
        refine j_get flX0_makeSilentMoves_33 g_fo rfl dX0_makeSilentMoves_56 ?_
        refine j_iload_n dX0_makeSilentMoves_59 3 rfl ?_
        refine j_bipush (v := nI 6) dX0_makeSilentMoves_60 (by decide) ?_
        refine j_callV (rm := rX3_fact) (As := [.int (nI i), .int (nI 6)]) (st := []) (b0 := sc) (ci := 3) (na := 2) (c_fact (e := i) (c := 6) g_sc g_fa (by omega) (by omega)) (by intro E w9 h9; first | exact nomatch h9.1 | (obtain ⟨_, h9, _⟩ := h9; exact nomatch h9) | (obtain ⟨_, _, _, h9, _⟩ := h9; exact nomatch h9)) gX0_makeSilentMoves_X3_fact rfl rfl g_sc (by decide +kernel) rfl ⟨Nat.le_of_ble_eq_true rfl, Nat.le_of_ble_eq_true rfl⟩ rfl (Nat.le_of_ble_eq_true rfl) dX0_makeSilentMoves_62 ⟨(show 0 + 0 ≤ 0 by omega), (show 0 + 0 ≤ 0 by omega)⟩ (fun v12 w13 h14 => ?_)
        obtain ⟨h14, h15⟩ := h14
        cases h14
        subst w13
        refine j_after (st' := [.int (f (i * 14 + 6))]) (k' := 0) (n' := 0) rfl rfl rfl ?_
        refine j_eqi (y := nI (u 6 i)) (Mus.c6 hM (by omega)) ?_
        refine j_iconst (v := nI 1) dX0_makeSilentMoves_65 (by decide) ?_
        refine j_icmp_neN 73 (by omega) (by omega) dX0_makeSilentMoves_66 (by decide) (fun c66 => ?_) (fun c66 => ?_)
        · skip
          refine j_iconst (v := nI 0) dX0_makeSilentMoves_73 (by decide) ?_
          refine j_istore (lv' := [(4, .int (nI 0)), (3, .int (nI (d (sumP (u 1) i)))), (0, .ref fo), (1, .int (nI (pc + p 3))), (2, .int (nI i))]) dX0_makeSilentMoves_74 (Nat.le_of_ble_eq_true rfl) rfl ?_
          refine j_aload_n dX0_makeSilentMoves_76 2 rfl ?_
          refine j_get flX0_makeSilentMoves_15 g_fo rfl dX0_makeSilentMoves_77 ?_
          refine j_iload_n dX0_makeSilentMoves_80 4 rfl ?_
          refine j_iload dX0_makeSilentMoves_81 0 rfl ?_
          refine j_if_eqN 94 (by decide) dX0_makeSilentMoves_83 (by decide) (fun _ => ?_) (fun h9 => absurd rfl h9)
          refine j_iload_n dX0_makeSilentMoves_94 1 rfl ?_
          refine j_iastn (j := i) (x := d (sumP (u 1) i)) g_ar rfl (by omega) (by omega) dX0_makeSilentMoves_95 ?_
          refine j_w (fun w16 hw16 => ?_)
          have f17 := up_ne hw16 (fk g_fo g_ar rfl) g_fo
          have f18 := up_ne hw16 (fk g_sc g_ar rfl) g_sc
          have f19 := up_ne hw16 (nd_ne hN 0 2 rfl rfl rfl) g_fa
          have f20 := up_ne hw16 (nd_ne hN 1 2 rfl rfl rfl) g_pr
          have f21 : w16 ar = some (.inl (0, 100, .inl (fun j9 => nI ((va_up (fil a (ar0 d (u 1) (u 6) (pc + p 3)) i) i (d (sumP (u 1) i))) j9)))) := up_at hw16
          have f22 := up_ne hw16 (nd_ne hN 3 2 rfl rfl rfl) g_de
          have f23 := up_ne hw16 (fk g_mn g_ar rfl) g_mn
          have f24 := up_ne hw16 (nd_ne hN 4 2 rfl rfl rfl) g_cm
          have hb25 : ∀ j9, (va_up (fil a (ar0 d (u 1) (u 6) (pc + p 3)) i) i (d (sumP (u 1) i))) j9 ≤ 1000000 := up_le g_ba (by omega)
          refine j_aload_n dX0_makeSilentMoves_96 2 rfl ?_
          refine j_get flX0_makeSilentMoves_18 f17 rfl dX0_makeSilentMoves_97 ?_
          refine j_iload_n dX0_makeSilentMoves_100 4 rfl ?_
          refine j_aload_n dX0_makeSilentMoves_101 2 rfl ?_
          refine j_iload_n dX0_makeSilentMoves_102 4 rfl ?_
          have hb26 : depF d (u 1) (p 2) i ≤ 1000000 := depF_le
          refine j_callV (rm := rX0_departureFrom) (As := [.int (nI i)]) (st := [.int (nI i), .ref de]) (b0 := fo) (ci := 0) (na := 1) (c_departureFrom (e := i) f17 f18 f19 f20 f23 f24 hM hpb (by omega) (by omega) hdd (nd_4 hN) (by omega)) (by intro E w9 h9; first | exact nomatch h9.1 | (obtain ⟨_, h9, _⟩ := h9; exact nomatch h9) | (obtain ⟨_, _, _, h9, _⟩ := h9; exact nomatch h9)) gX0_makeSilentMoves_X0_departureFrom rfl rfl f17 (by decide +kernel) rfl ⟨Nat.le_of_ble_eq_true rfl, Nat.le_of_ble_eq_true rfl⟩ rfl (Nat.le_of_ble_eq_true rfl) dX0_makeSilentMoves_103 ⟨(show 0 + 0 ≤ 0 by omega), (show 0 + 0 ≤ 0 by omega)⟩ (fun v27 w28 h29 => ?_)
          obtain ⟨h29, h30⟩ := h29
          cases h29
          subst w28
          refine j_after (st' := [.int (nI (depF d (u 1) (p 2) i)), .int (nI i), .ref de]) (k' := 0) (n' := 0) rfl rfl rfl ?_
          refine j_iastn (j := i) (x := depF d (u 1) (p 2) i) f22 rfl (by omega) (by omega) dX0_makeSilentMoves_106 ?_
          refine j_w (fun w31 hw31 => ?_)
          have f32 := up_ne hw31 (fk f17 f22 rfl) f17
          have f33 := up_ne hw31 (fk f18 f22 rfl) f18
          have f34 := up_ne hw31 (nd_ne hN 0 3 rfl rfl rfl) f19
          have f35 := up_ne hw31 (nd_ne hN 1 3 rfl rfl rfl) f20
          have f36 := up_ne hw31 (nd_ne hN 2 3 rfl rfl rfl) f21
          have f37 : w31 de = some (.inl (0, 100, .inl (fun j9 => nI ((va_up (fil dd (depF d (u 1) (p 2)) i) i (depF d (u 1) (p 2) i)) j9)))) := up_at hw31
          have f38 := up_ne hw31 (fk f23 f22 rfl) f23
          have f39 := up_ne hw31 (nd_ne hN 4 3 rfl rfl rfl) f24
          have hb40 : ∀ j9, (va_up (fil dd (depF d (u 1) (p 2)) i) i (depF d (u 1) (p 2) i)) j9 ≤ 1000000 := up_le g_bd (by omega)
          refine j_iinc (q := 4) (v := nI (i + 1)) (lv' := [(2, .int (nI (i + 1))), (4, .int (nI 0)), (3, .int (nI (d (sumP (u 1) i)))), (0, .ref fo), (1, .int (nI (pc + p 3)))]) dX0_makeSilentMoves_107 rfl (by first | exact nI_1 _ | exact nI_add _ _) (Nat.le_of_ble_eq_true rfl) rfl ?_
          refine j_goto 17 dX0_makeSilentMoves_110 (by decide) ?_
          refine j_lv (lv' := [(0, .ref fo), (1, .int (nI (pc + p 3))), (2, .int (nI (i + 1)))]) [3, 4, 0] rfl ?_
          have e1 : va_up (fil a (ar0 d (u 1) (u 6) (pc + p 3)) i) i (d (sumP (u 1) i)) = fil a (ar0 d (u 1) (u 6) (pc + p 3)) (i + 1) := by rw [← fil_s]; congr 1; simp only [ar0]; first | rw [if_pos c66] | rw [if_neg c66]
          have e2 : va_up (fil dd (depF d (u 1) (p 2)) i) i (depF d (u 1) (p 2) i) = fil dd (depF d (u 1) (p 2)) (i + 1) := fil_s _ _ _
          exact ih (i + 1) _ (by omega) (by omega) (by rw [hw31, hw16, hwl, e1, e2]; rw [up_sw (w := va_up w ar _) (a := de) (b := ar) (nd_ne hN 3 2 rfl rfl rfl)]; rw [bx_uu, bx_uu])
        · skip
          refine j_iconst (v := nI 1) dX0_makeSilentMoves_69 (by decide) ?_
          refine j_goto 74 dX0_makeSilentMoves_70 (by decide) ?_
          refine j_istore (lv' := [(4, .int (nI 1)), (3, .int (nI (d (sumP (u 1) i)))), (0, .ref fo), (1, .int (nI (pc + p 3))), (2, .int (nI i))]) dX0_makeSilentMoves_74 (Nat.le_of_ble_eq_true rfl) rfl ?_
          refine j_aload_n dX0_makeSilentMoves_76 2 rfl ?_
          refine j_get flX0_makeSilentMoves_15 g_fo rfl dX0_makeSilentMoves_77 ?_
          refine j_iload_n dX0_makeSilentMoves_80 4 rfl ?_
          refine j_iload dX0_makeSilentMoves_81 0 rfl ?_
          refine j_if_eqN 94 (by decide) dX0_makeSilentMoves_83 (by decide) (fun h9 => absurd h9 (by decide)) (fun _ => ?_)
          refine j_iload_n dX0_makeSilentMoves_86 1 rfl ?_
          refine j_iload_n dX0_makeSilentMoves_87 3 rfl ?_
          refine j_min mX0_makeSilentMoves_0 mX0_makeSilentMoves_1 mX0_makeSilentMoves_2 mX0_makeSilentMoves_3 (Nat.le_of_ble_eq_true rfl) (Nat.le_of_ble_eq_true rfl) ⟨(show 0 ≤ 0 by omega), (show 0 ≤ 0 by omega)⟩ dX0_makeSilentMoves_88 ?_
          refine j_eqi (y := nI (min (d (sumP (u 1) i)) (pc + p 3))) (mnN (by omega) (by omega)) ?_
          refine j_goto 95 dX0_makeSilentMoves_91 (by decide) ?_
          refine j_iastn (j := i) (x := min (d (sumP (u 1) i)) (pc + p 3)) g_ar rfl (by omega) (by omega) dX0_makeSilentMoves_95 ?_
          refine j_w (fun w41 hw41 => ?_)
          have f42 := up_ne hw41 (fk g_fo g_ar rfl) g_fo
          have f43 := up_ne hw41 (fk g_sc g_ar rfl) g_sc
          have f44 := up_ne hw41 (nd_ne hN 0 2 rfl rfl rfl) g_fa
          have f45 := up_ne hw41 (nd_ne hN 1 2 rfl rfl rfl) g_pr
          have f46 : w41 ar = some (.inl (0, 100, .inl (fun j9 => nI ((va_up (fil a (ar0 d (u 1) (u 6) (pc + p 3)) i) i (min (d (sumP (u 1) i)) (pc + p 3))) j9)))) := up_at hw41
          have f47 := up_ne hw41 (nd_ne hN 3 2 rfl rfl rfl) g_de
          have f48 := up_ne hw41 (fk g_mn g_ar rfl) g_mn
          have f49 := up_ne hw41 (nd_ne hN 4 2 rfl rfl rfl) g_cm
          have hb50 : ∀ j9, (va_up (fil a (ar0 d (u 1) (u 6) (pc + p 3)) i) i (min (d (sumP (u 1) i)) (pc + p 3))) j9 ≤ 1000000 := up_le g_ba (by omega)
          refine j_aload_n dX0_makeSilentMoves_96 2 rfl ?_
          refine j_get flX0_makeSilentMoves_18 f42 rfl dX0_makeSilentMoves_97 ?_
          refine j_iload_n dX0_makeSilentMoves_100 4 rfl ?_
          refine j_aload_n dX0_makeSilentMoves_101 2 rfl ?_
          refine j_iload_n dX0_makeSilentMoves_102 4 rfl ?_
          have hb51 : depF d (u 1) (p 2) i ≤ 1000000 := depF_le
          refine j_callV (rm := rX0_departureFrom) (As := [.int (nI i)]) (st := [.int (nI i), .ref de]) (b0 := fo) (ci := 0) (na := 1) (c_departureFrom (e := i) f42 f43 f44 f45 f48 f49 hM hpb (by omega) (by omega) hdd (nd_4 hN) (by omega)) (by intro E w9 h9; first | exact nomatch h9.1 | (obtain ⟨_, h9, _⟩ := h9; exact nomatch h9) | (obtain ⟨_, _, _, h9, _⟩ := h9; exact nomatch h9)) gX0_makeSilentMoves_X0_departureFrom rfl rfl f42 (by decide +kernel) rfl ⟨Nat.le_of_ble_eq_true rfl, Nat.le_of_ble_eq_true rfl⟩ rfl (Nat.le_of_ble_eq_true rfl) dX0_makeSilentMoves_103 ⟨(show 0 + 0 ≤ 0 by omega), (show 0 + 0 ≤ 0 by omega)⟩ (fun v52 w53 h54 => ?_)
          obtain ⟨h54, h55⟩ := h54
          cases h54
          subst w53
          refine j_after (st' := [.int (nI (depF d (u 1) (p 2) i)), .int (nI i), .ref de]) (k' := 0) (n' := 0) rfl rfl rfl ?_
          refine j_iastn (j := i) (x := depF d (u 1) (p 2) i) f47 rfl (by omega) (by omega) dX0_makeSilentMoves_106 ?_
          refine j_w (fun w56 hw56 => ?_)
          have f57 := up_ne hw56 (fk f42 f47 rfl) f42
          have f58 := up_ne hw56 (fk f43 f47 rfl) f43
          have f59 := up_ne hw56 (nd_ne hN 0 3 rfl rfl rfl) f44
          have f60 := up_ne hw56 (nd_ne hN 1 3 rfl rfl rfl) f45
          have f61 := up_ne hw56 (nd_ne hN 2 3 rfl rfl rfl) f46
          have f62 : w56 de = some (.inl (0, 100, .inl (fun j9 => nI ((va_up (fil dd (depF d (u 1) (p 2)) i) i (depF d (u 1) (p 2) i)) j9)))) := up_at hw56
          have f63 := up_ne hw56 (fk f48 f47 rfl) f48
          have f64 := up_ne hw56 (nd_ne hN 4 3 rfl rfl rfl) f49
          have hb65 : ∀ j9, (va_up (fil dd (depF d (u 1) (p 2)) i) i (depF d (u 1) (p 2) i)) j9 ≤ 1000000 := up_le g_bd (by omega)
          refine j_iinc (q := 4) (v := nI (i + 1)) (lv' := [(2, .int (nI (i + 1))), (4, .int (nI 1)), (3, .int (nI (d (sumP (u 1) i)))), (0, .ref fo), (1, .int (nI (pc + p 3)))]) dX0_makeSilentMoves_107 rfl (by first | exact nI_1 _ | exact nI_add _ _) (Nat.le_of_ble_eq_true rfl) rfl ?_
          refine j_goto 17 dX0_makeSilentMoves_110 (by decide) ?_
          refine j_lv (lv' := [(0, .ref fo), (1, .int (nI (pc + p 3))), (2, .int (nI (i + 1)))]) [3, 4, 0] rfl ?_
          have e1 : va_up (fil a (ar0 d (u 1) (u 6) (pc + p 3)) i) i (min (d (sumP (u 1) i)) (pc + p 3)) = fil a (ar0 d (u 1) (u 6) (pc + p 3)) (i + 1) := by rw [← fil_s]; congr 1; simp only [ar0]; first | rw [if_pos c66] | rw [if_neg c66]
          have e2 : va_up (fil dd (depF d (u 1) (p 2)) i) i (depF d (u 1) (p 2) i) = fil dd (depF d (u 1) (p 2)) (i + 1) := fil_s _ _ _
          exact ih (i + 1) _ (by omega) (by omega) (by rw [hw56, hw41, hwl, e1, e2]; rw [up_sw (w := va_up w ar _) (a := de) (b := ar) (nd_ne hN 3 2 rfl rfl rfl)]; rw [bx_uu, bx_uu])
theorem flX0_makeSilentMoves_51 : FL wsX0_makeSilentMoves RX0 51 1 6 := ⟨RX1, TX1, 10, rfl, by decide, by decide +kernel, by decide +kernel⟩
theorem flX0_makeSilentMoves_9 : FL wsX0_makeSilentMoves RX0 9 0 1 := ⟨RX0, TX0, 7, rfl, by decide, by decide +kernel, by decide +kernel⟩
set_option maxHeartbeats 4000000 in
set_option maxRecDepth 100000 in
theorem c_makeSilentMoves {w : pW} {fo sc pr ar de ms mn nt : Nat} {fa ev be cu st me pa : Nat} {f : Nat → Int32} {u : Nat → Nat → Nat} {bh : Nat → Option Nat} {p : Nat → Nat} {a : Nat → Nat} {dd : Nat → Nat} {cm : Nat} {bf nx av ah : Option Nat} {cl pe pb pc an : Nat} {cn : Nat} {d : Nat → Nat} (hfo : w fo = some (.inr (0, [.ref sc, .ref pr, .ref ar, .ref de, .ref ms, .ref mn, .int (nI nt)]))) (hs : w sc = some (.inr (3, [.ref fa, .int (nI ev), .int (nI be), .int (nI cu), .int (nI st), .int (nI me), .int (nI pa)]))) (hf : w fa = some (.inl (0, 1400, .inl f))) (hp : w pr = some (.inl (0, 4, .inl (fun j9 => nI (p j9))))) (ha : w ar = some (.inl (0, 100, .inl (fun j9 => nI (a j9))))) (hde : w de = some (.inl (0, 100, .inl (fun j9 => nI (dd j9))))) (hm : w mn = some (.inr (1, [va_rf bf, va_rf nx, .ref cm, .int (nI cl), .int (nI pe), .int (nI pb), .int (nI pc), .int (nI an), va_rf av, va_rf ah]))) (hc : w cm = some (.inl (0, cn, .inl (fun j9 => nI (d j9))))) (hM : Mus f ev st u bh) (hpb : ∀ j, p j ≤ 50) (hab : ∀ j, a j ≤ 1000000) (hdb : ∀ j, dd j ≤ 1000000) (hst : st ≤ cn) (hcn : cn ≤ 100000) (hdd : ∀ j, d j ≤ 1000000) (hN : va_nd [fa, pr, ar, de, cm] = true) (hpc : pc ≤ 1000000) : Ct yX0_makeSilentMoves wsX0_makeSilentMoves rX0_makeSilentMoves [.ref fo] w (fun o w9 => o = .inl none ∧ w9 = va_up (va_up w ar (some (.inl (0, 100, .inl (fun j9 => nI ((silA d a (u 1) (u 6) dd bh (p 2) (pc + p 3) ev) j9)))))) de (some (.inl (0, 100, .inl (fun j9 => nI ((silD d (u 1) dd (p 2) ev) j9)))))) := by
  refine Ct.of (cc := cX0_makeSilentMoves) (own := RX0) (nm := "makeSilentMoves") (nL := 5) (ret := none) (by decide +kernel) rfl rfl rfl (Nat.le_of_ble_eq_true rfl) ?_
  refine j_lvE (lv' := [(0, .ref fo)]) rfl ?_
  have hev := hM.hev
  have hst0 := hM.hst
  refine j_aload_n dX0_makeSilentMoves_0 0 rfl ?_
  refine j_get flX0_makeSilentMoves_30 hfo rfl dX0_makeSilentMoves_1 ?_
  refine j_get flX0_makeSilentMoves_51 hm rfl dX0_makeSilentMoves_4 ?_
  refine j_aload_n dX0_makeSilentMoves_7 0 rfl ?_
  refine j_get flX0_makeSilentMoves_9 hfo rfl dX0_makeSilentMoves_8 ?_
  refine j_iconst (v := nI 3) dX0_makeSilentMoves_11 (by decide) ?_
  refine j_ialdN (j := 3) hp rfl (by omega) (by omega) dX0_makeSilentMoves_12 ?_
  have hb1 := hpb 3
  refine j_iaddN dX0_makeSilentMoves_13 ?_
  refine j_istore_n (lv' := [(1, .int (nI (pc + (p 3)))), (0, .ref fo)]) dX0_makeSilentMoves_14 (Nat.le_of_ble_eq_true rfl) rfl ?_
  refine j_iconst (v := nI 0) dX0_makeSilentMoves_15 (by decide) ?_
  refine j_istore_n (lv' := [(2, .int (nI 0)), (1, .int (nI (pc + (p 3)))), (0, .ref fo)]) dX0_makeSilentMoves_16 (Nat.le_of_ble_eq_true rfl) rfl ?_
  refine j_lv (lv' := [(0, .ref fo), (1, .int (nI (pc + p 3))), (2, .int (nI 0))]) [2, 1, 0] rfl ?_
  exact l_ms1 hfo hs hf hp ha hde hm hc hM hpb hab hdb (by omega) (by omega) hdd hN hpc (ev + 1) 0 w (by omega) (by omega) (by rw [fil_0, fil_0, up_same ha, up_same hde])
abbrev rX0_takeNote : Room := { frames := 2, cells := 0, slots := 0, locals := 49 }
theorem flX0_takeNote_30 : FL wsX0_takeNote RX0 30 0 5 := ⟨RX0, TX0, 7, rfl, by decide, by decide +kernel, by decide +kernel⟩
theorem flX0_takeNote_9 : FL wsX0_takeNote RX0 9 0 1 := ⟨RX0, TX0, 7, rfl, by decide, by decide +kernel, by decide +kernel⟩
theorem flX0_takeNote_15 : FL wsX0_takeNote RX0 15 0 2 := ⟨RX0, TX0, 7, rfl, by decide, by decide +kernel, by decide +kernel⟩
set_option maxHeartbeats 4000000 in
set_option maxRecDepth 100000 in
theorem l_takeNote {w : pW} {fo sc pr ar de ms mn nt : Nat} {fa ev be cu st me pa : Nat} {f : Nat → Int32} {u : Nat → Nat → Nat} {bh : Nat → Option Nat} {p : Nat → Nat} {a : Nat → Nat} {cm : Nat} {bf nx av ah : Option Nat} {cl pe pb pc an : Nat} {cn : Nat} {d : Nat → Nat} {nm cx : Nat} {bf2 nx2 av2 ah2 : Option Nat} {cl2 pe2 pb2 pc2 an2 : Nat} (hfo : w fo = some (.inr (0, [.ref sc, .ref pr, .ref ar, .ref de, .ref ms, .ref mn, .int (nI nt)]))) (hs : w sc = some (.inr (3, [.ref fa, .int (nI ev), .int (nI be), .int (nI cu), .int (nI st), .int (nI me), .int (nI pa)]))) (hf : w fa = some (.inl (0, 1400, .inl f))) (hp : w pr = some (.inl (0, 4, .inl (fun j9 => nI (p j9))))) (ha : w ar = some (.inl (0, 100, .inl (fun j9 => nI (a j9))))) (hm : w mn = some (.inr (1, [va_rf bf, va_rf nx, .ref cm, .int (nI cl), .int (nI pe), .int (nI pb), .int (nI pc), .int (nI an), va_rf av, va_rf ah]))) (hc : w cm = some (.inl (0, cn, .inl (fun j9 => nI (d j9))))) (hnm : w nm = some (.inr (1, [va_rf bf2, va_rf nx2, .ref cx, .int (nI cl2), .int (nI pe2), .int (nI pb2), .int (nI pc2), .int (nI an2), va_rf av2, va_rf ah2]))) (hM : Mus f ev st u bh) (hpb : ∀ j, p j ≤ 50) (hab : ∀ j, a j ≤ 1000000) (hst : st ≤ cn) (hcn : cn ≤ 100000) (hdd : ∀ j, d j ≤ 1000000) {xn e no ri : Nat} {x0 R9 : Nat → Nat} {orn : Bool} (hcx : w cx = some (.inl (0, xn, .inl (fun j9 => nI (x0 j9))))) (hsx : st ≤ xn) (hxn : xn ≤ 100000) (hN : va_nd [fa, pr, ar, cm, cx] = true) (he : e < ev) (hri : ri < 2 ^ u 1 e) : ∀ (m9 : Nat) (b : Nat) (x : Nat → Nat) (wl : pW), 2 ^ u 1 e - b < m9 → (b ≤ 2 ^ u 1 e) → (∀ j, x j ≤ 1000000) → (tnF d xn (sumP (u 1) e) (a e) (2 ^ u 1 e - 1) ri orn (p 1) (p 0) (2 ^ u 1 e - b) b x = R9) → (wl = va_up w cx (some (.inl (0, xn, .inl (fun j9 => nI (x j9)))))) → J ((cX0_takeNote, RX0, 11, wsX0_takeNote), (rX0_takeNote, none, "takeNote", []), fun o w9 => o = .inl none ∧ w9 = va_up w cx (some (.inl (0, xn, .inl (fun j9 => nI (R9 j9))))), fun _ _ _ => True) 70 [(0, .ref fo), (1, .int (nI e)), (2, .int (nI no)), (3, .ref nm), (4, .int (nI (sumP (u 1) e))), (5, .int (nI (2 ^ u 1 e - 1))), (6, .int (nI ri)), (7, .int (zb orn)), (8, .int (nI b))] [] wl 0 0 := by
  intro m9
  induction m9 with
  | zero => intro b x wl h9; omega
  | succ m9 ih =>
    intro b x wl hm9 hb1 hxb hr hwl
    have hev := hM.hev
    have hst0 := hM.hst
    have hrg := hM.rg (e := e) he
    have hbd := hM.bd (e := e) he
    have g_fo := up_ne hwl (fk hfo hcx rfl) hfo
    have g_sc := up_ne hwl (fk hs hcx rfl) hs
    have g_fa := up_ne hwl (nd_ne hN 0 4 rfl rfl rfl) hf
    have g_pr := up_ne hwl (nd_ne hN 1 4 rfl rfl rfl) hp
    have g_ar := up_ne hwl (nd_ne hN 2 4 rfl rfl rfl) ha
    have g_mn := up_ne hwl (fk hm hcx rfl) hm
    have g_cm := up_ne hwl (nd_ne hN 3 4 rfl rfl rfl) hc
    have g_nm := up_ne hwl (fk hnm hcx rfl) hnm
    have g_cx : wl cx = some (.inl (0, xn, .inl (fun j9 => nI (x j9)))) := up_at hwl
    refine j_iload dX0_takeNote_70 8 rfl ?_
    refine j_iload dX0_takeNote_72 5 rfl ?_
    refine j_icmp_gtN 195 (by omega) (by omega) dX0_takeNote_74 (by decide) (fun c74 => ?_) (fun c74 => ?_)
    · skip
      exact j_vret rfl ⟨rfl, by rw [← hr, show 2 ^ u 1 e - b = 0 by omega]; exact hwl⟩ (show 0 ≤ 0 by omega) (show 0 ≤ 0 by omega) dX0_takeNote_195
    · skip
      have hp0 := hpb 0
      have hp1 := hpb 1
      refine j_iload dX0_takeNote_77 8 rfl ?_
      refine j_if_neN 91 (by omega) dX0_takeNote_79 (by decide) (fun c79 => ?_) (fun c79 => ?_)
      · skip
        refine j_aload_n dX0_takeNote_91 0 rfl ?_
        refine j_get flX0_takeNote_30 g_fo rfl dX0_takeNote_92 ?_
        refine j_iload dX0_takeNote_95 4 rfl ?_
        refine j_iload dX0_takeNote_97 8 rfl ?_
        refine j_iaddN dX0_takeNote_99 ?_
        have hb1 := hdd ((sumP (u 1) e) + b)
        refine j_callV (rm := rX1_costAt) (As := [.int (nI ((sumP (u 1) e) + b))]) (st := []) (b0 := mn) (ci := 1) (na := 1) (c_costAt (s := ((sumP (u 1) e) + b)) g_mn g_cm (by omega) (by omega)) (by intro E w9 h9; first | exact nomatch h9.1 | (obtain ⟨_, h9, _⟩ := h9; exact nomatch h9) | (obtain ⟨_, _, _, h9, _⟩ := h9; exact nomatch h9)) gX0_takeNote_X1_costAt rfl rfl g_mn (by decide +kernel) rfl ⟨Nat.le_of_ble_eq_true rfl, Nat.le_of_ble_eq_true rfl⟩ rfl (Nat.le_of_ble_eq_true rfl) dX0_takeNote_100 ⟨(show 0 + 0 ≤ 0 by omega), (show 0 + 0 ≤ 0 by omega)⟩ (fun v2 w3 h4 => ?_)
        obtain ⟨h4, h5⟩ := h4
        cases h4
        subst w3
        refine j_after (st' := [.int (nI (d ((sumP (u 1) e) + b)))]) (k' := 0) (n' := 0) rfl rfl rfl ?_
        refine j_istore (lv' := [(9, .int (nI (d ((sumP (u 1) e) + b)))), (0, .ref fo), (1, .int (nI e)), (2, .int (nI no)), (3, .ref nm), (4, .int (nI (sumP (u 1) e))), (5, .int (nI (2 ^ u 1 e - 1))), (6, .int (nI ri)), (7, .int (zb orn)), (8, .int (nI b))]) dX0_takeNote_103 (Nat.le_of_ble_eq_true rfl) rfl ?_
        refine j_aload_n dX0_takeNote_105 4 rfl ?_
        refine j_iload dX0_takeNote_106 5 rfl ?_
        refine j_iload dX0_takeNote_108 9 rfl ?_
        refine j_iaddN dX0_takeNote_110 ?_
        refine j_iload dX0_takeNote_111 0 rfl ?_
        refine j_aload_n dX0_takeNote_113 1 rfl ?_
        refine j_get flX0_takeNote_9 g_fo rfl dX0_takeNote_114 ?_
        refine j_iconst (v := nI 1) dX0_takeNote_117 (by decide) ?_
        refine j_ialdN (j := 1) g_pr rfl (by omega) (by omega) dX0_takeNote_118 ?_
        have hb6 := hpb 1
        refine j_iaddN dX0_takeNote_119 ?_
        refine j_callV (rm := rX1_offer) (As := [.int (nI ((sumP (u 1) e) + b)), .int (nI ((d ((sumP (u 1) e) + b)) + (p 1)))]) (st := []) (b0 := nm) (ci := 1) (na := 2) (c_offer (s := ((sumP (u 1) e) + b)) (c := ((d ((sumP (u 1) e) + b)) + (p 1))) g_nm g_cx (by omega) (by omega) (by omega) (fun j => Nat.lt_of_le_of_lt (hxb j) (by decide))) (by intro E w9 h9; first | exact nomatch h9.1 | (obtain ⟨_, h9, _⟩ := h9; exact nomatch h9) | (obtain ⟨_, _, _, h9, _⟩ := h9; exact nomatch h9)) gX0_takeNote_X1_offer rfl rfl g_nm (by decide +kernel) rfl ⟨Nat.le_of_ble_eq_true rfl, Nat.le_of_ble_eq_true rfl⟩ rfl (Nat.le_of_ble_eq_true rfl) dX0_takeNote_120 ⟨(show 0 + 0 ≤ 0 by omega), (show 0 + 0 ≤ 0 by omega)⟩ (fun v7 w8 h9 => ?_)
        obtain ⟨h9, h10⟩ := h9
        cases h9
        -- w8
        refine j_after (st' := []) (k' := 0) (n' := 0) rfl rfl rfl ?_
        have f11 : w8 fo = some (.inr (0, [.ref sc, .ref pr, .ref ar, .ref de, .ref ms, .ref mn, .int (nI nt)])) := by rw [h10]; exact (va_up_ne _ _ (fk g_fo g_cx rfl)).trans (g_fo)
        have f12 : w8 sc = some (.inr (3, [.ref fa, .int (nI ev), .int (nI be), .int (nI cu), .int (nI st), .int (nI me), .int (nI pa)])) := by rw [h10]; exact (va_up_ne _ _ (fk g_sc g_cx rfl)).trans (g_sc)
        have f13 : w8 fa = some (.inl (0, 1400, .inl f)) := by rw [h10]; exact (va_up_ne _ _ (nd_ne hN 0 4 rfl rfl rfl)).trans (g_fa)
        have f14 : w8 pr = some (.inl (0, 4, .inl (fun j9 => nI (p j9)))) := by rw [h10]; exact (va_up_ne _ _ (nd_ne hN 1 4 rfl rfl rfl)).trans (g_pr)
        have f15 : w8 ar = some (.inl (0, 100, .inl (fun j9 => nI (a j9)))) := by rw [h10]; exact (va_up_ne _ _ (nd_ne hN 2 4 rfl rfl rfl)).trans (g_ar)
        have f16 : w8 mn = some (.inr (1, [va_rf bf, va_rf nx, .ref cm, .int (nI cl), .int (nI pe), .int (nI pb), .int (nI pc), .int (nI an), va_rf av, va_rf ah])) := by rw [h10]; exact (va_up_ne _ _ (fk g_mn g_cx rfl)).trans (g_mn)
        have f17 : w8 cm = some (.inl (0, cn, .inl (fun j9 => nI (d j9)))) := by rw [h10]; exact (va_up_ne _ _ (nd_ne hN 3 4 rfl rfl rfl)).trans (g_cm)
        have f18 : w8 nm = some (.inr (1, [va_rf bf2, va_rf nx2, .ref cx, .int (nI cl2), .int (nI pe2), .int (nI pb2), .int (nI pc2), .int (nI an2), va_rf av2, va_rf ah2])) := by rw [h10]; exact (va_up_ne _ _ (fk g_nm g_cx rfl)).trans (g_nm)
        have f19 : w8 cx = some (.inl (0, xn, .inl (fun j9 => nI ((offN x xn ((sumP (u 1) e) + b) ((d ((sumP (u 1) e) + b)) + (p 1))) j9)))) := by rw [h10]; exact va_up_self _ _ _
        have hb20 : ∀ j9, (offN x xn ((sumP (u 1) e) + b) ((d ((sumP (u 1) e) + b)) + (p 1))) j9 ≤ 1000000 := offN_le hxb
        refine j_iload dX0_takeNote_123 9 rfl ?_
        refine j_iload dX0_takeNote_125 6 rfl ?_
        refine j_icmp_eqN 157 (by omega) (by omega) dX0_takeNote_127 (by decide) (fun c127 => ?_) (fun c127 => ?_)
        · skip
          refine j_iload dX0_takeNote_157 7 rfl ?_
          refine j_if_eqN 189 (by omega) dX0_takeNote_159 (by decide) (fun c159 => ?_) (fun c159 => ?_)
          · skip
            refine j_iinc (q := 9) (v := nI (b + 1)) (lv' := [(8, .int (nI (b + 1))), (9, .int (nI (d ((sumP (u 1) e) + b)))), (0, .ref fo), (1, .int (nI e)), (2, .int (nI no)), (3, .ref nm), (4, .int (nI (sumP (u 1) e))), (5, .int (nI (2 ^ u 1 e - 1))), (6, .int (nI ri)), (7, .int (zb orn))]) dX0_takeNote_189 rfl (by first | exact nI_1 _ | exact nI_add _ _) (Nat.le_of_ble_eq_true rfl) rfl ?_
            refine j_goto 70 dX0_takeNote_192 (by decide) ?_
            refine j_lv (lv' := [(0, .ref fo), (1, .int (nI e)), (2, .int (nI no)), (3, .ref nm), (4, .int (nI (sumP (u 1) e))), (5, .int (nI (2 ^ u 1 e - 1))), (6, .int (nI ri)), (7, .int (zb orn)), (8, .int (nI (b + 1)))]) [2, 3, 4, 5, 6, 7, 8, 9, 0] rfl ?_
            have hS9 : tnS x xn (sumP (u 1) e) (2 ^ u 1 e - 1) ri orn (tnC d (sumP (u 1) e) (a e) b) (p 1) (p 0) b = offN x xn ((sumP (u 1) e) + b) ((d ((sumP (u 1) e) + b)) + (p 1)) := by
              simp only [tnC]; rw [if_neg c79]; unfold tnS; rw [if_neg (fun h => h.1 c159), if_pos c127]
            exact ih (b + 1) _ _ (by omega) (by omega) hb20 (by rw [← hr, tnF_step (show b < 2 ^ u 1 e by omega), hS9]) (by rw [h10, hwl]; simp only [bx_uu])
          · skip
            refine j_iload dX0_takeNote_162 8 rfl ?_
            refine j_if_ne 175 dX0_takeNote_164 (by decide) (fun c164 => ?_) (fun c164 => ?_)
            · skip
              have hor2 : b ||| ri < 2 ^ u 1 e := or_lt4 (by omega) hri
              refine j_aload_n dX0_takeNote_175 4 rfl ?_
              refine j_iload dX0_takeNote_176 5 rfl ?_
              refine j_iload dX0_takeNote_178 9 rfl ?_
              refine j_iload dX0_takeNote_180 7 rfl ?_
              refine j_ior dX0_takeNote_182 ?_
              refine j_eqi (y := nI (b ||| ri)) (fa_or _ _) ?_
              refine j_iaddN dX0_takeNote_183 ?_
              refine j_iload dX0_takeNote_184 0 rfl ?_
              refine j_callV (rm := rX1_offer) (As := [.int (nI ((sumP (u 1) e) + (b ||| ri))), .int (nI (d ((sumP (u 1) e) + b)))]) (st := []) (b0 := nm) (ci := 1) (na := 2) (c_offer (s := ((sumP (u 1) e) + (b ||| ri))) (c := (d ((sumP (u 1) e) + b))) f18 f19 (by omega) (by omega) (by omega) (fun j => Nat.lt_of_le_of_lt (hb20 j) (by decide))) (by intro E w9 h9; first | exact nomatch h9.1 | (obtain ⟨_, h9, _⟩ := h9; exact nomatch h9) | (obtain ⟨_, _, _, h9, _⟩ := h9; exact nomatch h9)) gX0_takeNote_X1_offer rfl rfl f18 (by decide +kernel) rfl ⟨Nat.le_of_ble_eq_true rfl, Nat.le_of_ble_eq_true rfl⟩ rfl (Nat.le_of_ble_eq_true rfl) dX0_takeNote_186 ⟨(show 0 + 0 ≤ 0 by omega), (show 0 + 0 ≤ 0 by omega)⟩ (fun v21 w22 h23 => ?_)
              obtain ⟨h23, h24⟩ := h23
              cases h23
              -- w22
              refine j_after (st' := []) (k' := 0) (n' := 0) rfl rfl rfl ?_
              have f25 : w22 fo = some (.inr (0, [.ref sc, .ref pr, .ref ar, .ref de, .ref ms, .ref mn, .int (nI nt)])) := by rw [h24]; exact (va_up_ne _ _ (fk f11 f19 rfl)).trans (f11)
              have f26 : w22 sc = some (.inr (3, [.ref fa, .int (nI ev), .int (nI be), .int (nI cu), .int (nI st), .int (nI me), .int (nI pa)])) := by rw [h24]; exact (va_up_ne _ _ (fk f12 f19 rfl)).trans (f12)
              have f27 : w22 fa = some (.inl (0, 1400, .inl f)) := by rw [h24]; exact (va_up_ne _ _ (nd_ne hN 0 4 rfl rfl rfl)).trans (f13)
              have f28 : w22 pr = some (.inl (0, 4, .inl (fun j9 => nI (p j9)))) := by rw [h24]; exact (va_up_ne _ _ (nd_ne hN 1 4 rfl rfl rfl)).trans (f14)
              have f29 : w22 ar = some (.inl (0, 100, .inl (fun j9 => nI (a j9)))) := by rw [h24]; exact (va_up_ne _ _ (nd_ne hN 2 4 rfl rfl rfl)).trans (f15)
              have f30 : w22 mn = some (.inr (1, [va_rf bf, va_rf nx, .ref cm, .int (nI cl), .int (nI pe), .int (nI pb), .int (nI pc), .int (nI an), va_rf av, va_rf ah])) := by rw [h24]; exact (va_up_ne _ _ (fk f16 f19 rfl)).trans (f16)
              have f31 : w22 cm = some (.inl (0, cn, .inl (fun j9 => nI (d j9)))) := by rw [h24]; exact (va_up_ne _ _ (nd_ne hN 3 4 rfl rfl rfl)).trans (f17)
              have f32 : w22 nm = some (.inr (1, [va_rf bf2, va_rf nx2, .ref cx, .int (nI cl2), .int (nI pe2), .int (nI pb2), .int (nI pc2), .int (nI an2), va_rf av2, va_rf ah2])) := by rw [h24]; exact (va_up_ne _ _ (fk f18 f19 rfl)).trans (f18)
              have f33 : w22 cx = some (.inl (0, xn, .inl (fun j9 => nI ((offN (offN x xn ((sumP (u 1) e) + b) ((d ((sumP (u 1) e) + b)) + (p 1))) xn ((sumP (u 1) e) + (b ||| ri)) (d ((sumP (u 1) e) + b))) j9)))) := by rw [h24]; exact va_up_self _ _ _
              have hb34 : ∀ j9, (offN (offN x xn ((sumP (u 1) e) + b) ((d ((sumP (u 1) e) + b)) + (p 1))) xn ((sumP (u 1) e) + (b ||| ri)) (d ((sumP (u 1) e) + b))) j9 ≤ 1000000 := offN_le hb20
              refine j_iinc (q := 9) (v := nI (b + 1)) (lv' := [(8, .int (nI (b + 1))), (9, .int (nI (d ((sumP (u 1) e) + b)))), (0, .ref fo), (1, .int (nI e)), (2, .int (nI no)), (3, .ref nm), (4, .int (nI (sumP (u 1) e))), (5, .int (nI (2 ^ u 1 e - 1))), (6, .int (nI ri)), (7, .int (zb orn))]) dX0_takeNote_189 rfl (by first | exact nI_1 _ | exact nI_add _ _) (Nat.le_of_ble_eq_true rfl) rfl ?_
              refine j_goto 70 dX0_takeNote_192 (by decide) ?_
              refine j_lv (lv' := [(0, .ref fo), (1, .int (nI e)), (2, .int (nI no)), (3, .ref nm), (4, .int (nI (sumP (u 1) e))), (5, .int (nI (2 ^ u 1 e - 1))), (6, .int (nI ri)), (7, .int (zb orn)), (8, .int (nI (b + 1)))]) [2, 3, 4, 5, 6, 7, 8, 9, 0] rfl ?_
              have hS9 : tnS x xn (sumP (u 1) e) (2 ^ u 1 e - 1) ri orn (tnC d (sumP (u 1) e) (a e) b) (p 1) (p 0) b = offN (offN x xn ((sumP (u 1) e) + b) ((d ((sumP (u 1) e) + b)) + (p 1))) xn ((sumP (u 1) e) + (b ||| ri)) (d ((sumP (u 1) e) + b)) := by
                simp only [tnC]; rw [if_neg c79]; unfold tnS; rw [if_pos ⟨c159, Or.inl (zb_n c164)⟩, if_pos c127]
              exact ih (b + 1) _ _ (by omega) (by omega) hb34 (by rw [← hr, tnF_step (show b < 2 ^ u 1 e by omega), hS9]) (by rw [h24, h10, hwl]; simp only [bx_uu])
            · skip
              refine j_iload dX0_takeNote_167 9 rfl ?_
              refine j_iload dX0_takeNote_169 7 rfl ?_
              have hand : b &&& ri ≤ b := Nat.and_le_left
              refine j_iand dX0_takeNote_171 ?_
              refine j_eqi (y := nI (b &&& ri)) (fa_and _ _) ?_
              refine j_if_neN 189 (by omega) dX0_takeNote_172 (by decide) (fun c172 => ?_) (fun c172 => ?_)
              · skip
                refine j_iinc (q := 9) (v := nI (b + 1)) (lv' := [(8, .int (nI (b + 1))), (9, .int (nI (d ((sumP (u 1) e) + b)))), (0, .ref fo), (1, .int (nI e)), (2, .int (nI no)), (3, .ref nm), (4, .int (nI (sumP (u 1) e))), (5, .int (nI (2 ^ u 1 e - 1))), (6, .int (nI ri)), (7, .int (zb orn))]) dX0_takeNote_189 rfl (by first | exact nI_1 _ | exact nI_add _ _) (Nat.le_of_ble_eq_true rfl) rfl ?_
                refine j_goto 70 dX0_takeNote_192 (by decide) ?_
                refine j_lv (lv' := [(0, .ref fo), (1, .int (nI e)), (2, .int (nI no)), (3, .ref nm), (4, .int (nI (sumP (u 1) e))), (5, .int (nI (2 ^ u 1 e - 1))), (6, .int (nI ri)), (7, .int (zb orn)), (8, .int (nI (b + 1)))]) [2, 3, 4, 5, 6, 7, 8, 9, 0] rfl ?_
                have hS9 : tnS x xn (sumP (u 1) e) (2 ^ u 1 e - 1) ri orn (tnC d (sumP (u 1) e) (a e) b) (p 1) (p 0) b = offN x xn ((sumP (u 1) e) + b) ((d ((sumP (u 1) e) + b)) + (p 1)) := by
                  simp only [tnC]; rw [if_neg c79]; unfold tnS; rw [if_neg (fun h => h.2.elim (fun q => by rw [zb_0 c164] at q; cases q) c172), if_pos c127]
                exact ih (b + 1) _ _ (by omega) (by omega) hb20 (by rw [← hr, tnF_step (show b < 2 ^ u 1 e by omega), hS9]) (by rw [h10, hwl]; simp only [bx_uu])
              · skip
                have hor2 : b ||| ri < 2 ^ u 1 e := or_lt4 (by omega) hri
                refine j_aload_n dX0_takeNote_175 4 rfl ?_
                refine j_iload dX0_takeNote_176 5 rfl ?_
                refine j_iload dX0_takeNote_178 9 rfl ?_
                refine j_iload dX0_takeNote_180 7 rfl ?_
                refine j_ior dX0_takeNote_182 ?_
                refine j_eqi (y := nI (b ||| ri)) (fa_or _ _) ?_
                refine j_iaddN dX0_takeNote_183 ?_
                refine j_iload dX0_takeNote_184 0 rfl ?_
                refine j_callV (rm := rX1_offer) (As := [.int (nI ((sumP (u 1) e) + (b ||| ri))), .int (nI (d ((sumP (u 1) e) + b)))]) (st := []) (b0 := nm) (ci := 1) (na := 2) (c_offer (s := ((sumP (u 1) e) + (b ||| ri))) (c := (d ((sumP (u 1) e) + b))) f18 f19 (by omega) (by omega) (by omega) (fun j => Nat.lt_of_le_of_lt (hb20 j) (by decide))) (by intro E w9 h9; first | exact nomatch h9.1 | (obtain ⟨_, h9, _⟩ := h9; exact nomatch h9) | (obtain ⟨_, _, _, h9, _⟩ := h9; exact nomatch h9)) gX0_takeNote_X1_offer rfl rfl f18 (by decide +kernel) rfl ⟨Nat.le_of_ble_eq_true rfl, Nat.le_of_ble_eq_true rfl⟩ rfl (Nat.le_of_ble_eq_true rfl) dX0_takeNote_186 ⟨(show 0 + 0 ≤ 0 by omega), (show 0 + 0 ≤ 0 by omega)⟩ (fun v35 w36 h37 => ?_)
                obtain ⟨h37, h38⟩ := h37
                cases h37
                -- w36
                refine j_after (st' := []) (k' := 0) (n' := 0) rfl rfl rfl ?_
                have f39 : w36 fo = some (.inr (0, [.ref sc, .ref pr, .ref ar, .ref de, .ref ms, .ref mn, .int (nI nt)])) := by rw [h38]; exact (va_up_ne _ _ (fk f11 f19 rfl)).trans (f11)
                have f40 : w36 sc = some (.inr (3, [.ref fa, .int (nI ev), .int (nI be), .int (nI cu), .int (nI st), .int (nI me), .int (nI pa)])) := by rw [h38]; exact (va_up_ne _ _ (fk f12 f19 rfl)).trans (f12)
                have f41 : w36 fa = some (.inl (0, 1400, .inl f)) := by rw [h38]; exact (va_up_ne _ _ (nd_ne hN 0 4 rfl rfl rfl)).trans (f13)
                have f42 : w36 pr = some (.inl (0, 4, .inl (fun j9 => nI (p j9)))) := by rw [h38]; exact (va_up_ne _ _ (nd_ne hN 1 4 rfl rfl rfl)).trans (f14)
                have f43 : w36 ar = some (.inl (0, 100, .inl (fun j9 => nI (a j9)))) := by rw [h38]; exact (va_up_ne _ _ (nd_ne hN 2 4 rfl rfl rfl)).trans (f15)
                have f44 : w36 mn = some (.inr (1, [va_rf bf, va_rf nx, .ref cm, .int (nI cl), .int (nI pe), .int (nI pb), .int (nI pc), .int (nI an), va_rf av, va_rf ah])) := by rw [h38]; exact (va_up_ne _ _ (fk f16 f19 rfl)).trans (f16)
                have f45 : w36 cm = some (.inl (0, cn, .inl (fun j9 => nI (d j9)))) := by rw [h38]; exact (va_up_ne _ _ (nd_ne hN 3 4 rfl rfl rfl)).trans (f17)
                have f46 : w36 nm = some (.inr (1, [va_rf bf2, va_rf nx2, .ref cx, .int (nI cl2), .int (nI pe2), .int (nI pb2), .int (nI pc2), .int (nI an2), va_rf av2, va_rf ah2])) := by rw [h38]; exact (va_up_ne _ _ (fk f18 f19 rfl)).trans (f18)
                have f47 : w36 cx = some (.inl (0, xn, .inl (fun j9 => nI ((offN (offN x xn ((sumP (u 1) e) + b) ((d ((sumP (u 1) e) + b)) + (p 1))) xn ((sumP (u 1) e) + (b ||| ri)) (d ((sumP (u 1) e) + b))) j9)))) := by rw [h38]; exact va_up_self _ _ _
                have hb48 : ∀ j9, (offN (offN x xn ((sumP (u 1) e) + b) ((d ((sumP (u 1) e) + b)) + (p 1))) xn ((sumP (u 1) e) + (b ||| ri)) (d ((sumP (u 1) e) + b))) j9 ≤ 1000000 := offN_le hb20
                refine j_iinc (q := 9) (v := nI (b + 1)) (lv' := [(8, .int (nI (b + 1))), (9, .int (nI (d ((sumP (u 1) e) + b)))), (0, .ref fo), (1, .int (nI e)), (2, .int (nI no)), (3, .ref nm), (4, .int (nI (sumP (u 1) e))), (5, .int (nI (2 ^ u 1 e - 1))), (6, .int (nI ri)), (7, .int (zb orn))]) dX0_takeNote_189 rfl (by first | exact nI_1 _ | exact nI_add _ _) (Nat.le_of_ble_eq_true rfl) rfl ?_
                refine j_goto 70 dX0_takeNote_192 (by decide) ?_
                refine j_lv (lv' := [(0, .ref fo), (1, .int (nI e)), (2, .int (nI no)), (3, .ref nm), (4, .int (nI (sumP (u 1) e))), (5, .int (nI (2 ^ u 1 e - 1))), (6, .int (nI ri)), (7, .int (zb orn)), (8, .int (nI (b + 1)))]) [2, 3, 4, 5, 6, 7, 8, 9, 0] rfl ?_
                have hS9 : tnS x xn (sumP (u 1) e) (2 ^ u 1 e - 1) ri orn (tnC d (sumP (u 1) e) (a e) b) (p 1) (p 0) b = offN (offN x xn ((sumP (u 1) e) + b) ((d ((sumP (u 1) e) + b)) + (p 1))) xn ((sumP (u 1) e) + (b ||| ri)) (d ((sumP (u 1) e) + b)) := by
                  simp only [tnC]; rw [if_neg c79]; unfold tnS; rw [if_pos ⟨c159, Or.inr c172⟩, if_pos c127]
                exact ih (b + 1) _ _ (by omega) (by omega) hb48 (by rw [← hr, tnF_step (show b < 2 ^ u 1 e by omega), hS9]) (by rw [h38, h10, hwl]; simp only [bx_uu])
        · skip
          have hor1 : b ||| (b + 1) < 2 ^ u 1 e := or_lt4 (by omega) (by omega)
          refine j_iload dX0_takeNote_130 9 rfl ?_
          refine j_iload dX0_takeNote_132 9 rfl ?_
          refine j_iconst (v := nI 1) dX0_takeNote_134 (by decide) ?_
          refine j_iaddN dX0_takeNote_135 ?_
          refine j_ior dX0_takeNote_136 ?_
          refine j_eqi (y := nI (b ||| (b + 1))) (fa_or _ _) ?_
          refine j_istore (lv' := [(10, .int (nI (b ||| (b + 1)))), (9, .int (nI (d ((sumP (u 1) e) + b)))), (0, .ref fo), (1, .int (nI e)), (2, .int (nI no)), (3, .ref nm), (4, .int (nI (sumP (u 1) e))), (5, .int (nI (2 ^ u 1 e - 1))), (6, .int (nI ri)), (7, .int (zb orn)), (8, .int (nI b))]) dX0_takeNote_137 (Nat.le_of_ble_eq_true rfl) rfl ?_
          refine j_aload_n dX0_takeNote_139 5 rfl ?_
          refine j_iload dX0_takeNote_140 6 rfl ?_
          refine j_iload dX0_takeNote_142 0 rfl ?_
          refine j_iaddN dX0_takeNote_144 ?_
          refine j_iload dX0_takeNote_145 1 rfl ?_
          refine j_aload_n dX0_takeNote_147 2 rfl ?_
          refine j_get flX0_takeNote_9 f11 rfl dX0_takeNote_148 ?_
          refine j_iconst (v := nI 0) dX0_takeNote_151 (by decide) ?_
          refine j_ialdN (j := 0) f14 rfl (by omega) (by omega) dX0_takeNote_152 ?_
          have hb49 := hpb 0
          refine j_iaddN dX0_takeNote_153 ?_
          refine j_callV (rm := rX1_offer) (As := [.int (nI ((sumP (u 1) e) + (b ||| (b + 1)))), .int (nI ((d ((sumP (u 1) e) + b)) + (p 0)))]) (st := []) (b0 := nm) (ci := 1) (na := 2) (c_offer (s := ((sumP (u 1) e) + (b ||| (b + 1)))) (c := ((d ((sumP (u 1) e) + b)) + (p 0))) f18 f19 (by omega) (by omega) (by omega) (fun j => Nat.lt_of_le_of_lt (hb20 j) (by decide))) (by intro E w9 h9; first | exact nomatch h9.1 | (obtain ⟨_, h9, _⟩ := h9; exact nomatch h9) | (obtain ⟨_, _, _, h9, _⟩ := h9; exact nomatch h9)) gX0_takeNote_X1_offer rfl rfl f18 (by decide +kernel) rfl ⟨Nat.le_of_ble_eq_true rfl, Nat.le_of_ble_eq_true rfl⟩ rfl (Nat.le_of_ble_eq_true rfl) dX0_takeNote_154 ⟨(show 0 + 0 ≤ 0 by omega), (show 0 + 0 ≤ 0 by omega)⟩ (fun v50 w51 h52 => ?_)
          obtain ⟨h52, h53⟩ := h52
          cases h52
          -- w51
          refine j_after (st' := []) (k' := 0) (n' := 0) rfl rfl rfl ?_
          have f54 : w51 fo = some (.inr (0, [.ref sc, .ref pr, .ref ar, .ref de, .ref ms, .ref mn, .int (nI nt)])) := by rw [h53]; exact (va_up_ne _ _ (fk f11 f19 rfl)).trans (f11)
          have f55 : w51 sc = some (.inr (3, [.ref fa, .int (nI ev), .int (nI be), .int (nI cu), .int (nI st), .int (nI me), .int (nI pa)])) := by rw [h53]; exact (va_up_ne _ _ (fk f12 f19 rfl)).trans (f12)
          have f56 : w51 fa = some (.inl (0, 1400, .inl f)) := by rw [h53]; exact (va_up_ne _ _ (nd_ne hN 0 4 rfl rfl rfl)).trans (f13)
          have f57 : w51 pr = some (.inl (0, 4, .inl (fun j9 => nI (p j9)))) := by rw [h53]; exact (va_up_ne _ _ (nd_ne hN 1 4 rfl rfl rfl)).trans (f14)
          have f58 : w51 ar = some (.inl (0, 100, .inl (fun j9 => nI (a j9)))) := by rw [h53]; exact (va_up_ne _ _ (nd_ne hN 2 4 rfl rfl rfl)).trans (f15)
          have f59 : w51 mn = some (.inr (1, [va_rf bf, va_rf nx, .ref cm, .int (nI cl), .int (nI pe), .int (nI pb), .int (nI pc), .int (nI an), va_rf av, va_rf ah])) := by rw [h53]; exact (va_up_ne _ _ (fk f16 f19 rfl)).trans (f16)
          have f60 : w51 cm = some (.inl (0, cn, .inl (fun j9 => nI (d j9)))) := by rw [h53]; exact (va_up_ne _ _ (nd_ne hN 3 4 rfl rfl rfl)).trans (f17)
          have f61 : w51 nm = some (.inr (1, [va_rf bf2, va_rf nx2, .ref cx, .int (nI cl2), .int (nI pe2), .int (nI pb2), .int (nI pc2), .int (nI an2), va_rf av2, va_rf ah2])) := by rw [h53]; exact (va_up_ne _ _ (fk f18 f19 rfl)).trans (f18)
          have f62 : w51 cx = some (.inl (0, xn, .inl (fun j9 => nI ((offN (offN x xn ((sumP (u 1) e) + b) ((d ((sumP (u 1) e) + b)) + (p 1))) xn ((sumP (u 1) e) + (b ||| (b + 1))) ((d ((sumP (u 1) e) + b)) + (p 0))) j9)))) := by rw [h53]; exact va_up_self _ _ _
          have hb63 : ∀ j9, (offN (offN x xn ((sumP (u 1) e) + b) ((d ((sumP (u 1) e) + b)) + (p 1))) xn ((sumP (u 1) e) + (b ||| (b + 1))) ((d ((sumP (u 1) e) + b)) + (p 0))) j9 ≤ 1000000 := offN_le hb20
          refine j_iload dX0_takeNote_157 8 rfl ?_
          refine j_if_eqN 189 (by omega) dX0_takeNote_159 (by decide) (fun c159 => ?_) (fun c159 => ?_)
          · skip
            refine j_iinc (q := 10) (v := nI (b + 1)) (lv' := [(8, .int (nI (b + 1))), (10, .int (nI (b ||| (b + 1)))), (9, .int (nI (d ((sumP (u 1) e) + b)))), (0, .ref fo), (1, .int (nI e)), (2, .int (nI no)), (3, .ref nm), (4, .int (nI (sumP (u 1) e))), (5, .int (nI (2 ^ u 1 e - 1))), (6, .int (nI ri)), (7, .int (zb orn))]) dX0_takeNote_189 rfl (by first | exact nI_1 _ | exact nI_add _ _) (Nat.le_of_ble_eq_true rfl) rfl ?_
            refine j_goto 70 dX0_takeNote_192 (by decide) ?_
            refine j_lv (lv' := [(0, .ref fo), (1, .int (nI e)), (2, .int (nI no)), (3, .ref nm), (4, .int (nI (sumP (u 1) e))), (5, .int (nI (2 ^ u 1 e - 1))), (6, .int (nI ri)), (7, .int (zb orn)), (8, .int (nI (b + 1)))]) [3, 4, 5, 6, 7, 8, 9, 10, 0] rfl ?_
            have hS9 : tnS x xn (sumP (u 1) e) (2 ^ u 1 e - 1) ri orn (tnC d (sumP (u 1) e) (a e) b) (p 1) (p 0) b = offN (offN x xn ((sumP (u 1) e) + b) ((d ((sumP (u 1) e) + b)) + (p 1))) xn ((sumP (u 1) e) + (b ||| (b + 1))) ((d ((sumP (u 1) e) + b)) + (p 0)) := by
              simp only [tnC]; rw [if_neg c79]; unfold tnS; rw [if_neg (fun h => h.1 c159), if_neg c127]
            exact ih (b + 1) _ _ (by omega) (by omega) hb63 (by rw [← hr, tnF_step (show b < 2 ^ u 1 e by omega), hS9]) (by rw [h53, h10, hwl]; simp only [bx_uu])
          · skip
            refine j_iload dX0_takeNote_162 9 rfl ?_
            refine j_if_ne 175 dX0_takeNote_164 (by decide) (fun c164 => ?_) (fun c164 => ?_)
            · skip
              have hor2 : b ||| ri < 2 ^ u 1 e := or_lt4 (by omega) hri
              refine j_aload_n dX0_takeNote_175 5 rfl ?_
              refine j_iload dX0_takeNote_176 6 rfl ?_
              refine j_iload dX0_takeNote_178 10 rfl ?_
              refine j_iload dX0_takeNote_180 8 rfl ?_
              refine j_ior dX0_takeNote_182 ?_
              refine j_eqi (y := nI (b ||| ri)) (fa_or _ _) ?_
              refine j_iaddN dX0_takeNote_183 ?_
              refine j_iload dX0_takeNote_184 1 rfl ?_
              refine j_callV (rm := rX1_offer) (As := [.int (nI ((sumP (u 1) e) + (b ||| ri))), .int (nI (d ((sumP (u 1) e) + b)))]) (st := []) (b0 := nm) (ci := 1) (na := 2) (c_offer (s := ((sumP (u 1) e) + (b ||| ri))) (c := (d ((sumP (u 1) e) + b))) f61 f62 (by omega) (by omega) (by omega) (fun j => Nat.lt_of_le_of_lt (hb63 j) (by decide))) (by intro E w9 h9; first | exact nomatch h9.1 | (obtain ⟨_, h9, _⟩ := h9; exact nomatch h9) | (obtain ⟨_, _, _, h9, _⟩ := h9; exact nomatch h9)) gX0_takeNote_X1_offer rfl rfl f61 (by decide +kernel) rfl ⟨Nat.le_of_ble_eq_true rfl, Nat.le_of_ble_eq_true rfl⟩ rfl (Nat.le_of_ble_eq_true rfl) dX0_takeNote_186 ⟨(show 0 + 0 ≤ 0 by omega), (show 0 + 0 ≤ 0 by omega)⟩ (fun v64 w65 h66 => ?_)
              obtain ⟨h66, h67⟩ := h66
              cases h66
              -- w65
              refine j_after (st' := []) (k' := 0) (n' := 0) rfl rfl rfl ?_
              have f68 : w65 fo = some (.inr (0, [.ref sc, .ref pr, .ref ar, .ref de, .ref ms, .ref mn, .int (nI nt)])) := by rw [h67]; exact (va_up_ne _ _ (fk f54 f62 rfl)).trans (f54)
              have f69 : w65 sc = some (.inr (3, [.ref fa, .int (nI ev), .int (nI be), .int (nI cu), .int (nI st), .int (nI me), .int (nI pa)])) := by rw [h67]; exact (va_up_ne _ _ (fk f55 f62 rfl)).trans (f55)
              have f70 : w65 fa = some (.inl (0, 1400, .inl f)) := by rw [h67]; exact (va_up_ne _ _ (nd_ne hN 0 4 rfl rfl rfl)).trans (f56)
              have f71 : w65 pr = some (.inl (0, 4, .inl (fun j9 => nI (p j9)))) := by rw [h67]; exact (va_up_ne _ _ (nd_ne hN 1 4 rfl rfl rfl)).trans (f57)
              have f72 : w65 ar = some (.inl (0, 100, .inl (fun j9 => nI (a j9)))) := by rw [h67]; exact (va_up_ne _ _ (nd_ne hN 2 4 rfl rfl rfl)).trans (f58)
              have f73 : w65 mn = some (.inr (1, [va_rf bf, va_rf nx, .ref cm, .int (nI cl), .int (nI pe), .int (nI pb), .int (nI pc), .int (nI an), va_rf av, va_rf ah])) := by rw [h67]; exact (va_up_ne _ _ (fk f59 f62 rfl)).trans (f59)
              have f74 : w65 cm = some (.inl (0, cn, .inl (fun j9 => nI (d j9)))) := by rw [h67]; exact (va_up_ne _ _ (nd_ne hN 3 4 rfl rfl rfl)).trans (f60)
              have f75 : w65 nm = some (.inr (1, [va_rf bf2, va_rf nx2, .ref cx, .int (nI cl2), .int (nI pe2), .int (nI pb2), .int (nI pc2), .int (nI an2), va_rf av2, va_rf ah2])) := by rw [h67]; exact (va_up_ne _ _ (fk f61 f62 rfl)).trans (f61)
              have f76 : w65 cx = some (.inl (0, xn, .inl (fun j9 => nI ((offN (offN (offN x xn ((sumP (u 1) e) + b) ((d ((sumP (u 1) e) + b)) + (p 1))) xn ((sumP (u 1) e) + (b ||| (b + 1))) ((d ((sumP (u 1) e) + b)) + (p 0))) xn ((sumP (u 1) e) + (b ||| ri)) (d ((sumP (u 1) e) + b))) j9)))) := by rw [h67]; exact va_up_self _ _ _
              have hb77 : ∀ j9, (offN (offN (offN x xn ((sumP (u 1) e) + b) ((d ((sumP (u 1) e) + b)) + (p 1))) xn ((sumP (u 1) e) + (b ||| (b + 1))) ((d ((sumP (u 1) e) + b)) + (p 0))) xn ((sumP (u 1) e) + (b ||| ri)) (d ((sumP (u 1) e) + b))) j9 ≤ 1000000 := offN_le hb63
              refine j_iinc (q := 10) (v := nI (b + 1)) (lv' := [(8, .int (nI (b + 1))), (10, .int (nI (b ||| (b + 1)))), (9, .int (nI (d ((sumP (u 1) e) + b)))), (0, .ref fo), (1, .int (nI e)), (2, .int (nI no)), (3, .ref nm), (4, .int (nI (sumP (u 1) e))), (5, .int (nI (2 ^ u 1 e - 1))), (6, .int (nI ri)), (7, .int (zb orn))]) dX0_takeNote_189 rfl (by first | exact nI_1 _ | exact nI_add _ _) (Nat.le_of_ble_eq_true rfl) rfl ?_
              refine j_goto 70 dX0_takeNote_192 (by decide) ?_
              refine j_lv (lv' := [(0, .ref fo), (1, .int (nI e)), (2, .int (nI no)), (3, .ref nm), (4, .int (nI (sumP (u 1) e))), (5, .int (nI (2 ^ u 1 e - 1))), (6, .int (nI ri)), (7, .int (zb orn)), (8, .int (nI (b + 1)))]) [3, 4, 5, 6, 7, 8, 9, 10, 0] rfl ?_
              have hS9 : tnS x xn (sumP (u 1) e) (2 ^ u 1 e - 1) ri orn (tnC d (sumP (u 1) e) (a e) b) (p 1) (p 0) b = offN (offN (offN x xn ((sumP (u 1) e) + b) ((d ((sumP (u 1) e) + b)) + (p 1))) xn ((sumP (u 1) e) + (b ||| (b + 1))) ((d ((sumP (u 1) e) + b)) + (p 0))) xn ((sumP (u 1) e) + (b ||| ri)) (d ((sumP (u 1) e) + b)) := by
                simp only [tnC]; rw [if_neg c79]; unfold tnS; rw [if_pos ⟨c159, Or.inl (zb_n c164)⟩, if_neg c127]
              exact ih (b + 1) _ _ (by omega) (by omega) hb77 (by rw [← hr, tnF_step (show b < 2 ^ u 1 e by omega), hS9]) (by rw [h67, h53, h10, hwl]; simp only [bx_uu])
            · skip
              refine j_iload dX0_takeNote_167 10 rfl ?_
              refine j_iload dX0_takeNote_169 8 rfl ?_
              have hand : b &&& ri ≤ b := Nat.and_le_left
              refine j_iand dX0_takeNote_171 ?_
              refine j_eqi (y := nI (b &&& ri)) (fa_and _ _) ?_
              refine j_if_neN 189 (by omega) dX0_takeNote_172 (by decide) (fun c172 => ?_) (fun c172 => ?_)
              · skip
                refine j_iinc (q := 10) (v := nI (b + 1)) (lv' := [(8, .int (nI (b + 1))), (10, .int (nI (b ||| (b + 1)))), (9, .int (nI (d ((sumP (u 1) e) + b)))), (0, .ref fo), (1, .int (nI e)), (2, .int (nI no)), (3, .ref nm), (4, .int (nI (sumP (u 1) e))), (5, .int (nI (2 ^ u 1 e - 1))), (6, .int (nI ri)), (7, .int (zb orn))]) dX0_takeNote_189 rfl (by first | exact nI_1 _ | exact nI_add _ _) (Nat.le_of_ble_eq_true rfl) rfl ?_
                refine j_goto 70 dX0_takeNote_192 (by decide) ?_
                refine j_lv (lv' := [(0, .ref fo), (1, .int (nI e)), (2, .int (nI no)), (3, .ref nm), (4, .int (nI (sumP (u 1) e))), (5, .int (nI (2 ^ u 1 e - 1))), (6, .int (nI ri)), (7, .int (zb orn)), (8, .int (nI (b + 1)))]) [3, 4, 5, 6, 7, 8, 9, 10, 0] rfl ?_
                have hS9 : tnS x xn (sumP (u 1) e) (2 ^ u 1 e - 1) ri orn (tnC d (sumP (u 1) e) (a e) b) (p 1) (p 0) b = offN (offN x xn ((sumP (u 1) e) + b) ((d ((sumP (u 1) e) + b)) + (p 1))) xn ((sumP (u 1) e) + (b ||| (b + 1))) ((d ((sumP (u 1) e) + b)) + (p 0)) := by
                  simp only [tnC]; rw [if_neg c79]; unfold tnS; rw [if_neg (fun h => h.2.elim (fun q => by rw [zb_0 c164] at q; cases q) c172), if_neg c127]
                exact ih (b + 1) _ _ (by omega) (by omega) hb63 (by rw [← hr, tnF_step (show b < 2 ^ u 1 e by omega), hS9]) (by rw [h53, h10, hwl]; simp only [bx_uu])
              · skip
                have hor2 : b ||| ri < 2 ^ u 1 e := or_lt4 (by omega) hri
                refine j_aload_n dX0_takeNote_175 5 rfl ?_
                refine j_iload dX0_takeNote_176 6 rfl ?_
                refine j_iload dX0_takeNote_178 10 rfl ?_
                refine j_iload dX0_takeNote_180 8 rfl ?_
                refine j_ior dX0_takeNote_182 ?_
                refine j_eqi (y := nI (b ||| ri)) (fa_or _ _) ?_
                refine j_iaddN dX0_takeNote_183 ?_
                refine j_iload dX0_takeNote_184 1 rfl ?_
                refine j_callV (rm := rX1_offer) (As := [.int (nI ((sumP (u 1) e) + (b ||| ri))), .int (nI (d ((sumP (u 1) e) + b)))]) (st := []) (b0 := nm) (ci := 1) (na := 2) (c_offer (s := ((sumP (u 1) e) + (b ||| ri))) (c := (d ((sumP (u 1) e) + b))) f61 f62 (by omega) (by omega) (by omega) (fun j => Nat.lt_of_le_of_lt (hb63 j) (by decide))) (by intro E w9 h9; first | exact nomatch h9.1 | (obtain ⟨_, h9, _⟩ := h9; exact nomatch h9) | (obtain ⟨_, _, _, h9, _⟩ := h9; exact nomatch h9)) gX0_takeNote_X1_offer rfl rfl f61 (by decide +kernel) rfl ⟨Nat.le_of_ble_eq_true rfl, Nat.le_of_ble_eq_true rfl⟩ rfl (Nat.le_of_ble_eq_true rfl) dX0_takeNote_186 ⟨(show 0 + 0 ≤ 0 by omega), (show 0 + 0 ≤ 0 by omega)⟩ (fun v78 w79 h80 => ?_)
                obtain ⟨h80, h81⟩ := h80
                cases h80
                -- w79
                refine j_after (st' := []) (k' := 0) (n' := 0) rfl rfl rfl ?_
                have f82 : w79 fo = some (.inr (0, [.ref sc, .ref pr, .ref ar, .ref de, .ref ms, .ref mn, .int (nI nt)])) := by rw [h81]; exact (va_up_ne _ _ (fk f54 f62 rfl)).trans (f54)
                have f83 : w79 sc = some (.inr (3, [.ref fa, .int (nI ev), .int (nI be), .int (nI cu), .int (nI st), .int (nI me), .int (nI pa)])) := by rw [h81]; exact (va_up_ne _ _ (fk f55 f62 rfl)).trans (f55)
                have f84 : w79 fa = some (.inl (0, 1400, .inl f)) := by rw [h81]; exact (va_up_ne _ _ (nd_ne hN 0 4 rfl rfl rfl)).trans (f56)
                have f85 : w79 pr = some (.inl (0, 4, .inl (fun j9 => nI (p j9)))) := by rw [h81]; exact (va_up_ne _ _ (nd_ne hN 1 4 rfl rfl rfl)).trans (f57)
                have f86 : w79 ar = some (.inl (0, 100, .inl (fun j9 => nI (a j9)))) := by rw [h81]; exact (va_up_ne _ _ (nd_ne hN 2 4 rfl rfl rfl)).trans (f58)
                have f87 : w79 mn = some (.inr (1, [va_rf bf, va_rf nx, .ref cm, .int (nI cl), .int (nI pe), .int (nI pb), .int (nI pc), .int (nI an), va_rf av, va_rf ah])) := by rw [h81]; exact (va_up_ne _ _ (fk f59 f62 rfl)).trans (f59)
                have f88 : w79 cm = some (.inl (0, cn, .inl (fun j9 => nI (d j9)))) := by rw [h81]; exact (va_up_ne _ _ (nd_ne hN 3 4 rfl rfl rfl)).trans (f60)
                have f89 : w79 nm = some (.inr (1, [va_rf bf2, va_rf nx2, .ref cx, .int (nI cl2), .int (nI pe2), .int (nI pb2), .int (nI pc2), .int (nI an2), va_rf av2, va_rf ah2])) := by rw [h81]; exact (va_up_ne _ _ (fk f61 f62 rfl)).trans (f61)
                have f90 : w79 cx = some (.inl (0, xn, .inl (fun j9 => nI ((offN (offN (offN x xn ((sumP (u 1) e) + b) ((d ((sumP (u 1) e) + b)) + (p 1))) xn ((sumP (u 1) e) + (b ||| (b + 1))) ((d ((sumP (u 1) e) + b)) + (p 0))) xn ((sumP (u 1) e) + (b ||| ri)) (d ((sumP (u 1) e) + b))) j9)))) := by rw [h81]; exact va_up_self _ _ _
                have hb91 : ∀ j9, (offN (offN (offN x xn ((sumP (u 1) e) + b) ((d ((sumP (u 1) e) + b)) + (p 1))) xn ((sumP (u 1) e) + (b ||| (b + 1))) ((d ((sumP (u 1) e) + b)) + (p 0))) xn ((sumP (u 1) e) + (b ||| ri)) (d ((sumP (u 1) e) + b))) j9 ≤ 1000000 := offN_le hb63
                refine j_iinc (q := 10) (v := nI (b + 1)) (lv' := [(8, .int (nI (b + 1))), (10, .int (nI (b ||| (b + 1)))), (9, .int (nI (d ((sumP (u 1) e) + b)))), (0, .ref fo), (1, .int (nI e)), (2, .int (nI no)), (3, .ref nm), (4, .int (nI (sumP (u 1) e))), (5, .int (nI (2 ^ u 1 e - 1))), (6, .int (nI ri)), (7, .int (zb orn))]) dX0_takeNote_189 rfl (by first | exact nI_1 _ | exact nI_add _ _) (Nat.le_of_ble_eq_true rfl) rfl ?_
                refine j_goto 70 dX0_takeNote_192 (by decide) ?_
                refine j_lv (lv' := [(0, .ref fo), (1, .int (nI e)), (2, .int (nI no)), (3, .ref nm), (4, .int (nI (sumP (u 1) e))), (5, .int (nI (2 ^ u 1 e - 1))), (6, .int (nI ri)), (7, .int (zb orn)), (8, .int (nI (b + 1)))]) [3, 4, 5, 6, 7, 8, 9, 10, 0] rfl ?_
                have hS9 : tnS x xn (sumP (u 1) e) (2 ^ u 1 e - 1) ri orn (tnC d (sumP (u 1) e) (a e) b) (p 1) (p 0) b = offN (offN (offN x xn ((sumP (u 1) e) + b) ((d ((sumP (u 1) e) + b)) + (p 1))) xn ((sumP (u 1) e) + (b ||| (b + 1))) ((d ((sumP (u 1) e) + b)) + (p 0))) xn ((sumP (u 1) e) + (b ||| ri)) (d ((sumP (u 1) e) + b)) := by
                  simp only [tnC]; rw [if_neg c79]; unfold tnS; rw [if_pos ⟨c159, Or.inr c172⟩, if_neg c127]
                exact ih (b + 1) _ _ (by omega) (by omega) hb91 (by rw [← hr, tnF_step (show b < 2 ^ u 1 e by omega), hS9]) (by rw [h81, h53, h10, hwl]; simp only [bx_uu])
      · skip
        refine j_aload_n dX0_takeNote_82 0 rfl ?_
        refine j_get flX0_takeNote_15 g_fo rfl dX0_takeNote_83 ?_
        refine j_iload_n dX0_takeNote_86 1 rfl ?_
        refine j_ialdN (j := e) g_ar rfl (by omega) (by omega) dX0_takeNote_87 ?_
        have hb92 := hab e
        refine j_goto 103 dX0_takeNote_88 (by decide) ?_
        refine j_istore (lv' := [(9, .int (nI (a e))), (0, .ref fo), (1, .int (nI e)), (2, .int (nI no)), (3, .ref nm), (4, .int (nI (sumP (u 1) e))), (5, .int (nI (2 ^ u 1 e - 1))), (6, .int (nI ri)), (7, .int (zb orn)), (8, .int (nI b))]) dX0_takeNote_103 (Nat.le_of_ble_eq_true rfl) rfl ?_
        refine j_aload_n dX0_takeNote_105 4 rfl ?_
        refine j_iload dX0_takeNote_106 5 rfl ?_
        refine j_iload dX0_takeNote_108 9 rfl ?_
        refine j_iaddN dX0_takeNote_110 ?_
        refine j_iload dX0_takeNote_111 0 rfl ?_
        refine j_aload_n dX0_takeNote_113 1 rfl ?_
        refine j_get flX0_takeNote_9 g_fo rfl dX0_takeNote_114 ?_
        refine j_iconst (v := nI 1) dX0_takeNote_117 (by decide) ?_
        refine j_ialdN (j := 1) g_pr rfl (by omega) (by omega) dX0_takeNote_118 ?_
        have hb93 := hpb 1
        refine j_iaddN dX0_takeNote_119 ?_
        refine j_callV (rm := rX1_offer) (As := [.int (nI ((sumP (u 1) e) + b)), .int (nI ((a e) + (p 1)))]) (st := []) (b0 := nm) (ci := 1) (na := 2) (c_offer (s := ((sumP (u 1) e) + b)) (c := ((a e) + (p 1))) g_nm g_cx (by omega) (by omega) (by omega) (fun j => Nat.lt_of_le_of_lt (hxb j) (by decide))) (by intro E w9 h9; first | exact nomatch h9.1 | (obtain ⟨_, h9, _⟩ := h9; exact nomatch h9) | (obtain ⟨_, _, _, h9, _⟩ := h9; exact nomatch h9)) gX0_takeNote_X1_offer rfl rfl g_nm (by decide +kernel) rfl ⟨Nat.le_of_ble_eq_true rfl, Nat.le_of_ble_eq_true rfl⟩ rfl (Nat.le_of_ble_eq_true rfl) dX0_takeNote_120 ⟨(show 0 + 0 ≤ 0 by omega), (show 0 + 0 ≤ 0 by omega)⟩ (fun v94 w95 h96 => ?_)
        obtain ⟨h96, h97⟩ := h96
        cases h96
        -- w95
        refine j_after (st' := []) (k' := 0) (n' := 0) rfl rfl rfl ?_
        have f98 : w95 fo = some (.inr (0, [.ref sc, .ref pr, .ref ar, .ref de, .ref ms, .ref mn, .int (nI nt)])) := by rw [h97]; exact (va_up_ne _ _ (fk g_fo g_cx rfl)).trans (g_fo)
        have f99 : w95 sc = some (.inr (3, [.ref fa, .int (nI ev), .int (nI be), .int (nI cu), .int (nI st), .int (nI me), .int (nI pa)])) := by rw [h97]; exact (va_up_ne _ _ (fk g_sc g_cx rfl)).trans (g_sc)
        have f100 : w95 fa = some (.inl (0, 1400, .inl f)) := by rw [h97]; exact (va_up_ne _ _ (nd_ne hN 0 4 rfl rfl rfl)).trans (g_fa)
        have f101 : w95 pr = some (.inl (0, 4, .inl (fun j9 => nI (p j9)))) := by rw [h97]; exact (va_up_ne _ _ (nd_ne hN 1 4 rfl rfl rfl)).trans (g_pr)
        have f102 : w95 ar = some (.inl (0, 100, .inl (fun j9 => nI (a j9)))) := by rw [h97]; exact (va_up_ne _ _ (nd_ne hN 2 4 rfl rfl rfl)).trans (g_ar)
        have f103 : w95 mn = some (.inr (1, [va_rf bf, va_rf nx, .ref cm, .int (nI cl), .int (nI pe), .int (nI pb), .int (nI pc), .int (nI an), va_rf av, va_rf ah])) := by rw [h97]; exact (va_up_ne _ _ (fk g_mn g_cx rfl)).trans (g_mn)
        have f104 : w95 cm = some (.inl (0, cn, .inl (fun j9 => nI (d j9)))) := by rw [h97]; exact (va_up_ne _ _ (nd_ne hN 3 4 rfl rfl rfl)).trans (g_cm)
        have f105 : w95 nm = some (.inr (1, [va_rf bf2, va_rf nx2, .ref cx, .int (nI cl2), .int (nI pe2), .int (nI pb2), .int (nI pc2), .int (nI an2), va_rf av2, va_rf ah2])) := by rw [h97]; exact (va_up_ne _ _ (fk g_nm g_cx rfl)).trans (g_nm)
        have f106 : w95 cx = some (.inl (0, xn, .inl (fun j9 => nI ((offN x xn ((sumP (u 1) e) + b) ((a e) + (p 1))) j9)))) := by rw [h97]; exact va_up_self _ _ _
        have hb107 : ∀ j9, (offN x xn ((sumP (u 1) e) + b) ((a e) + (p 1))) j9 ≤ 1000000 := offN_le hxb
        refine j_iload dX0_takeNote_123 9 rfl ?_
        refine j_iload dX0_takeNote_125 6 rfl ?_
        refine j_icmp_eqN 157 (by omega) (by omega) dX0_takeNote_127 (by decide) (fun c127 => ?_) (fun c127 => ?_)
        · skip
          refine j_iload dX0_takeNote_157 7 rfl ?_
          refine j_if_eqN 189 (by omega) dX0_takeNote_159 (by decide) (fun c159 => ?_) (fun c159 => ?_)
          · skip
            refine j_iinc (q := 9) (v := nI (b + 1)) (lv' := [(8, .int (nI (b + 1))), (9, .int (nI (a e))), (0, .ref fo), (1, .int (nI e)), (2, .int (nI no)), (3, .ref nm), (4, .int (nI (sumP (u 1) e))), (5, .int (nI (2 ^ u 1 e - 1))), (6, .int (nI ri)), (7, .int (zb orn))]) dX0_takeNote_189 rfl (by first | exact nI_1 _ | exact nI_add _ _) (Nat.le_of_ble_eq_true rfl) rfl ?_
            refine j_goto 70 dX0_takeNote_192 (by decide) ?_
            refine j_lv (lv' := [(0, .ref fo), (1, .int (nI e)), (2, .int (nI no)), (3, .ref nm), (4, .int (nI (sumP (u 1) e))), (5, .int (nI (2 ^ u 1 e - 1))), (6, .int (nI ri)), (7, .int (zb orn)), (8, .int (nI (b + 1)))]) [2, 3, 4, 5, 6, 7, 8, 9, 0] rfl ?_
            have hS9 : tnS x xn (sumP (u 1) e) (2 ^ u 1 e - 1) ri orn (tnC d (sumP (u 1) e) (a e) b) (p 1) (p 0) b = offN x xn ((sumP (u 1) e) + b) ((a e) + (p 1)) := by
              simp only [tnC]; rw [if_pos c79]; unfold tnS; rw [if_neg (fun h => h.1 c159), if_pos c127]
            exact ih (b + 1) _ _ (by omega) (by omega) hb107 (by rw [← hr, tnF_step (show b < 2 ^ u 1 e by omega), hS9]) (by rw [h97, hwl]; simp only [bx_uu])
          · skip
            refine j_iload dX0_takeNote_162 8 rfl ?_
            refine j_if_ne 175 dX0_takeNote_164 (by decide) (fun c164 => ?_) (fun c164 => ?_)
            · skip
              have hor2 : b ||| ri < 2 ^ u 1 e := or_lt4 (by omega) hri
              refine j_aload_n dX0_takeNote_175 4 rfl ?_
              refine j_iload dX0_takeNote_176 5 rfl ?_
              refine j_iload dX0_takeNote_178 9 rfl ?_
              refine j_iload dX0_takeNote_180 7 rfl ?_
              refine j_ior dX0_takeNote_182 ?_
              refine j_eqi (y := nI (b ||| ri)) (fa_or _ _) ?_
              refine j_iaddN dX0_takeNote_183 ?_
              refine j_iload dX0_takeNote_184 0 rfl ?_
              refine j_callV (rm := rX1_offer) (As := [.int (nI ((sumP (u 1) e) + (b ||| ri))), .int (nI (a e))]) (st := []) (b0 := nm) (ci := 1) (na := 2) (c_offer (s := ((sumP (u 1) e) + (b ||| ri))) (c := (a e)) f105 f106 (by omega) (by omega) (by omega) (fun j => Nat.lt_of_le_of_lt (hb107 j) (by decide))) (by intro E w9 h9; first | exact nomatch h9.1 | (obtain ⟨_, h9, _⟩ := h9; exact nomatch h9) | (obtain ⟨_, _, _, h9, _⟩ := h9; exact nomatch h9)) gX0_takeNote_X1_offer rfl rfl f105 (by decide +kernel) rfl ⟨Nat.le_of_ble_eq_true rfl, Nat.le_of_ble_eq_true rfl⟩ rfl (Nat.le_of_ble_eq_true rfl) dX0_takeNote_186 ⟨(show 0 + 0 ≤ 0 by omega), (show 0 + 0 ≤ 0 by omega)⟩ (fun v108 w109 h110 => ?_)
              obtain ⟨h110, h111⟩ := h110
              cases h110
              -- w109
              refine j_after (st' := []) (k' := 0) (n' := 0) rfl rfl rfl ?_
              have f112 : w109 fo = some (.inr (0, [.ref sc, .ref pr, .ref ar, .ref de, .ref ms, .ref mn, .int (nI nt)])) := by rw [h111]; exact (va_up_ne _ _ (fk f98 f106 rfl)).trans (f98)
              have f113 : w109 sc = some (.inr (3, [.ref fa, .int (nI ev), .int (nI be), .int (nI cu), .int (nI st), .int (nI me), .int (nI pa)])) := by rw [h111]; exact (va_up_ne _ _ (fk f99 f106 rfl)).trans (f99)
              have f114 : w109 fa = some (.inl (0, 1400, .inl f)) := by rw [h111]; exact (va_up_ne _ _ (nd_ne hN 0 4 rfl rfl rfl)).trans (f100)
              have f115 : w109 pr = some (.inl (0, 4, .inl (fun j9 => nI (p j9)))) := by rw [h111]; exact (va_up_ne _ _ (nd_ne hN 1 4 rfl rfl rfl)).trans (f101)
              have f116 : w109 ar = some (.inl (0, 100, .inl (fun j9 => nI (a j9)))) := by rw [h111]; exact (va_up_ne _ _ (nd_ne hN 2 4 rfl rfl rfl)).trans (f102)
              have f117 : w109 mn = some (.inr (1, [va_rf bf, va_rf nx, .ref cm, .int (nI cl), .int (nI pe), .int (nI pb), .int (nI pc), .int (nI an), va_rf av, va_rf ah])) := by rw [h111]; exact (va_up_ne _ _ (fk f103 f106 rfl)).trans (f103)
              have f118 : w109 cm = some (.inl (0, cn, .inl (fun j9 => nI (d j9)))) := by rw [h111]; exact (va_up_ne _ _ (nd_ne hN 3 4 rfl rfl rfl)).trans (f104)
              have f119 : w109 nm = some (.inr (1, [va_rf bf2, va_rf nx2, .ref cx, .int (nI cl2), .int (nI pe2), .int (nI pb2), .int (nI pc2), .int (nI an2), va_rf av2, va_rf ah2])) := by rw [h111]; exact (va_up_ne _ _ (fk f105 f106 rfl)).trans (f105)
              have f120 : w109 cx = some (.inl (0, xn, .inl (fun j9 => nI ((offN (offN x xn ((sumP (u 1) e) + b) ((a e) + (p 1))) xn ((sumP (u 1) e) + (b ||| ri)) (a e)) j9)))) := by rw [h111]; exact va_up_self _ _ _
              have hb121 : ∀ j9, (offN (offN x xn ((sumP (u 1) e) + b) ((a e) + (p 1))) xn ((sumP (u 1) e) + (b ||| ri)) (a e)) j9 ≤ 1000000 := offN_le hb107
              refine j_iinc (q := 9) (v := nI (b + 1)) (lv' := [(8, .int (nI (b + 1))), (9, .int (nI (a e))), (0, .ref fo), (1, .int (nI e)), (2, .int (nI no)), (3, .ref nm), (4, .int (nI (sumP (u 1) e))), (5, .int (nI (2 ^ u 1 e - 1))), (6, .int (nI ri)), (7, .int (zb orn))]) dX0_takeNote_189 rfl (by first | exact nI_1 _ | exact nI_add _ _) (Nat.le_of_ble_eq_true rfl) rfl ?_
              refine j_goto 70 dX0_takeNote_192 (by decide) ?_
              refine j_lv (lv' := [(0, .ref fo), (1, .int (nI e)), (2, .int (nI no)), (3, .ref nm), (4, .int (nI (sumP (u 1) e))), (5, .int (nI (2 ^ u 1 e - 1))), (6, .int (nI ri)), (7, .int (zb orn)), (8, .int (nI (b + 1)))]) [2, 3, 4, 5, 6, 7, 8, 9, 0] rfl ?_
              have hS9 : tnS x xn (sumP (u 1) e) (2 ^ u 1 e - 1) ri orn (tnC d (sumP (u 1) e) (a e) b) (p 1) (p 0) b = offN (offN x xn ((sumP (u 1) e) + b) ((a e) + (p 1))) xn ((sumP (u 1) e) + (b ||| ri)) (a e) := by
                simp only [tnC]; rw [if_pos c79]; unfold tnS; rw [if_pos ⟨c159, Or.inl (zb_n c164)⟩, if_pos c127]
              exact ih (b + 1) _ _ (by omega) (by omega) hb121 (by rw [← hr, tnF_step (show b < 2 ^ u 1 e by omega), hS9]) (by rw [h111, h97, hwl]; simp only [bx_uu])
            · skip
              refine j_iload dX0_takeNote_167 9 rfl ?_
              refine j_iload dX0_takeNote_169 7 rfl ?_
              have hand : b &&& ri ≤ b := Nat.and_le_left
              refine j_iand dX0_takeNote_171 ?_
              refine j_eqi (y := nI (b &&& ri)) (fa_and _ _) ?_
              refine j_if_neN 189 (by omega) dX0_takeNote_172 (by decide) (fun c172 => ?_) (fun c172 => ?_)
              · skip
                refine j_iinc (q := 9) (v := nI (b + 1)) (lv' := [(8, .int (nI (b + 1))), (9, .int (nI (a e))), (0, .ref fo), (1, .int (nI e)), (2, .int (nI no)), (3, .ref nm), (4, .int (nI (sumP (u 1) e))), (5, .int (nI (2 ^ u 1 e - 1))), (6, .int (nI ri)), (7, .int (zb orn))]) dX0_takeNote_189 rfl (by first | exact nI_1 _ | exact nI_add _ _) (Nat.le_of_ble_eq_true rfl) rfl ?_
                refine j_goto 70 dX0_takeNote_192 (by decide) ?_
                refine j_lv (lv' := [(0, .ref fo), (1, .int (nI e)), (2, .int (nI no)), (3, .ref nm), (4, .int (nI (sumP (u 1) e))), (5, .int (nI (2 ^ u 1 e - 1))), (6, .int (nI ri)), (7, .int (zb orn)), (8, .int (nI (b + 1)))]) [2, 3, 4, 5, 6, 7, 8, 9, 0] rfl ?_
                have hS9 : tnS x xn (sumP (u 1) e) (2 ^ u 1 e - 1) ri orn (tnC d (sumP (u 1) e) (a e) b) (p 1) (p 0) b = offN x xn ((sumP (u 1) e) + b) ((a e) + (p 1)) := by
                  simp only [tnC]; rw [if_pos c79]; unfold tnS; rw [if_neg (fun h => h.2.elim (fun q => by rw [zb_0 c164] at q; cases q) c172), if_pos c127]
                exact ih (b + 1) _ _ (by omega) (by omega) hb107 (by rw [← hr, tnF_step (show b < 2 ^ u 1 e by omega), hS9]) (by rw [h97, hwl]; simp only [bx_uu])
              · skip
                have hor2 : b ||| ri < 2 ^ u 1 e := or_lt4 (by omega) hri
                refine j_aload_n dX0_takeNote_175 4 rfl ?_
                refine j_iload dX0_takeNote_176 5 rfl ?_
                refine j_iload dX0_takeNote_178 9 rfl ?_
                refine j_iload dX0_takeNote_180 7 rfl ?_
                refine j_ior dX0_takeNote_182 ?_
                refine j_eqi (y := nI (b ||| ri)) (fa_or _ _) ?_
                refine j_iaddN dX0_takeNote_183 ?_
                refine j_iload dX0_takeNote_184 0 rfl ?_
                refine j_callV (rm := rX1_offer) (As := [.int (nI ((sumP (u 1) e) + (b ||| ri))), .int (nI (a e))]) (st := []) (b0 := nm) (ci := 1) (na := 2) (c_offer (s := ((sumP (u 1) e) + (b ||| ri))) (c := (a e)) f105 f106 (by omega) (by omega) (by omega) (fun j => Nat.lt_of_le_of_lt (hb107 j) (by decide))) (by intro E w9 h9; first | exact nomatch h9.1 | (obtain ⟨_, h9, _⟩ := h9; exact nomatch h9) | (obtain ⟨_, _, _, h9, _⟩ := h9; exact nomatch h9)) gX0_takeNote_X1_offer rfl rfl f105 (by decide +kernel) rfl ⟨Nat.le_of_ble_eq_true rfl, Nat.le_of_ble_eq_true rfl⟩ rfl (Nat.le_of_ble_eq_true rfl) dX0_takeNote_186 ⟨(show 0 + 0 ≤ 0 by omega), (show 0 + 0 ≤ 0 by omega)⟩ (fun v122 w123 h124 => ?_)
                obtain ⟨h124, h125⟩ := h124
                cases h124
                -- w123
                refine j_after (st' := []) (k' := 0) (n' := 0) rfl rfl rfl ?_
                have f126 : w123 fo = some (.inr (0, [.ref sc, .ref pr, .ref ar, .ref de, .ref ms, .ref mn, .int (nI nt)])) := by rw [h125]; exact (va_up_ne _ _ (fk f98 f106 rfl)).trans (f98)
                have f127 : w123 sc = some (.inr (3, [.ref fa, .int (nI ev), .int (nI be), .int (nI cu), .int (nI st), .int (nI me), .int (nI pa)])) := by rw [h125]; exact (va_up_ne _ _ (fk f99 f106 rfl)).trans (f99)
                have f128 : w123 fa = some (.inl (0, 1400, .inl f)) := by rw [h125]; exact (va_up_ne _ _ (nd_ne hN 0 4 rfl rfl rfl)).trans (f100)
                have f129 : w123 pr = some (.inl (0, 4, .inl (fun j9 => nI (p j9)))) := by rw [h125]; exact (va_up_ne _ _ (nd_ne hN 1 4 rfl rfl rfl)).trans (f101)
                have f130 : w123 ar = some (.inl (0, 100, .inl (fun j9 => nI (a j9)))) := by rw [h125]; exact (va_up_ne _ _ (nd_ne hN 2 4 rfl rfl rfl)).trans (f102)
                have f131 : w123 mn = some (.inr (1, [va_rf bf, va_rf nx, .ref cm, .int (nI cl), .int (nI pe), .int (nI pb), .int (nI pc), .int (nI an), va_rf av, va_rf ah])) := by rw [h125]; exact (va_up_ne _ _ (fk f103 f106 rfl)).trans (f103)
                have f132 : w123 cm = some (.inl (0, cn, .inl (fun j9 => nI (d j9)))) := by rw [h125]; exact (va_up_ne _ _ (nd_ne hN 3 4 rfl rfl rfl)).trans (f104)
                have f133 : w123 nm = some (.inr (1, [va_rf bf2, va_rf nx2, .ref cx, .int (nI cl2), .int (nI pe2), .int (nI pb2), .int (nI pc2), .int (nI an2), va_rf av2, va_rf ah2])) := by rw [h125]; exact (va_up_ne _ _ (fk f105 f106 rfl)).trans (f105)
                have f134 : w123 cx = some (.inl (0, xn, .inl (fun j9 => nI ((offN (offN x xn ((sumP (u 1) e) + b) ((a e) + (p 1))) xn ((sumP (u 1) e) + (b ||| ri)) (a e)) j9)))) := by rw [h125]; exact va_up_self _ _ _
                have hb135 : ∀ j9, (offN (offN x xn ((sumP (u 1) e) + b) ((a e) + (p 1))) xn ((sumP (u 1) e) + (b ||| ri)) (a e)) j9 ≤ 1000000 := offN_le hb107
                refine j_iinc (q := 9) (v := nI (b + 1)) (lv' := [(8, .int (nI (b + 1))), (9, .int (nI (a e))), (0, .ref fo), (1, .int (nI e)), (2, .int (nI no)), (3, .ref nm), (4, .int (nI (sumP (u 1) e))), (5, .int (nI (2 ^ u 1 e - 1))), (6, .int (nI ri)), (7, .int (zb orn))]) dX0_takeNote_189 rfl (by first | exact nI_1 _ | exact nI_add _ _) (Nat.le_of_ble_eq_true rfl) rfl ?_
                refine j_goto 70 dX0_takeNote_192 (by decide) ?_
                refine j_lv (lv' := [(0, .ref fo), (1, .int (nI e)), (2, .int (nI no)), (3, .ref nm), (4, .int (nI (sumP (u 1) e))), (5, .int (nI (2 ^ u 1 e - 1))), (6, .int (nI ri)), (7, .int (zb orn)), (8, .int (nI (b + 1)))]) [2, 3, 4, 5, 6, 7, 8, 9, 0] rfl ?_
                have hS9 : tnS x xn (sumP (u 1) e) (2 ^ u 1 e - 1) ri orn (tnC d (sumP (u 1) e) (a e) b) (p 1) (p 0) b = offN (offN x xn ((sumP (u 1) e) + b) ((a e) + (p 1))) xn ((sumP (u 1) e) + (b ||| ri)) (a e) := by
                  simp only [tnC]; rw [if_pos c79]; unfold tnS; rw [if_pos ⟨c159, Or.inr c172⟩, if_pos c127]
                exact ih (b + 1) _ _ (by omega) (by omega) hb135 (by rw [← hr, tnF_step (show b < 2 ^ u 1 e by omega), hS9]) (by rw [h125, h97, hwl]; simp only [bx_uu])
        · skip
          have hor1 : b ||| (b + 1) < 2 ^ u 1 e := or_lt4 (by omega) (by omega)
          refine j_iload dX0_takeNote_130 9 rfl ?_
          refine j_iload dX0_takeNote_132 9 rfl ?_
          refine j_iconst (v := nI 1) dX0_takeNote_134 (by decide) ?_
          refine j_iaddN dX0_takeNote_135 ?_
          refine j_ior dX0_takeNote_136 ?_
          refine j_eqi (y := nI (b ||| (b + 1))) (fa_or _ _) ?_
          refine j_istore (lv' := [(10, .int (nI (b ||| (b + 1)))), (9, .int (nI (a e))), (0, .ref fo), (1, .int (nI e)), (2, .int (nI no)), (3, .ref nm), (4, .int (nI (sumP (u 1) e))), (5, .int (nI (2 ^ u 1 e - 1))), (6, .int (nI ri)), (7, .int (zb orn)), (8, .int (nI b))]) dX0_takeNote_137 (Nat.le_of_ble_eq_true rfl) rfl ?_
          refine j_aload_n dX0_takeNote_139 5 rfl ?_
          refine j_iload dX0_takeNote_140 6 rfl ?_
          refine j_iload dX0_takeNote_142 0 rfl ?_
          refine j_iaddN dX0_takeNote_144 ?_
          refine j_iload dX0_takeNote_145 1 rfl ?_
          refine j_aload_n dX0_takeNote_147 2 rfl ?_
          refine j_get flX0_takeNote_9 f98 rfl dX0_takeNote_148 ?_
          refine j_iconst (v := nI 0) dX0_takeNote_151 (by decide) ?_
          refine j_ialdN (j := 0) f101 rfl (by omega) (by omega) dX0_takeNote_152 ?_
          have hb136 := hpb 0
          refine j_iaddN dX0_takeNote_153 ?_
          refine j_callV (rm := rX1_offer) (As := [.int (nI ((sumP (u 1) e) + (b ||| (b + 1)))), .int (nI ((a e) + (p 0)))]) (st := []) (b0 := nm) (ci := 1) (na := 2) (c_offer (s := ((sumP (u 1) e) + (b ||| (b + 1)))) (c := ((a e) + (p 0))) f105 f106 (by omega) (by omega) (by omega) (fun j => Nat.lt_of_le_of_lt (hb107 j) (by decide))) (by intro E w9 h9; first | exact nomatch h9.1 | (obtain ⟨_, h9, _⟩ := h9; exact nomatch h9) | (obtain ⟨_, _, _, h9, _⟩ := h9; exact nomatch h9)) gX0_takeNote_X1_offer rfl rfl f105 (by decide +kernel) rfl ⟨Nat.le_of_ble_eq_true rfl, Nat.le_of_ble_eq_true rfl⟩ rfl (Nat.le_of_ble_eq_true rfl) dX0_takeNote_154 ⟨(show 0 + 0 ≤ 0 by omega), (show 0 + 0 ≤ 0 by omega)⟩ (fun v137 w138 h139 => ?_)
          obtain ⟨h139, h140⟩ := h139
          cases h139
          -- w138
          refine j_after (st' := []) (k' := 0) (n' := 0) rfl rfl rfl ?_
          have f141 : w138 fo = some (.inr (0, [.ref sc, .ref pr, .ref ar, .ref de, .ref ms, .ref mn, .int (nI nt)])) := by rw [h140]; exact (va_up_ne _ _ (fk f98 f106 rfl)).trans (f98)
          have f142 : w138 sc = some (.inr (3, [.ref fa, .int (nI ev), .int (nI be), .int (nI cu), .int (nI st), .int (nI me), .int (nI pa)])) := by rw [h140]; exact (va_up_ne _ _ (fk f99 f106 rfl)).trans (f99)
          have f143 : w138 fa = some (.inl (0, 1400, .inl f)) := by rw [h140]; exact (va_up_ne _ _ (nd_ne hN 0 4 rfl rfl rfl)).trans (f100)
          have f144 : w138 pr = some (.inl (0, 4, .inl (fun j9 => nI (p j9)))) := by rw [h140]; exact (va_up_ne _ _ (nd_ne hN 1 4 rfl rfl rfl)).trans (f101)
          have f145 : w138 ar = some (.inl (0, 100, .inl (fun j9 => nI (a j9)))) := by rw [h140]; exact (va_up_ne _ _ (nd_ne hN 2 4 rfl rfl rfl)).trans (f102)
          have f146 : w138 mn = some (.inr (1, [va_rf bf, va_rf nx, .ref cm, .int (nI cl), .int (nI pe), .int (nI pb), .int (nI pc), .int (nI an), va_rf av, va_rf ah])) := by rw [h140]; exact (va_up_ne _ _ (fk f103 f106 rfl)).trans (f103)
          have f147 : w138 cm = some (.inl (0, cn, .inl (fun j9 => nI (d j9)))) := by rw [h140]; exact (va_up_ne _ _ (nd_ne hN 3 4 rfl rfl rfl)).trans (f104)
          have f148 : w138 nm = some (.inr (1, [va_rf bf2, va_rf nx2, .ref cx, .int (nI cl2), .int (nI pe2), .int (nI pb2), .int (nI pc2), .int (nI an2), va_rf av2, va_rf ah2])) := by rw [h140]; exact (va_up_ne _ _ (fk f105 f106 rfl)).trans (f105)
          have f149 : w138 cx = some (.inl (0, xn, .inl (fun j9 => nI ((offN (offN x xn ((sumP (u 1) e) + b) ((a e) + (p 1))) xn ((sumP (u 1) e) + (b ||| (b + 1))) ((a e) + (p 0))) j9)))) := by rw [h140]; exact va_up_self _ _ _
          have hb150 : ∀ j9, (offN (offN x xn ((sumP (u 1) e) + b) ((a e) + (p 1))) xn ((sumP (u 1) e) + (b ||| (b + 1))) ((a e) + (p 0))) j9 ≤ 1000000 := offN_le hb107
          refine j_iload dX0_takeNote_157 8 rfl ?_
          refine j_if_eqN 189 (by omega) dX0_takeNote_159 (by decide) (fun c159 => ?_) (fun c159 => ?_)
          · skip
            refine j_iinc (q := 10) (v := nI (b + 1)) (lv' := [(8, .int (nI (b + 1))), (10, .int (nI (b ||| (b + 1)))), (9, .int (nI (a e))), (0, .ref fo), (1, .int (nI e)), (2, .int (nI no)), (3, .ref nm), (4, .int (nI (sumP (u 1) e))), (5, .int (nI (2 ^ u 1 e - 1))), (6, .int (nI ri)), (7, .int (zb orn))]) dX0_takeNote_189 rfl (by first | exact nI_1 _ | exact nI_add _ _) (Nat.le_of_ble_eq_true rfl) rfl ?_
            refine j_goto 70 dX0_takeNote_192 (by decide) ?_
            refine j_lv (lv' := [(0, .ref fo), (1, .int (nI e)), (2, .int (nI no)), (3, .ref nm), (4, .int (nI (sumP (u 1) e))), (5, .int (nI (2 ^ u 1 e - 1))), (6, .int (nI ri)), (7, .int (zb orn)), (8, .int (nI (b + 1)))]) [3, 4, 5, 6, 7, 8, 9, 10, 0] rfl ?_
            have hS9 : tnS x xn (sumP (u 1) e) (2 ^ u 1 e - 1) ri orn (tnC d (sumP (u 1) e) (a e) b) (p 1) (p 0) b = offN (offN x xn ((sumP (u 1) e) + b) ((a e) + (p 1))) xn ((sumP (u 1) e) + (b ||| (b + 1))) ((a e) + (p 0)) := by
              simp only [tnC]; rw [if_pos c79]; unfold tnS; rw [if_neg (fun h => h.1 c159), if_neg c127]
            exact ih (b + 1) _ _ (by omega) (by omega) hb150 (by rw [← hr, tnF_step (show b < 2 ^ u 1 e by omega), hS9]) (by rw [h140, h97, hwl]; simp only [bx_uu])
          · skip
            refine j_iload dX0_takeNote_162 9 rfl ?_
            refine j_if_ne 175 dX0_takeNote_164 (by decide) (fun c164 => ?_) (fun c164 => ?_)
            · skip
              have hor2 : b ||| ri < 2 ^ u 1 e := or_lt4 (by omega) hri
              refine j_aload_n dX0_takeNote_175 5 rfl ?_
              refine j_iload dX0_takeNote_176 6 rfl ?_
              refine j_iload dX0_takeNote_178 10 rfl ?_
              refine j_iload dX0_takeNote_180 8 rfl ?_
              refine j_ior dX0_takeNote_182 ?_
              refine j_eqi (y := nI (b ||| ri)) (fa_or _ _) ?_
              refine j_iaddN dX0_takeNote_183 ?_
              refine j_iload dX0_takeNote_184 1 rfl ?_
              refine j_callV (rm := rX1_offer) (As := [.int (nI ((sumP (u 1) e) + (b ||| ri))), .int (nI (a e))]) (st := []) (b0 := nm) (ci := 1) (na := 2) (c_offer (s := ((sumP (u 1) e) + (b ||| ri))) (c := (a e)) f148 f149 (by omega) (by omega) (by omega) (fun j => Nat.lt_of_le_of_lt (hb150 j) (by decide))) (by intro E w9 h9; first | exact nomatch h9.1 | (obtain ⟨_, h9, _⟩ := h9; exact nomatch h9) | (obtain ⟨_, _, _, h9, _⟩ := h9; exact nomatch h9)) gX0_takeNote_X1_offer rfl rfl f148 (by decide +kernel) rfl ⟨Nat.le_of_ble_eq_true rfl, Nat.le_of_ble_eq_true rfl⟩ rfl (Nat.le_of_ble_eq_true rfl) dX0_takeNote_186 ⟨(show 0 + 0 ≤ 0 by omega), (show 0 + 0 ≤ 0 by omega)⟩ (fun v151 w152 h153 => ?_)
              obtain ⟨h153, h154⟩ := h153
              cases h153
              -- w152
              refine j_after (st' := []) (k' := 0) (n' := 0) rfl rfl rfl ?_
              have f155 : w152 fo = some (.inr (0, [.ref sc, .ref pr, .ref ar, .ref de, .ref ms, .ref mn, .int (nI nt)])) := by rw [h154]; exact (va_up_ne _ _ (fk f141 f149 rfl)).trans (f141)
              have f156 : w152 sc = some (.inr (3, [.ref fa, .int (nI ev), .int (nI be), .int (nI cu), .int (nI st), .int (nI me), .int (nI pa)])) := by rw [h154]; exact (va_up_ne _ _ (fk f142 f149 rfl)).trans (f142)
              have f157 : w152 fa = some (.inl (0, 1400, .inl f)) := by rw [h154]; exact (va_up_ne _ _ (nd_ne hN 0 4 rfl rfl rfl)).trans (f143)
              have f158 : w152 pr = some (.inl (0, 4, .inl (fun j9 => nI (p j9)))) := by rw [h154]; exact (va_up_ne _ _ (nd_ne hN 1 4 rfl rfl rfl)).trans (f144)
              have f159 : w152 ar = some (.inl (0, 100, .inl (fun j9 => nI (a j9)))) := by rw [h154]; exact (va_up_ne _ _ (nd_ne hN 2 4 rfl rfl rfl)).trans (f145)
              have f160 : w152 mn = some (.inr (1, [va_rf bf, va_rf nx, .ref cm, .int (nI cl), .int (nI pe), .int (nI pb), .int (nI pc), .int (nI an), va_rf av, va_rf ah])) := by rw [h154]; exact (va_up_ne _ _ (fk f146 f149 rfl)).trans (f146)
              have f161 : w152 cm = some (.inl (0, cn, .inl (fun j9 => nI (d j9)))) := by rw [h154]; exact (va_up_ne _ _ (nd_ne hN 3 4 rfl rfl rfl)).trans (f147)
              have f162 : w152 nm = some (.inr (1, [va_rf bf2, va_rf nx2, .ref cx, .int (nI cl2), .int (nI pe2), .int (nI pb2), .int (nI pc2), .int (nI an2), va_rf av2, va_rf ah2])) := by rw [h154]; exact (va_up_ne _ _ (fk f148 f149 rfl)).trans (f148)
              have f163 : w152 cx = some (.inl (0, xn, .inl (fun j9 => nI ((offN (offN (offN x xn ((sumP (u 1) e) + b) ((a e) + (p 1))) xn ((sumP (u 1) e) + (b ||| (b + 1))) ((a e) + (p 0))) xn ((sumP (u 1) e) + (b ||| ri)) (a e)) j9)))) := by rw [h154]; exact va_up_self _ _ _
              have hb164 : ∀ j9, (offN (offN (offN x xn ((sumP (u 1) e) + b) ((a e) + (p 1))) xn ((sumP (u 1) e) + (b ||| (b + 1))) ((a e) + (p 0))) xn ((sumP (u 1) e) + (b ||| ri)) (a e)) j9 ≤ 1000000 := offN_le hb150
              refine j_iinc (q := 10) (v := nI (b + 1)) (lv' := [(8, .int (nI (b + 1))), (10, .int (nI (b ||| (b + 1)))), (9, .int (nI (a e))), (0, .ref fo), (1, .int (nI e)), (2, .int (nI no)), (3, .ref nm), (4, .int (nI (sumP (u 1) e))), (5, .int (nI (2 ^ u 1 e - 1))), (6, .int (nI ri)), (7, .int (zb orn))]) dX0_takeNote_189 rfl (by first | exact nI_1 _ | exact nI_add _ _) (Nat.le_of_ble_eq_true rfl) rfl ?_
              refine j_goto 70 dX0_takeNote_192 (by decide) ?_
              refine j_lv (lv' := [(0, .ref fo), (1, .int (nI e)), (2, .int (nI no)), (3, .ref nm), (4, .int (nI (sumP (u 1) e))), (5, .int (nI (2 ^ u 1 e - 1))), (6, .int (nI ri)), (7, .int (zb orn)), (8, .int (nI (b + 1)))]) [3, 4, 5, 6, 7, 8, 9, 10, 0] rfl ?_
              have hS9 : tnS x xn (sumP (u 1) e) (2 ^ u 1 e - 1) ri orn (tnC d (sumP (u 1) e) (a e) b) (p 1) (p 0) b = offN (offN (offN x xn ((sumP (u 1) e) + b) ((a e) + (p 1))) xn ((sumP (u 1) e) + (b ||| (b + 1))) ((a e) + (p 0))) xn ((sumP (u 1) e) + (b ||| ri)) (a e) := by
                simp only [tnC]; rw [if_pos c79]; unfold tnS; rw [if_pos ⟨c159, Or.inl (zb_n c164)⟩, if_neg c127]
              exact ih (b + 1) _ _ (by omega) (by omega) hb164 (by rw [← hr, tnF_step (show b < 2 ^ u 1 e by omega), hS9]) (by rw [h154, h140, h97, hwl]; simp only [bx_uu])
            · skip
              refine j_iload dX0_takeNote_167 10 rfl ?_
              refine j_iload dX0_takeNote_169 8 rfl ?_
              have hand : b &&& ri ≤ b := Nat.and_le_left
              refine j_iand dX0_takeNote_171 ?_
              refine j_eqi (y := nI (b &&& ri)) (fa_and _ _) ?_
              refine j_if_neN 189 (by omega) dX0_takeNote_172 (by decide) (fun c172 => ?_) (fun c172 => ?_)
              · skip
                refine j_iinc (q := 10) (v := nI (b + 1)) (lv' := [(8, .int (nI (b + 1))), (10, .int (nI (b ||| (b + 1)))), (9, .int (nI (a e))), (0, .ref fo), (1, .int (nI e)), (2, .int (nI no)), (3, .ref nm), (4, .int (nI (sumP (u 1) e))), (5, .int (nI (2 ^ u 1 e - 1))), (6, .int (nI ri)), (7, .int (zb orn))]) dX0_takeNote_189 rfl (by first | exact nI_1 _ | exact nI_add _ _) (Nat.le_of_ble_eq_true rfl) rfl ?_
                refine j_goto 70 dX0_takeNote_192 (by decide) ?_
                refine j_lv (lv' := [(0, .ref fo), (1, .int (nI e)), (2, .int (nI no)), (3, .ref nm), (4, .int (nI (sumP (u 1) e))), (5, .int (nI (2 ^ u 1 e - 1))), (6, .int (nI ri)), (7, .int (zb orn)), (8, .int (nI (b + 1)))]) [3, 4, 5, 6, 7, 8, 9, 10, 0] rfl ?_
                have hS9 : tnS x xn (sumP (u 1) e) (2 ^ u 1 e - 1) ri orn (tnC d (sumP (u 1) e) (a e) b) (p 1) (p 0) b = offN (offN x xn ((sumP (u 1) e) + b) ((a e) + (p 1))) xn ((sumP (u 1) e) + (b ||| (b + 1))) ((a e) + (p 0)) := by
                  simp only [tnC]; rw [if_pos c79]; unfold tnS; rw [if_neg (fun h => h.2.elim (fun q => by rw [zb_0 c164] at q; cases q) c172), if_neg c127]
                exact ih (b + 1) _ _ (by omega) (by omega) hb150 (by rw [← hr, tnF_step (show b < 2 ^ u 1 e by omega), hS9]) (by rw [h140, h97, hwl]; simp only [bx_uu])
              · skip
                have hor2 : b ||| ri < 2 ^ u 1 e := or_lt4 (by omega) hri
                refine j_aload_n dX0_takeNote_175 5 rfl ?_
                refine j_iload dX0_takeNote_176 6 rfl ?_
                refine j_iload dX0_takeNote_178 10 rfl ?_
                refine j_iload dX0_takeNote_180 8 rfl ?_
                refine j_ior dX0_takeNote_182 ?_
                refine j_eqi (y := nI (b ||| ri)) (fa_or _ _) ?_
                refine j_iaddN dX0_takeNote_183 ?_
                refine j_iload dX0_takeNote_184 1 rfl ?_
                refine j_callV (rm := rX1_offer) (As := [.int (nI ((sumP (u 1) e) + (b ||| ri))), .int (nI (a e))]) (st := []) (b0 := nm) (ci := 1) (na := 2) (c_offer (s := ((sumP (u 1) e) + (b ||| ri))) (c := (a e)) f148 f149 (by omega) (by omega) (by omega) (fun j => Nat.lt_of_le_of_lt (hb150 j) (by decide))) (by intro E w9 h9; first | exact nomatch h9.1 | (obtain ⟨_, h9, _⟩ := h9; exact nomatch h9) | (obtain ⟨_, _, _, h9, _⟩ := h9; exact nomatch h9)) gX0_takeNote_X1_offer rfl rfl f148 (by decide +kernel) rfl ⟨Nat.le_of_ble_eq_true rfl, Nat.le_of_ble_eq_true rfl⟩ rfl (Nat.le_of_ble_eq_true rfl) dX0_takeNote_186 ⟨(show 0 + 0 ≤ 0 by omega), (show 0 + 0 ≤ 0 by omega)⟩ (fun v165 w166 h167 => ?_)
                obtain ⟨h167, h168⟩ := h167
                cases h167
                -- w166
                refine j_after (st' := []) (k' := 0) (n' := 0) rfl rfl rfl ?_
                have f169 : w166 fo = some (.inr (0, [.ref sc, .ref pr, .ref ar, .ref de, .ref ms, .ref mn, .int (nI nt)])) := by rw [h168]; exact (va_up_ne _ _ (fk f141 f149 rfl)).trans (f141)
                have f170 : w166 sc = some (.inr (3, [.ref fa, .int (nI ev), .int (nI be), .int (nI cu), .int (nI st), .int (nI me), .int (nI pa)])) := by rw [h168]; exact (va_up_ne _ _ (fk f142 f149 rfl)).trans (f142)
                have f171 : w166 fa = some (.inl (0, 1400, .inl f)) := by rw [h168]; exact (va_up_ne _ _ (nd_ne hN 0 4 rfl rfl rfl)).trans (f143)
                have f172 : w166 pr = some (.inl (0, 4, .inl (fun j9 => nI (p j9)))) := by rw [h168]; exact (va_up_ne _ _ (nd_ne hN 1 4 rfl rfl rfl)).trans (f144)
                have f173 : w166 ar = some (.inl (0, 100, .inl (fun j9 => nI (a j9)))) := by rw [h168]; exact (va_up_ne _ _ (nd_ne hN 2 4 rfl rfl rfl)).trans (f145)
                have f174 : w166 mn = some (.inr (1, [va_rf bf, va_rf nx, .ref cm, .int (nI cl), .int (nI pe), .int (nI pb), .int (nI pc), .int (nI an), va_rf av, va_rf ah])) := by rw [h168]; exact (va_up_ne _ _ (fk f146 f149 rfl)).trans (f146)
                have f175 : w166 cm = some (.inl (0, cn, .inl (fun j9 => nI (d j9)))) := by rw [h168]; exact (va_up_ne _ _ (nd_ne hN 3 4 rfl rfl rfl)).trans (f147)
                have f176 : w166 nm = some (.inr (1, [va_rf bf2, va_rf nx2, .ref cx, .int (nI cl2), .int (nI pe2), .int (nI pb2), .int (nI pc2), .int (nI an2), va_rf av2, va_rf ah2])) := by rw [h168]; exact (va_up_ne _ _ (fk f148 f149 rfl)).trans (f148)
                have f177 : w166 cx = some (.inl (0, xn, .inl (fun j9 => nI ((offN (offN (offN x xn ((sumP (u 1) e) + b) ((a e) + (p 1))) xn ((sumP (u 1) e) + (b ||| (b + 1))) ((a e) + (p 0))) xn ((sumP (u 1) e) + (b ||| ri)) (a e)) j9)))) := by rw [h168]; exact va_up_self _ _ _
                have hb178 : ∀ j9, (offN (offN (offN x xn ((sumP (u 1) e) + b) ((a e) + (p 1))) xn ((sumP (u 1) e) + (b ||| (b + 1))) ((a e) + (p 0))) xn ((sumP (u 1) e) + (b ||| ri)) (a e)) j9 ≤ 1000000 := offN_le hb150
                refine j_iinc (q := 10) (v := nI (b + 1)) (lv' := [(8, .int (nI (b + 1))), (10, .int (nI (b ||| (b + 1)))), (9, .int (nI (a e))), (0, .ref fo), (1, .int (nI e)), (2, .int (nI no)), (3, .ref nm), (4, .int (nI (sumP (u 1) e))), (5, .int (nI (2 ^ u 1 e - 1))), (6, .int (nI ri)), (7, .int (zb orn))]) dX0_takeNote_189 rfl (by first | exact nI_1 _ | exact nI_add _ _) (Nat.le_of_ble_eq_true rfl) rfl ?_
                refine j_goto 70 dX0_takeNote_192 (by decide) ?_
                refine j_lv (lv' := [(0, .ref fo), (1, .int (nI e)), (2, .int (nI no)), (3, .ref nm), (4, .int (nI (sumP (u 1) e))), (5, .int (nI (2 ^ u 1 e - 1))), (6, .int (nI ri)), (7, .int (zb orn)), (8, .int (nI (b + 1)))]) [3, 4, 5, 6, 7, 8, 9, 10, 0] rfl ?_
                have hS9 : tnS x xn (sumP (u 1) e) (2 ^ u 1 e - 1) ri orn (tnC d (sumP (u 1) e) (a e) b) (p 1) (p 0) b = offN (offN (offN x xn ((sumP (u 1) e) + b) ((a e) + (p 1))) xn ((sumP (u 1) e) + (b ||| (b + 1))) ((a e) + (p 0))) xn ((sumP (u 1) e) + (b ||| ri)) (a e) := by
                  simp only [tnC]; rw [if_pos c79]; unfold tnS; rw [if_pos ⟨c159, Or.inr c172⟩, if_neg c127]
                exact ih (b + 1) _ _ (by omega) (by omega) hb178 (by rw [← hr, tnF_step (show b < 2 ^ u 1 e by omega), hS9]) (by rw [h168, h140, h97, hwl]; simp only [bx_uu])
theorem flX0_takeNote_33 : FL wsX0_takeNote RX0 33 0 0 := ⟨RX0, TX0, 7, rfl, by decide, by decide +kernel, by decide +kernel⟩
set_option maxHeartbeats 4000000 in
set_option maxRecDepth 100000 in
theorem c_takeNote {w : pW} {fo sc pr ar de ms mn nt : Nat} {fa ev be cu st me pa : Nat} {f : Nat → Int32} {u : Nat → Nat → Nat} {bh : Nat → Option Nat} {p : Nat → Nat} {a : Nat → Nat} {cm : Nat} {bf nx av ah : Option Nat} {cl pe pb pc an : Nat} {cn : Nat} {d : Nat → Nat} {nm cx : Nat} {bf2 nx2 av2 ah2 : Option Nat} {cl2 pe2 pb2 pc2 an2 : Nat} {xn : Nat} {x : Nat → Nat} (hfo : w fo = some (.inr (0, [.ref sc, .ref pr, .ref ar, .ref de, .ref ms, .ref mn, .int (nI nt)]))) (hs : w sc = some (.inr (3, [.ref fa, .int (nI ev), .int (nI be), .int (nI cu), .int (nI st), .int (nI me), .int (nI pa)]))) (hf : w fa = some (.inl (0, 1400, .inl f))) (hp : w pr = some (.inl (0, 4, .inl (fun j9 => nI (p j9))))) (ha : w ar = some (.inl (0, 100, .inl (fun j9 => nI (a j9))))) (hm : w mn = some (.inr (1, [va_rf bf, va_rf nx, .ref cm, .int (nI cl), .int (nI pe), .int (nI pb), .int (nI pc), .int (nI an), va_rf av, va_rf ah]))) (hc : w cm = some (.inl (0, cn, .inl (fun j9 => nI (d j9))))) (hnm : w nm = some (.inr (1, [va_rf bf2, va_rf nx2, .ref cx, .int (nI cl2), .int (nI pe2), .int (nI pb2), .int (nI pc2), .int (nI an2), va_rf av2, va_rf ah2]))) (hcx : w cx = some (.inl (0, xn, .inl (fun j9 => nI (x j9))))) (hM : Mus f ev st u bh) (hpb : ∀ j, p j ≤ 50) (hab : ∀ j, a j ≤ 1000000) (hst : st ≤ cn) (hcn : cn ≤ 100000) (hdd : ∀ j, d j ≤ 1000000) (hsx : st ≤ xn) (hxn : xn ≤ 100000) (hxb : ∀ j, x j ≤ 1000000) (hN : va_nd [fa, pr, ar, cm, cx] = true) {e no : Nat} (he : e < ev) (hno : no < 128) : Ct yX0_takeNote wsX0_takeNote rX0_takeNote [.ref fo, .int (nI e), .int (nI no), .ref nm] w (fun o w9 => o = .inl none ∧ w9 = va_up w cx (some (.inl (0, xn, .inl (fun j9 => nI ((tnF d xn (sumP (u 1) e) (a e) (2 ^ u 1 e - 1) (riB f e no (u 0 e) (u 1 e)) (decide (u 0 e = 2)) (p 1) (p 0) (2 ^ u 1 e) 0 x) j9)))))) := by
  refine Ct.of (cc := cX0_takeNote) (own := RX0) (nm := "takeNote") (nL := 11) (ret := none) (by decide +kernel) rfl rfl rfl (Nat.le_of_ble_eq_true rfl) ?_
  refine j_lvE (lv' := [(0, .ref fo), (1, .int (nI e)), (2, .int (nI no)), (3, .ref nm)]) rfl ?_
  have hev := hM.hev
  have hst0 := hM.hst
  have hrg := hM.rg (e := e) he
  have hbd := hM.bd (e := e) he
  refine j_iload_n dX0_takeNote_0 1 rfl ?_
  refine j_if_ltN (by omega) dX0_takeNote_1 (by decide : _ = ((13 : Nat) : Int)) ?_
  refine j_iload_n dX0_takeNote_4 1 rfl ?_
  refine j_aload_n dX0_takeNote_5 0 rfl ?_
  refine j_get flX0_takeNote_15 hfo rfl dX0_takeNote_6 ?_
  refine j_alen (v := nI 100) (by decide) ha rfl dX0_takeNote_9 ?_
  refine j_icmp_ltN 14 (by omega) (by omega) dX0_takeNote_10 (by decide) (fun c10 => ?_) (fun c10 => ?_)
  · skip
    refine j_aload_n dX0_takeNote_14 0 rfl ?_
    refine j_get flX0_takeNote_33 hfo rfl dX0_takeNote_15 ?_
    refine j_iload_n dX0_takeNote_18 1 rfl ?_
    refine j_bipush (v := nI 13) dX0_takeNote_19 (by decide) ?_
    have hrg1 := Mus.rg (e := e) hM (by omega)
    have hbd2 := Mus.bd (e := e) hM (by omega)
    refine j_callV (rm := rX3_fact) (As := [.int (nI e), .int (nI 13)]) (st := []) (b0 := sc) (ci := 3) (na := 2) (c_fact (e := e) (c := 13) hs hf (by omega) (by omega)) (by intro E w9 h9; first | exact nomatch h9.1 | (obtain ⟨_, h9, _⟩ := h9; exact nomatch h9) | (obtain ⟨_, _, _, h9, _⟩ := h9; exact nomatch h9)) gX0_takeNote_X3_fact rfl rfl hs (by decide +kernel) rfl ⟨Nat.le_of_ble_eq_true rfl, Nat.le_of_ble_eq_true rfl⟩ rfl (Nat.le_of_ble_eq_true rfl) dX0_takeNote_21 ⟨(show 0 + 0 ≤ 0 by omega), (show 0 + 0 ≤ 0 by omega)⟩ (fun v3 w4 h5 => ?_)
    obtain ⟨h5, h6⟩ := h5
    cases h5
    subst w4
    refine j_after (st' := [.int (f (e * 14 + 13))]) (k' := 0) (n' := 0) rfl rfl rfl ?_
    refine j_eqi (y := nI (sumP (u 1) e)) (Mus.c13 hM (by omega)) ?_
    refine j_istore (lv' := [(4, .int (nI (sumP (u 1) e))), (0, .ref fo), (1, .int (nI e)), (2, .int (nI no)), (3, .ref nm)]) dX0_takeNote_24 (Nat.le_of_ble_eq_true rfl) rfl ?_
    refine j_aload_n dX0_takeNote_26 1 rfl ?_
    refine j_get flX0_takeNote_33 hfo rfl dX0_takeNote_27 ?_
    refine j_iload_n dX0_takeNote_30 2 rfl ?_
    refine j_callV (rm := rX3_allBits) (As := [.int (nI e)]) (st := []) (b0 := sc) (ci := 3) (na := 1) (c_allBits (e := e) (np := (u 1 e)) hs hf (by omega) (Mus.bd (e := e) hM (by omega)).2.1 (Mus.c1 hM (by omega))) (by intro E w9 h9; first | exact nomatch h9.1 | (obtain ⟨_, h9, _⟩ := h9; exact nomatch h9) | (obtain ⟨_, _, _, h9, _⟩ := h9; exact nomatch h9)) gX0_takeNote_X3_allBits rfl rfl hs (by decide +kernel) rfl ⟨Nat.le_of_ble_eq_true rfl, Nat.le_of_ble_eq_true rfl⟩ rfl (Nat.le_of_ble_eq_true rfl) dX0_takeNote_31 ⟨(show 0 + 0 ≤ 0 by omega), (show 0 + 0 ≤ 0 by omega)⟩ (fun v7 w8 h9 => ?_)
    obtain ⟨h9, h10⟩ := h9
    cases h9
    subst w8
    refine j_after (st' := [.int (nI (2 ^ (u 1 e) - 1))]) (k' := 0) (n' := 0) rfl rfl rfl ?_
    refine j_istore (lv' := [(5, .int (nI (2 ^ (u 1 e) - 1))), (4, .int (nI (sumP (u 1) e))), (0, .ref fo), (1, .int (nI e)), (2, .int (nI no)), (3, .ref nm)]) dX0_takeNote_34 (Nat.le_of_ble_eq_true rfl) rfl ?_
    refine j_aload_n dX0_takeNote_36 2 rfl ?_
    refine j_get flX0_takeNote_33 hfo rfl dX0_takeNote_37 ?_
    refine j_iload_n dX0_takeNote_40 3 rfl ?_
    refine j_iload_n dX0_takeNote_41 4 rfl ?_
    refine j_callV (rm := rX3_rightBit) (As := [.int (nI e), .int (nI no)]) (st := []) (b0 := sc) (ci := 3) (na := 2) (c_rightBit (e := e) (no := no) (kd := (u 0 e)) (np := (u 1 e)) hs hf (by omega) (by have := Mus.bd (e := e) hM (by omega); omega) (Mus.c0 hM (by omega)) (Mus.bd (e := e) hM (by omega)).2.1 (Mus.c1 hM (by omega))) (by intro E w9 h9; first | exact nomatch h9.1 | (obtain ⟨_, h9, _⟩ := h9; exact nomatch h9) | (obtain ⟨_, _, _, h9, _⟩ := h9; exact nomatch h9)) gX0_takeNote_X3_rightBit rfl rfl hs (by decide +kernel) rfl ⟨Nat.le_of_ble_eq_true rfl, Nat.le_of_ble_eq_true rfl⟩ rfl (Nat.le_of_ble_eq_true rfl) dX0_takeNote_42 ⟨(show 0 + 0 ≤ 0 by omega), (show 0 + 0 ≤ 0 by omega)⟩ (fun v11 w12 h13 => ?_)
    obtain ⟨h13, h14⟩ := h13
    cases h13
    subst w12
    refine j_after (st' := [.int (nI (riB f e no (u 0 e) (u 1 e)))]) (k' := 0) (n' := 0) rfl rfl rfl ?_
    have hri9 : riB f e no (u 0 e) (u 1 e) < 2 ^ u 1 e := riB_lt
    refine j_istore (lv' := [(6, .int (nI (riB f e no (u 0 e) (u 1 e)))), (5, .int (nI (2 ^ (u 1 e) - 1))), (4, .int (nI (sumP (u 1) e))), (0, .ref fo), (1, .int (nI e)), (2, .int (nI no)), (3, .ref nm)]) dX0_takeNote_45 (Nat.le_of_ble_eq_true rfl) rfl ?_
    refine j_aload_n dX0_takeNote_47 3 rfl ?_
    refine j_get flX0_takeNote_33 hfo rfl dX0_takeNote_48 ?_
    refine j_iload_n dX0_takeNote_51 4 rfl ?_
    refine j_iconst (v := nI 0) dX0_takeNote_52 (by decide) ?_
    refine j_callV (rm := rX3_fact) (As := [.int (nI e), .int (nI 0)]) (st := []) (b0 := sc) (ci := 3) (na := 2) (c_fact (e := e) (c := 0) hs hf (by omega) (by omega)) (by intro E w9 h9; first | exact nomatch h9.1 | (obtain ⟨_, h9, _⟩ := h9; exact nomatch h9) | (obtain ⟨_, _, _, h9, _⟩ := h9; exact nomatch h9)) gX0_takeNote_X3_fact rfl rfl hs (by decide +kernel) rfl ⟨Nat.le_of_ble_eq_true rfl, Nat.le_of_ble_eq_true rfl⟩ rfl (Nat.le_of_ble_eq_true rfl) dX0_takeNote_53 ⟨(show 0 + 0 ≤ 0 by omega), (show 0 + 0 ≤ 0 by omega)⟩ (fun v15 w16 h17 => ?_)
    obtain ⟨h17, h18⟩ := h17
    cases h17
    subst w16
    refine j_after (st' := [.int (f (e * 14 + 0))]) (k' := 0) (n' := 0) rfl rfl rfl ?_
    refine j_eqi (y := nI (u 0 e)) (Mus.c0 hM (by omega)) ?_
    refine j_iconst (v := nI 2) dX0_takeNote_56 (by decide) ?_
    refine j_icmp_neN 64 (by omega) (by omega) dX0_takeNote_57 (by decide) (fun c57 => ?_) (fun c57 => ?_)
    · skip
      refine j_iconst (v := nI 0) dX0_takeNote_64 (by decide) ?_
      refine j_istore (lv' := [(7, .int (nI 0)), (6, .int (nI (riB f e no (u 0 e) (u 1 e)))), (5, .int (nI (2 ^ (u 1 e) - 1))), (4, .int (nI (sumP (u 1) e))), (0, .ref fo), (1, .int (nI e)), (2, .int (nI no)), (3, .ref nm)]) dX0_takeNote_65 (Nat.le_of_ble_eq_true rfl) rfl ?_
      refine j_iconst (v := nI 0) dX0_takeNote_67 (by decide) ?_
      refine j_istore (lv' := [(8, .int (nI 0)), (7, .int (nI 0)), (6, .int (nI (riB f e no (u 0 e) (u 1 e)))), (5, .int (nI (2 ^ (u 1 e) - 1))), (4, .int (nI (sumP (u 1) e))), (0, .ref fo), (1, .int (nI e)), (2, .int (nI no)), (3, .ref nm)]) dX0_takeNote_68 (Nat.le_of_ble_eq_true rfl) rfl ?_
      refine j_lv (lv' := [(0, .ref fo), (1, .int (nI e)), (2, .int (nI no)), (3, .ref nm), (4, .int (nI (sumP (u 1) e))), (5, .int (nI (2 ^ u 1 e - 1))), (6, .int (nI (riB f e no (u 0 e) (u 1 e)))), (7, .int (nI 0)), (8, .int (nI 0))]) [5, 6, 7, 8, 4, 3, 2, 1, 0] rfl ?_
      refine j_lvE (lv' := [(0, .ref fo), (1, .int (nI e)), (2, .int (nI no)), (3, .ref nm), (4, .int (nI (sumP (u 1) e))), (5, .int (nI (2 ^ u 1 e - 1))), (6, .int (nI (riB f e no (u 0 e) (u 1 e)))), (7, .int (zb false)), (8, .int (nI 0))]) rfl ?_
      refine J.post (fun o w9 h => ?_) (l_takeNote hfo hs hf hp ha hm hc hnm hM hpb hab hst hcn hdd hcx hsx hxn hN he riB_lt (2 ^ u 1 e + 1) 0 x w (by omega) (by omega) hxb rfl (up_same hcx).symm)
      rw [show decide (u 0 e = 2) = false by simp [c57]]; exact h
    · skip
      refine j_iconst (v := nI 1) dX0_takeNote_60 (by decide) ?_
      refine j_goto 65 dX0_takeNote_61 (by decide) ?_
      refine j_istore (lv' := [(7, .int (nI 1)), (6, .int (nI (riB f e no (u 0 e) (u 1 e)))), (5, .int (nI (2 ^ (u 1 e) - 1))), (4, .int (nI (sumP (u 1) e))), (0, .ref fo), (1, .int (nI e)), (2, .int (nI no)), (3, .ref nm)]) dX0_takeNote_65 (Nat.le_of_ble_eq_true rfl) rfl ?_
      refine j_iconst (v := nI 0) dX0_takeNote_67 (by decide) ?_
      refine j_istore (lv' := [(8, .int (nI 0)), (7, .int (nI 1)), (6, .int (nI (riB f e no (u 0 e) (u 1 e)))), (5, .int (nI (2 ^ (u 1 e) - 1))), (4, .int (nI (sumP (u 1) e))), (0, .ref fo), (1, .int (nI e)), (2, .int (nI no)), (3, .ref nm)]) dX0_takeNote_68 (Nat.le_of_ble_eq_true rfl) rfl ?_
      refine j_lv (lv' := [(0, .ref fo), (1, .int (nI e)), (2, .int (nI no)), (3, .ref nm), (4, .int (nI (sumP (u 1) e))), (5, .int (nI (2 ^ u 1 e - 1))), (6, .int (nI (riB f e no (u 0 e) (u 1 e)))), (7, .int (nI 1)), (8, .int (nI 0))]) [5, 6, 7, 8, 4, 3, 2, 1, 0] rfl ?_
      refine j_lvE (lv' := [(0, .ref fo), (1, .int (nI e)), (2, .int (nI no)), (3, .ref nm), (4, .int (nI (sumP (u 1) e))), (5, .int (nI (2 ^ u 1 e - 1))), (6, .int (nI (riB f e no (u 0 e) (u 1 e)))), (7, .int (zb true)), (8, .int (nI 0))]) rfl ?_
      refine J.post (fun o w9 h => ?_) (l_takeNote hfo hs hf hp ha hm hc hnm hM hpb hab hst hcn hdd hcx hsx hxn hN he riB_lt (2 ^ u 1 e + 1) 0 x w (by omega) (by omega) hxb rfl (up_same hcx).symm)
      rw [show decide (u 0 e = 2) = true by simp [c57]]; exact h
  · skip
    exfalso; omega
abbrev rX0_findPlace : Room := { frames := 2, cells := 0, slots := 0, locals := 44 }
theorem flX0_findPlace_51 : FL wsX0_findPlace RX0 51 1 6 := ⟨RX1, TX1, 10, rfl, by decide, by decide +kernel, by decide +kernel⟩
theorem fsX0_findPlace_51 : FS wsX0_findPlace RX0 51 1 6 false (.int) := ⟨RX1, TX1, 10, tyX1, rfl, by decide, by decide +kernel, by decide +kernel, tyX1_ok, nmX1, rfl, rfl, rfl⟩
theorem fsX0_findPlace_70 : FS wsX0_findPlace RX0 70 1 4 false (.int) := ⟨RX1, TX1, 10, tyX1, rfl, by decide, by decide +kernel, by decide +kernel, tyX1_ok, nmX1, rfl, rfl, rfl⟩
theorem fsX0_findPlace_73 : FS wsX0_findPlace RX0 73 1 5 false (.int) := ⟨RX1, TX1, 10, tyX1, rfl, by decide, by decide +kernel, by decide +kernel, tyX1_ok, nmX1, rfl, rfl, rfl⟩
set_option maxHeartbeats 4000000 in
set_option maxRecDepth 100000 in
theorem l_findPlace {w : pW} {fo sc pr ar de ms mn nt : Nat} {fa ev be cu st me pa : Nat} {f : Nat → Int32} {u : Nat → Nat → Nat} {bh : Nat → Option Nat} {nm cx : Nat} {bf2 nx2 av2 ah2 : Option Nat} {cl2 pe2 pb2 pc2 an2 : Nat} {xn : Nat} {x : Nat → Nat} (hfo : w fo = some (.inr (0, [.ref sc, .ref pr, .ref ar, .ref de, .ref ms, .ref mn, .int (nI nt)]))) (hs : w sc = some (.inr (3, [.ref fa, .int (nI ev), .int (nI be), .int (nI cu), .int (nI st), .int (nI me), .int (nI pa)]))) (hf : w fa = some (.inl (0, 1400, .inl f))) (hnm : w nm = some (.inr (1, [va_rf bf2, va_rf nx2, .ref cx, .int (nI cl2), .int (nI pe2), .int (nI pb2), .int (nI pc2), .int (nI an2), va_rf av2, va_rf ah2]))) (hcx : w cx = some (.inl (0, xn, .inl (fun j9 => nI (x j9))))) (hM : Mus f ev st u bh) (hsx : st ≤ xn) (hxn : xn ≤ 100000) (hxb : ∀ j, x j ≤ 1000000) (hN : va_nd [fa, cx] = true) {e : Nat} {R9 : Nat × Nat × Nat} (he : e < ev) : ∀ (m9 : Nat) (b : Nat) (te : Nat) (tb : Nat) (tc : Nat) (wl : pW), 2 ^ u 1 e - b < m9 → (b ≤ 2 ^ u 1 e) → (tc ≤ 1000000) → (fpF x (sumP (u 1) e) e (2 ^ u 1 e - b) b (tc, te, tb) = R9) → (wl = va_up w nm (some (.inr (1, [va_rf bf2, va_rf nx2, .ref cx, .int (nI cl2), .int (nI te), .int (nI tb), .int (nI tc), .int (nI an2), va_rf av2, va_rf ah2])))) → J ((cX0_findPlace, RX0, 7, wsX0_findPlace), (rX0_findPlace, none, "findPlace", []), fun o w9 => o = .inl none ∧ w9 = va_up w nm (some (.inr (1, [va_rf bf2, va_rf nx2, .ref cx, .int (nI cl2), .int (nI R9.2.1), .int (nI R9.2.2), .int (nI R9.1), .int (nI an2), va_rf av2, va_rf ah2]))), fun _ _ _ => True) 24 [(0, .ref fo), (1, .int (nI e)), (2, .ref nm), (3, .int (nI (sumP (u 1) e))), (4, .int (nI (2 ^ u 1 e - 1))), (5, .int (nI b))] [] wl 0 0 := by
  intro m9
  induction m9 with
  | zero => intro b te tb tc wl h9; omega
  | succ m9 ih =>
    intro b te tb tc wl hm9 hb1 htc hr hwl
    have hev := hM.hev
    have hst0 := hM.hst
    have hrg := hM.rg (e := e) he
    have hbd := hM.bd (e := e) he
    have g_fo := up_ne hwl (fk hfo hnm rfl) hfo
    have g_sc := up_ne hwl (fk hs hnm rfl) hs
    have g_fa := up_ne hwl (fk hf hnm rfl) hf
    have g_nm : wl nm = some (.inr (1, [va_rf bf2, va_rf nx2, .ref cx, .int (nI cl2), .int (nI te), .int (nI tb), .int (nI tc), .int (nI an2), va_rf av2, va_rf ah2])) := up_at hwl
    have g_cx := up_ne hwl (fk hcx hnm rfl) hcx
    refine j_iload dX0_findPlace_24 5 rfl ?_
    refine j_iload dX0_findPlace_26 4 rfl ?_
    refine j_icmp_gtN 73 (by omega) (by omega) dX0_findPlace_28 (by decide) (fun c28 => ?_) (fun c28 => ?_)
    · skip
      exact j_vret rfl ⟨rfl, by rw [← hr, show 2 ^ u 1 e - b = 0 by omega]; exact hwl⟩ (show 0 ≤ 0 by omega) (show 0 ≤ 0 by omega) dX0_findPlace_73
    · skip
      refine j_aload_n dX0_findPlace_31 2 rfl ?_
      refine j_iload_n dX0_findPlace_32 3 rfl ?_
      refine j_iload dX0_findPlace_33 5 rfl ?_
      refine j_iaddN dX0_findPlace_35 ?_
      have hb1 := hxb ((sumP (u 1) e) + b)
      refine j_callV (rm := rX1_costAt) (As := [.int (nI ((sumP (u 1) e) + b))]) (st := []) (b0 := nm) (ci := 1) (na := 1) (c_costAt (s := ((sumP (u 1) e) + b)) g_nm g_cx (by omega) (by omega)) (by intro E w9 h9; first | exact nomatch h9.1 | (obtain ⟨_, h9, _⟩ := h9; exact nomatch h9) | (obtain ⟨_, _, _, h9, _⟩ := h9; exact nomatch h9)) gX0_findPlace_X1_costAt rfl rfl g_nm (by decide +kernel) rfl ⟨Nat.le_of_ble_eq_true rfl, Nat.le_of_ble_eq_true rfl⟩ rfl (Nat.le_of_ble_eq_true rfl) dX0_findPlace_36 ⟨(show 0 + 0 ≤ 0 by omega), (show 0 + 0 ≤ 0 by omega)⟩ (fun v2 w3 h4 => ?_)
      obtain ⟨h4, h5⟩ := h4
      cases h4
      subst w3
      refine j_after (st' := [.int (nI (x ((sumP (u 1) e) + b)))]) (k' := 0) (n' := 0) rfl rfl rfl ?_
      refine j_istore (lv' := [(6, .int (nI (x ((sumP (u 1) e) + b)))), (0, .ref fo), (1, .int (nI e)), (2, .ref nm), (3, .int (nI (sumP (u 1) e))), (4, .int (nI (2 ^ u 1 e - 1))), (5, .int (nI b))]) dX0_findPlace_39 (Nat.le_of_ble_eq_true rfl) rfl ?_
      refine j_iload dX0_findPlace_41 0 rfl ?_
      refine j_aload_n dX0_findPlace_43 3 rfl ?_
      refine j_get flX0_findPlace_51 g_nm rfl dX0_findPlace_44 ?_
      refine j_icmp_geN 67 (by omega) (by omega) dX0_findPlace_47 (by decide) (fun c47 => ?_) (fun c47 => ?_)
      · skip
        refine j_iinc (q := 6) (v := nI (b + 1)) (lv' := [(5, .int (nI (b + 1))), (6, .int (nI (x ((sumP (u 1) e) + b)))), (0, .ref fo), (1, .int (nI e)), (2, .ref nm), (3, .int (nI (sumP (u 1) e))), (4, .int (nI (2 ^ u 1 e - 1)))]) dX0_findPlace_67 rfl (by first | exact nI_1 _ | exact nI_add _ _) (Nat.le_of_ble_eq_true rfl) rfl ?_
        refine j_goto 24 dX0_findPlace_70 (by decide) ?_
        refine j_lv (lv' := [(0, .ref fo), (1, .int (nI e)), (2, .ref nm), (3, .int (nI (sumP (u 1) e))), (4, .int (nI (2 ^ u 1 e - 1))), (5, .int (nI (b + 1)))]) [2, 3, 4, 5, 6, 0] rfl ?_
        exact ih (b + 1) (te) (tb) (tc) _ (by omega) (by omega) (by omega) (by rw [← hr, fpF_step (show b < 2 ^ u 1 e by omega)]; unfold fpS; rw [if_neg (by show ¬ x (sumP (u 1) e + b) < tc; omega)]) (by rw [hwl] <;> (try simp only [bx_uu]))
      · skip
        refine j_aload_n dX0_findPlace_50 3 rfl ?_
        refine j_iload dX0_findPlace_51 0 rfl ?_
        refine j_put (fs9 := [va_rf bf2, va_rf nx2, .ref cx, .int (nI cl2), .int (nI te), .int (nI tb), .int (nI (x ((sumP (u 1) e) + b))), .int (nI an2), va_rf av2, va_rf ah2]) fsX0_findPlace_51 g_nm rfl rfl (Nat.le_of_ble_eq_true rfl) rfl dX0_findPlace_53 ?_
        refine j_w (fun w6 hw6 => ?_)
        have f7 := up_ne hw6 (fk g_fo g_nm rfl) g_fo
        have f8 := up_ne hw6 (fk g_sc g_nm rfl) g_sc
        have f9 := up_ne hw6 (fk g_fa g_nm rfl) g_fa
        have f10 : w6 nm = some (.inr (1, [va_rf bf2, va_rf nx2, .ref cx, .int (nI cl2), .int (nI te), .int (nI tb), .int (nI (x ((sumP (u 1) e) + b))), .int (nI an2), va_rf av2, va_rf ah2])) := up_at hw6
        have f11 := up_ne hw6 (fk g_cx g_nm rfl) g_cx
        refine j_aload_n dX0_findPlace_56 3 rfl ?_
        refine j_iload_n dX0_findPlace_57 2 rfl ?_
        refine j_put (fs9 := [va_rf bf2, va_rf nx2, .ref cx, .int (nI cl2), .int (nI e), .int (nI tb), .int (nI (x ((sumP (u 1) e) + b))), .int (nI an2), va_rf av2, va_rf ah2]) fsX0_findPlace_70 f10 rfl rfl (Nat.le_of_ble_eq_true rfl) rfl dX0_findPlace_58 ?_
        refine j_w (fun w12 hw12 => ?_)
        have f13 := up_ne hw12 (fk f7 f10 rfl) f7
        have f14 := up_ne hw12 (fk f8 f10 rfl) f8
        have f15 := up_ne hw12 (fk f9 f10 rfl) f9
        have f16 : w12 nm = some (.inr (1, [va_rf bf2, va_rf nx2, .ref cx, .int (nI cl2), .int (nI e), .int (nI tb), .int (nI (x ((sumP (u 1) e) + b))), .int (nI an2), va_rf av2, va_rf ah2])) := up_at hw12
        have f17 := up_ne hw12 (fk f11 f10 rfl) f11
        refine j_aload_n dX0_findPlace_61 3 rfl ?_
        refine j_iload dX0_findPlace_62 6 rfl ?_
        refine j_put (fs9 := [va_rf bf2, va_rf nx2, .ref cx, .int (nI cl2), .int (nI e), .int (nI b), .int (nI (x ((sumP (u 1) e) + b))), .int (nI an2), va_rf av2, va_rf ah2]) fsX0_findPlace_73 f16 rfl rfl (Nat.le_of_ble_eq_true rfl) rfl dX0_findPlace_64 ?_
        refine j_w (fun w18 hw18 => ?_)
        have f19 := up_ne hw18 (fk f13 f16 rfl) f13
        have f20 := up_ne hw18 (fk f14 f16 rfl) f14
        have f21 := up_ne hw18 (fk f15 f16 rfl) f15
        have f22 : w18 nm = some (.inr (1, [va_rf bf2, va_rf nx2, .ref cx, .int (nI cl2), .int (nI e), .int (nI b), .int (nI (x ((sumP (u 1) e) + b))), .int (nI an2), va_rf av2, va_rf ah2])) := up_at hw18
        have f23 := up_ne hw18 (fk f17 f16 rfl) f17
        refine j_iinc (q := 6) (v := nI (b + 1)) (lv' := [(5, .int (nI (b + 1))), (6, .int (nI (x ((sumP (u 1) e) + b)))), (0, .ref fo), (1, .int (nI e)), (2, .ref nm), (3, .int (nI (sumP (u 1) e))), (4, .int (nI (2 ^ u 1 e - 1)))]) dX0_findPlace_67 rfl (by first | exact nI_1 _ | exact nI_add _ _) (Nat.le_of_ble_eq_true rfl) rfl ?_
        refine j_goto 24 dX0_findPlace_70 (by decide) ?_
        refine j_lv (lv' := [(0, .ref fo), (1, .int (nI e)), (2, .ref nm), (3, .int (nI (sumP (u 1) e))), (4, .int (nI (2 ^ u 1 e - 1))), (5, .int (nI (b + 1)))]) [2, 3, 4, 5, 6, 0] rfl ?_
        exact ih (b + 1) (e) (b) (x ((sumP (u 1) e) + b)) _ (by omega) (by omega) (by omega) (by rw [← hr, fpF_step (show b < 2 ^ u 1 e by omega)]; unfold fpS; rw [if_pos c47]) (by rw [hw18, hw12, hw6, hwl] <;> (try simp only [bx_uu]))
theorem flX0_findPlace_33 : FL wsX0_findPlace RX0 33 0 0 := ⟨RX0, TX0, 7, rfl, by decide, by decide +kernel, by decide +kernel⟩
set_option maxHeartbeats 4000000 in
set_option maxRecDepth 100000 in
theorem c_findPlace {w : pW} {fo sc pr ar de ms mn nt : Nat} {fa ev be cu st me pa : Nat} {f : Nat → Int32} {u : Nat → Nat → Nat} {bh : Nat → Option Nat} {nm cx : Nat} {bf2 nx2 av2 ah2 : Option Nat} {cl2 pe2 pb2 pc2 an2 : Nat} {xn : Nat} {x : Nat → Nat} (hfo : w fo = some (.inr (0, [.ref sc, .ref pr, .ref ar, .ref de, .ref ms, .ref mn, .int (nI nt)]))) (hs : w sc = some (.inr (3, [.ref fa, .int (nI ev), .int (nI be), .int (nI cu), .int (nI st), .int (nI me), .int (nI pa)]))) (hf : w fa = some (.inl (0, 1400, .inl f))) (hnm : w nm = some (.inr (1, [va_rf bf2, va_rf nx2, .ref cx, .int (nI cl2), .int (nI pe2), .int (nI pb2), .int (nI pc2), .int (nI an2), va_rf av2, va_rf ah2]))) (hcx : w cx = some (.inl (0, xn, .inl (fun j9 => nI (x j9))))) (hM : Mus f ev st u bh) (hsx : st ≤ xn) (hxn : xn ≤ 100000) (hxb : ∀ j, x j ≤ 1000000) (hN : va_nd [fa, cx] = true) {e : Nat} (he : e < ev) (hpc2 : pc2 ≤ 1000000) : Ct yX0_findPlace wsX0_findPlace rX0_findPlace [.ref fo, .int (nI e), .ref nm] w (fun o w9 => o = .inl none ∧ w9 = va_up w nm (some (.inr (1, [va_rf bf2, va_rf nx2, .ref cx, .int (nI cl2), .int (nI ((fpF x (sumP (u 1) e) e (2 ^ u 1 e) 0 (pc2, pe2, pb2)).2.1)), .int (nI ((fpF x (sumP (u 1) e) e (2 ^ u 1 e) 0 (pc2, pe2, pb2)).2.2)), .int (nI ((fpF x (sumP (u 1) e) e (2 ^ u 1 e) 0 (pc2, pe2, pb2)).1)), .int (nI an2), va_rf av2, va_rf ah2])))) := by
  refine Ct.of (cc := cX0_findPlace) (own := RX0) (nm := "findPlace") (nL := 7) (ret := none) (by decide +kernel) rfl rfl rfl (Nat.le_of_ble_eq_true rfl) ?_
  refine j_lvE (lv' := [(0, .ref fo), (1, .int (nI e)), (2, .ref nm)]) rfl ?_
  have hev := hM.hev
  have hst0 := hM.hst
  have hrg := hM.rg (e := e) he
  have hbd := hM.bd (e := e) he
  refine j_aload_n dX0_findPlace_0 0 rfl ?_
  refine j_get flX0_findPlace_33 hfo rfl dX0_findPlace_1 ?_
  refine j_iload_n dX0_findPlace_4 1 rfl ?_
  refine j_bipush (v := nI 13) dX0_findPlace_5 (by decide) ?_
  have hrg1 := Mus.rg (e := e) hM (by omega)
  have hbd2 := Mus.bd (e := e) hM (by omega)
  refine j_callV (rm := rX3_fact) (As := [.int (nI e), .int (nI 13)]) (st := []) (b0 := sc) (ci := 3) (na := 2) (c_fact (e := e) (c := 13) hs hf (by omega) (by omega)) (by intro E w9 h9; first | exact nomatch h9.1 | (obtain ⟨_, h9, _⟩ := h9; exact nomatch h9) | (obtain ⟨_, _, _, h9, _⟩ := h9; exact nomatch h9)) gX0_findPlace_X3_fact rfl rfl hs (by decide +kernel) rfl ⟨Nat.le_of_ble_eq_true rfl, Nat.le_of_ble_eq_true rfl⟩ rfl (Nat.le_of_ble_eq_true rfl) dX0_findPlace_7 ⟨(show 0 + 0 ≤ 0 by omega), (show 0 + 0 ≤ 0 by omega)⟩ (fun v3 w4 h5 => ?_)
  obtain ⟨h5, h6⟩ := h5
  cases h5
  subst w4
  refine j_after (st' := [.int (f (e * 14 + 13))]) (k' := 0) (n' := 0) rfl rfl rfl ?_
  refine j_eqi (y := nI (sumP (u 1) e)) (Mus.c13 hM (by omega)) ?_
  refine j_istore_n (lv' := [(3, .int (nI (sumP (u 1) e))), (0, .ref fo), (1, .int (nI e)), (2, .ref nm)]) dX0_findPlace_10 (Nat.le_of_ble_eq_true rfl) rfl ?_
  refine j_aload_n dX0_findPlace_11 1 rfl ?_
  refine j_get flX0_findPlace_33 hfo rfl dX0_findPlace_12 ?_
  refine j_iload_n dX0_findPlace_15 2 rfl ?_
  refine j_callV (rm := rX3_allBits) (As := [.int (nI e)]) (st := []) (b0 := sc) (ci := 3) (na := 1) (c_allBits (e := e) (np := (u 1 e)) hs hf (by omega) (Mus.bd (e := e) hM (by omega)).2.1 (Mus.c1 hM (by omega))) (by intro E w9 h9; first | exact nomatch h9.1 | (obtain ⟨_, h9, _⟩ := h9; exact nomatch h9) | (obtain ⟨_, _, _, h9, _⟩ := h9; exact nomatch h9)) gX0_findPlace_X3_allBits rfl rfl hs (by decide +kernel) rfl ⟨Nat.le_of_ble_eq_true rfl, Nat.le_of_ble_eq_true rfl⟩ rfl (Nat.le_of_ble_eq_true rfl) dX0_findPlace_16 ⟨(show 0 + 0 ≤ 0 by omega), (show 0 + 0 ≤ 0 by omega)⟩ (fun v7 w8 h9 => ?_)
  obtain ⟨h9, h10⟩ := h9
  cases h9
  subst w8
  refine j_after (st' := [.int (nI (2 ^ (u 1 e) - 1))]) (k' := 0) (n' := 0) rfl rfl rfl ?_
  refine j_istore (lv' := [(4, .int (nI (2 ^ (u 1 e) - 1))), (3, .int (nI (sumP (u 1) e))), (0, .ref fo), (1, .int (nI e)), (2, .ref nm)]) dX0_findPlace_19 (Nat.le_of_ble_eq_true rfl) rfl ?_
  refine j_iconst (v := nI 0) dX0_findPlace_21 (by decide) ?_
  refine j_istore (lv' := [(5, .int (nI 0)), (4, .int (nI (2 ^ (u 1 e) - 1))), (3, .int (nI (sumP (u 1) e))), (0, .ref fo), (1, .int (nI e)), (2, .ref nm)]) dX0_findPlace_22 (Nat.le_of_ble_eq_true rfl) rfl ?_
  refine j_lv (lv' := [(0, .ref fo), (1, .int (nI e)), (2, .ref nm), (3, .int (nI (sumP (u 1) e))), (4, .int (nI (2 ^ u 1 e - 1))), (5, .int (nI 0))]) [3, 4, 5, 2, 1, 0] rfl ?_
  exact l_findPlace hfo hs hf hnm hcx hM (by omega) (by omega) hxb hN he (2 ^ u 1 e + 1) 0 pe2 pb2 pc2 w (by omega) (by omega) hpc2 rfl (up_same hnm).symm
