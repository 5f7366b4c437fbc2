abbrev rX0_begin : Room := { frames := 1, cells := 1, slots := 1600, locals := 22 }
theorem fsX0_begin_33 : FS wsX0_begin RX0 33 0 0 false (.object "PageTurner$Score") := ⟨RX0, TX0, 7, tyX0, rfl, by decide, by decide +kernel, by decide +kernel, tyX0_ok, nmX0, rfl, rfl, rfl⟩
theorem flX0_begin_26 : FL wsX0_begin RX0 26 0 4 := ⟨RX0, TX0, 7, rfl, by decide, by decide +kernel, by decide +kernel⟩
theorem flX0_begin_33 : FL wsX0_begin RX0 33 0 0 := ⟨RX0, TX0, 7, rfl, by decide, by decide +kernel, by decide +kernel⟩
theorem flX0_begin_37 : FL wsX0_begin RX0 37 3 4 := ⟨RX3, TX3, 7, rfl, by decide, by decide +kernel, by decide +kernel⟩
theorem fsX0_begin_51 : FS wsX0_begin RX0 51 1 6 false (.int) := ⟨RX1, TX1, 10, tyX1, rfl, by decide, by decide +kernel, by decide +kernel, tyX1_ok, nmX1, rfl, rfl, rfl⟩
set_option maxHeartbeats 4000000 in
set_option maxRecDepth 100000 in
theorem c_begin {w : pW} {fo sc pr ar de ms mn nt s2 fa ev be cu st me pa c0 : Nat} {bf nx av ah : Option Nat} {cl pe pb pc an cn : Nat} {d : Nat → Nat} (hfo : w fo = some (.inr (0, [.ref sc, .ref pr, .ref ar, .ref de, .ref ms, .ref mn, .int (nI nt)]))) (hs2 : w s2 = some (.inr (3, [.ref fa, .int (nI ev), .int (nI be), .int (nI cu), .int (nI st), .int (nI me), .int (nI pa)]))) (hm : w ms = some (.inr (1, [va_rf bf, va_rf nx, .ref c0, .int (nI cl), .int (nI pe), .int (nI pb), .int (nI pc), .int (nI an), va_rf av, va_rf ah]))) (hc : w c0 = some (.inl (0, cn, .inl (fun j9 => nI (d j9))))) (hst : st ≤ 1600) (hcn : cn ≤ 100000) (hdd : ∀ j, d j ≤ 1000000) : Ct yX0_begin wsX0_begin rX0_begin [.ref fo, .ref s2] w (fun o w9 => o = .inl none ∧ ∃ (q cn9 : Nat) (d9 : Nat → Nat), ((q = c0 ∧ cn9 = cn ∧ d9 = d) ∨ (w q = none ∧ cn9 = st ∧ d9 = fun _ => 0)) ∧ st ≤ cn9 ∧ (w9 q = some (.inl (0, cn9, .inl (fun j9 => nI ((offN (clr d9 st) cn9 0 0) j9)))) ∧ w9 ms = some (.inr (1, [va_rf bf, va_rf nx, .ref q, .int (nI cl), .int (nI 0), .int (nI 0), .int (nI 0), .int (nI 0), va_rf none, va_rf none])) ∧ w9 fo = some (.inr (0, [.ref s2, .ref pr, .ref ar, .ref de, .ref ms, .ref ms, .int (nI 0)]))) ∧ FrS [fo, ms, c0] w w9) := by
  refine Ct.of (cc := cX0_begin) (own := RX0) (nm := "begin") (nL := 2) (ret := none) (by decide +kernel) rfl rfl rfl (Nat.le_of_ble_eq_true rfl) ?_
  refine j_lvE (lv' := [(0, .ref fo), (1, .ref s2)]) rfl ?_
  refine j_aload_n dX0_begin_0 0 rfl ?_
  refine j_aload_n dX0_begin_1 1 rfl ?_
  refine j_put (fs9 := [.ref s2, .ref pr, .ref ar, .ref de, .ref ms, .ref mn, .int (nI nt)]) fsX0_begin_33 hfo rfl rfl (Nat.le_of_ble_eq_true rfl) rfl dX0_begin_2 ?_
  refine j_w (fun w1 hw1 => ?_)
  have f2 : w1 fo = some (.inr (0, [.ref s2, .ref pr, .ref ar, .ref de, .ref ms, .ref mn, .int (nI nt)])) := up_at hw1
  have f3 := up_ne hw1 (fk hs2 hfo rfl) hs2
  have f4 := up_ne hw1 (fk hm hfo rfl) hm
  have f5 := up_ne hw1 (fk hc hfo rfl) hc
  refine j_aload_n dX0_begin_5 0 rfl ?_
  refine j_get flX0_begin_26 f2 rfl dX0_begin_6 ?_
  refine j_aload_n dX0_begin_9 0 rfl ?_
  refine j_get flX0_begin_33 f2 rfl dX0_begin_10 ?_
  refine j_get flX0_begin_37 f3 rfl dX0_begin_13 ?_
  refine j_callV (rm := rX1_clear) (As := [.int (nI st)]) (st := []) (b0 := ms) (ci := 1) (na := 1) (c_mclear f4 f5 (by omega) (st := st) (by omega)) (by intro E w9 h9; first | exact nomatch h9.1 | (obtain ⟨_, h9, _⟩ := h9; exact nomatch h9) | (obtain ⟨_, _, _, h9, _⟩ := h9; exact nomatch h9)) gX0_begin_X1_clear rfl rfl f4 (by decide +kernel) rfl ⟨Nat.le_of_ble_eq_true rfl, Nat.le_of_ble_eq_true rfl⟩ rfl (Nat.le_of_ble_eq_true rfl) dX0_begin_16 ⟨(show 0 + 1 ≤ 1 by omega), (show 0 + 1600 ≤ 1600 by omega)⟩ (fun v6 w7 h8 => ?_)
  obtain ⟨q9, cn9, d9, h8, hcase, hle9, hw9⟩ := h8
  cases h8
  refine j_after (st' := []) (k' := 1) (n' := 1600) rfl rfl rfl ?_
  have hcn9 : cn9 ≤ 100000 := by rcases hcase with ⟨_, h, _⟩ | ⟨_, h, _⟩ <;> omega
  have hbd9 : ∀ j, clr d9 st j ≤ 1000000 := clr_le (hcase.elim (fun h => by rw [h.2.2]; exact hdd) (fun h => by rw [h.2.2]; exact fun _ => Nat.zero_le _))
  have nq_fo : fo ≠ q9 := hcase.elim (fun h => by rw [h.1]; exact (fk f2 f5 rfl)) (fun h => fn f2 h.1)
  have nq_s2 : s2 ≠ q9 := hcase.elim (fun h => by rw [h.1]; exact (fk f3 f5 rfl)) (fun h => fn f3 h.1)
  have nq_ms : ms ≠ q9 := hcase.elim (fun h => by rw [h.1]; exact (fk f4 f5 rfl)) (fun h => fn f4 h.1)
  have f9 : w7 fo = some (.inr (0, [.ref s2, .ref pr, .ref ar, .ref de, .ref ms, .ref mn, .int (nI nt)])) := by rw [hw9]; exact (va_up_ne _ _ ((fk f2 f4 rfl))).trans ((va_up_ne _ _ nq_fo).trans (f2))
  have f10 : w7 s2 = some (.inr (3, [.ref fa, .int (nI ev), .int (nI be), .int (nI cu), .int (nI st), .int (nI me), .int (nI pa)])) := by rw [hw9]; exact (va_up_ne _ _ ((fk f3 f4 rfl))).trans ((va_up_ne _ _ nq_s2).trans (f3))
  have f11 : w7 ms = some (.inr (1, [va_rf bf, va_rf nx, .ref q9, .int (nI cl), .int (nI 0), .int (nI 0), .int (nI 1000000), .int (nI 0), va_rf none, va_rf none])) := by rw [hw9]; exact va_up_self _ _ _
  have f12 : w7 q9 = some (.inl (0, cn9, .inl (fun j9 => nI ((clr d9 st) j9)))) := by rw [hw9]; exact (va_up_ne _ _ (Ne.symm nq_ms)).trans (va_up_self _ _ _)
  refine j_aload_n dX0_begin_19 0 rfl ?_
  refine j_get flX0_begin_26 f9 rfl dX0_begin_20 ?_
  refine j_iconst (v := nI 0) dX0_begin_23 (by decide) ?_
  refine j_iconst (v := nI 0) dX0_begin_24 (by decide) ?_
  refine j_callV (rm := rX1_offer) (As := [.int (nI 0), .int (nI 0)]) (st := []) (b0 := ms) (ci := 1) (na := 2) (c_offer (s := 0) (c := 0) f11 f12 (by omega) (by omega) (by omega) (fun j => Nat.lt_of_le_of_lt (hbd9 j) (by decide))) (by intro E w9 h9; first | exact nomatch h9.1 | (obtain ⟨_, h9, _⟩ := h9; exact nomatch h9) | (obtain ⟨_, _, _, h9, _⟩ := h9; exact nomatch h9)) gX0_begin_X1_offer rfl rfl f11 (by decide +kernel) rfl ⟨Nat.le_of_ble_eq_true rfl, Nat.le_of_ble_eq_true rfl⟩ rfl (Nat.le_of_ble_eq_true rfl) dX0_begin_25 ⟨(show 1 + 0 ≤ 1 by omega), (show 1600 + 0 ≤ 1600 by omega)⟩ (fun v13 w14 h15 => ?_)
  obtain ⟨h15, h16⟩ := h15
  cases h15
  -- w14
  refine j_after (st' := []) (k' := 1) (n' := 1600) rfl rfl rfl ?_
  have f17 : w14 fo = some (.inr (0, [.ref s2, .ref pr, .ref ar, .ref de, .ref ms, .ref mn, .int (nI nt)])) := by rw [h16]; exact (va_up_ne _ _ nq_fo).trans (f9)
  have f18 : w14 s2 = some (.inr (3, [.ref fa, .int (nI ev), .int (nI be), .int (nI cu), .int (nI st), .int (nI me), .int (nI pa)])) := by rw [h16]; exact (va_up_ne _ _ nq_s2).trans (f10)
  have f19 : w14 ms = some (.inr (1, [va_rf bf, va_rf nx, .ref q9, .int (nI cl), .int (nI 0), .int (nI 0), .int (nI 1000000), .int (nI 0), va_rf none, va_rf none])) := by rw [h16]; exact (va_up_ne _ _ nq_ms).trans (f11)
  have f20 : w14 q9 = some (.inl (0, cn9, .inl (fun j9 => nI ((offN (clr d9 st) cn9 0 0) j9)))) := by rw [h16]; exact va_up_self _ _ _
  have hb21 : ∀ j9, (offN (clr d9 st) cn9 0 0) j9 ≤ 1000000 := offN_le hbd9
  refine j_aload_n dX0_begin_28 0 rfl ?_
  refine j_get flX0_begin_26 f17 rfl dX0_begin_29 ?_
  refine j_iconst (v := nI 0) dX0_begin_32 (by decide) ?_
  refine j_put (fs9 := [va_rf bf, va_rf nx, .ref q9, .int (nI cl), .int (nI 0), .int (nI 0), .int (nI 0), .int (nI 0), va_rf none, va_rf none]) fsX0_begin_51 f19 rfl rfl (Nat.le_of_ble_eq_true rfl) rfl dX0_begin_33 ?_
  refine j_w (fun w22 hw22 => ?_)
  have f23 := up_ne hw22 (fk f17 f19 rfl) f17
  have f24 := up_ne hw22 (fk f18 f19 rfl) f18
  have f25 : w22 ms = some (.inr (1, [va_rf bf, va_rf nx, .ref q9, .int (nI cl), .int (nI 0), .int (nI 0), .int (nI 0), .int (nI 0), va_rf none, va_rf none])) := up_at hw22
  have f26 := up_ne hw22 (Ne.symm nq_ms) f20
  refine j_aload_n dX0_begin_36 0 rfl ?_
  refine j_callV (rm := rX0_forget) (As := []) (st := []) (b0 := fo) (ci := 0) (na := 0) (c_forget f23) (by intro E w9 h9; first | exact nomatch h9.1 | (obtain ⟨_, h9, _⟩ := h9; exact nomatch h9) | (obtain ⟨_, _, _, h9, _⟩ := h9; exact nomatch h9)) gX0_begin_X0_forget rfl rfl f23 (by decide +kernel) rfl ⟨Nat.le_of_ble_eq_true rfl, Nat.le_of_ble_eq_true rfl⟩ rfl (Nat.le_of_ble_eq_true rfl) dX0_begin_37 ⟨(show 1 + 0 ≤ 1 by omega), (show 1600 + 0 ≤ 1600 by omega)⟩ (fun v27 w28 h29 => ?_)
  obtain ⟨h29, h30⟩ := h29
  cases h29
  -- w28
  refine j_after (st' := []) (k' := 1) (n' := 1600) rfl rfl rfl ?_
  have f31 : w28 fo = some (.inr (0, [.ref s2, .ref pr, .ref ar, .ref de, .ref ms, .ref ms, .int (nI 0)])) := by rw [h30]; exact va_up_self _ _ _
  have f32 : w28 s2 = some (.inr (3, [.ref fa, .int (nI ev), .int (nI be), .int (nI cu), .int (nI st), .int (nI me), .int (nI pa)])) := by rw [h30]; exact (va_up_ne _ _ (fk f24 f23 rfl)).trans (f24)
  have f33 : w28 ms = some (.inr (1, [va_rf bf, va_rf nx, .ref q9, .int (nI cl), .int (nI 0), .int (nI 0), .int (nI 0), .int (nI 0), va_rf none, va_rf none])) := by rw [h30]; exact (va_up_ne _ _ (fk f25 f23 rfl)).trans (f25)
  have f34 : w28 q9 = some (.inl (0, cn9, .inl (fun j9 => nI ((offN (clr d9 st) cn9 0 0) j9)))) := by rw [h30]; exact (va_up_ne _ _ (Ne.symm nq_fo)).trans (f26)
  have hfr : Fr [fo, ms, q9] w w28 := ((((((Fr.refl : Fr [fo, ms, q9] w w).trans (Fr.up hw1 (by simp))).trans (Fr.up2 hw9 (by simp) (by simp))).trans (Fr.up h16 (by simp))).trans (Fr.up hw22 (by simp))).trans (Fr.up h30 (by simp)))
  have hcase0 : (q9 = c0 ∧ cn9 = cn ∧ d9 = d) ∨ (w q9 = none ∧ cn9 = st ∧ d9 = fun _ => 0) := hcase.elim Or.inl (fun h => Or.inr ⟨by have h0 := h.1; rw [hw1, va_up_ne _ _ (Ne.symm nq_fo)] at h0; exact h0, h.2⟩)
  have hfs : FrS [fo, ms, c0] w w28 := hfr.s.new (by
    intro z hz; simp only [List.mem_cons, List.not_mem_nil, or_false] at hz; rcases hz with rfl | rfl | rfl
    · simp
    · simp
    · exact hcase0.elim (fun h => Or.inl (by rw [h.1]; simp)) (fun h => Or.inr h.1))
  exact j_vret rfl ⟨rfl, q9, cn9, d9, hcase0, hle9, ⟨f34, f33, f31⟩, hfs⟩ (show 1 ≤ 1 by omega) (show 1600 ≤ 1600 by omega) dX0_begin_40
abbrev rX0_init : Room := { frames := 2, cells := 5, slots := 214, locals := 45 }
set_option maxRecDepth 100000 in
theorem mX0_init_0 : Cond.methodLink RX0 3 objectInit ∈ wsX0_init := by decide +kernel
set_option maxRecDepth 100000 in
theorem mX0_init_1 : Cond.instanceMethod objectInit ∈ wsX0_init := by decide +kernel
set_option maxRecDepth 100000 in
theorem mX0_init_2 : Cond.code objectInit ⟨#[0xb1]⟩ 1 none ∈ wsX0_init := by decide +kernel
set_option maxRecDepth 100000 in
theorem mX0_init_3 : Cond.arrayClass .int ∈ wsX0_init := by decide +kernel
theorem fsX0_init_9 : FS wsX0_init RX0 9 0 1 true (.array .int) := ⟨RX0, TX0, 7, tyX0, rfl, by decide, by decide +kernel, by decide +kernel, tyX0_ok, nmX0, rfl, rfl, rfl⟩
theorem fsX0_init_15 : FS wsX0_init RX0 15 0 2 true (.array .int) := ⟨RX0, TX0, 7, tyX0, rfl, by decide, by decide +kernel, by decide +kernel, tyX0_ok, nmX0, rfl, rfl, rfl⟩
theorem fsX0_init_18 : FS wsX0_init RX0 18 0 3 true (.array .int) := ⟨RX0, TX0, 7, tyX0, rfl, by decide, by decide +kernel, by decide +kernel, tyX0_ok, nmX0, rfl, rfl, rfl⟩
set_option maxRecDepth 100000 in
theorem muX0_init_X1 : ∀ w ∈ u_ws RX1 TX1 10, w ∈ wsX0_init := by decide +kernel
set_option maxRecDepth 100000 in
theorem mX0_init_4 : Cond.classLink RX0 21 RX1 ∈ wsX0_init := by decide +kernel
set_option maxRecDepth 100000 in
theorem mX0_init_5 : Cond.instantiable RX1 10 ∈ wsX0_init := by decide +kernel
set_option maxRecDepth 100000 in
theorem mX0_init_6 : Cond.initialized RX1 ∈ wsX0_init := by decide +kernel
set_option maxRecDepth 100000 in
theorem mX0_init_7 : Cond.initialized yX1_init.cls ∈ wsX0_init := by decide +kernel
set_option maxRecDepth 100000 in
theorem mX0_init_8 : Cond.methodLink RX0 23 yX1_init ∈ wsX0_init := by decide +kernel
set_option maxRecDepth 100000 in
theorem mX0_init_9 : Cond.instanceMethod yX1_init ∈ wsX0_init := by decide +kernel
theorem fsX0_init_26 : FS wsX0_init RX0 26 0 4 true (.object "PageTurner$Moment") := ⟨RX0, TX0, 7, tyX0, rfl, by decide, by decide +kernel, by decide +kernel, tyX0_ok, nmX0, rfl, rfl, rfl⟩
theorem flX0_init_26 : FL wsX0_init RX0 26 0 4 := ⟨RX0, TX0, 7, rfl, by decide, by decide +kernel, by decide +kernel⟩
theorem fsX0_init_30 : FS wsX0_init RX0 30 0 5 false (.object "PageTurner$Moment") := ⟨RX0, TX0, 7, tyX0, rfl, by decide, by decide +kernel, by decide +kernel, tyX0_ok, nmX0, rfl, rfl, rfl⟩
theorem fsX0_init_33 : FS wsX0_init RX0 33 0 0 false (.object "PageTurner$Score") := ⟨RX0, TX0, 7, tyX0, rfl, by decide, by decide +kernel, by decide +kernel, tyX0_ok, nmX0, rfl, rfl, rfl⟩
set_option maxHeartbeats 4000000 in
set_option maxRecDepth 100000 in
theorem c_Follower_init {w : pW} {fo sc : Nat} (hfo : w fo = some (.inr (0, [.null, .null, .null, .null, .null, .null, .int (nI 0)]))) : Ct yX0_init wsX0_init rX0_init [.ref fo, .ref sc] w (fun o w9 => ∃ pr ar de ms c0 : Nat, o = .inl none ∧ (w pr = none ∧ w ar = none ∧ w de = none ∧ w ms = none ∧ w c0 = none) ∧ va_nd [pr, ar, de, c0] = true ∧ (w9 fo = some (.inr (0, [.ref sc, .ref pr, .ref ar, .ref de, .ref ms, .ref ms, .int (nI 0)])) ∧ w9 pr = some (.inl (0, 4, .inl (fun j9 => nI ((va_up (va_up (va_up (va_up (fun _ => 0) 0 3) 1 2) 2 2) 3 6) j9)))) ∧ w9 ar = some (.inl (0, 100, .inl (fun j9 => nI ((fun _ => 0) j9)))) ∧ w9 de = some (.inl (0, 100, .inl (fun j9 => nI ((fun _ => 0) j9)))) ∧ w9 ms = some (.inr (1, [va_rf none, va_rf none, .ref c0, .int (nI 0), .int (nI 0), .int (nI 0), .int (nI 0), .int (nI 0), va_rf none, va_rf none])) ∧ w9 c0 = some (.inl (0, 0, .inl (fun j9 => nI ((fun _ => 0) j9))))) ∧ FrS [fo] w w9) := by
  refine Ct.of (cc := cX0_init) (own := RX0) (nm := "<init>") (nL := 2) (ret := none) (by decide +kernel) rfl rfl rfl (Nat.le_of_ble_eq_true rfl) ?_
  refine j_lvE (lv' := [(0, .ref fo), (1, .ref sc)]) rfl ?_
  refine j_aload_n dX0_init_0 0 rfl ?_
  refine j_objInit mX0_init_0 mX0_init_1 mX0_init_2 dX0_init_1 (Nat.le_of_ble_eq_true rfl) (Nat.le_of_ble_eq_true rfl) ?_
  refine j_aload_n dX0_init_4 0 rfl ?_
  refine j_iconst (v := nI 4) dX0_init_5 (by decide) ?_
  refine j_newi (N := 4) mX0_init_3 (nI_pos (by omega)) (nI_clamp (by omega)) (by omega) (show 0 + 1 ≤ 5 by omega) (show 0 + 4 ≤ 214 by omega) dX0_init_6 (fun q1 hq1 => ?_)
  refine j_after (st' := [.ref q1, .ref fo]) (k' := 1) (n' := 4) rfl (by first | rfl | omega) (by first | rfl | omega) ?_
  refine j_w (fun w2 hw2 => ?_)
  have n4 : fo ≠ q1 := fn hfo hq1
  have f3 := up_ne hw2 n4 hfo
  have f5 : w2 q1 = some (.inl (0, 4, .inl (fun j9 => nI ((fun _ => 0) j9)))) := up_at hw2
  refine j_dup dX0_init_8 rfl ?_
  refine j_iconst (v := nI 0) dX0_init_9 (by decide) ?_
  refine j_iconst (v := nI 3) dX0_init_10 (by decide) ?_
  refine j_iastn (j := 0) (x := 3) f5 rfl (by omega) (by omega) dX0_init_11 ?_
  refine j_w (fun w6 hw6 => ?_)
  have f7 := up_ne hw6 n4 f3
  have f8 : w6 q1 = some (.inl (0, 4, .inl (fun j9 => nI ((va_up (fun _ => 0) 0 3) j9)))) := up_at hw6
  refine j_dup dX0_init_12 rfl ?_
  refine j_iconst (v := nI 1) dX0_init_13 (by decide) ?_
  refine j_iconst (v := nI 2) dX0_init_14 (by decide) ?_
  refine j_iastn (j := 1) (x := 2) f8 rfl (by omega) (by omega) dX0_init_15 ?_
  refine j_w (fun w9 hw9 => ?_)
  have f10 := up_ne hw9 n4 f7
  have f11 : w9 q1 = some (.inl (0, 4, .inl (fun j9 => nI ((va_up (va_up (fun _ => 0) 0 3) 1 2) j9)))) := up_at hw9
  refine j_dup dX0_init_16 rfl ?_
  refine j_iconst (v := nI 2) dX0_init_17 (by decide) ?_
  refine j_iconst (v := nI 2) dX0_init_18 (by decide) ?_
  refine j_iastn (j := 2) (x := 2) f11 rfl (by omega) (by omega) dX0_init_19 ?_
  refine j_w (fun w12 hw12 => ?_)
  have f13 := up_ne hw12 n4 f10
  have f14 : w12 q1 = some (.inl (0, 4, .inl (fun j9 => nI ((va_up (va_up (va_up (fun _ => 0) 0 3) 1 2) 2 2) j9)))) := up_at hw12
  refine j_dup dX0_init_20 rfl ?_
  refine j_iconst (v := nI 3) dX0_init_21 (by decide) ?_
  refine j_bipush (v := nI 6) dX0_init_22 (by decide) ?_
  refine j_iastn (j := 3) (x := 6) f14 rfl (by omega) (by omega) dX0_init_24 ?_
  refine j_w (fun w15 hw15 => ?_)
  have f16 := up_ne hw15 n4 f13
  have f17 : w15 q1 = some (.inl (0, 4, .inl (fun j9 => nI ((va_up (va_up (va_up (va_up (fun _ => 0) 0 3) 1 2) 2 2) 3 6) j9)))) := up_at hw15
  refine j_putF (fs9 := [.null, .ref q1, .null, .null, .null, .null, .int (nI 0)]) fsX0_init_9 f16 rfl (by intro C T N hc; cases hc; rfl) rfl rfl (Nat.le_of_ble_eq_true rfl) rfl dX0_init_25 ?_
  refine j_w (fun w18 hw18 => ?_)
  have f19 : w18 fo = some (.inr (0, [.null, .ref q1, .null, .null, .null, .null, .int (nI 0)])) := up_at hw18
  have f20 := up_ne hw18 (Ne.symm n4) f17
  refine j_aload_n dX0_init_28 0 rfl ?_
  refine j_bipush (v := nI 100) dX0_init_29 (by decide) ?_
  refine j_newi (N := 100) mX0_init_3 (nI_pos (by omega)) (nI_clamp (by omega)) (by omega) (show 1 + 1 ≤ 5 by omega) (show 4 + 100 ≤ 214 by omega) dX0_init_31 (fun q21 hq21 => ?_)
  refine j_after (st' := [.ref q21, .ref fo]) (k' := 2) (n' := 104) rfl (by first | rfl | omega) (by first | rfl | omega) ?_
  refine j_w (fun w22 hw22 => ?_)
  have n24 : fo ≠ q21 := fn f19 hq21
  have f23 := up_ne hw22 n24 f19
  have n26 : q1 ≠ q21 := fn f20 hq21
  have f25 := up_ne hw22 n26 f20
  have f27 : w22 q21 = some (.inl (0, 100, .inl (fun j9 => nI ((fun _ => 0) j9)))) := up_at hw22
  refine j_putF (fs9 := [.null, .ref q1, .ref q21, .null, .null, .null, .int (nI 0)]) fsX0_init_15 f23 rfl (by intro C T N hc; cases hc; rfl) rfl rfl (Nat.le_of_ble_eq_true rfl) rfl dX0_init_33 ?_
  refine j_w (fun w28 hw28 => ?_)
  have f29 : w28 fo = some (.inr (0, [.null, .ref q1, .ref q21, .null, .null, .null, .int (nI 0)])) := up_at hw28
  have f30 := up_ne hw28 (Ne.symm n4) f25
  have f31 := up_ne hw28 (Ne.symm n24) f27
  refine j_aload_n dX0_init_36 0 rfl ?_
  refine j_bipush (v := nI 100) dX0_init_37 (by decide) ?_
  refine j_newi (N := 100) mX0_init_3 (nI_pos (by omega)) (nI_clamp (by omega)) (by omega) (show 2 + 1 ≤ 5 by omega) (show 104 + 100 ≤ 214 by omega) dX0_init_39 (fun q32 hq32 => ?_)
  refine j_after (st' := [.ref q32, .ref fo]) (k' := 3) (n' := 204) rfl (by first | rfl | omega) (by first | rfl | omega) ?_
  refine j_w (fun w33 hw33 => ?_)
  have n35 : fo ≠ q32 := fn f29 hq32
  have f34 := up_ne hw33 n35 f29
  have n37 : q1 ≠ q32 := fn f30 hq32
  have f36 := up_ne hw33 n37 f30
  have n39 : q21 ≠ q32 := fn f31 hq32
  have f38 := up_ne hw33 n39 f31
  have f40 : w33 q32 = some (.inl (0, 100, .inl (fun j9 => nI ((fun _ => 0) j9)))) := up_at hw33
  refine j_putF (fs9 := [.null, .ref q1, .ref q21, .ref q32, .null, .null, .int (nI 0)]) fsX0_init_18 f34 rfl (by intro C T N hc; cases hc; rfl) rfl rfl (Nat.le_of_ble_eq_true rfl) rfl dX0_init_41 ?_
  refine j_w (fun w41 hw41 => ?_)
  have f42 : w41 fo = some (.inr (0, [.null, .ref q1, .ref q21, .ref q32, .null, .null, .int (nI 0)])) := up_at hw41
  have f43 := up_ne hw41 (Ne.symm n4) f36
  have f44 := up_ne hw41 (Ne.symm n24) f38
  have f45 := up_ne hw41 (Ne.symm n35) f40
  refine j_aload_n dX0_init_44 0 rfl ?_
  refine j_new (ci := 1) (fs := [.null, .null, .null, .int (nI 0), .int (nI 0), .int (nI 0), .int (nI 0), .int (nI 0), .null, .null]) tyX1 rfl muX0_init_X1 tyX1_ok mX0_init_4 mX0_init_5 mX0_init_6 (by decide +kernel) (show 3 + 1 ≤ 5 by omega) (show 204 + 10 ≤ 214 by omega) dX0_init_45 (fun q46 hq46 => ?_)
  refine j_after (st' := [.ref q46, .ref fo]) (k' := 4) (n' := 214) rfl (by first | rfl | omega) (by first | rfl | omega) ?_
  refine j_w (fun w47 hw47 => ?_)
  have n49 : fo ≠ q46 := fn f42 hq46
  have f48 := up_ne hw47 n49 f42
  have n51 : q1 ≠ q46 := fn f43 hq46
  have f50 := up_ne hw47 n51 f43
  have n53 : q21 ≠ q46 := fn f44 hq46
  have f52 := up_ne hw47 n53 f44
  have n55 : q32 ≠ q46 := fn f45 hq46
  have f54 := up_ne hw47 n55 f45
  have f56 : w47 q46 = some (.inr (1, [.null, .null, .null, .int (nI 0), .int (nI 0), .int (nI 0), .int (nI 0), .int (nI 0), .null, .null])) := up_at hw47
  refine j_dup dX0_init_48 rfl ?_
  refine j_null dX0_init_49 ?_
  refine j_callI (rm := rX1_init) (As := [.null]) (st := [.ref q46, .ref fo]) (b0 := q46) (na := 1) (c_Moment_init0 f56) (by intro E w9 h9; first | exact nomatch h9.1 | (obtain ⟨_, h9, _⟩ := h9; exact nomatch h9) | (obtain ⟨_, _, _, h9, _⟩ := h9; exact nomatch h9)) gX0_init_X1_init rfl mX0_init_7 mX0_init_8 mX0_init_9 rfl (by decide +kernel) rfl ⟨Nat.le_of_ble_eq_true rfl, Nat.le_of_ble_eq_true rfl⟩ rfl (Nat.le_of_ble_eq_true rfl) dX0_init_50 ⟨(show 4 + 1 ≤ 5 by omega), (show 214 + 0 ≤ 214 by omega)⟩ (fun v57 w58 h59 => ?_)
  obtain ⟨q8, h59, hq8, hw8⟩ := h59
  cases h59
  refine j_after (st' := [.ref q46, .ref fo]) (k' := 5) (n' := 214) rfl rfl rfl ?_
  have n8_fo : fo ≠ q8 := fn f48 hq8
  have n8_q1 : q1 ≠ q8 := fn f50 hq8
  have n8_q21 : q21 ≠ q8 := fn f52 hq8
  have n8_q32 : q32 ≠ q8 := fn f54 hq8
  have n8_q46 : q46 ≠ q8 := fn f56 hq8
  have f60 : w58 fo = some (.inr (0, [.null, .ref q1, .ref q21, .ref q32, .null, .null, .int (nI 0)])) := by rw [hw8]; exact (va_up_ne _ _ n49).trans ((va_up_ne _ _ n8_fo).trans (f48))
  have f61 : w58 q1 = some (.inl (0, 4, .inl (fun j9 => nI ((va_up (va_up (va_up (va_up (fun _ => 0) 0 3) 1 2) 2 2) 3 6) j9)))) := by rw [hw8]; exact (va_up_ne _ _ n51).trans ((va_up_ne _ _ n8_q1).trans (f50))
  have f62 : w58 q21 = some (.inl (0, 100, .inl (fun j9 => nI ((fun _ => 0) j9)))) := by rw [hw8]; exact (va_up_ne _ _ n53).trans ((va_up_ne _ _ n8_q21).trans (f52))
  have f63 : w58 q32 = some (.inl (0, 100, .inl (fun j9 => nI ((fun _ => 0) j9)))) := by rw [hw8]; exact (va_up_ne _ _ n55).trans ((va_up_ne _ _ n8_q32).trans (f54))
  have f64 : w58 q46 = some (.inr (1, [va_rf none, va_rf none, .ref q8, .int (nI 0), .int (nI 0), .int (nI 0), .int (nI 0), .int (nI 0), va_rf none, va_rf none])) := by rw [hw8]; exact va_up_self _ _ _
  have f65 : w58 q8 = some (.inl (0, 0, .inl (fun j9 => nI ((fun _ => 0) j9)))) := by rw [hw8]; exact (va_up_ne _ _ (Ne.symm n8_q46)).trans (va_up_self _ _ _)
  refine j_putF (fs9 := [.null, .ref q1, .ref q21, .ref q32, .ref q46, .null, .int (nI 0)]) fsX0_init_26 f60 rfl (by intro C T N hc; cases hc; rfl) rfl rfl (Nat.le_of_ble_eq_true rfl) rfl dX0_init_53 ?_
  refine j_w (fun w66 hw66 => ?_)
  have f67 : w66 fo = some (.inr (0, [.null, .ref q1, .ref q21, .ref q32, .ref q46, .null, .int (nI 0)])) := up_at hw66
  have f68 := up_ne hw66 (Ne.symm n4) f61
  have f69 := up_ne hw66 (Ne.symm n24) f62
  have f70 := up_ne hw66 (Ne.symm n35) f63
  have f71 := up_ne hw66 (Ne.symm n49) f64
  have f72 := up_ne hw66 (Ne.symm n8_fo) f65
  refine j_aload_n dX0_init_56 0 rfl ?_
  refine j_aload_n dX0_init_57 0 rfl ?_
  refine j_get flX0_init_26 f67 rfl dX0_init_58 ?_
  refine j_put (fs9 := [.null, .ref q1, .ref q21, .ref q32, .ref q46, .ref q46, .int (nI 0)]) fsX0_init_30 f67 rfl rfl (Nat.le_of_ble_eq_true rfl) rfl dX0_init_61 ?_
  refine j_w (fun w73 hw73 => ?_)
  have f74 : w73 fo = some (.inr (0, [.null, .ref q1, .ref q21, .ref q32, .ref q46, .ref q46, .int (nI 0)])) := up_at hw73
  have f75 := up_ne hw73 (Ne.symm n4) f68
  have f76 := up_ne hw73 (Ne.symm n24) f69
  have f77 := up_ne hw73 (Ne.symm n35) f70
  have f78 := up_ne hw73 (Ne.symm n49) f71
  have f79 := up_ne hw73 (Ne.symm n8_fo) f72
  refine j_aload_n dX0_init_64 0 rfl ?_
  refine j_aload_n dX0_init_65 1 rfl ?_
  refine j_put (fs9 := [.ref sc, .ref q1, .ref q21, .ref q32, .ref q46, .ref q46, .int (nI 0)]) fsX0_init_33 f74 rfl rfl (Nat.le_of_ble_eq_true rfl) rfl dX0_init_66 ?_
  refine j_w (fun w80 hw80 => ?_)
  have f81 : w80 fo = some (.inr (0, [.ref sc, .ref q1, .ref q21, .ref q32, .ref q46, .ref q46, .int (nI 0)])) := up_at hw80
  have f82 := up_ne hw80 (Ne.symm n4) f75
  have f83 := up_ne hw80 (Ne.symm n24) f76
  have f84 := up_ne hw80 (Ne.symm n35) f77
  have f85 := up_ne hw80 (Ne.symm n49) f78
  have f86 := up_ne hw80 (Ne.symm n8_fo) f79
  have hz_q1 : w q1 = none := ((Fr.refl : Fr [fo] w w) q1 (by simp only [List.mem_cons, List.not_mem_nil, or_false, not_or]; exact (Ne.symm n4))).symm.trans hq1
  have hz_q21 : w q21 = none := ((((((((Fr.refl : Fr [fo, q1] w w).trans (Fr.up hw2 (by simp))).trans (Fr.up hw6 (by simp))).trans (Fr.up hw9 (by simp))).trans (Fr.up hw12 (by simp))).trans (Fr.up hw15 (by simp))).trans (Fr.up hw18 (by simp))) q21 (by simp only [List.mem_cons, List.not_mem_nil, or_false, not_or]; exact ⟨(Ne.symm n24), (Ne.symm n26)⟩)).symm.trans hq21
  have hz_q32 : w q32 = none := ((((((((((Fr.refl : Fr [fo, q1, q21] w w).trans (Fr.up hw2 (by simp))).trans (Fr.up hw6 (by simp))).trans (Fr.up hw9 (by simp))).trans (Fr.up hw12 (by simp))).trans (Fr.up hw15 (by simp))).trans (Fr.up hw18 (by simp))).trans (Fr.up hw22 (by simp))).trans (Fr.up hw28 (by simp))) q32 (by simp only [List.mem_cons, List.not_mem_nil, or_false, not_or]; exact ⟨(Ne.symm n35), (Ne.symm n37), (Ne.symm n39)⟩)).symm.trans hq32
  have hz_q46 : w q46 = none := ((((((((((((Fr.refl : Fr [fo, q1, q21, q32] w w).trans (Fr.up hw2 (by simp))).trans (Fr.up hw6 (by simp))).trans (Fr.up hw9 (by simp))).trans (Fr.up hw12 (by simp))).trans (Fr.up hw15 (by simp))).trans (Fr.up hw18 (by simp))).trans (Fr.up hw22 (by simp))).trans (Fr.up hw28 (by simp))).trans (Fr.up hw33 (by simp))).trans (Fr.up hw41 (by simp))) q46 (by simp only [List.mem_cons, List.not_mem_nil, or_false, not_or]; exact ⟨(Ne.symm n49), (Ne.symm n51), (Ne.symm n53), (Ne.symm n55)⟩)).symm.trans hq46
  have hz_q8 : w q8 = none := (((((((((((((Fr.refl : Fr [fo, q1, q21, q32, q46] w w).trans (Fr.up hw2 (by simp))).trans (Fr.up hw6 (by simp))).trans (Fr.up hw9 (by simp))).trans (Fr.up hw12 (by simp))).trans (Fr.up hw15 (by simp))).trans (Fr.up hw18 (by simp))).trans (Fr.up hw22 (by simp))).trans (Fr.up hw28 (by simp))).trans (Fr.up hw33 (by simp))).trans (Fr.up hw41 (by simp))).trans (Fr.up hw47 (by simp))) q8 (by simp only [List.mem_cons, List.not_mem_nil, or_false, not_or]; exact ⟨(Ne.symm n8_fo), (Ne.symm n8_q1), (Ne.symm n8_q21), (Ne.symm n8_q32), (Ne.symm n8_q46)⟩)).symm.trans hq8
  have hnd : va_nd [q1, q21, q32, q8] = true := by simp [va_nd, n26, n37, n8_q1, n39, n8_q21, n8_q32]
  have hfr : Fr [fo, q1, q21, q32, q8, q46] w w80 := ((((((((((((((((Fr.refl : Fr [fo, q1, q21, q32, q8, q46] w w).trans (Fr.up hw2 (by simp))).trans (Fr.up hw6 (by simp))).trans (Fr.up hw9 (by simp))).trans (Fr.up hw12 (by simp))).trans (Fr.up hw15 (by simp))).trans (Fr.up hw18 (by simp))).trans (Fr.up hw22 (by simp))).trans (Fr.up hw28 (by simp))).trans (Fr.up hw33 (by simp))).trans (Fr.up hw41 (by simp))).trans (Fr.up hw47 (by simp))).trans (Fr.up2 hw8 (by simp) (by simp))).trans (Fr.up hw66 (by simp))).trans (Fr.up hw73 (by simp))).trans (Fr.up hw80 (by simp)))
  have hfs : FrS [fo] w w80 := hfr.s.new (by
    intro z hz; simp only [List.mem_cons, List.not_mem_nil, or_false] at hz; rcases hz with rfl | rfl | rfl | rfl | rfl | rfl
    · simp
    · exact Or.inr hz_q1
    · exact Or.inr hz_q21
    · exact Or.inr hz_q32
    · exact Or.inr hz_q8
    · exact Or.inr hz_q46)
  exact j_vret rfl ⟨q1, q21, q32, q46, q8, rfl, ⟨hz_q1, hz_q21, hz_q32, hz_q46, hz_q8⟩, hnd, ⟨f81, f82, f83, f84, f85, f86⟩, hfs⟩ (show 5 ≤ 5 by omega) (show 214 ≤ 214 by omega) dX0_init_69
