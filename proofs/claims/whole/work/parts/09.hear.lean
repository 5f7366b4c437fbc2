/-- what w holds outside l stays -/
def FrS (l : List Nat) (w w1 : pW) : Prop := ∀ (x : Nat) (c : pE), x ∉ l → w x = some c → w1 x = some c
theorem Fr.s {l : List Nat} {w w1 : pW} (h : Fr l w w1) : FrS l w w1 := fun x c hx hc => (h x hx).trans hc
theorem FrS.refl {l : List Nat} {w : pW} : FrS l w w := fun _ _ _ h => h
theorem FrS.trans {l : List Nat} {w w1 w2 : pW} (h1 : FrS l w w1) (h2 : FrS l w1 w2) : FrS l w w2 := fun x c hx hc => h2 x c hx (h1 x c hx hc)
theorem FrS.mono {l l' : List Nat} {w w1 : pW} (h : FrS l w w1) (hl : ∀ x ∈ l, x ∈ l') : FrS l' w w1 := fun x c hx hc => h x c (fun q => hx (hl x q)) hc
/-- a list with an address that w does not hold -/
theorem FrS.new {l l' : List Nat} {w w1 : pW} (h : FrS l' w w1) (hl : ∀ x ∈ l', x ∈ l ∨ w x = none) : FrS l w w1 := fun x c hx hc => h x c (fun q => (hl x q).elim hx (fun z => by rw [z] at hc; cases hc)) hc
theorem flX0_hear_30 : FL wsX0_hear RX0 30 0 5 := ⟨RX0, TX0, 7, rfl, by decide, by decide +kernel, by decide +kernel⟩
theorem flX0_hear_105 : FL wsX0_hear RX0 105 1 1 := ⟨RX1, TX1, 10, rfl, by decide, by decide +kernel, by decide +kernel⟩
theorem flX0_hear_37 : FL wsX0_hear RX0 37 3 4 := ⟨RX3, TX3, 7, rfl, by decide, by decide +kernel, by decide +kernel⟩
theorem fsX0_hear_71 : FS wsX0_hear RX0 71 1 3 false (.int) := ⟨RX1, TX1, 10, tyX1, rfl, by decide, by decide +kernel, by decide +kernel, tyX1_ok, nmX1, rfl, rfl, rfl⟩
set_option maxHeartbeats 4000000 in
set_option maxRecDepth 100000 in
theorem c_hearA0 {w : pW} {nm cx : Nat} {fo sc pr ar de ms mn nt : Nat} {fa ev be cu st me pa : Nat} {f : Nat → Int32} {u : Nat → Nat → Nat} {bh : Nat → Option Nat} {p : Nat → Nat} {a : Nat → Nat} {dd : Nat → Nat} {cm : Nat} {bf ah : Option Nat} {cl pe pb pc an : Nat} {cn : Nat} {d : Nat → Nat} {bf2 nx2 av2 ah2 : Option Nat} {cl2 pe2 pb2 pc2 an2 : Nat} {xn : Nat} {x : Nat → Nat} (hfo : w fo = some (.inr (0, [.ref sc, .ref pr, .ref ar, .ref de, .ref ms, .ref mn, .int (nI nt)]))) (hs : w sc = some (.inr (3, [.ref fa, .int (nI ev), .int (nI be), .int (nI cu), .int (nI st), .int (nI me), .int (nI pa)]))) (hf : w fa = some (.inl (0, 1400, .inl f))) (hp : w pr = some (.inl (0, 4, .inl (fun j9 => nI (p j9))))) (ha : w ar = some (.inl (0, 100, .inl (fun j9 => nI (a j9))))) (hde : w de = some (.inl (0, 100, .inl (fun j9 => nI (dd j9))))) (hm : w mn = some (.inr (1, [va_rf bf, va_rf (some nm), .ref cm, .int (nI cl), .int (nI pe), .int (nI pb), .int (nI pc), .int (nI an), va_rf none, va_rf ah]))) (hc : w cm = some (.inl (0, cn, .inl (fun j9 => nI (d j9))))) (hnm : w nm = some (.inr (1, [va_rf bf2, va_rf nx2, .ref cx, .int (nI cl2), .int (nI pe2), .int (nI pb2), .int (nI pc2), .int (nI an2), va_rf av2, va_rf ah2]))) (hcx : w cx = some (.inl (0, xn, .inl (fun j9 => nI (x j9))))) (hM : Mus f ev st u bh) (hpb : ∀ j, p j ≤ 50) (hab : ∀ j, a j ≤ 1000000) (hdb : ∀ j, dd j ≤ 1000000) (hst : st ≤ cn) (hcn : cn ≤ 100000) (hdd : ∀ j, d j ≤ 1000000) (hxn : xn ≤ 100000) (hxb : ∀ j, x j ≤ 1000000) (hmn : mn ≠ nm) (hN : va_nd [fa, pr, ar, de, cm, cx] = true) {no t : Nat} (hno : no < 128) (hpc : pc ≤ 1000000) (hpe : pe < 100) : Ct yX0_hear wsX0_hear rX0_hear [.ref fo, .int (nI no), .int (nI t)] w (fun o w9 => o = .inl none ∧ ∃ (q cn9 : Nat) (d9 : Nat → Nat), ((q = cx ∧ cn9 = xn ∧ d9 = x) ∨ (w q = none ∧ cn9 = st ∧ d9 = fun _ => 0)) ∧ st ≤ cn9 ∧ (w9 ar = some (.inl (0, 100, .inl (fun j9 => nI ((silA d a (u 1) (u 6) dd bh (p 2) (pc + p 3) ev) j9)))) ∧ w9 de = some (.inl (0, 100, .inl (fun j9 => nI ((silD d (u 1) dd (p 2) ev) j9)))) ∧ w9 q = some (.inl (0, cn9, .inl (fun j9 => nI (((evF d (silA d a (u 1) (u 6) dd bh (p 2) (pc + p 3) ev) (u 1) (fun e => riB f e no (u 0 e) (u 1 e)) (fun e => decide (u 0 e = 2)) cn9 (p 1) (p 0) ev 0 (clr d9 st, 1000000, 0, 0)).1) j9)))) ∧ w9 nm = some (.inr (1, [va_rf bf2, va_rf nx2, .ref q, .int (nI t), .int (nI ((evF d (silA d a (u 1) (u 6) dd bh (p 2) (pc + p 3) ev) (u 1) (fun e => riB f e no (u 0 e) (u 1 e)) (fun e => decide (u 0 e = 2)) cn9 (p 1) (p 0) ev 0 (clr d9 st, 1000000, 0, 0)).2.2.1)), .int (nI ((evF d (silA d a (u 1) (u 6) dd bh (p 2) (pc + p 3) ev) (u 1) (fun e => riB f e no (u 0 e) (u 1 e)) (fun e => decide (u 0 e = 2)) cn9 (p 1) (p 0) ev 0 (clr d9 st, 1000000, 0, 0)).2.2.2)), .int (nI ((evF d (silA d a (u 1) (u 6) dd bh (p 2) (pc + p 3) ev) (u 1) (fun e => riB f e no (u 0 e) (u 1 e)) (fun e => decide (u 0 e = 2)) cn9 (p 1) (p 0) ev 0 (clr d9 st, 1000000, 0, 0)).2.1)), .int (nI 1), va_rf (some nm), va_rf none])) ∧ w9 fo = some (.inr (0, [.ref sc, .ref pr, .ref ar, .ref de, .ref ms, .ref nm, .int (nI (nt + 1))]))) ∧ FrS [ar, de, cx, nm, fo] w w9) := by
  refine Ct.of (cc := cX0_hear) (own := RX0) (nm := "hear") (nL := 5) (ret := none) (by decide +kernel) rfl rfl rfl (Nat.le_of_ble_eq_true rfl) ?_
  refine j_lvE (lv' := [(0, .ref fo), (1, .int (nI no)), (2, .int (nI t))]) rfl ?_
  have hev := hM.hev
  have hst0 := hM.hst
  refine j_aload_n dX0_hear_0 0 rfl ?_
  refine j_get flX0_hear_30 hfo rfl dX0_hear_1 ?_
  refine j_get (v := .ref nm) flX0_hear_105 hm rfl dX0_hear_4 ?_
  refine j_astore_n (lv' := [(3, .ref nm), (0, .ref fo), (1, .int (nI no)), (2, .int (nI t))]) dX0_hear_7 (Nat.le_of_ble_eq_true rfl) rfl ?_
  refine j_aload_n dX0_hear_8 0 rfl ?_
  refine j_ifnonnull 32 dX0_hear_9 (by decide) ?_
  refine j_aload_n dX0_hear_32 0 rfl ?_
  refine j_aload_n dX0_hear_33 1 rfl ?_
  refine j_get flX0_hear_33 hfo rfl dX0_hear_34 ?_
  refine j_get flX0_hear_37 hs rfl dX0_hear_37 ?_
  refine j_callV (rm := rX1_clear) (As := [.int (nI st)]) (st := []) (b0 := nm) (ci := 1) (na := 1) (c_mclear hnm hcx (by omega) (st := st) (by omega)) (by intro E w9 h9; first | exact nomatch h9.1 | (obtain ⟨_, h9, _⟩ := h9; exact nomatch h9) | (obtain ⟨_, _, _, h9, _⟩ := h9; exact nomatch h9)) gX0_hear_X1_clear rfl rfl hnm (by decide +kernel) rfl ⟨Nat.le_of_ble_eq_true rfl, Nat.le_of_ble_eq_true rfl⟩ rfl (Nat.le_of_ble_eq_true rfl) dX0_hear_40 ⟨(show 0 + 1 ≤ 3 by omega), (show 0 + 1600 ≤ 1610 by omega)⟩ (fun v1 w2 h3 => ?_)
  obtain ⟨q9, cn9, d9, h3, hcase, hle9, hw9⟩ := h3
  cases h3
  refine j_after (st' := []) (k' := 1) (n' := 1600) rfl rfl rfl ?_
  have hcn9 : cn9 ≤ 100000 := by rcases hcase with ⟨_, h, _⟩ | ⟨_, h, _⟩ <;> omega
  have hbd9 : ∀ j, clr d9 st j ≤ 1000000 := clr_le (hcase.elim (fun h => by rw [h.2.2]; exact hxb) (fun h => by rw [h.2.2]; exact fun _ => Nat.zero_le _))
  have nq_fo : fo ≠ q9 := hcase.elim (fun h => by rw [h.1]; exact (fk hfo hcx rfl)) (fun h => fn hfo h.1)
  have nq_sc : sc ≠ q9 := hcase.elim (fun h => by rw [h.1]; exact (fk hs hcx rfl)) (fun h => fn hs h.1)
  have nq_fa : fa ≠ q9 := hcase.elim (fun h => by rw [h.1]; exact (nd_ne hN 0 5 rfl rfl rfl)) (fun h => fn hf h.1)
  have nq_pr : pr ≠ q9 := hcase.elim (fun h => by rw [h.1]; exact (nd_ne hN 1 5 rfl rfl rfl)) (fun h => fn hp h.1)
  have nq_ar : ar ≠ q9 := hcase.elim (fun h => by rw [h.1]; exact (nd_ne hN 2 5 rfl rfl rfl)) (fun h => fn ha h.1)
  have nq_de : de ≠ q9 := hcase.elim (fun h => by rw [h.1]; exact (nd_ne hN 3 5 rfl rfl rfl)) (fun h => fn hde h.1)
  have nq_mn : mn ≠ q9 := hcase.elim (fun h => by rw [h.1]; exact (fk hm hcx rfl)) (fun h => fn hm h.1)
  have nq_cm : cm ≠ q9 := hcase.elim (fun h => by rw [h.1]; exact (nd_ne hN 4 5 rfl rfl rfl)) (fun h => fn hc h.1)
  have nq_nm : nm ≠ q9 := hcase.elim (fun h => by rw [h.1]; exact (fk hnm hcx rfl)) (fun h => fn hnm h.1)
  have f4 : w2 fo = some (.inr (0, [.ref sc, .ref pr, .ref ar, .ref de, .ref ms, .ref mn, .int (nI nt)])) := by rw [hw9]; exact (va_up_ne _ _ ((fk hfo hnm rfl))).trans ((va_up_ne _ _ nq_fo).trans (hfo))
  have f5 : w2 sc = some (.inr (3, [.ref fa, .int (nI ev), .int (nI be), .int (nI cu), .int (nI st), .int (nI me), .int (nI pa)])) := by rw [hw9]; exact (va_up_ne _ _ ((fk hs hnm rfl))).trans ((va_up_ne _ _ nq_sc).trans (hs))
  have f6 : w2 fa = some (.inl (0, 1400, .inl f)) := by rw [hw9]; exact (va_up_ne _ _ ((fk hf hnm rfl))).trans ((va_up_ne _ _ nq_fa).trans (hf))
  have f7 : w2 pr = some (.inl (0, 4, .inl (fun j9 => nI (p j9)))) := by rw [hw9]; exact (va_up_ne _ _ ((fk hp hnm rfl))).trans ((va_up_ne _ _ nq_pr).trans (hp))
  have f8 : w2 ar = some (.inl (0, 100, .inl (fun j9 => nI (a j9)))) := by rw [hw9]; exact (va_up_ne _ _ ((fk ha hnm rfl))).trans ((va_up_ne _ _ nq_ar).trans (ha))
  have f9 : w2 de = some (.inl (0, 100, .inl (fun j9 => nI (dd j9)))) := by rw [hw9]; exact (va_up_ne _ _ ((fk hde hnm rfl))).trans ((va_up_ne _ _ nq_de).trans (hde))
  have f10 : w2 mn = some (.inr (1, [va_rf bf, va_rf (some nm), .ref cm, .int (nI cl), .int (nI pe), .int (nI pb), .int (nI pc), .int (nI an), va_rf none, va_rf ah])) := by rw [hw9]; exact (va_up_ne _ _ (hmn)).trans ((va_up_ne _ _ nq_mn).trans (hm))
  have f11 : w2 cm = some (.inl (0, cn, .inl (fun j9 => nI (d j9)))) := by rw [hw9]; exact (va_up_ne _ _ ((fk hc hnm rfl))).trans ((va_up_ne _ _ nq_cm).trans (hc))
  have f12 : w2 nm = some (.inr (1, [va_rf bf2, va_rf nx2, .ref q9, .int (nI cl2), .int (nI 0), .int (nI 0), .int (nI 1000000), .int (nI 0), va_rf none, va_rf none])) := by rw [hw9]; exact va_up_self _ _ _
  have f13 : w2 q9 = some (.inl (0, cn9, .inl (fun j9 => nI ((clr d9 st) j9)))) := by rw [hw9]; exact (va_up_ne _ _ (Ne.symm nq_nm)).trans (va_up_self _ _ _)
  refine j_aload_n dX0_hear_43 0 rfl ?_
  refine j_iload_n dX0_hear_44 3 rfl ?_
  refine j_put (fs9 := [va_rf bf2, va_rf nx2, .ref q9, .int (nI t), .int (nI 0), .int (nI 0), .int (nI 1000000), .int (nI 0), va_rf none, va_rf none]) fsX0_hear_71 f12 rfl rfl (Nat.le_of_ble_eq_true rfl) rfl dX0_hear_45 ?_
  refine j_w (fun w14 hw14 => ?_)
  have f15 := up_ne hw14 (fk f4 f12 rfl) f4
  have f16 := up_ne hw14 (fk f5 f12 rfl) f5
  have f17 := up_ne hw14 (fk f6 f12 rfl) f6
  have f18 := up_ne hw14 (fk f7 f12 rfl) f7
  have f19 := up_ne hw14 (fk f8 f12 rfl) f8
  have f20 := up_ne hw14 (fk f9 f12 rfl) f9
  have f21 := up_ne hw14 hmn f10
  have f22 := up_ne hw14 (fk f11 f12 rfl) f11
  have f23 : w14 nm = some (.inr (1, [va_rf bf2, va_rf nx2, .ref q9, .int (nI t), .int (nI 0), .int (nI 0), .int (nI 1000000), .int (nI 0), va_rf none, va_rf none])) := up_at hw14
  have f24 := up_ne hw14 (Ne.symm nq_nm) f13
  refine j_lv (lv' := [(0, .ref fo), (1, .int (nI no)), (2, .int (nI t)), (3, .ref nm)]) [1, 2, 3, 0] rfl ?_
  have hN9 : va_nd [fa, pr, ar, de, cm, q9] = true := nd_6 (nd_cx hN).2.2 nq_fa nq_pr nq_ar nq_de nq_cm
  refine J.post (fun o w9 h => ?_) (t_hear0 f15 f16 f17 f18 f19 f20 f21 f22 f23 f24 hM hpb hab hdb hst hcn hdd hle9 hcn9 hbd9 hmn hN9 hno (by omega) (by omega) hpc hpe)
  obtain ⟨h1, h2, h3⟩ := h
  have hfr : Fr [ar, de, q9, nm, fo] w w9 := (((Fr.refl : Fr [ar, de, q9, nm, fo] w w).trans (Fr.up2 hw9 (by simp) (by simp))).trans (Fr.up hw14 (by simp))).trans h3
  refine ⟨h1, q9, cn9, d9, hcase, hle9, h2, hfr.s.new ?_⟩
  intro z hz; simp only [List.mem_cons, List.not_mem_nil, or_false] at hz; rcases hz with rfl | rfl | rfl | rfl | rfl
  · simp
  · simp
  · exact hcase.elim (fun h => Or.inl (by rw [h.1]; simp)) (fun h => Or.inr h.1)
  · simp
  · simp
set_option maxHeartbeats 4000000 in
set_option maxRecDepth 100000 in
theorem c_hearA1 {la ca3 : Nat} {bf3 nx3 av3 ah3 : Option Nat} {cl3 pe3 pb3 pc3 an3 : Nat} {w : pW} {nm cx : Nat} {fo sc pr ar de ms mn nt : Nat} {fa ev be cu st me pa : Nat} {f : Nat → Int32} {u : Nat → Nat → Nat} {bh : Nat → Option Nat} {p : Nat → Nat} {a : Nat → Nat} {dd : Nat → Nat} {cm : Nat} {bf ah : Option Nat} {cl pe pb pc an : Nat} {cn : Nat} {d : Nat → Nat} {bf2 nx2 av2 ah2 : Option Nat} {cl2 pe2 pb2 pc2 an2 : Nat} {xn : Nat} {x : Nat → Nat} (hfo : w fo = some (.inr (0, [.ref sc, .ref pr, .ref ar, .ref de, .ref ms, .ref mn, .int (nI nt)]))) (hs : w sc = some (.inr (3, [.ref fa, .int (nI ev), .int (nI be), .int (nI cu), .int (nI st), .int (nI me), .int (nI pa)]))) (hf : w fa = some (.inl (0, 1400, .inl f))) (hp : w pr = some (.inl (0, 4, .inl (fun j9 => nI (p j9))))) (ha : w ar = some (.inl (0, 100, .inl (fun j9 => nI (a j9))))) (hde : w de = some (.inl (0, 100, .inl (fun j9 => nI (dd j9))))) (hm : w mn = some (.inr (1, [va_rf bf, va_rf (some nm), .ref cm, .int (nI cl), .int (nI pe), .int (nI pb), .int (nI pc), .int (nI an), va_rf (some la), va_rf ah]))) (hc : w cm = some (.inl (0, cn, .inl (fun j9 => nI (d j9))))) (hnm : w nm = some (.inr (1, [va_rf bf2, va_rf nx2, .ref cx, .int (nI cl2), .int (nI pe2), .int (nI pb2), .int (nI pc2), .int (nI an2), va_rf av2, va_rf ah2]))) (hcx : w cx = some (.inl (0, xn, .inl (fun j9 => nI (x j9))))) (hM : Mus f ev st u bh) (hpb : ∀ j, p j ≤ 50) (hab : ∀ j, a j ≤ 1000000) (hdb : ∀ j, dd j ≤ 1000000) (hst : st ≤ cn) (hcn : cn ≤ 100000) (hdd : ∀ j, d j ≤ 1000000) (hxn : xn ≤ 100000) (hxb : ∀ j, x j ≤ 1000000) (hmn : mn ≠ nm) (hN : va_nd [fa, pr, ar, de, cm, cx] = true) {no t : Nat} (hno : no < 128) (hpc : pc ≤ 1000000) (hpe : pe < 100) (hlm : w la = some (.inr (1, [va_rf bf3, va_rf nx3, .ref ca3, .int (nI cl3), .int (nI pe3), .int (nI pb3), .int (nI pc3), .int (nI an3), va_rf av3, va_rf ah3]))) (hla : la ≠ nm) (hpe3 : pe3 < 100) : Ct yX0_hear wsX0_hear rX0_hear [.ref fo, .int (nI no), .int (nI t)] w (fun o w9 => o = .inl none ∧ ∃ (q cn9 : Nat) (d9 : Nat → Nat), ((q = cx ∧ cn9 = xn ∧ d9 = x) ∨ (w q = none ∧ cn9 = st ∧ d9 = fun _ => 0)) ∧ st ≤ cn9 ∧ (w9 ar = some (.inl (0, 100, .inl (fun j9 => nI ((silA d a (u 1) (u 6) dd bh (p 2) (pc + p 3) ev) j9)))) ∧ w9 de = some (.inl (0, 100, .inl (fun j9 => nI ((silD d (u 1) dd (p 2) ev) j9)))) ∧ w9 q = some (.inl (0, cn9, .inl (fun j9 => nI (((evF d (silA d a (u 1) (u 6) dd bh (p 2) (pc + p 3) ev) (u 1) (fun e => riB f e no (u 0 e) (u 1 e)) (fun e => decide (u 0 e = 2)) cn9 (p 1) (p 0) ev 0 (clr d9 st, 1000000, 0, 0)).1) j9)))) ∧ w9 nm = some (if (evF d (silA d a (u 1) (u 6) dd bh (p 2) (pc + p 3) ev) (u 1) (fun e => riB f e no (u 0 e) (u 1 e)) (fun e => decide (u 0 e = 2)) cn9 (p 1) (p 0) ev 0 (clr d9 st, 1000000, 0, 0)).2.2.1 < pe3 then (.inr (1, [va_rf bf2, va_rf nx2, .ref q, .int (nI t), .int (nI ((evF d (silA d a (u 1) (u 6) dd bh (p 2) (pc + p 3) ev) (u 1) (fun e => riB f e no (u 0 e) (u 1 e)) (fun e => decide (u 0 e = 2)) cn9 (p 1) (p 0) ev 0 (clr d9 st, 1000000, 0, 0)).2.2.1)), .int (nI ((evF d (silA d a (u 1) (u 6) dd bh (p 2) (pc + p 3) ev) (u 1) (fun e => riB f e no (u 0 e) (u 1 e)) (fun e => decide (u 0 e = 2)) cn9 (p 1) (p 0) ev 0 (clr d9 st, 1000000, 0, 0)).2.2.2)), .int (nI ((evF d (silA d a (u 1) (u 6) dd bh (p 2) (pc + p 3) ev) (u 1) (fun e => riB f e no (u 0 e) (u 1 e)) (fun e => decide (u 0 e = 2)) cn9 (p 1) (p 0) ev 0 (clr d9 st, 1000000, 0, 0)).2.1)), .int (nI 1), va_rf (some nm), va_rf none]) : pE) else if (evF d (silA d a (u 1) (u 6) dd bh (p 2) (pc + p 3) ev) (u 1) (fun e => riB f e no (u 0 e) (u 1 e)) (fun e => decide (u 0 e = 2)) cn9 (p 1) (p 0) ev 0 (clr d9 st, 1000000, 0, 0)).2.2.1 ≠ pe then .inr (1, [va_rf bf2, va_rf nx2, .ref q, .int (nI t), .int (nI ((evF d (silA d a (u 1) (u 6) dd bh (p 2) (pc + p 3) ev) (u 1) (fun e => riB f e no (u 0 e) (u 1 e)) (fun e => decide (u 0 e = 2)) cn9 (p 1) (p 0) ev 0 (clr d9 st, 1000000, 0, 0)).2.2.1)), .int (nI ((evF d (silA d a (u 1) (u 6) dd bh (p 2) (pc + p 3) ev) (u 1) (fun e => riB f e no (u 0 e) (u 1 e)) (fun e => decide (u 0 e = 2)) cn9 (p 1) (p 0) ev 0 (clr d9 st, 1000000, 0, 0)).2.2.2)), .int (nI ((evF d (silA d a (u 1) (u 6) dd bh (p 2) (pc + p 3) ev) (u 1) (fun e => riB f e no (u 0 e) (u 1 e)) (fun e => decide (u 0 e = 2)) cn9 (p 1) (p 0) ev 0 (clr d9 st, 1000000, 0, 0)).2.1)), .int (nI (an + 1)), va_rf (some nm), va_rf (some la)]) else .inr (1, [va_rf bf2, va_rf nx2, .ref q, .int (nI t), .int (nI ((evF d (silA d a (u 1) (u 6) dd bh (p 2) (pc + p 3) ev) (u 1) (fun e => riB f e no (u 0 e) (u 1 e)) (fun e => decide (u 0 e = 2)) cn9 (p 1) (p 0) ev 0 (clr d9 st, 1000000, 0, 0)).2.2.1)), .int (nI ((evF d (silA d a (u 1) (u 6) dd bh (p 2) (pc + p 3) ev) (u 1) (fun e => riB f e no (u 0 e) (u 1 e)) (fun e => decide (u 0 e = 2)) cn9 (p 1) (p 0) ev 0 (clr d9 st, 1000000, 0, 0)).2.2.2)), .int (nI ((evF d (silA d a (u 1) (u 6) dd bh (p 2) (pc + p 3) ev) (u 1) (fun e => riB f e no (u 0 e) (u 1 e)) (fun e => decide (u 0 e = 2)) cn9 (p 1) (p 0) ev 0 (clr d9 st, 1000000, 0, 0)).2.1)), .int (nI an), va_rf (some la), va_rf none])) ∧ w9 fo = some (.inr (0, [.ref sc, .ref pr, .ref ar, .ref de, .ref ms, .ref nm, .int (nI (nt + 1))]))) ∧ FrS [ar, de, cx, nm, fo] w w9) := by
  refine Ct.of (cc := cX0_hear) (own := RX0) (nm := "hear") (nL := 5) (ret := none) (by decide +kernel) rfl rfl rfl (Nat.le_of_ble_eq_true rfl) ?_
  refine j_lvE (lv' := [(0, .ref fo), (1, .int (nI no)), (2, .int (nI t))]) rfl ?_
  have hev := hM.hev
  have hst0 := hM.hst
  refine j_aload_n dX0_hear_0 0 rfl ?_
  refine j_get flX0_hear_30 hfo rfl dX0_hear_1 ?_
  refine j_get (v := .ref nm) flX0_hear_105 hm rfl dX0_hear_4 ?_
  refine j_astore_n (lv' := [(3, .ref nm), (0, .ref fo), (1, .int (nI no)), (2, .int (nI t))]) dX0_hear_7 (Nat.le_of_ble_eq_true rfl) rfl ?_
  refine j_aload_n dX0_hear_8 0 rfl ?_
  refine j_ifnonnull 32 dX0_hear_9 (by decide) ?_
  refine j_aload_n dX0_hear_32 0 rfl ?_
  refine j_aload_n dX0_hear_33 1 rfl ?_
  refine j_get flX0_hear_33 hfo rfl dX0_hear_34 ?_
  refine j_get flX0_hear_37 hs rfl dX0_hear_37 ?_
  refine j_callV (rm := rX1_clear) (As := [.int (nI st)]) (st := []) (b0 := nm) (ci := 1) (na := 1) (c_mclear hnm hcx (by omega) (st := st) (by omega)) (by intro E w9 h9; first | exact nomatch h9.1 | (obtain ⟨_, h9, _⟩ := h9; exact nomatch h9) | (obtain ⟨_, _, _, h9, _⟩ := h9; exact nomatch h9)) gX0_hear_X1_clear rfl rfl hnm (by decide +kernel) rfl ⟨Nat.le_of_ble_eq_true rfl, Nat.le_of_ble_eq_true rfl⟩ rfl (Nat.le_of_ble_eq_true rfl) dX0_hear_40 ⟨(show 0 + 1 ≤ 3 by omega), (show 0 + 1600 ≤ 1610 by omega)⟩ (fun v1 w2 h3 => ?_)
  obtain ⟨q9, cn9, d9, h3, hcase, hle9, hw9⟩ := h3
  cases h3
  refine j_after (st' := []) (k' := 1) (n' := 1600) rfl rfl rfl ?_
  have hcn9 : cn9 ≤ 100000 := by rcases hcase with ⟨_, h, _⟩ | ⟨_, h, _⟩ <;> omega
  have hbd9 : ∀ j, clr d9 st j ≤ 1000000 := clr_le (hcase.elim (fun h => by rw [h.2.2]; exact hxb) (fun h => by rw [h.2.2]; exact fun _ => Nat.zero_le _))
  have nq_fo : fo ≠ q9 := hcase.elim (fun h => by rw [h.1]; exact (fk hfo hcx rfl)) (fun h => fn hfo h.1)
  have nq_sc : sc ≠ q9 := hcase.elim (fun h => by rw [h.1]; exact (fk hs hcx rfl)) (fun h => fn hs h.1)
  have nq_fa : fa ≠ q9 := hcase.elim (fun h => by rw [h.1]; exact (nd_ne hN 0 5 rfl rfl rfl)) (fun h => fn hf h.1)
  have nq_pr : pr ≠ q9 := hcase.elim (fun h => by rw [h.1]; exact (nd_ne hN 1 5 rfl rfl rfl)) (fun h => fn hp h.1)
  have nq_ar : ar ≠ q9 := hcase.elim (fun h => by rw [h.1]; exact (nd_ne hN 2 5 rfl rfl rfl)) (fun h => fn ha h.1)
  have nq_de : de ≠ q9 := hcase.elim (fun h => by rw [h.1]; exact (nd_ne hN 3 5 rfl rfl rfl)) (fun h => fn hde h.1)
  have nq_mn : mn ≠ q9 := hcase.elim (fun h => by rw [h.1]; exact (fk hm hcx rfl)) (fun h => fn hm h.1)
  have nq_cm : cm ≠ q9 := hcase.elim (fun h => by rw [h.1]; exact (nd_ne hN 4 5 rfl rfl rfl)) (fun h => fn hc h.1)
  have nq_nm : nm ≠ q9 := hcase.elim (fun h => by rw [h.1]; exact (fk hnm hcx rfl)) (fun h => fn hnm h.1)
  have nq_la : la ≠ q9 := hcase.elim (fun h => by rw [h.1]; exact (fk hlm hcx rfl)) (fun h => fn hlm h.1)
  have f4 : w2 fo = some (.inr (0, [.ref sc, .ref pr, .ref ar, .ref de, .ref ms, .ref mn, .int (nI nt)])) := by rw [hw9]; exact (va_up_ne _ _ ((fk hfo hnm rfl))).trans ((va_up_ne _ _ nq_fo).trans (hfo))
  have f5 : w2 sc = some (.inr (3, [.ref fa, .int (nI ev), .int (nI be), .int (nI cu), .int (nI st), .int (nI me), .int (nI pa)])) := by rw [hw9]; exact (va_up_ne _ _ ((fk hs hnm rfl))).trans ((va_up_ne _ _ nq_sc).trans (hs))
  have f6 : w2 fa = some (.inl (0, 1400, .inl f)) := by rw [hw9]; exact (va_up_ne _ _ ((fk hf hnm rfl))).trans ((va_up_ne _ _ nq_fa).trans (hf))
  have f7 : w2 pr = some (.inl (0, 4, .inl (fun j9 => nI (p j9)))) := by rw [hw9]; exact (va_up_ne _ _ ((fk hp hnm rfl))).trans ((va_up_ne _ _ nq_pr).trans (hp))
  have f8 : w2 ar = some (.inl (0, 100, .inl (fun j9 => nI (a j9)))) := by rw [hw9]; exact (va_up_ne _ _ ((fk ha hnm rfl))).trans ((va_up_ne _ _ nq_ar).trans (ha))
  have f9 : w2 de = some (.inl (0, 100, .inl (fun j9 => nI (dd j9)))) := by rw [hw9]; exact (va_up_ne _ _ ((fk hde hnm rfl))).trans ((va_up_ne _ _ nq_de).trans (hde))
  have f10 : w2 mn = some (.inr (1, [va_rf bf, va_rf (some nm), .ref cm, .int (nI cl), .int (nI pe), .int (nI pb), .int (nI pc), .int (nI an), va_rf (some la), va_rf ah])) := by rw [hw9]; exact (va_up_ne _ _ (hmn)).trans ((va_up_ne _ _ nq_mn).trans (hm))
  have f11 : w2 cm = some (.inl (0, cn, .inl (fun j9 => nI (d j9)))) := by rw [hw9]; exact (va_up_ne _ _ ((fk hc hnm rfl))).trans ((va_up_ne _ _ nq_cm).trans (hc))
  have f12 : w2 nm = some (.inr (1, [va_rf bf2, va_rf nx2, .ref q9, .int (nI cl2), .int (nI 0), .int (nI 0), .int (nI 1000000), .int (nI 0), va_rf none, va_rf none])) := by rw [hw9]; exact va_up_self _ _ _
  have f13 : w2 la = some (.inr (1, [va_rf bf3, va_rf nx3, .ref ca3, .int (nI cl3), .int (nI pe3), .int (nI pb3), .int (nI pc3), .int (nI an3), va_rf av3, va_rf ah3])) := by rw [hw9]; exact (va_up_ne _ _ (hla)).trans ((va_up_ne _ _ nq_la).trans (hlm))
  have f14 : w2 q9 = some (.inl (0, cn9, .inl (fun j9 => nI ((clr d9 st) j9)))) := by rw [hw9]; exact (va_up_ne _ _ (Ne.symm nq_nm)).trans (va_up_self _ _ _)
  refine j_aload_n dX0_hear_43 0 rfl ?_
  refine j_iload_n dX0_hear_44 3 rfl ?_
  refine j_put (fs9 := [va_rf bf2, va_rf nx2, .ref q9, .int (nI t), .int (nI 0), .int (nI 0), .int (nI 1000000), .int (nI 0), va_rf none, va_rf none]) fsX0_hear_71 f12 rfl rfl (Nat.le_of_ble_eq_true rfl) rfl dX0_hear_45 ?_
  refine j_w (fun w15 hw15 => ?_)
  have f16 := up_ne hw15 (fk f4 f12 rfl) f4
  have f17 := up_ne hw15 (fk f5 f12 rfl) f5
  have f18 := up_ne hw15 (fk f6 f12 rfl) f6
  have f19 := up_ne hw15 (fk f7 f12 rfl) f7
  have f20 := up_ne hw15 (fk f8 f12 rfl) f8
  have f21 := up_ne hw15 (fk f9 f12 rfl) f9
  have f22 := up_ne hw15 hmn f10
  have f23 := up_ne hw15 (fk f11 f12 rfl) f11
  have f24 : w15 nm = some (.inr (1, [va_rf bf2, va_rf nx2, .ref q9, .int (nI t), .int (nI 0), .int (nI 0), .int (nI 1000000), .int (nI 0), va_rf none, va_rf none])) := up_at hw15
  have f25 := up_ne hw15 hla f13
  have f26 := up_ne hw15 (Ne.symm nq_nm) f14
  refine j_lv (lv' := [(0, .ref fo), (1, .int (nI no)), (2, .int (nI t)), (3, .ref nm)]) [1, 2, 3, 0] rfl ?_
  have hN9 : va_nd [fa, pr, ar, de, cm, q9] = true := nd_6 (nd_cx hN).2.2 nq_fa nq_pr nq_ar nq_de nq_cm
  refine J.post (fun o w9 h => ?_) (t_hear1 f16 f17 f18 f19 f20 f21 f22 f23 f24 f26 hM hpb hab hdb hst hcn hdd hle9 hcn9 hbd9 hmn hN9 hno (by omega) (by omega) hpc hpe f25 hla hpe3)
  obtain ⟨h1, h2, h3⟩ := h
  have hfr : Fr [ar, de, q9, nm, fo] w w9 := (((Fr.refl : Fr [ar, de, q9, nm, fo] w w).trans (Fr.up2 hw9 (by simp) (by simp))).trans (Fr.up hw15 (by simp))).trans h3
  refine ⟨h1, q9, cn9, d9, hcase, hle9, h2, hfr.s.new ?_⟩
  intro z hz; simp only [List.mem_cons, List.not_mem_nil, or_false] at hz; rcases hz with rfl | rfl | rfl | rfl | rfl
  · simp
  · simp
  · exact hcase.elim (fun h => Or.inl (by rw [h.1]; simp)) (fun h => Or.inr h.1)
  · simp
  · simp
set_option maxRecDepth 100000 in
theorem muX0_hear_X1 : ∀ w ∈ u_ws RX1 TX1 10, w ∈ wsX0_hear := by decide +kernel
set_option maxRecDepth 100000 in
theorem mX0_hear_0 : Cond.classLink RX0 21 RX1 ∈ wsX0_hear := by decide +kernel
set_option maxRecDepth 100000 in
theorem mX0_hear_1 : Cond.instantiable RX1 10 ∈ wsX0_hear := by decide +kernel
set_option maxRecDepth 100000 in
theorem mX0_hear_2 : Cond.initialized RX1 ∈ wsX0_hear := by decide +kernel
set_option maxRecDepth 100000 in
theorem mX0_hear_3 : Cond.initialized yX1_init.cls ∈ wsX0_hear := by decide +kernel
set_option maxRecDepth 100000 in
theorem mX0_hear_4 : Cond.methodLink RX0 23 yX1_init ∈ wsX0_hear := by decide +kernel
set_option maxRecDepth 100000 in
theorem mX0_hear_5 : Cond.instanceMethod yX1_init ∈ wsX0_hear := by decide +kernel
theorem fsX0_hear_105 : FS wsX0_hear RX0 105 1 1 false (.object "PageTurner$Moment") := ⟨RX1, TX1, 10, tyX1, rfl, by decide, by decide +kernel, by decide +kernel, tyX1_ok, nmX1, rfl, rfl, rfl⟩
set_option maxHeartbeats 4000000 in
set_option maxRecDepth 100000 in
theorem c_hearB0 {w : pW} {fo sc pr ar de ms mn nt : Nat} {fa ev be cu st me pa : Nat} {f : Nat → Int32} {u : Nat → Nat → Nat} {bh : Nat → Option Nat} {p : Nat → Nat} {a : Nat → Nat} {dd : Nat → Nat} {cm : Nat} {bf ah : Option Nat} {cl pe pb pc an : Nat} {cn : Nat} {d : Nat → Nat} (hfo : w fo = some (.inr (0, [.ref sc, .ref pr, .ref ar, .ref de, .ref ms, .ref mn, .int (nI nt)]))) (hs : w sc = some (.inr (3, [.ref fa, .int (nI ev), .int (nI be), .int (nI cu), .int (nI st), .int (nI me), .int (nI pa)]))) (hf : w fa = some (.inl (0, 1400, .inl f))) (hp : w pr = some (.inl (0, 4, .inl (fun j9 => nI (p j9))))) (ha : w ar = some (.inl (0, 100, .inl (fun j9 => nI (a j9))))) (hde : w de = some (.inl (0, 100, .inl (fun j9 => nI (dd j9))))) (hm : w mn = some (.inr (1, [va_rf bf, va_rf none, .ref cm, .int (nI cl), .int (nI pe), .int (nI pb), .int (nI pc), .int (nI an), va_rf none, va_rf ah]))) (hc : w cm = some (.inl (0, cn, .inl (fun j9 => nI (d j9))))) (hM : Mus f ev st u bh) (hpb : ∀ j, p j ≤ 50) (hab : ∀ j, a j ≤ 1000000) (hdb : ∀ j, dd j ≤ 1000000) (hst : st ≤ cn) (hcn : cn ≤ 100000) (hdd : ∀ j, d j ≤ 1000000) (hN5 : va_nd [fa, pr, ar, de, cm] = true) {no t : Nat} (hno : no < 128) (hpc : pc ≤ 1000000) (hpe : pe < 100) : Ct yX0_hear wsX0_hear rX0_hear [.ref fo, .int (nI no), .int (nI t)] w (fun o w9 => o = .inl none ∧ ∃ nm q cn9 : Nat, w nm = none ∧ w q = none ∧ nm ≠ q ∧ st ≤ cn9 ∧ cn9 ≤ 1600 ∧ (w9 ar = some (.inl (0, 100, .inl (fun j9 => nI ((silA d a (u 1) (u 6) dd bh (p 2) (pc + p 3) ev) j9)))) ∧ w9 de = some (.inl (0, 100, .inl (fun j9 => nI ((silD d (u 1) dd (p 2) ev) j9)))) ∧ w9 q = some (.inl (0, cn9, .inl (fun j9 => nI (((evF d (silA d a (u 1) (u 6) dd bh (p 2) (pc + p 3) ev) (u 1) (fun e => riB f e no (u 0 e) (u 1 e)) (fun e => decide (u 0 e = 2)) cn9 (p 1) (p 0) ev 0 (clr (fun _ => 0) st, 1000000, 0, 0)).1) j9)))) ∧ w9 nm = some (.inr (1, [va_rf (some mn), va_rf none, .ref q, .int (nI t), .int (nI ((evF d (silA d a (u 1) (u 6) dd bh (p 2) (pc + p 3) ev) (u 1) (fun e => riB f e no (u 0 e) (u 1 e)) (fun e => decide (u 0 e = 2)) cn9 (p 1) (p 0) ev 0 (clr (fun _ => 0) st, 1000000, 0, 0)).2.2.1)), .int (nI ((evF d (silA d a (u 1) (u 6) dd bh (p 2) (pc + p 3) ev) (u 1) (fun e => riB f e no (u 0 e) (u 1 e)) (fun e => decide (u 0 e = 2)) cn9 (p 1) (p 0) ev 0 (clr (fun _ => 0) st, 1000000, 0, 0)).2.2.2)), .int (nI ((evF d (silA d a (u 1) (u 6) dd bh (p 2) (pc + p 3) ev) (u 1) (fun e => riB f e no (u 0 e) (u 1 e)) (fun e => decide (u 0 e = 2)) cn9 (p 1) (p 0) ev 0 (clr (fun _ => 0) st, 1000000, 0, 0)).2.1)), .int (nI 1), va_rf (some nm), va_rf none])) ∧ w9 fo = some (.inr (0, [.ref sc, .ref pr, .ref ar, .ref de, .ref ms, .ref nm, .int (nI (nt + 1))]))) ∧ w9 mn = some (.inr (1, [va_rf bf, va_rf (some nm), .ref cm, .int (nI cl), .int (nI pe), .int (nI pb), .int (nI pc), .int (nI an), va_rf none, va_rf ah])) ∧ FrS [ar, de, fo, mn] w w9) := by
  refine Ct.of (cc := cX0_hear) (own := RX0) (nm := "hear") (nL := 5) (ret := none) (by decide +kernel) rfl rfl rfl (Nat.le_of_ble_eq_true rfl) ?_
  refine j_lvE (lv' := [(0, .ref fo), (1, .int (nI no)), (2, .int (nI t))]) rfl ?_
  have hev := hM.hev
  have hst0 := hM.hst
  refine j_aload_n dX0_hear_0 0 rfl ?_
  refine j_get flX0_hear_30 hfo rfl dX0_hear_1 ?_
  refine j_get (v := .null) flX0_hear_105 hm rfl dX0_hear_4 ?_
  refine j_astore_nN (lv' := [(3, .null), (0, .ref fo), (1, .int (nI no)), (2, .int (nI t))]) dX0_hear_7 (Nat.le_of_ble_eq_true rfl) rfl ?_
  refine j_aload_nN dX0_hear_8 0 rfl ?_
  refine j_ifnonnullN dX0_hear_9 ?_
  refine j_new (ci := 1) (fs := [.null, .null, .null, .int (nI 0), .int (nI 0), .int (nI 0), .int (nI 0), .int (nI 0), .null, .null]) tyX1 rfl muX0_hear_X1 tyX1_ok mX0_hear_0 mX0_hear_1 mX0_hear_2 (by decide +kernel) (show 0 + 1 ≤ 3 by omega) (show 0 + 10 ≤ 1610 by omega) dX0_hear_12 (fun q1 hq1 => ?_)
  refine j_after (st' := [.ref q1]) (k' := 1) (n' := 10) rfl (by first | rfl | omega) (by first | rfl | omega) ?_
  refine j_w (fun w2 hw2 => ?_)
  have n4 : fo ≠ q1 := fn hfo hq1
  have f3 := up_ne hw2 n4 hfo
  have n6 : sc ≠ q1 := fn hs hq1
  have f5 := up_ne hw2 n6 hs
  have n8 : fa ≠ q1 := fn hf hq1
  have f7 := up_ne hw2 n8 hf
  have n10 : pr ≠ q1 := fn hp hq1
  have f9 := up_ne hw2 n10 hp
  have n12 : ar ≠ q1 := fn ha hq1
  have f11 := up_ne hw2 n12 ha
  have n14 : de ≠ q1 := fn hde hq1
  have f13 := up_ne hw2 n14 hde
  have n16 : mn ≠ q1 := fn hm hq1
  have f15 := up_ne hw2 n16 hm
  have n18 : cm ≠ q1 := fn hc hq1
  have f17 := up_ne hw2 n18 hc
  have f19 : w2 q1 = some (.inr (1, [.null, .null, .null, .int (nI 0), .int (nI 0), .int (nI 0), .int (nI 0), .int (nI 0), .null, .null])) := up_at hw2
  refine j_dup dX0_hear_15 rfl ?_
  refine j_aload_n dX0_hear_16 1 rfl ?_
  refine j_get flX0_hear_30 f3 rfl dX0_hear_17 ?_
  refine j_callI (rm := rX1_init) (As := [.ref mn]) (st := [.ref q1]) (b0 := q1) (na := 1) (c_Moment_init1 (b := mn) f19) (by intro E w9 h9; first | exact nomatch h9.1 | (obtain ⟨_, h9, _⟩ := h9; exact nomatch h9) | (obtain ⟨_, _, _, h9, _⟩ := h9; exact nomatch h9)) gX0_hear_X1_init rfl mX0_hear_3 mX0_hear_4 mX0_hear_5 rfl (by decide +kernel) rfl ⟨Nat.le_of_ble_eq_true rfl, Nat.le_of_ble_eq_true rfl⟩ rfl (Nat.le_of_ble_eq_true rfl) dX0_hear_20 ⟨(show 1 + 1 ≤ 3 by omega), (show 10 + 0 ≤ 1610 by omega)⟩ (fun v20 w21 h22 => ?_)
  obtain ⟨q8, h22, hq8, hw8⟩ := h22
  cases h22
  refine j_after (st' := [.ref q1]) (k' := 2) (n' := 10) rfl rfl rfl ?_
  have n8_fo : fo ≠ q8 := fn f3 hq8
  have n8_sc : sc ≠ q8 := fn f5 hq8
  have n8_fa : fa ≠ q8 := fn f7 hq8
  have n8_pr : pr ≠ q8 := fn f9 hq8
  have n8_ar : ar ≠ q8 := fn f11 hq8
  have n8_de : de ≠ q8 := fn f13 hq8
  have n8_mn : mn ≠ q8 := fn f15 hq8
  have n8_cm : cm ≠ q8 := fn f17 hq8
  have n8_q1 : q1 ≠ q8 := fn f19 hq8
  have f23 : w21 fo = some (.inr (0, [.ref sc, .ref pr, .ref ar, .ref de, .ref ms, .ref mn, .int (nI nt)])) := by rw [hw8]; exact (va_up_ne _ _ n4).trans ((va_up_ne _ _ n8_fo).trans (f3))
  have f24 : w21 sc = some (.inr (3, [.ref fa, .int (nI ev), .int (nI be), .int (nI cu), .int (nI st), .int (nI me), .int (nI pa)])) := by rw [hw8]; exact (va_up_ne _ _ n6).trans ((va_up_ne _ _ n8_sc).trans (f5))
  have f25 : w21 fa = some (.inl (0, 1400, .inl f)) := by rw [hw8]; exact (va_up_ne _ _ n8).trans ((va_up_ne _ _ n8_fa).trans (f7))
  have f26 : w21 pr = some (.inl (0, 4, .inl (fun j9 => nI (p j9)))) := by rw [hw8]; exact (va_up_ne _ _ n10).trans ((va_up_ne _ _ n8_pr).trans (f9))
  have f27 : w21 ar = some (.inl (0, 100, .inl (fun j9 => nI (a j9)))) := by rw [hw8]; exact (va_up_ne _ _ n12).trans ((va_up_ne _ _ n8_ar).trans (f11))
  have f28 : w21 de = some (.inl (0, 100, .inl (fun j9 => nI (dd j9)))) := by rw [hw8]; exact (va_up_ne _ _ n14).trans ((va_up_ne _ _ n8_de).trans (f13))
  have f29 : w21 mn = some (.inr (1, [va_rf bf, va_rf none, .ref cm, .int (nI cl), .int (nI pe), .int (nI pb), .int (nI pc), .int (nI an), va_rf none, va_rf ah])) := by rw [hw8]; exact (va_up_ne _ _ n16).trans ((va_up_ne _ _ n8_mn).trans (f15))
  have f30 : w21 cm = some (.inl (0, cn, .inl (fun j9 => nI (d j9)))) := by rw [hw8]; exact (va_up_ne _ _ n18).trans ((va_up_ne _ _ n8_cm).trans (f17))
  have f31 : w21 q1 = some (.inr (1, [va_rf (some mn), va_rf none, .ref q8, .int (nI 0), .int (nI 0), .int (nI 0), .int (nI 0), .int (nI 0), va_rf none, va_rf none])) := by rw [hw8]; exact va_up_self _ _ _
  have f32 : w21 q8 = some (.inl (0, 0, .inl (fun j9 => nI ((fun _ => 0) j9)))) := by rw [hw8]; exact (va_up_ne _ _ (Ne.symm n8_q1)).trans (va_up_self _ _ _)
  refine j_astore_n (lv' := [(3, .ref q1), (0, .ref fo), (1, .int (nI no)), (2, .int (nI t))]) dX0_hear_23 (Nat.le_of_ble_eq_true rfl) rfl ?_
  refine j_aload_n dX0_hear_24 1 rfl ?_
  refine j_get flX0_hear_30 f23 rfl dX0_hear_25 ?_
  refine j_aload_n dX0_hear_28 0 rfl ?_
  refine j_put (fs9 := [va_rf bf, va_rf (some q1), .ref cm, .int (nI cl), .int (nI pe), .int (nI pb), .int (nI pc), .int (nI an), va_rf none, va_rf ah]) fsX0_hear_105 f29 rfl rfl (Nat.le_of_ble_eq_true rfl) rfl dX0_hear_29 ?_
  refine j_w (fun w33 hw33 => ?_)
  have f34 := up_ne hw33 (fk f23 f29 rfl) f23
  have f35 := up_ne hw33 (fk f24 f29 rfl) f24
  have f36 := up_ne hw33 (fk f25 f29 rfl) f25
  have f37 := up_ne hw33 (fk f26 f29 rfl) f26
  have f38 := up_ne hw33 (fk f27 f29 rfl) f27
  have f39 := up_ne hw33 (fk f28 f29 rfl) f28
  have f40 : w33 mn = some (.inr (1, [va_rf bf, va_rf (some q1), .ref cm, .int (nI cl), .int (nI pe), .int (nI pb), .int (nI pc), .int (nI an), va_rf none, va_rf ah])) := up_at hw33
  have f41 := up_ne hw33 (fk f30 f29 rfl) f30
  have f42 := up_ne hw33 (Ne.symm n16) f31
  have f43 := up_ne hw33 (Ne.symm n8_mn) f32
  refine j_aload_n dX0_hear_32 0 rfl ?_
  refine j_aload_n dX0_hear_33 1 rfl ?_
  refine j_get flX0_hear_33 f34 rfl dX0_hear_34 ?_
  refine j_get flX0_hear_37 f35 rfl dX0_hear_37 ?_
  refine j_callV (rm := rX1_clear) (As := [.int (nI st)]) (st := []) (b0 := q1) (ci := 1) (na := 1) (c_mclear f42 f43 (by omega) (st := st) (by omega)) (by intro E w9 h9; first | exact nomatch h9.1 | (obtain ⟨_, h9, _⟩ := h9; exact nomatch h9) | (obtain ⟨_, _, _, h9, _⟩ := h9; exact nomatch h9)) gX0_hear_X1_clear rfl rfl f42 (by decide +kernel) rfl ⟨Nat.le_of_ble_eq_true rfl, Nat.le_of_ble_eq_true rfl⟩ rfl (Nat.le_of_ble_eq_true rfl) dX0_hear_40 ⟨(show 2 + 1 ≤ 3 by omega), (show 10 + 1600 ≤ 1610 by omega)⟩ (fun v44 w45 h46 => ?_)
  obtain ⟨q9, cn9, d9, h46, hcase, hle9, hw9⟩ := h46
  cases h46
  refine j_after (st' := []) (k' := 3) (n' := 1610) rfl rfl rfl ?_
  have hcn9 : cn9 ≤ 100000 := by rcases hcase with ⟨_, h, _⟩ | ⟨_, h, _⟩ <;> omega
  have hbd9 : ∀ j, clr d9 st j ≤ 1000000 := clr_le (hcase.elim (fun h => by rw [h.2.2]; exact (fun _ => Nat.zero_le _)) (fun h => by rw [h.2.2]; exact fun _ => Nat.zero_le _))
  have nq_fo : fo ≠ q9 := hcase.elim (fun h => by rw [h.1]; exact n8_fo) (fun h => fn f34 h.1)
  have nq_sc : sc ≠ q9 := hcase.elim (fun h => by rw [h.1]; exact n8_sc) (fun h => fn f35 h.1)
  have nq_fa : fa ≠ q9 := hcase.elim (fun h => by rw [h.1]; exact n8_fa) (fun h => fn f36 h.1)
  have nq_pr : pr ≠ q9 := hcase.elim (fun h => by rw [h.1]; exact n8_pr) (fun h => fn f37 h.1)
  have nq_ar : ar ≠ q9 := hcase.elim (fun h => by rw [h.1]; exact n8_ar) (fun h => fn f38 h.1)
  have nq_de : de ≠ q9 := hcase.elim (fun h => by rw [h.1]; exact n8_de) (fun h => fn f39 h.1)
  have nq_mn : mn ≠ q9 := hcase.elim (fun h => by rw [h.1]; exact n8_mn) (fun h => fn f40 h.1)
  have nq_cm : cm ≠ q9 := hcase.elim (fun h => by rw [h.1]; exact n8_cm) (fun h => fn f41 h.1)
  have nq_q1 : q1 ≠ q9 := hcase.elim (fun h => by rw [h.1]; exact n8_q1) (fun h => fn f42 h.1)
  have f47 : w45 fo = some (.inr (0, [.ref sc, .ref pr, .ref ar, .ref de, .ref ms, .ref mn, .int (nI nt)])) := by rw [hw9]; exact (va_up_ne _ _ (n4)).trans ((va_up_ne _ _ nq_fo).trans (f34))
  have f48 : w45 sc = some (.inr (3, [.ref fa, .int (nI ev), .int (nI be), .int (nI cu), .int (nI st), .int (nI me), .int (nI pa)])) := by rw [hw9]; exact (va_up_ne _ _ (n6)).trans ((va_up_ne _ _ nq_sc).trans (f35))
  have f49 : w45 fa = some (.inl (0, 1400, .inl f)) := by rw [hw9]; exact (va_up_ne _ _ (n8)).trans ((va_up_ne _ _ nq_fa).trans (f36))
  have f50 : w45 pr = some (.inl (0, 4, .inl (fun j9 => nI (p j9)))) := by rw [hw9]; exact (va_up_ne _ _ (n10)).trans ((va_up_ne _ _ nq_pr).trans (f37))
  have f51 : w45 ar = some (.inl (0, 100, .inl (fun j9 => nI (a j9)))) := by rw [hw9]; exact (va_up_ne _ _ (n12)).trans ((va_up_ne _ _ nq_ar).trans (f38))
  have f52 : w45 de = some (.inl (0, 100, .inl (fun j9 => nI (dd j9)))) := by rw [hw9]; exact (va_up_ne _ _ (n14)).trans ((va_up_ne _ _ nq_de).trans (f39))
  have f53 : w45 mn = some (.inr (1, [va_rf bf, va_rf (some q1), .ref cm, .int (nI cl), .int (nI pe), .int (nI pb), .int (nI pc), .int (nI an), va_rf none, va_rf ah])) := by rw [hw9]; exact (va_up_ne _ _ (n16)).trans ((va_up_ne _ _ nq_mn).trans (f40))
  have f54 : w45 cm = some (.inl (0, cn, .inl (fun j9 => nI (d j9)))) := by rw [hw9]; exact (va_up_ne _ _ (n18)).trans ((va_up_ne _ _ nq_cm).trans (f41))
  have f55 : w45 q1 = some (.inr (1, [va_rf (some mn), va_rf none, .ref q9, .int (nI 0), .int (nI 0), .int (nI 0), .int (nI 1000000), .int (nI 0), va_rf none, va_rf none])) := by rw [hw9]; exact va_up_self _ _ _
  have f56 : w45 q9 = some (.inl (0, cn9, .inl (fun j9 => nI ((clr d9 st) j9)))) := by rw [hw9]; exact (va_up_ne _ _ (Ne.symm nq_q1)).trans (va_up_self _ _ _)
  refine j_aload_n dX0_hear_43 0 rfl ?_
  refine j_iload_n dX0_hear_44 3 rfl ?_
  refine j_put (fs9 := [va_rf (some mn), va_rf none, .ref q9, .int (nI t), .int (nI 0), .int (nI 0), .int (nI 1000000), .int (nI 0), va_rf none, va_rf none]) fsX0_hear_71 f55 rfl rfl (Nat.le_of_ble_eq_true rfl) rfl dX0_hear_45 ?_
  refine j_w (fun w57 hw57 => ?_)
  have f58 := up_ne hw57 n4 f47
  have f59 := up_ne hw57 n6 f48
  have f60 := up_ne hw57 n8 f49
  have f61 := up_ne hw57 n10 f50
  have f62 := up_ne hw57 n12 f51
  have f63 := up_ne hw57 n14 f52
  have f64 := up_ne hw57 n16 f53
  have f65 := up_ne hw57 n18 f54
  have f66 : w57 q1 = some (.inr (1, [va_rf (some mn), va_rf none, .ref q9, .int (nI t), .int (nI 0), .int (nI 0), .int (nI 1000000), .int (nI 0), va_rf none, va_rf none])) := up_at hw57
  have f67 := up_ne hw57 (Ne.symm nq_q1) f56
  refine j_lv (lv' := [(0, .ref fo), (1, .int (nI no)), (2, .int (nI t)), (3, .ref q1)]) [1, 2, 3, 0] rfl ?_
  have hN9 : va_nd [fa, pr, ar, de, cm, q9] = true := nd_6 hN5 nq_fa nq_pr nq_ar nq_de nq_cm
  refine J.post (fun o w9 h => ?_) (t_hear0 f58 f59 f60 f61 f62 f63 f64 f65 f66 f67 hM hpb hab hdb hst hcn hdd hle9 hcn9 hbd9 n16 hN9 hno (by omega) (by omega) hpc hpe)
  obtain ⟨h1, h2, h3⟩ := h
  have hfr : Fr [ar, de, q9, q1, fo, mn, q8] w w9 := ((((((Fr.refl : Fr [ar, de, q9, q1, fo, mn, q8] w w).trans (Fr.up hw2 (by simp))).trans (Fr.up2 hw8 (by simp) (by simp))).trans (Fr.up hw33 (by simp))).trans (Fr.up2 hw9 (by simp) (by simp))).trans (Fr.up hw57 (by simp))).trans (h3.mono (by intro z hz; simp only [List.mem_cons, List.not_mem_nil, or_false] at hz ⊢; rcases hz with rfl | rfl | rfl | rfl | rfl <;> simp))
  have hz8 : w q8 = none := by
    cases hz : w q8 with
    | none => rfl
    | some c8 => exact absurd hq8 (by rw [hw2, va_up_ne _ _ (Ne.symm n8_q1), hz]; exact fun h => nomatch h)
  have hz9 : w q9 = none := hcase.elim (fun h => by rw [h.1]; exact hz8) (fun h => by
    have h0 := h.1
    have hq98 : q9 ≠ q8 := Ne.symm (fn f43 h.1)
    rw [hw33, va_up_ne _ _ (Ne.symm nq_mn)] at h0
    rw [hw8, va_up_ne _ _ (Ne.symm nq_q1), va_up_ne _ _ hq98] at h0
    rw [hw2, va_up_ne _ _ (Ne.symm nq_q1)] at h0
    exact h0)
  refine ⟨h1, q1, q9, cn9, hq1, hz9, nq_q1, hle9, by rcases hcase with ⟨_, h, _⟩ | ⟨_, h, _⟩ <;> omega, by rw [show d9 = fun _ => 0 from hcase.elim (fun h => h.2.2) (fun h => h.2.2)] at h2; exact h2, (h3.at (by simp only [List.mem_cons, List.not_mem_nil, or_false, not_or]; exact ⟨(fk f64 f62 rfl), (fk f64 f63 rfl), nq_mn, n16, (fk f64 f58 rfl)⟩) f64), hfr.s.new ?_⟩
  intro z hz; simp only [List.mem_cons, List.not_mem_nil, or_false] at hz; rcases hz with rfl | rfl | rfl | rfl | rfl | rfl | rfl
  · simp
  · simp
  · exact Or.inr hz9
  · exact Or.inr hq1
  · simp
  · simp
  · exact Or.inr hz8
set_option maxHeartbeats 4000000 in
set_option maxRecDepth 100000 in
theorem c_hearB1 {la ca3 : Nat} {bf3 nx3 av3 ah3 : Option Nat} {cl3 pe3 pb3 pc3 an3 : Nat} {w : pW} {fo sc pr ar de ms mn nt : Nat} {fa ev be cu st me pa : Nat} {f : Nat → Int32} {u : Nat → Nat → Nat} {bh : Nat → Option Nat} {p : Nat → Nat} {a : Nat → Nat} {dd : Nat → Nat} {cm : Nat} {bf ah : Option Nat} {cl pe pb pc an : Nat} {cn : Nat} {d : Nat → Nat} (hfo : w fo = some (.inr (0, [.ref sc, .ref pr, .ref ar, .ref de, .ref ms, .ref mn, .int (nI nt)]))) (hs : w sc = some (.inr (3, [.ref fa, .int (nI ev), .int (nI be), .int (nI cu), .int (nI st), .int (nI me), .int (nI pa)]))) (hf : w fa = some (.inl (0, 1400, .inl f))) (hp : w pr = some (.inl (0, 4, .inl (fun j9 => nI (p j9))))) (ha : w ar = some (.inl (0, 100, .inl (fun j9 => nI (a j9))))) (hde : w de = some (.inl (0, 100, .inl (fun j9 => nI (dd j9))))) (hm : w mn = some (.inr (1, [va_rf bf, va_rf none, .ref cm, .int (nI cl), .int (nI pe), .int (nI pb), .int (nI pc), .int (nI an), va_rf (some la), va_rf ah]))) (hc : w cm = some (.inl (0, cn, .inl (fun j9 => nI (d j9))))) (hM : Mus f ev st u bh) (hpb : ∀ j, p j ≤ 50) (hab : ∀ j, a j ≤ 1000000) (hdb : ∀ j, dd j ≤ 1000000) (hst : st ≤ cn) (hcn : cn ≤ 100000) (hdd : ∀ j, d j ≤ 1000000) (hN5 : va_nd [fa, pr, ar, de, cm] = true) {no t : Nat} (hno : no < 128) (hpc : pc ≤ 1000000) (hpe : pe < 100) (hlm : w la = some (.inr (1, [va_rf bf3, va_rf nx3, .ref ca3, .int (nI cl3), .int (nI pe3), .int (nI pb3), .int (nI pc3), .int (nI an3), va_rf av3, va_rf ah3]))) (hlmn : la ≠ mn) (hpe3 : pe3 < 100) : Ct yX0_hear wsX0_hear rX0_hear [.ref fo, .int (nI no), .int (nI t)] w (fun o w9 => o = .inl none ∧ ∃ nm q cn9 : Nat, w nm = none ∧ w q = none ∧ nm ≠ q ∧ st ≤ cn9 ∧ cn9 ≤ 1600 ∧ (w9 ar = some (.inl (0, 100, .inl (fun j9 => nI ((silA d a (u 1) (u 6) dd bh (p 2) (pc + p 3) ev) j9)))) ∧ w9 de = some (.inl (0, 100, .inl (fun j9 => nI ((silD d (u 1) dd (p 2) ev) j9)))) ∧ w9 q = some (.inl (0, cn9, .inl (fun j9 => nI (((evF d (silA d a (u 1) (u 6) dd bh (p 2) (pc + p 3) ev) (u 1) (fun e => riB f e no (u 0 e) (u 1 e)) (fun e => decide (u 0 e = 2)) cn9 (p 1) (p 0) ev 0 (clr (fun _ => 0) st, 1000000, 0, 0)).1) j9)))) ∧ w9 nm = some (if (evF d (silA d a (u 1) (u 6) dd bh (p 2) (pc + p 3) ev) (u 1) (fun e => riB f e no (u 0 e) (u 1 e)) (fun e => decide (u 0 e = 2)) cn9 (p 1) (p 0) ev 0 (clr (fun _ => 0) st, 1000000, 0, 0)).2.2.1 < pe3 then (.inr (1, [va_rf (some mn), va_rf none, .ref q, .int (nI t), .int (nI ((evF d (silA d a (u 1) (u 6) dd bh (p 2) (pc + p 3) ev) (u 1) (fun e => riB f e no (u 0 e) (u 1 e)) (fun e => decide (u 0 e = 2)) cn9 (p 1) (p 0) ev 0 (clr (fun _ => 0) st, 1000000, 0, 0)).2.2.1)), .int (nI ((evF d (silA d a (u 1) (u 6) dd bh (p 2) (pc + p 3) ev) (u 1) (fun e => riB f e no (u 0 e) (u 1 e)) (fun e => decide (u 0 e = 2)) cn9 (p 1) (p 0) ev 0 (clr (fun _ => 0) st, 1000000, 0, 0)).2.2.2)), .int (nI ((evF d (silA d a (u 1) (u 6) dd bh (p 2) (pc + p 3) ev) (u 1) (fun e => riB f e no (u 0 e) (u 1 e)) (fun e => decide (u 0 e = 2)) cn9 (p 1) (p 0) ev 0 (clr (fun _ => 0) st, 1000000, 0, 0)).2.1)), .int (nI 1), va_rf (some nm), va_rf none]) : pE) else if (evF d (silA d a (u 1) (u 6) dd bh (p 2) (pc + p 3) ev) (u 1) (fun e => riB f e no (u 0 e) (u 1 e)) (fun e => decide (u 0 e = 2)) cn9 (p 1) (p 0) ev 0 (clr (fun _ => 0) st, 1000000, 0, 0)).2.2.1 ≠ pe then .inr (1, [va_rf (some mn), va_rf none, .ref q, .int (nI t), .int (nI ((evF d (silA d a (u 1) (u 6) dd bh (p 2) (pc + p 3) ev) (u 1) (fun e => riB f e no (u 0 e) (u 1 e)) (fun e => decide (u 0 e = 2)) cn9 (p 1) (p 0) ev 0 (clr (fun _ => 0) st, 1000000, 0, 0)).2.2.1)), .int (nI ((evF d (silA d a (u 1) (u 6) dd bh (p 2) (pc + p 3) ev) (u 1) (fun e => riB f e no (u 0 e) (u 1 e)) (fun e => decide (u 0 e = 2)) cn9 (p 1) (p 0) ev 0 (clr (fun _ => 0) st, 1000000, 0, 0)).2.2.2)), .int (nI ((evF d (silA d a (u 1) (u 6) dd bh (p 2) (pc + p 3) ev) (u 1) (fun e => riB f e no (u 0 e) (u 1 e)) (fun e => decide (u 0 e = 2)) cn9 (p 1) (p 0) ev 0 (clr (fun _ => 0) st, 1000000, 0, 0)).2.1)), .int (nI (an + 1)), va_rf (some nm), va_rf (some la)]) else .inr (1, [va_rf (some mn), va_rf none, .ref q, .int (nI t), .int (nI ((evF d (silA d a (u 1) (u 6) dd bh (p 2) (pc + p 3) ev) (u 1) (fun e => riB f e no (u 0 e) (u 1 e)) (fun e => decide (u 0 e = 2)) cn9 (p 1) (p 0) ev 0 (clr (fun _ => 0) st, 1000000, 0, 0)).2.2.1)), .int (nI ((evF d (silA d a (u 1) (u 6) dd bh (p 2) (pc + p 3) ev) (u 1) (fun e => riB f e no (u 0 e) (u 1 e)) (fun e => decide (u 0 e = 2)) cn9 (p 1) (p 0) ev 0 (clr (fun _ => 0) st, 1000000, 0, 0)).2.2.2)), .int (nI ((evF d (silA d a (u 1) (u 6) dd bh (p 2) (pc + p 3) ev) (u 1) (fun e => riB f e no (u 0 e) (u 1 e)) (fun e => decide (u 0 e = 2)) cn9 (p 1) (p 0) ev 0 (clr (fun _ => 0) st, 1000000, 0, 0)).2.1)), .int (nI an), va_rf (some la), va_rf none])) ∧ w9 fo = some (.inr (0, [.ref sc, .ref pr, .ref ar, .ref de, .ref ms, .ref nm, .int (nI (nt + 1))]))) ∧ w9 mn = some (.inr (1, [va_rf bf, va_rf (some nm), .ref cm, .int (nI cl), .int (nI pe), .int (nI pb), .int (nI pc), .int (nI an), va_rf (some la), va_rf ah])) ∧ FrS [ar, de, fo, mn] w w9) := by
  refine Ct.of (cc := cX0_hear) (own := RX0) (nm := "hear") (nL := 5) (ret := none) (by decide +kernel) rfl rfl rfl (Nat.le_of_ble_eq_true rfl) ?_
  refine j_lvE (lv' := [(0, .ref fo), (1, .int (nI no)), (2, .int (nI t))]) rfl ?_
  have hev := hM.hev
  have hst0 := hM.hst
  refine j_aload_n dX0_hear_0 0 rfl ?_
  refine j_get flX0_hear_30 hfo rfl dX0_hear_1 ?_
  refine j_get (v := .null) flX0_hear_105 hm rfl dX0_hear_4 ?_
  refine j_astore_nN (lv' := [(3, .null), (0, .ref fo), (1, .int (nI no)), (2, .int (nI t))]) dX0_hear_7 (Nat.le_of_ble_eq_true rfl) rfl ?_
  refine j_aload_nN dX0_hear_8 0 rfl ?_
  refine j_ifnonnullN dX0_hear_9 ?_
  refine j_new (ci := 1) (fs := [.null, .null, .null, .int (nI 0), .int (nI 0), .int (nI 0), .int (nI 0), .int (nI 0), .null, .null]) tyX1 rfl muX0_hear_X1 tyX1_ok mX0_hear_0 mX0_hear_1 mX0_hear_2 (by decide +kernel) (show 0 + 1 ≤ 3 by omega) (show 0 + 10 ≤ 1610 by omega) dX0_hear_12 (fun q1 hq1 => ?_)
  refine j_after (st' := [.ref q1]) (k' := 1) (n' := 10) rfl (by first | rfl | omega) (by first | rfl | omega) ?_
  refine j_w (fun w2 hw2 => ?_)
  have n4 : fo ≠ q1 := fn hfo hq1
  have f3 := up_ne hw2 n4 hfo
  have n6 : sc ≠ q1 := fn hs hq1
  have f5 := up_ne hw2 n6 hs
  have n8 : fa ≠ q1 := fn hf hq1
  have f7 := up_ne hw2 n8 hf
  have n10 : pr ≠ q1 := fn hp hq1
  have f9 := up_ne hw2 n10 hp
  have n12 : ar ≠ q1 := fn ha hq1
  have f11 := up_ne hw2 n12 ha
  have n14 : de ≠ q1 := fn hde hq1
  have f13 := up_ne hw2 n14 hde
  have n16 : mn ≠ q1 := fn hm hq1
  have f15 := up_ne hw2 n16 hm
  have n18 : cm ≠ q1 := fn hc hq1
  have f17 := up_ne hw2 n18 hc
  have n20 : la ≠ q1 := fn hlm hq1
  have f19 := up_ne hw2 n20 hlm
  have f21 : w2 q1 = some (.inr (1, [.null, .null, .null, .int (nI 0), .int (nI 0), .int (nI 0), .int (nI 0), .int (nI 0), .null, .null])) := up_at hw2
  refine j_dup dX0_hear_15 rfl ?_
  refine j_aload_n dX0_hear_16 1 rfl ?_
  refine j_get flX0_hear_30 f3 rfl dX0_hear_17 ?_
  refine j_callI (rm := rX1_init) (As := [.ref mn]) (st := [.ref q1]) (b0 := q1) (na := 1) (c_Moment_init1 (b := mn) f21) (by intro E w9 h9; first | exact nomatch h9.1 | (obtain ⟨_, h9, _⟩ := h9; exact nomatch h9) | (obtain ⟨_, _, _, h9, _⟩ := h9; exact nomatch h9)) gX0_hear_X1_init rfl mX0_hear_3 mX0_hear_4 mX0_hear_5 rfl (by decide +kernel) rfl ⟨Nat.le_of_ble_eq_true rfl, Nat.le_of_ble_eq_true rfl⟩ rfl (Nat.le_of_ble_eq_true rfl) dX0_hear_20 ⟨(show 1 + 1 ≤ 3 by omega), (show 10 + 0 ≤ 1610 by omega)⟩ (fun v22 w23 h24 => ?_)
  obtain ⟨q8, h24, hq8, hw8⟩ := h24
  cases h24
  refine j_after (st' := [.ref q1]) (k' := 2) (n' := 10) rfl rfl rfl ?_
  have n8_fo : fo ≠ q8 := fn f3 hq8
  have n8_sc : sc ≠ q8 := fn f5 hq8
  have n8_fa : fa ≠ q8 := fn f7 hq8
  have n8_pr : pr ≠ q8 := fn f9 hq8
  have n8_ar : ar ≠ q8 := fn f11 hq8
  have n8_de : de ≠ q8 := fn f13 hq8
  have n8_mn : mn ≠ q8 := fn f15 hq8
  have n8_cm : cm ≠ q8 := fn f17 hq8
  have n8_la : la ≠ q8 := fn f19 hq8
  have n8_q1 : q1 ≠ q8 := fn f21 hq8
  have f25 : w23 fo = some (.inr (0, [.ref sc, .ref pr, .ref ar, .ref de, .ref ms, .ref mn, .int (nI nt)])) := by rw [hw8]; exact (va_up_ne _ _ n4).trans ((va_up_ne _ _ n8_fo).trans (f3))
  have f26 : w23 sc = some (.inr (3, [.ref fa, .int (nI ev), .int (nI be), .int (nI cu), .int (nI st), .int (nI me), .int (nI pa)])) := by rw [hw8]; exact (va_up_ne _ _ n6).trans ((va_up_ne _ _ n8_sc).trans (f5))
  have f27 : w23 fa = some (.inl (0, 1400, .inl f)) := by rw [hw8]; exact (va_up_ne _ _ n8).trans ((va_up_ne _ _ n8_fa).trans (f7))
  have f28 : w23 pr = some (.inl (0, 4, .inl (fun j9 => nI (p j9)))) := by rw [hw8]; exact (va_up_ne _ _ n10).trans ((va_up_ne _ _ n8_pr).trans (f9))
  have f29 : w23 ar = some (.inl (0, 100, .inl (fun j9 => nI (a j9)))) := by rw [hw8]; exact (va_up_ne _ _ n12).trans ((va_up_ne _ _ n8_ar).trans (f11))
  have f30 : w23 de = some (.inl (0, 100, .inl (fun j9 => nI (dd j9)))) := by rw [hw8]; exact (va_up_ne _ _ n14).trans ((va_up_ne _ _ n8_de).trans (f13))
  have f31 : w23 mn = some (.inr (1, [va_rf bf, va_rf none, .ref cm, .int (nI cl), .int (nI pe), .int (nI pb), .int (nI pc), .int (nI an), va_rf (some la), va_rf ah])) := by rw [hw8]; exact (va_up_ne _ _ n16).trans ((va_up_ne _ _ n8_mn).trans (f15))
  have f32 : w23 cm = some (.inl (0, cn, .inl (fun j9 => nI (d j9)))) := by rw [hw8]; exact (va_up_ne _ _ n18).trans ((va_up_ne _ _ n8_cm).trans (f17))
  have f33 : w23 la = some (.inr (1, [va_rf bf3, va_rf nx3, .ref ca3, .int (nI cl3), .int (nI pe3), .int (nI pb3), .int (nI pc3), .int (nI an3), va_rf av3, va_rf ah3])) := by rw [hw8]; exact (va_up_ne _ _ n20).trans ((va_up_ne _ _ n8_la).trans (f19))
  have f34 : w23 q1 = some (.inr (1, [va_rf (some mn), va_rf none, .ref q8, .int (nI 0), .int (nI 0), .int (nI 0), .int (nI 0), .int (nI 0), va_rf none, va_rf none])) := by rw [hw8]; exact va_up_self _ _ _
  have f35 : w23 q8 = some (.inl (0, 0, .inl (fun j9 => nI ((fun _ => 0) j9)))) := by rw [hw8]; exact (va_up_ne _ _ (Ne.symm n8_q1)).trans (va_up_self _ _ _)
  refine j_astore_n (lv' := [(3, .ref q1), (0, .ref fo), (1, .int (nI no)), (2, .int (nI t))]) dX0_hear_23 (Nat.le_of_ble_eq_true rfl) rfl ?_
  refine j_aload_n dX0_hear_24 1 rfl ?_
  refine j_get flX0_hear_30 f25 rfl dX0_hear_25 ?_
  refine j_aload_n dX0_hear_28 0 rfl ?_
  refine j_put (fs9 := [va_rf bf, va_rf (some q1), .ref cm, .int (nI cl), .int (nI pe), .int (nI pb), .int (nI pc), .int (nI an), va_rf (some la), va_rf ah]) fsX0_hear_105 f31 rfl rfl (Nat.le_of_ble_eq_true rfl) rfl dX0_hear_29 ?_
  refine j_w (fun w36 hw36 => ?_)
  have f37 := up_ne hw36 (fk f25 f31 rfl) f25
  have f38 := up_ne hw36 (fk f26 f31 rfl) f26
  have f39 := up_ne hw36 (fk f27 f31 rfl) f27
  have f40 := up_ne hw36 (fk f28 f31 rfl) f28
  have f41 := up_ne hw36 (fk f29 f31 rfl) f29
  have f42 := up_ne hw36 (fk f30 f31 rfl) f30
  have f43 : w36 mn = some (.inr (1, [va_rf bf, va_rf (some q1), .ref cm, .int (nI cl), .int (nI pe), .int (nI pb), .int (nI pc), .int (nI an), va_rf (some la), va_rf ah])) := up_at hw36
  have f44 := up_ne hw36 (fk f32 f31 rfl) f32
  have f45 := up_ne hw36 hlmn f33
  have f46 := up_ne hw36 (Ne.symm n16) f34
  have f47 := up_ne hw36 (Ne.symm n8_mn) f35
  refine j_aload_n dX0_hear_32 0 rfl ?_
  refine j_aload_n dX0_hear_33 1 rfl ?_
  refine j_get flX0_hear_33 f37 rfl dX0_hear_34 ?_
  refine j_get flX0_hear_37 f38 rfl dX0_hear_37 ?_
  refine j_callV (rm := rX1_clear) (As := [.int (nI st)]) (st := []) (b0 := q1) (ci := 1) (na := 1) (c_mclear f46 f47 (by omega) (st := st) (by omega)) (by intro E w9 h9; first | exact nomatch h9.1 | (obtain ⟨_, h9, _⟩ := h9; exact nomatch h9) | (obtain ⟨_, _, _, h9, _⟩ := h9; exact nomatch h9)) gX0_hear_X1_clear rfl rfl f46 (by decide +kernel) rfl ⟨Nat.le_of_ble_eq_true rfl, Nat.le_of_ble_eq_true rfl⟩ rfl (Nat.le_of_ble_eq_true rfl) dX0_hear_40 ⟨(show 2 + 1 ≤ 3 by omega), (show 10 + 1600 ≤ 1610 by omega)⟩ (fun v48 w49 h50 => ?_)
  obtain ⟨q9, cn9, d9, h50, hcase, hle9, hw9⟩ := h50
  cases h50
  refine j_after (st' := []) (k' := 3) (n' := 1610) rfl rfl rfl ?_
  have hcn9 : cn9 ≤ 100000 := by rcases hcase with ⟨_, h, _⟩ | ⟨_, h, _⟩ <;> omega
  have hbd9 : ∀ j, clr d9 st j ≤ 1000000 := clr_le (hcase.elim (fun h => by rw [h.2.2]; exact (fun _ => Nat.zero_le _)) (fun h => by rw [h.2.2]; exact fun _ => Nat.zero_le _))
  have nq_fo : fo ≠ q9 := hcase.elim (fun h => by rw [h.1]; exact n8_fo) (fun h => fn f37 h.1)
  have nq_sc : sc ≠ q9 := hcase.elim (fun h => by rw [h.1]; exact n8_sc) (fun h => fn f38 h.1)
  have nq_fa : fa ≠ q9 := hcase.elim (fun h => by rw [h.1]; exact n8_fa) (fun h => fn f39 h.1)
  have nq_pr : pr ≠ q9 := hcase.elim (fun h => by rw [h.1]; exact n8_pr) (fun h => fn f40 h.1)
  have nq_ar : ar ≠ q9 := hcase.elim (fun h => by rw [h.1]; exact n8_ar) (fun h => fn f41 h.1)
  have nq_de : de ≠ q9 := hcase.elim (fun h => by rw [h.1]; exact n8_de) (fun h => fn f42 h.1)
  have nq_mn : mn ≠ q9 := hcase.elim (fun h => by rw [h.1]; exact n8_mn) (fun h => fn f43 h.1)
  have nq_cm : cm ≠ q9 := hcase.elim (fun h => by rw [h.1]; exact n8_cm) (fun h => fn f44 h.1)
  have nq_la : la ≠ q9 := hcase.elim (fun h => by rw [h.1]; exact n8_la) (fun h => fn f45 h.1)
  have nq_q1 : q1 ≠ q9 := hcase.elim (fun h => by rw [h.1]; exact n8_q1) (fun h => fn f46 h.1)
  have f51 : w49 fo = some (.inr (0, [.ref sc, .ref pr, .ref ar, .ref de, .ref ms, .ref mn, .int (nI nt)])) := by rw [hw9]; exact (va_up_ne _ _ (n4)).trans ((va_up_ne _ _ nq_fo).trans (f37))
  have f52 : w49 sc = some (.inr (3, [.ref fa, .int (nI ev), .int (nI be), .int (nI cu), .int (nI st), .int (nI me), .int (nI pa)])) := by rw [hw9]; exact (va_up_ne _ _ (n6)).trans ((va_up_ne _ _ nq_sc).trans (f38))
  have f53 : w49 fa = some (.inl (0, 1400, .inl f)) := by rw [hw9]; exact (va_up_ne _ _ (n8)).trans ((va_up_ne _ _ nq_fa).trans (f39))
  have f54 : w49 pr = some (.inl (0, 4, .inl (fun j9 => nI (p j9)))) := by rw [hw9]; exact (va_up_ne _ _ (n10)).trans ((va_up_ne _ _ nq_pr).trans (f40))
  have f55 : w49 ar = some (.inl (0, 100, .inl (fun j9 => nI (a j9)))) := by rw [hw9]; exact (va_up_ne _ _ (n12)).trans ((va_up_ne _ _ nq_ar).trans (f41))
  have f56 : w49 de = some (.inl (0, 100, .inl (fun j9 => nI (dd j9)))) := by rw [hw9]; exact (va_up_ne _ _ (n14)).trans ((va_up_ne _ _ nq_de).trans (f42))
  have f57 : w49 mn = some (.inr (1, [va_rf bf, va_rf (some q1), .ref cm, .int (nI cl), .int (nI pe), .int (nI pb), .int (nI pc), .int (nI an), va_rf (some la), va_rf ah])) := by rw [hw9]; exact (va_up_ne _ _ (n16)).trans ((va_up_ne _ _ nq_mn).trans (f43))
  have f58 : w49 cm = some (.inl (0, cn, .inl (fun j9 => nI (d j9)))) := by rw [hw9]; exact (va_up_ne _ _ (n18)).trans ((va_up_ne _ _ nq_cm).trans (f44))
  have f59 : w49 la = some (.inr (1, [va_rf bf3, va_rf nx3, .ref ca3, .int (nI cl3), .int (nI pe3), .int (nI pb3), .int (nI pc3), .int (nI an3), va_rf av3, va_rf ah3])) := by rw [hw9]; exact (va_up_ne _ _ (n20)).trans ((va_up_ne _ _ nq_la).trans (f45))
  have f60 : w49 q1 = some (.inr (1, [va_rf (some mn), va_rf none, .ref q9, .int (nI 0), .int (nI 0), .int (nI 0), .int (nI 1000000), .int (nI 0), va_rf none, va_rf none])) := by rw [hw9]; exact va_up_self _ _ _
  have f61 : w49 q9 = some (.inl (0, cn9, .inl (fun j9 => nI ((clr d9 st) j9)))) := by rw [hw9]; exact (va_up_ne _ _ (Ne.symm nq_q1)).trans (va_up_self _ _ _)
  refine j_aload_n dX0_hear_43 0 rfl ?_
  refine j_iload_n dX0_hear_44 3 rfl ?_
  refine j_put (fs9 := [va_rf (some mn), va_rf none, .ref q9, .int (nI t), .int (nI 0), .int (nI 0), .int (nI 1000000), .int (nI 0), va_rf none, va_rf none]) fsX0_hear_71 f60 rfl rfl (Nat.le_of_ble_eq_true rfl) rfl dX0_hear_45 ?_
  refine j_w (fun w62 hw62 => ?_)
  have f63 := up_ne hw62 n4 f51
  have f64 := up_ne hw62 n6 f52
  have f65 := up_ne hw62 n8 f53
  have f66 := up_ne hw62 n10 f54
  have f67 := up_ne hw62 n12 f55
  have f68 := up_ne hw62 n14 f56
  have f69 := up_ne hw62 n16 f57
  have f70 := up_ne hw62 n18 f58
  have f71 := up_ne hw62 n20 f59
  have f72 : w62 q1 = some (.inr (1, [va_rf (some mn), va_rf none, .ref q9, .int (nI t), .int (nI 0), .int (nI 0), .int (nI 1000000), .int (nI 0), va_rf none, va_rf none])) := up_at hw62
  have f73 := up_ne hw62 (Ne.symm nq_q1) f61
  refine j_lv (lv' := [(0, .ref fo), (1, .int (nI no)), (2, .int (nI t)), (3, .ref q1)]) [1, 2, 3, 0] rfl ?_
  have hN9 : va_nd [fa, pr, ar, de, cm, q9] = true := nd_6 hN5 nq_fa nq_pr nq_ar nq_de nq_cm
  refine J.post (fun o w9 h => ?_) (t_hear1 f63 f64 f65 f66 f67 f68 f69 f70 f72 f73 hM hpb hab hdb hst hcn hdd hle9 hcn9 hbd9 n16 hN9 hno (by omega) (by omega) hpc hpe f71 n20 hpe3)
  obtain ⟨h1, h2, h3⟩ := h
  have hfr : Fr [ar, de, q9, q1, fo, mn, q8] w w9 := ((((((Fr.refl : Fr [ar, de, q9, q1, fo, mn, q8] w w).trans (Fr.up hw2 (by simp))).trans (Fr.up2 hw8 (by simp) (by simp))).trans (Fr.up hw36 (by simp))).trans (Fr.up2 hw9 (by simp) (by simp))).trans (Fr.up hw62 (by simp))).trans (h3.mono (by intro z hz; simp only [List.mem_cons, List.not_mem_nil, or_false] at hz ⊢; rcases hz with rfl | rfl | rfl | rfl | rfl <;> simp))
  have hz8 : w q8 = none := by
    cases hz : w q8 with
    | none => rfl
    | some c8 => exact absurd hq8 (by rw [hw2, va_up_ne _ _ (Ne.symm n8_q1), hz]; exact fun h => nomatch h)
  have hz9 : w q9 = none := hcase.elim (fun h => by rw [h.1]; exact hz8) (fun h => by
    have h0 := h.1
    have hq98 : q9 ≠ q8 := Ne.symm (fn f47 h.1)
    rw [hw36, va_up_ne _ _ (Ne.symm nq_mn)] at h0
    rw [hw8, va_up_ne _ _ (Ne.symm nq_q1), va_up_ne _ _ hq98] at h0
    rw [hw2, va_up_ne _ _ (Ne.symm nq_q1)] at h0
    exact h0)
  refine ⟨h1, q1, q9, cn9, hq1, hz9, nq_q1, hle9, by rcases hcase with ⟨_, h, _⟩ | ⟨_, h, _⟩ <;> omega, by rw [show d9 = fun _ => 0 from hcase.elim (fun h => h.2.2) (fun h => h.2.2)] at h2; exact h2, (h3.at (by simp only [List.mem_cons, List.not_mem_nil, or_false, not_or]; exact ⟨(fk f69 f67 rfl), (fk f69 f68 rfl), nq_mn, n16, (fk f69 f63 rfl)⟩) f69), hfr.s.new ?_⟩
  intro z hz; simp only [List.mem_cons, List.not_mem_nil, or_false] at hz; rcases hz with rfl | rfl | rfl | rfl | rfl | rfl | rfl
  · simp
  · simp
  · exact Or.inr hz9
  · exact Or.inr hq1
  · simp
  · simp
  · exact Or.inr hz8
set_option maxHeartbeats 4000000 in
set_option maxRecDepth 100000 in
theorem c_hearB2 {w : pW} {fo sc pr ar de ms mn nt : Nat} {fa ev be cu st me pa : Nat} {f : Nat → Int32} {u : Nat → Nat → Nat} {bh : Nat → Option Nat} {p : Nat → Nat} {a : Nat → Nat} {dd : Nat → Nat} {cm : Nat} {bf ah : Option Nat} {cl pe pb pc an : Nat} {cn : Nat} {d : Nat → Nat} (hfo : w fo = some (.inr (0, [.ref sc, .ref pr, .ref ar, .ref de, .ref ms, .ref mn, .int (nI nt)]))) (hs : w sc = some (.inr (3, [.ref fa, .int (nI ev), .int (nI be), .int (nI cu), .int (nI st), .int (nI me), .int (nI pa)]))) (hf : w fa = some (.inl (0, 1400, .inl f))) (hp : w pr = some (.inl (0, 4, .inl (fun j9 => nI (p j9))))) (ha : w ar = some (.inl (0, 100, .inl (fun j9 => nI (a j9))))) (hde : w de = some (.inl (0, 100, .inl (fun j9 => nI (dd j9))))) (hm : w mn = some (.inr (1, [va_rf bf, va_rf none, .ref cm, .int (nI cl), .int (nI pe), .int (nI pb), .int (nI pc), .int (nI an), va_rf (some mn), va_rf ah]))) (hc : w cm = some (.inl (0, cn, .inl (fun j9 => nI (d j9))))) (hM : Mus f ev st u bh) (hpb : ∀ j, p j ≤ 50) (hab : ∀ j, a j ≤ 1000000) (hdb : ∀ j, dd j ≤ 1000000) (hst : st ≤ cn) (hcn : cn ≤ 100000) (hdd : ∀ j, d j ≤ 1000000) (hN5 : va_nd [fa, pr, ar, de, cm] = true) {no t : Nat} (hno : no < 128) (hpc : pc ≤ 1000000) (hpe : pe < 100) : Ct yX0_hear wsX0_hear rX0_hear [.ref fo, .int (nI no), .int (nI t)] w (fun o w9 => o = .inl none ∧ ∃ nm q cn9 : Nat, w nm = none ∧ w q = none ∧ nm ≠ q ∧ st ≤ cn9 ∧ cn9 ≤ 1600 ∧ (w9 ar = some (.inl (0, 100, .inl (fun j9 => nI ((silA d a (u 1) (u 6) dd bh (p 2) (pc + p 3) ev) j9)))) ∧ w9 de = some (.inl (0, 100, .inl (fun j9 => nI ((silD d (u 1) dd (p 2) ev) j9)))) ∧ w9 q = some (.inl (0, cn9, .inl (fun j9 => nI (((evF d (silA d a (u 1) (u 6) dd bh (p 2) (pc + p 3) ev) (u 1) (fun e => riB f e no (u 0 e) (u 1 e)) (fun e => decide (u 0 e = 2)) cn9 (p 1) (p 0) ev 0 (clr (fun _ => 0) st, 1000000, 0, 0)).1) j9)))) ∧ w9 nm = some (if (evF d (silA d a (u 1) (u 6) dd bh (p 2) (pc + p 3) ev) (u 1) (fun e => riB f e no (u 0 e) (u 1 e)) (fun e => decide (u 0 e = 2)) cn9 (p 1) (p 0) ev 0 (clr (fun _ => 0) st, 1000000, 0, 0)).2.2.1 < pe then (.inr (1, [va_rf (some mn), va_rf none, .ref q, .int (nI t), .int (nI ((evF d (silA d a (u 1) (u 6) dd bh (p 2) (pc + p 3) ev) (u 1) (fun e => riB f e no (u 0 e) (u 1 e)) (fun e => decide (u 0 e = 2)) cn9 (p 1) (p 0) ev 0 (clr (fun _ => 0) st, 1000000, 0, 0)).2.2.1)), .int (nI ((evF d (silA d a (u 1) (u 6) dd bh (p 2) (pc + p 3) ev) (u 1) (fun e => riB f e no (u 0 e) (u 1 e)) (fun e => decide (u 0 e = 2)) cn9 (p 1) (p 0) ev 0 (clr (fun _ => 0) st, 1000000, 0, 0)).2.2.2)), .int (nI ((evF d (silA d a (u 1) (u 6) dd bh (p 2) (pc + p 3) ev) (u 1) (fun e => riB f e no (u 0 e) (u 1 e)) (fun e => decide (u 0 e = 2)) cn9 (p 1) (p 0) ev 0 (clr (fun _ => 0) st, 1000000, 0, 0)).2.1)), .int (nI 1), va_rf (some nm), va_rf none]) : pE) else if (evF d (silA d a (u 1) (u 6) dd bh (p 2) (pc + p 3) ev) (u 1) (fun e => riB f e no (u 0 e) (u 1 e)) (fun e => decide (u 0 e = 2)) cn9 (p 1) (p 0) ev 0 (clr (fun _ => 0) st, 1000000, 0, 0)).2.2.1 ≠ pe then .inr (1, [va_rf (some mn), va_rf none, .ref q, .int (nI t), .int (nI ((evF d (silA d a (u 1) (u 6) dd bh (p 2) (pc + p 3) ev) (u 1) (fun e => riB f e no (u 0 e) (u 1 e)) (fun e => decide (u 0 e = 2)) cn9 (p 1) (p 0) ev 0 (clr (fun _ => 0) st, 1000000, 0, 0)).2.2.1)), .int (nI ((evF d (silA d a (u 1) (u 6) dd bh (p 2) (pc + p 3) ev) (u 1) (fun e => riB f e no (u 0 e) (u 1 e)) (fun e => decide (u 0 e = 2)) cn9 (p 1) (p 0) ev 0 (clr (fun _ => 0) st, 1000000, 0, 0)).2.2.2)), .int (nI ((evF d (silA d a (u 1) (u 6) dd bh (p 2) (pc + p 3) ev) (u 1) (fun e => riB f e no (u 0 e) (u 1 e)) (fun e => decide (u 0 e = 2)) cn9 (p 1) (p 0) ev 0 (clr (fun _ => 0) st, 1000000, 0, 0)).2.1)), .int (nI (an + 1)), va_rf (some nm), va_rf (some mn)]) else .inr (1, [va_rf (some mn), va_rf none, .ref q, .int (nI t), .int (nI ((evF d (silA d a (u 1) (u 6) dd bh (p 2) (pc + p 3) ev) (u 1) (fun e => riB f e no (u 0 e) (u 1 e)) (fun e => decide (u 0 e = 2)) cn9 (p 1) (p 0) ev 0 (clr (fun _ => 0) st, 1000000, 0, 0)).2.2.1)), .int (nI ((evF d (silA d a (u 1) (u 6) dd bh (p 2) (pc + p 3) ev) (u 1) (fun e => riB f e no (u 0 e) (u 1 e)) (fun e => decide (u 0 e = 2)) cn9 (p 1) (p 0) ev 0 (clr (fun _ => 0) st, 1000000, 0, 0)).2.2.2)), .int (nI ((evF d (silA d a (u 1) (u 6) dd bh (p 2) (pc + p 3) ev) (u 1) (fun e => riB f e no (u 0 e) (u 1 e)) (fun e => decide (u 0 e = 2)) cn9 (p 1) (p 0) ev 0 (clr (fun _ => 0) st, 1000000, 0, 0)).2.1)), .int (nI an), va_rf (some mn), va_rf none])) ∧ w9 fo = some (.inr (0, [.ref sc, .ref pr, .ref ar, .ref de, .ref ms, .ref nm, .int (nI (nt + 1))]))) ∧ w9 mn = some (.inr (1, [va_rf bf, va_rf (some nm), .ref cm, .int (nI cl), .int (nI pe), .int (nI pb), .int (nI pc), .int (nI an), va_rf (some mn), va_rf ah])) ∧ FrS [ar, de, fo, mn] w w9) := by
  refine Ct.of (cc := cX0_hear) (own := RX0) (nm := "hear") (nL := 5) (ret := none) (by decide +kernel) rfl rfl rfl (Nat.le_of_ble_eq_true rfl) ?_
  refine j_lvE (lv' := [(0, .ref fo), (1, .int (nI no)), (2, .int (nI t))]) rfl ?_
  have hev := hM.hev
  have hst0 := hM.hst
  refine j_aload_n dX0_hear_0 0 rfl ?_
  refine j_get flX0_hear_30 hfo rfl dX0_hear_1 ?_
  refine j_get (v := .null) flX0_hear_105 hm rfl dX0_hear_4 ?_
  refine j_astore_nN (lv' := [(3, .null), (0, .ref fo), (1, .int (nI no)), (2, .int (nI t))]) dX0_hear_7 (Nat.le_of_ble_eq_true rfl) rfl ?_
  refine j_aload_nN dX0_hear_8 0 rfl ?_
  refine j_ifnonnullN dX0_hear_9 ?_
  refine j_new (ci := 1) (fs := [.null, .null, .null, .int (nI 0), .int (nI 0), .int (nI 0), .int (nI 0), .int (nI 0), .null, .null]) tyX1 rfl muX0_hear_X1 tyX1_ok mX0_hear_0 mX0_hear_1 mX0_hear_2 (by decide +kernel) (show 0 + 1 ≤ 3 by omega) (show 0 + 10 ≤ 1610 by omega) dX0_hear_12 (fun q1 hq1 => ?_)
  refine j_after (st' := [.ref q1]) (k' := 1) (n' := 10) rfl (by first | rfl | omega) (by first | rfl | omega) ?_
  refine j_w (fun w2 hw2 => ?_)
  have n4 : fo ≠ q1 := fn hfo hq1
  have f3 := up_ne hw2 n4 hfo
  have n6 : sc ≠ q1 := fn hs hq1
  have f5 := up_ne hw2 n6 hs
  have n8 : fa ≠ q1 := fn hf hq1
  have f7 := up_ne hw2 n8 hf
  have n10 : pr ≠ q1 := fn hp hq1
  have f9 := up_ne hw2 n10 hp
  have n12 : ar ≠ q1 := fn ha hq1
  have f11 := up_ne hw2 n12 ha
  have n14 : de ≠ q1 := fn hde hq1
  have f13 := up_ne hw2 n14 hde
  have n16 : mn ≠ q1 := fn hm hq1
  have f15 := up_ne hw2 n16 hm
  have n18 : cm ≠ q1 := fn hc hq1
  have f17 := up_ne hw2 n18 hc
  have f19 : w2 q1 = some (.inr (1, [.null, .null, .null, .int (nI 0), .int (nI 0), .int (nI 0), .int (nI 0), .int (nI 0), .null, .null])) := up_at hw2
  refine j_dup dX0_hear_15 rfl ?_
  refine j_aload_n dX0_hear_16 1 rfl ?_
  refine j_get flX0_hear_30 f3 rfl dX0_hear_17 ?_
  refine j_callI (rm := rX1_init) (As := [.ref mn]) (st := [.ref q1]) (b0 := q1) (na := 1) (c_Moment_init1 (b := mn) f19) (by intro E w9 h9; first | exact nomatch h9.1 | (obtain ⟨_, h9, _⟩ := h9; exact nomatch h9) | (obtain ⟨_, _, _, h9, _⟩ := h9; exact nomatch h9)) gX0_hear_X1_init rfl mX0_hear_3 mX0_hear_4 mX0_hear_5 rfl (by decide +kernel) rfl ⟨Nat.le_of_ble_eq_true rfl, Nat.le_of_ble_eq_true rfl⟩ rfl (Nat.le_of_ble_eq_true rfl) dX0_hear_20 ⟨(show 1 + 1 ≤ 3 by omega), (show 10 + 0 ≤ 1610 by omega)⟩ (fun v20 w21 h22 => ?_)
  obtain ⟨q8, h22, hq8, hw8⟩ := h22
  cases h22
  refine j_after (st' := [.ref q1]) (k' := 2) (n' := 10) rfl rfl rfl ?_
  have n8_fo : fo ≠ q8 := fn f3 hq8
  have n8_sc : sc ≠ q8 := fn f5 hq8
  have n8_fa : fa ≠ q8 := fn f7 hq8
  have n8_pr : pr ≠ q8 := fn f9 hq8
  have n8_ar : ar ≠ q8 := fn f11 hq8
  have n8_de : de ≠ q8 := fn f13 hq8
  have n8_mn : mn ≠ q8 := fn f15 hq8
  have n8_cm : cm ≠ q8 := fn f17 hq8
  have n8_q1 : q1 ≠ q8 := fn f19 hq8
  have f23 : w21 fo = some (.inr (0, [.ref sc, .ref pr, .ref ar, .ref de, .ref ms, .ref mn, .int (nI nt)])) := by rw [hw8]; exact (va_up_ne _ _ n4).trans ((va_up_ne _ _ n8_fo).trans (f3))
  have f24 : w21 sc = some (.inr (3, [.ref fa, .int (nI ev), .int (nI be), .int (nI cu), .int (nI st), .int (nI me), .int (nI pa)])) := by rw [hw8]; exact (va_up_ne _ _ n6).trans ((va_up_ne _ _ n8_sc).trans (f5))
  have f25 : w21 fa = some (.inl (0, 1400, .inl f)) := by rw [hw8]; exact (va_up_ne _ _ n8).trans ((va_up_ne _ _ n8_fa).trans (f7))
  have f26 : w21 pr = some (.inl (0, 4, .inl (fun j9 => nI (p j9)))) := by rw [hw8]; exact (va_up_ne _ _ n10).trans ((va_up_ne _ _ n8_pr).trans (f9))
  have f27 : w21 ar = some (.inl (0, 100, .inl (fun j9 => nI (a j9)))) := by rw [hw8]; exact (va_up_ne _ _ n12).trans ((va_up_ne _ _ n8_ar).trans (f11))
  have f28 : w21 de = some (.inl (0, 100, .inl (fun j9 => nI (dd j9)))) := by rw [hw8]; exact (va_up_ne _ _ n14).trans ((va_up_ne _ _ n8_de).trans (f13))
  have f29 : w21 mn = some (.inr (1, [va_rf bf, va_rf none, .ref cm, .int (nI cl), .int (nI pe), .int (nI pb), .int (nI pc), .int (nI an), va_rf (some mn), va_rf ah])) := by rw [hw8]; exact (va_up_ne _ _ n16).trans ((va_up_ne _ _ n8_mn).trans (f15))
  have f30 : w21 cm = some (.inl (0, cn, .inl (fun j9 => nI (d j9)))) := by rw [hw8]; exact (va_up_ne _ _ n18).trans ((va_up_ne _ _ n8_cm).trans (f17))
  have f31 : w21 q1 = some (.inr (1, [va_rf (some mn), va_rf none, .ref q8, .int (nI 0), .int (nI 0), .int (nI 0), .int (nI 0), .int (nI 0), va_rf none, va_rf none])) := by rw [hw8]; exact va_up_self _ _ _
  have f32 : w21 q8 = some (.inl (0, 0, .inl (fun j9 => nI ((fun _ => 0) j9)))) := by rw [hw8]; exact (va_up_ne _ _ (Ne.symm n8_q1)).trans (va_up_self _ _ _)
  refine j_astore_n (lv' := [(3, .ref q1), (0, .ref fo), (1, .int (nI no)), (2, .int (nI t))]) dX0_hear_23 (Nat.le_of_ble_eq_true rfl) rfl ?_
  refine j_aload_n dX0_hear_24 1 rfl ?_
  refine j_get flX0_hear_30 f23 rfl dX0_hear_25 ?_
  refine j_aload_n dX0_hear_28 0 rfl ?_
  refine j_put (fs9 := [va_rf bf, va_rf (some q1), .ref cm, .int (nI cl), .int (nI pe), .int (nI pb), .int (nI pc), .int (nI an), va_rf (some mn), va_rf ah]) fsX0_hear_105 f29 rfl rfl (Nat.le_of_ble_eq_true rfl) rfl dX0_hear_29 ?_
  refine j_w (fun w33 hw33 => ?_)
  have f34 := up_ne hw33 (fk f23 f29 rfl) f23
  have f35 := up_ne hw33 (fk f24 f29 rfl) f24
  have f36 := up_ne hw33 (fk f25 f29 rfl) f25
  have f37 := up_ne hw33 (fk f26 f29 rfl) f26
  have f38 := up_ne hw33 (fk f27 f29 rfl) f27
  have f39 := up_ne hw33 (fk f28 f29 rfl) f28
  have f40 : w33 mn = some (.inr (1, [va_rf bf, va_rf (some q1), .ref cm, .int (nI cl), .int (nI pe), .int (nI pb), .int (nI pc), .int (nI an), va_rf (some mn), va_rf ah])) := up_at hw33
  have f41 := up_ne hw33 (fk f30 f29 rfl) f30
  have f42 := up_ne hw33 (Ne.symm n16) f31
  have f43 := up_ne hw33 (Ne.symm n8_mn) f32
  refine j_aload_n dX0_hear_32 0 rfl ?_
  refine j_aload_n dX0_hear_33 1 rfl ?_
  refine j_get flX0_hear_33 f34 rfl dX0_hear_34 ?_
  refine j_get flX0_hear_37 f35 rfl dX0_hear_37 ?_
  refine j_callV (rm := rX1_clear) (As := [.int (nI st)]) (st := []) (b0 := q1) (ci := 1) (na := 1) (c_mclear f42 f43 (by omega) (st := st) (by omega)) (by intro E w9 h9; first | exact nomatch h9.1 | (obtain ⟨_, h9, _⟩ := h9; exact nomatch h9) | (obtain ⟨_, _, _, h9, _⟩ := h9; exact nomatch h9)) gX0_hear_X1_clear rfl rfl f42 (by decide +kernel) rfl ⟨Nat.le_of_ble_eq_true rfl, Nat.le_of_ble_eq_true rfl⟩ rfl (Nat.le_of_ble_eq_true rfl) dX0_hear_40 ⟨(show 2 + 1 ≤ 3 by omega), (show 10 + 1600 ≤ 1610 by omega)⟩ (fun v44 w45 h46 => ?_)
  obtain ⟨q9, cn9, d9, h46, hcase, hle9, hw9⟩ := h46
  cases h46
  refine j_after (st' := []) (k' := 3) (n' := 1610) rfl rfl rfl ?_
  have hcn9 : cn9 ≤ 100000 := by rcases hcase with ⟨_, h, _⟩ | ⟨_, h, _⟩ <;> omega
  have hbd9 : ∀ j, clr d9 st j ≤ 1000000 := clr_le (hcase.elim (fun h => by rw [h.2.2]; exact (fun _ => Nat.zero_le _)) (fun h => by rw [h.2.2]; exact fun _ => Nat.zero_le _))
  have nq_fo : fo ≠ q9 := hcase.elim (fun h => by rw [h.1]; exact n8_fo) (fun h => fn f34 h.1)
  have nq_sc : sc ≠ q9 := hcase.elim (fun h => by rw [h.1]; exact n8_sc) (fun h => fn f35 h.1)
  have nq_fa : fa ≠ q9 := hcase.elim (fun h => by rw [h.1]; exact n8_fa) (fun h => fn f36 h.1)
  have nq_pr : pr ≠ q9 := hcase.elim (fun h => by rw [h.1]; exact n8_pr) (fun h => fn f37 h.1)
  have nq_ar : ar ≠ q9 := hcase.elim (fun h => by rw [h.1]; exact n8_ar) (fun h => fn f38 h.1)
  have nq_de : de ≠ q9 := hcase.elim (fun h => by rw [h.1]; exact n8_de) (fun h => fn f39 h.1)
  have nq_mn : mn ≠ q9 := hcase.elim (fun h => by rw [h.1]; exact n8_mn) (fun h => fn f40 h.1)
  have nq_cm : cm ≠ q9 := hcase.elim (fun h => by rw [h.1]; exact n8_cm) (fun h => fn f41 h.1)
  have nq_q1 : q1 ≠ q9 := hcase.elim (fun h => by rw [h.1]; exact n8_q1) (fun h => fn f42 h.1)
  have f47 : w45 fo = some (.inr (0, [.ref sc, .ref pr, .ref ar, .ref de, .ref ms, .ref mn, .int (nI nt)])) := by rw [hw9]; exact (va_up_ne _ _ (n4)).trans ((va_up_ne _ _ nq_fo).trans (f34))
  have f48 : w45 sc = some (.inr (3, [.ref fa, .int (nI ev), .int (nI be), .int (nI cu), .int (nI st), .int (nI me), .int (nI pa)])) := by rw [hw9]; exact (va_up_ne _ _ (n6)).trans ((va_up_ne _ _ nq_sc).trans (f35))
  have f49 : w45 fa = some (.inl (0, 1400, .inl f)) := by rw [hw9]; exact (va_up_ne _ _ (n8)).trans ((va_up_ne _ _ nq_fa).trans (f36))
  have f50 : w45 pr = some (.inl (0, 4, .inl (fun j9 => nI (p j9)))) := by rw [hw9]; exact (va_up_ne _ _ (n10)).trans ((va_up_ne _ _ nq_pr).trans (f37))
  have f51 : w45 ar = some (.inl (0, 100, .inl (fun j9 => nI (a j9)))) := by rw [hw9]; exact (va_up_ne _ _ (n12)).trans ((va_up_ne _ _ nq_ar).trans (f38))
  have f52 : w45 de = some (.inl (0, 100, .inl (fun j9 => nI (dd j9)))) := by rw [hw9]; exact (va_up_ne _ _ (n14)).trans ((va_up_ne _ _ nq_de).trans (f39))
  have f53 : w45 mn = some (.inr (1, [va_rf bf, va_rf (some q1), .ref cm, .int (nI cl), .int (nI pe), .int (nI pb), .int (nI pc), .int (nI an), va_rf (some mn), va_rf ah])) := by rw [hw9]; exact (va_up_ne _ _ (n16)).trans ((va_up_ne _ _ nq_mn).trans (f40))
  have f54 : w45 cm = some (.inl (0, cn, .inl (fun j9 => nI (d j9)))) := by rw [hw9]; exact (va_up_ne _ _ (n18)).trans ((va_up_ne _ _ nq_cm).trans (f41))
  have f55 : w45 q1 = some (.inr (1, [va_rf (some mn), va_rf none, .ref q9, .int (nI 0), .int (nI 0), .int (nI 0), .int (nI 1000000), .int (nI 0), va_rf none, va_rf none])) := by rw [hw9]; exact va_up_self _ _ _
  have f56 : w45 q9 = some (.inl (0, cn9, .inl (fun j9 => nI ((clr d9 st) j9)))) := by rw [hw9]; exact (va_up_ne _ _ (Ne.symm nq_q1)).trans (va_up_self _ _ _)
  refine j_aload_n dX0_hear_43 0 rfl ?_
  refine j_iload_n dX0_hear_44 3 rfl ?_
  refine j_put (fs9 := [va_rf (some mn), va_rf none, .ref q9, .int (nI t), .int (nI 0), .int (nI 0), .int (nI 1000000), .int (nI 0), va_rf none, va_rf none]) fsX0_hear_71 f55 rfl rfl (Nat.le_of_ble_eq_true rfl) rfl dX0_hear_45 ?_
  refine j_w (fun w57 hw57 => ?_)
  have f58 := up_ne hw57 n4 f47
  have f59 := up_ne hw57 n6 f48
  have f60 := up_ne hw57 n8 f49
  have f61 := up_ne hw57 n10 f50
  have f62 := up_ne hw57 n12 f51
  have f63 := up_ne hw57 n14 f52
  have f64 := up_ne hw57 n16 f53
  have f65 := up_ne hw57 n18 f54
  have f66 : w57 q1 = some (.inr (1, [va_rf (some mn), va_rf none, .ref q9, .int (nI t), .int (nI 0), .int (nI 0), .int (nI 1000000), .int (nI 0), va_rf none, va_rf none])) := up_at hw57
  have f67 := up_ne hw57 (Ne.symm nq_q1) f56
  refine j_lv (lv' := [(0, .ref fo), (1, .int (nI no)), (2, .int (nI t)), (3, .ref q1)]) [1, 2, 3, 0] rfl ?_
  have hN9 : va_nd [fa, pr, ar, de, cm, q9] = true := nd_6 hN5 nq_fa nq_pr nq_ar nq_de nq_cm
  refine J.post (fun o w9 h => ?_) (t_hear1 f58 f59 f60 f61 f62 f63 f64 f65 f66 f67 hM hpb hab hdb hst hcn hdd hle9 hcn9 hbd9 n16 hN9 hno (by omega) (by omega) hpc hpe f64 n16 hpe)
  obtain ⟨h1, h2, h3⟩ := h
  have hfr : Fr [ar, de, q9, q1, fo, mn, q8] w w9 := ((((((Fr.refl : Fr [ar, de, q9, q1, fo, mn, q8] w w).trans (Fr.up hw2 (by simp))).trans (Fr.up2 hw8 (by simp) (by simp))).trans (Fr.up hw33 (by simp))).trans (Fr.up2 hw9 (by simp) (by simp))).trans (Fr.up hw57 (by simp))).trans (h3.mono (by intro z hz; simp only [List.mem_cons, List.not_mem_nil, or_false] at hz ⊢; rcases hz with rfl | rfl | rfl | rfl | rfl <;> simp))
  have hz8 : w q8 = none := by
    cases hz : w q8 with
    | none => rfl
    | some c8 => exact absurd hq8 (by rw [hw2, va_up_ne _ _ (Ne.symm n8_q1), hz]; exact fun h => nomatch h)
  have hz9 : w q9 = none := hcase.elim (fun h => by rw [h.1]; exact hz8) (fun h => by
    have h0 := h.1
    have hq98 : q9 ≠ q8 := Ne.symm (fn f43 h.1)
    rw [hw33, va_up_ne _ _ (Ne.symm nq_mn)] at h0
    rw [hw8, va_up_ne _ _ (Ne.symm nq_q1), va_up_ne _ _ hq98] at h0
    rw [hw2, va_up_ne _ _ (Ne.symm nq_q1)] at h0
    exact h0)
  refine ⟨h1, q1, q9, cn9, hq1, hz9, nq_q1, hle9, by rcases hcase with ⟨_, h, _⟩ | ⟨_, h, _⟩ <;> omega, by rw [show d9 = fun _ => 0 from hcase.elim (fun h => h.2.2) (fun h => h.2.2)] at h2; exact h2, (h3.at (by simp only [List.mem_cons, List.not_mem_nil, or_false, not_or]; exact ⟨(fk f64 f62 rfl), (fk f64 f63 rfl), nq_mn, n16, (fk f64 f58 rfl)⟩) f64), hfr.s.new ?_⟩
  intro z hz; simp only [List.mem_cons, List.not_mem_nil, or_false] at hz; rcases hz with rfl | rfl | rfl | rfl | rfl | rfl | rfl
  · simp
  · simp
  · exact Or.inr hz9
  · exact Or.inr hq1
  · simp
  · simp
  · exact Or.inr hz8
