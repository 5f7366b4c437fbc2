abbrev rX0_costOf : Room := { frames := 1, cells := 0, slots := 0, locals := 22 }
/-- a cost as told: -1 from FAR on -/
def cst (c : Nat) : Int32 := if c < 1000000 then nI c else -1
theorem flX0_costOf_30 : FL wsX0_costOf RX0 30 0 5 := ⟨RX0, TX0, 7, rfl, by decide, by decide +kernel, by decide +kernel⟩
theorem flX0_costOf_33 : FL wsX0_costOf RX0 33 0 0 := ⟨RX0, TX0, 7, rfl, by decide, by decide +kernel, by decide +kernel⟩
set_option maxRecDepth 100000 in
theorem mX0_costOf_0 : Cond.constant RX0 90 (1000000) ∈ wsX0_costOf := by decide +kernel
set_option maxHeartbeats 4000000 in
set_option maxRecDepth 100000 in
theorem c_costOf {w : pW} {fo sc pr ar de ms mn nt : Nat} {fa ev be cu st me pa : Nat} {f : Nat → Int32} {u : Nat → Nat → Nat} {bh : Nat → Option Nat} {cm : Nat} {bf nx av ah : Option Nat} {cl pe pb pc an : Nat} {cn : Nat} {d : Nat → Nat} (hfo : w fo = some (.inr (0, [.ref sc, .ref pr, .ref ar, .ref de, .ref ms, .ref mn, .int (nI nt)]))) (hs : w sc = some (.inr (3, [.ref fa, .int (nI ev), .int (nI be), .int (nI cu), .int (nI st), .int (nI me), .int (nI pa)]))) (hf : w fa = some (.inl (0, 1400, .inl f))) (hm : w mn = some (.inr (1, [va_rf bf, va_rf nx, .ref cm, .int (nI cl), .int (nI pe), .int (nI pb), .int (nI pc), .int (nI an), va_rf av, va_rf ah]))) (hc : w cm = some (.inl (0, cn, .inl (fun j9 => nI (d j9))))) (hM : Mus f ev st u bh) (hst : st ≤ cn) (hcn : cn ≤ 100000) (hdd : ∀ j, d j ≤ 1000000) (hN : va_nd [fa, cm] = true) {e b : Nat} (he : e < ev) (hb : b < 2 ^ u 1 e) : Ct yX0_costOf wsX0_costOf rX0_costOf [.ref fo, .int (nI e), .int (nI b)] w (fun o w9 => o = .inl (some (.int (cst (d (sumP (u 1) e + b))))) ∧ w9 = w) := by
  refine Ct.of (cc := cX0_costOf) (own := RX0) (nm := "costOf") (nL := 4) (ret := (some .int)) (by decide +kernel) rfl rfl rfl (Nat.le_of_ble_eq_true rfl) ?_
  refine j_lvE (lv' := [(0, .ref fo), (1, .int (nI e)), (2, .int (nI b))]) rfl ?_
  have hev := hM.hev
  have hst0 := hM.hst
  have hrg := hM.rg (e := e) he
  have hbd := hM.bd (e := e) he
  refine j_aload_n dX0_costOf_0 0 rfl ?_
  refine j_get flX0_costOf_30 hfo rfl dX0_costOf_1 ?_
  refine j_aload_n dX0_costOf_4 0 rfl ?_
  refine j_get flX0_costOf_33 hfo rfl dX0_costOf_5 ?_
  refine j_iload_n dX0_costOf_8 1 rfl ?_
  refine j_bipush (v := nI 13) dX0_costOf_9 (by decide) ?_
  have hrg1 := Mus.rg (e := e) hM (by omega)
  have hbd2 := Mus.bd (e := e) hM (by omega)
  refine j_callV (rm := rX3_fact) (As := [.int (nI e), .int (nI 13)]) (st := [.ref mn]) (b0 := sc) (ci := 3) (na := 2) (c_fact (e := e) (c := 13) hs hf (by omega) (by omega)) (by intro E w9 h9; first | exact nomatch h9.1 | (obtain ⟨_, h9, _⟩ := h9; exact nomatch h9) | (obtain ⟨_, _, _, h9, _⟩ := h9; exact nomatch h9)) gX0_costOf_X3_fact rfl rfl hs (by decide +kernel) rfl ⟨Nat.le_of_ble_eq_true rfl, Nat.le_of_ble_eq_true rfl⟩ rfl (Nat.le_of_ble_eq_true rfl) dX0_costOf_11 ⟨(show 0 + 0 ≤ 0 by omega), (show 0 + 0 ≤ 0 by omega)⟩ (fun v3 w4 h5 => ?_)
  obtain ⟨h5, h6⟩ := h5
  cases h5
  subst w4
  refine j_after (st' := [.int (f (e * 14 + 13)), .ref mn]) (k' := 0) (n' := 0) rfl rfl rfl ?_
  refine j_eqi (y := nI (sumP (u 1) e)) (Mus.c13 hM (by omega)) ?_
  refine j_iload_n dX0_costOf_14 2 rfl ?_
  refine j_iaddN dX0_costOf_15 ?_
  have hb7 := hdd ((sumP (u 1) e) + b)
  refine j_callV (rm := rX1_costAt) (As := [.int (nI ((sumP (u 1) e) + b))]) (st := []) (b0 := mn) (ci := 1) (na := 1) (c_costAt (s := ((sumP (u 1) e) + b)) hm hc (by omega) (by omega)) (by intro E w9 h9; first | exact nomatch h9.1 | (obtain ⟨_, h9, _⟩ := h9; exact nomatch h9) | (obtain ⟨_, _, _, h9, _⟩ := h9; exact nomatch h9)) gX0_costOf_X1_costAt rfl rfl hm (by decide +kernel) rfl ⟨Nat.le_of_ble_eq_true rfl, Nat.le_of_ble_eq_true rfl⟩ rfl (Nat.le_of_ble_eq_true rfl) dX0_costOf_16 ⟨(show 0 + 0 ≤ 0 by omega), (show 0 + 0 ≤ 0 by omega)⟩ (fun v8 w9 h10 => ?_)
  obtain ⟨h10, h11⟩ := h10
  cases h10
  subst w9
  refine j_after (st' := [.int (nI (d ((sumP (u 1) e) + b)))]) (k' := 0) (n' := 0) rfl rfl rfl ?_
  refine j_istore_n (lv' := [(3, .int (nI (d ((sumP (u 1) e) + b)))), (0, .ref fo), (1, .int (nI e)), (2, .int (nI b))]) dX0_costOf_19 (Nat.le_of_ble_eq_true rfl) rfl ?_
  refine j_iload_n dX0_costOf_20 0 rfl ?_
  refine j_ldc (v := nI 1000000) dX0_costOf_21 mX0_costOf_0 ?_
  refine j_icmp_ltN 30 (by omega) (by omega) dX0_costOf_23 (by decide) (fun c23 => ?_) (fun c23 => ?_)
  · skip
    refine j_iload_n dX0_costOf_30 0 rfl ?_
    exact j_iret rfl ⟨by unfold cst; rw [if_pos (by omega)], rfl⟩ (show 0 ≤ 0 by omega) (show 0 ≤ 0 by omega) dX0_costOf_31
  · skip
    refine j_iconst (v := (-1)) dX0_costOf_26 (by decide) ?_
    refine j_goto 31 dX0_costOf_27 (by decide) ?_
    exact j_iret rfl ⟨by unfold cst; rw [if_neg (by omega)], rfl⟩ (show 0 ≤ 0 by omega) (show 0 ≤ 0 by omega) dX0_costOf_31
abbrev rX0_leastOf : Room := { frames := 2, cells := 0, slots := 0, locals := 44 }
/-- the least cost of an event's places -/
def leaE (d np : Nat → Nat) (e : Nat) : Nat := mfold d (2 ^ np e) (sumP np e) 1000000
theorem leaE_le {d np : Nat → Nat} {e : Nat} : leaE d np e ≤ 1000000 := mfold_acc
theorem flX0_leastOf_30 : FL wsX0_leastOf RX0 30 0 5 := ⟨RX0, TX0, 7, rfl, by decide, by decide +kernel, by decide +kernel⟩
set_option maxRecDepth 100000 in
theorem mX0_leastOf_0 : Cond.methodLink RX0 97 Lib.Math.min.name ∈ wsX0_leastOf := by decide +kernel
set_option maxRecDepth 100000 in
theorem mX0_leastOf_1 : Cond.static Lib.Math.min.name ∈ wsX0_leastOf := by decide +kernel
set_option maxRecDepth 100000 in
theorem mX0_leastOf_2 : Cond.initialized "java/lang/Math" ∈ wsX0_leastOf := by decide +kernel
set_option maxRecDepth 100000 in
theorem mX0_leastOf_3 : Cond.code Lib.Math.min.name Lib.Math.min.code 2 (some .int) ∈ wsX0_leastOf := by decide +kernel
set_option maxHeartbeats 4000000 in
set_option maxRecDepth 100000 in
theorem l_leastOf {w : pW} {fo sc pr ar de ms mn nt : Nat} {fa ev be cu st me pa : Nat} {f : Nat → Int32} {u : Nat → Nat → Nat} {bh : Nat → Option Nat} {cm : Nat} {bf nx av ah : Option Nat} {cl pe pb pc an : Nat} {cn : Nat} {d : Nat → Nat} (hfo : w fo = some (.inr (0, [.ref sc, .ref pr, .ref ar, .ref de, .ref ms, .ref mn, .int (nI nt)]))) (hs : w sc = some (.inr (3, [.ref fa, .int (nI ev), .int (nI be), .int (nI cu), .int (nI st), .int (nI me), .int (nI pa)]))) (hf : w fa = some (.inl (0, 1400, .inl f))) (hm : w mn = some (.inr (1, [va_rf bf, va_rf nx, .ref cm, .int (nI cl), .int (nI pe), .int (nI pb), .int (nI pc), .int (nI an), va_rf av, va_rf ah]))) (hc : w cm = some (.inl (0, cn, .inl (fun j9 => nI (d j9))))) (hM : Mus f ev st u bh) (hst : st ≤ cn) (hcn : cn ≤ 100000) (hdd : ∀ j, d j ≤ 1000000) (hN : va_nd [fa, cm] = true) {e R9 : Nat} (he : e < ev) : ∀ (m9 : Nat) (i : Nat) (acc : Nat), sumP (u 1) e + 2 ^ u 1 e - i < m9 → (sumP (u 1) e ≤ i) → (i ≤ sumP (u 1) e + 2 ^ u 1 e) → (acc ≤ 1000000) → (mfold d (sumP (u 1) e + 2 ^ u 1 e - i) i acc = R9) → J ((cX0_leastOf, RX0, 6, wsX0_leastOf), (rX0_leastOf, (some .int), "leastOf", []), fun o w9 => o = .inl (some (.int (nI R9))) ∧ w9 = w, fun _ _ _ => True) 29 [(0, .ref fo), (1, .int (nI e)), (2, .int (nI (sumP (u 1) e))), (3, .int (nI (sumP (u 1) e + (2 ^ u 1 e - 1)))), (4, .int (nI acc)), (5, .int (nI i))] [] w 0 0 := by
  intro m9
  induction m9 with
  | zero => intro i acc h9; omega
  | succ m9 ih =>
    intro i acc hm9 hi1 hi2 hacc hr
    have hev := hM.hev
    have hst0 := hM.hst
    have hrg := hM.rg (e := e) he
    have hbd := hM.bd (e := e) he
    refine j_iload dX0_leastOf_29 5 rfl ?_
    refine j_iload_n dX0_leastOf_31 3 rfl ?_
    refine j_icmp_gtN 57 (by omega) (by omega) dX0_leastOf_32 (by decide) (fun c32 => ?_) (fun c32 => ?_)
    · skip
      refine j_iload dX0_leastOf_57 4 rfl ?_
      exact j_iret rfl ⟨by rw [← hr, show sumP (u 1) e + 2 ^ u 1 e - i = 0 by omega]; rfl, rfl⟩ (show 0 ≤ 0 by omega) (show 0 ≤ 0 by omega) dX0_leastOf_59
    · skip
      refine j_iload dX0_leastOf_35 4 rfl ?_
      refine j_aload_n dX0_leastOf_37 0 rfl ?_
      refine j_get flX0_leastOf_30 hfo rfl dX0_leastOf_38 ?_
      refine j_iload dX0_leastOf_41 5 rfl ?_
      have hb1 := hdd i
      refine j_callV (rm := rX1_costAt) (As := [.int (nI i)]) (st := [.int (nI acc)]) (b0 := mn) (ci := 1) (na := 1) (c_costAt (s := i) hm hc (by omega) (by omega)) (by intro E w9 h9; first | exact nomatch h9.1 | (obtain ⟨_, h9, _⟩ := h9; exact nomatch h9) | (obtain ⟨_, _, _, h9, _⟩ := h9; exact nomatch h9)) gX0_leastOf_X1_costAt rfl rfl hm (by decide +kernel) rfl ⟨Nat.le_of_ble_eq_true rfl, Nat.le_of_ble_eq_true rfl⟩ rfl (Nat.le_of_ble_eq_true rfl) dX0_leastOf_43 ⟨(show 0 + 0 ≤ 0 by omega), (show 0 + 0 ≤ 0 by omega)⟩ (fun v2 w3 h4 => ?_)
      obtain ⟨h4, h5⟩ := h4
      cases h4
      subst w3
      refine j_after (st' := [.int (nI (d i)), .int (nI acc)]) (k' := 0) (n' := 0) rfl rfl rfl ?_
      refine j_min mX0_leastOf_0 mX0_leastOf_1 mX0_leastOf_2 mX0_leastOf_3 (Nat.le_of_ble_eq_true rfl) (Nat.le_of_ble_eq_true rfl) ⟨(show 0 ≤ 0 by omega), (show 0 ≤ 0 by omega)⟩ dX0_leastOf_46 ?_
      refine j_eqi (y := nI (min acc (d i))) (mnN (by omega) (by omega)) ?_
      refine j_istore (lv' := [(4, .int (nI (min acc (d i)))), (0, .ref fo), (1, .int (nI e)), (2, .int (nI (sumP (u 1) e))), (3, .int (nI (sumP (u 1) e + (2 ^ u 1 e - 1)))), (5, .int (nI i))]) dX0_leastOf_49 (Nat.le_of_ble_eq_true rfl) rfl ?_
      refine j_iinc (q := 5) (v := nI (i + 1)) (lv' := [(5, .int (nI (i + 1))), (4, .int (nI (min acc (d i)))), (0, .ref fo), (1, .int (nI e)), (2, .int (nI (sumP (u 1) e))), (3, .int (nI (sumP (u 1) e + (2 ^ u 1 e - 1))))]) dX0_leastOf_51 rfl (by first | exact nI_1 _ | exact nI_add _ _) (Nat.le_of_ble_eq_true rfl) rfl ?_
      refine j_goto 29 dX0_leastOf_54 (by decide) ?_
      refine j_lv (lv' := [(0, .ref fo), (1, .int (nI e)), (2, .int (nI (sumP (u 1) e))), (3, .int (nI (sumP (u 1) e + (2 ^ u 1 e - 1)))), (4, .int (nI (min acc (d i)))), (5, .int (nI (i + 1)))]) [2, 3, 4, 5, 1, 0] rfl ?_
      exact ih (i + 1) _ (by omega) (by omega) (by omega) (by omega) (by rw [← hr]; exact (mf_step (g := d) (by omega)).symm)
theorem flX0_leastOf_33 : FL wsX0_leastOf RX0 33 0 0 := ⟨RX0, TX0, 7, rfl, by decide, by decide +kernel, by decide +kernel⟩
set_option maxRecDepth 100000 in
theorem mX0_leastOf_4 : Cond.constant RX0 90 (1000000) ∈ wsX0_leastOf := by decide +kernel
set_option maxHeartbeats 4000000 in
set_option maxRecDepth 100000 in
theorem c_leastOf {w : pW} {fo sc pr ar de ms mn nt : Nat} {fa ev be cu st me pa : Nat} {f : Nat → Int32} {u : Nat → Nat → Nat} {bh : Nat → Option Nat} {cm : Nat} {bf nx av ah : Option Nat} {cl pe pb pc an : Nat} {cn : Nat} {d : Nat → Nat} (hfo : w fo = some (.inr (0, [.ref sc, .ref pr, .ref ar, .ref de, .ref ms, .ref mn, .int (nI nt)]))) (hs : w sc = some (.inr (3, [.ref fa, .int (nI ev), .int (nI be), .int (nI cu), .int (nI st), .int (nI me), .int (nI pa)]))) (hf : w fa = some (.inl (0, 1400, .inl f))) (hm : w mn = some (.inr (1, [va_rf bf, va_rf nx, .ref cm, .int (nI cl), .int (nI pe), .int (nI pb), .int (nI pc), .int (nI an), va_rf av, va_rf ah]))) (hc : w cm = some (.inl (0, cn, .inl (fun j9 => nI (d j9))))) (hM : Mus f ev st u bh) (hst : st ≤ cn) (hcn : cn ≤ 100000) (hdd : ∀ j, d j ≤ 1000000) (hN : va_nd [fa, cm] = true) {e : Nat} (he : e < ev) : Ct yX0_leastOf wsX0_leastOf rX0_leastOf [.ref fo, .int (nI e)] w (fun o w9 => o = .inl (some (.int (nI (leaE d (u 1) e)))) ∧ w9 = w) := by
  refine Ct.of (cc := cX0_leastOf) (own := RX0) (nm := "leastOf") (nL := 6) (ret := (some .int)) (by decide +kernel) rfl rfl rfl (Nat.le_of_ble_eq_true rfl) ?_
  refine j_lvE (lv' := [(0, .ref fo), (1, .int (nI e))]) rfl ?_
  have hev := hM.hev
  have hst0 := hM.hst
  have hrg := hM.rg (e := e) he
  have hbd := hM.bd (e := e) he
  refine j_aload_n dX0_leastOf_0 0 rfl ?_
  refine j_get flX0_leastOf_33 hfo rfl dX0_leastOf_1 ?_
  refine j_iload_n dX0_leastOf_4 1 rfl ?_
  refine j_bipush (v := nI 13) dX0_leastOf_5 (by decide) ?_
  have hrg1 := Mus.rg (e := e) hM (by omega)
  have hbd2 := Mus.bd (e := e) hM (by omega)
  refine j_callV (rm := rX3_fact) (As := [.int (nI e), .int (nI 13)]) (st := []) (b0 := sc) (ci := 3) (na := 2) (c_fact (e := e) (c := 13) hs hf (by omega) (by omega)) (by intro E w9 h9; first | exact nomatch h9.1 | (obtain ⟨_, h9, _⟩ := h9; exact nomatch h9) | (obtain ⟨_, _, _, h9, _⟩ := h9; exact nomatch h9)) gX0_leastOf_X3_fact rfl rfl hs (by decide +kernel) rfl ⟨Nat.le_of_ble_eq_true rfl, Nat.le_of_ble_eq_true rfl⟩ rfl (Nat.le_of_ble_eq_true rfl) dX0_leastOf_7 ⟨(show 0 + 0 ≤ 0 by omega), (show 0 + 0 ≤ 0 by omega)⟩ (fun v3 w4 h5 => ?_)
  obtain ⟨h5, h6⟩ := h5
  cases h5
  subst w4
  refine j_after (st' := [.int (f (e * 14 + 13))]) (k' := 0) (n' := 0) rfl rfl rfl ?_
  refine j_eqi (y := nI (sumP (u 1) e)) (Mus.c13 hM (by omega)) ?_
  refine j_istore_n (lv' := [(2, .int (nI (sumP (u 1) e))), (0, .ref fo), (1, .int (nI e))]) dX0_leastOf_10 (Nat.le_of_ble_eq_true rfl) rfl ?_
  refine j_iload_n dX0_leastOf_11 0 rfl ?_
  refine j_aload_n dX0_leastOf_12 1 rfl ?_
  refine j_get flX0_leastOf_33 hfo rfl dX0_leastOf_13 ?_
  refine j_iload_n dX0_leastOf_16 2 rfl ?_
  refine j_callV (rm := rX3_allBits) (As := [.int (nI e)]) (st := [.int (nI (sumP (u 1) e))]) (b0 := sc) (ci := 3) (na := 1) (c_allBits (e := e) (np := (u 1 e)) hs hf (by omega) (Mus.bd (e := e) hM (by omega)).2.1 (Mus.c1 hM (by omega))) (by intro E w9 h9; first | exact nomatch h9.1 | (obtain ⟨_, h9, _⟩ := h9; exact nomatch h9) | (obtain ⟨_, _, _, h9, _⟩ := h9; exact nomatch h9)) gX0_leastOf_X3_allBits rfl rfl hs (by decide +kernel) rfl ⟨Nat.le_of_ble_eq_true rfl, Nat.le_of_ble_eq_true rfl⟩ rfl (Nat.le_of_ble_eq_true rfl) dX0_leastOf_17 ⟨(show 0 + 0 ≤ 0 by omega), (show 0 + 0 ≤ 0 by omega)⟩ (fun v7 w8 h9 => ?_)
  obtain ⟨h9, h10⟩ := h9
  cases h9
  subst w8
  refine j_after (st' := [.int (nI (2 ^ (u 1 e) - 1)), .int (nI (sumP (u 1) e))]) (k' := 0) (n' := 0) rfl rfl rfl ?_
  refine j_iaddN dX0_leastOf_20 ?_
  refine j_istore_n (lv' := [(3, .int (nI ((sumP (u 1) e) + (2 ^ (u 1 e) - 1)))), (2, .int (nI (sumP (u 1) e))), (0, .ref fo), (1, .int (nI e))]) dX0_leastOf_21 (Nat.le_of_ble_eq_true rfl) rfl ?_
  refine j_ldc (v := nI 1000000) dX0_leastOf_22 mX0_leastOf_4 ?_
  refine j_istore (lv' := [(4, .int (nI 1000000)), (3, .int (nI ((sumP (u 1) e) + (2 ^ (u 1 e) - 1)))), (2, .int (nI (sumP (u 1) e))), (0, .ref fo), (1, .int (nI e))]) dX0_leastOf_24 (Nat.le_of_ble_eq_true rfl) rfl ?_
  refine j_iload_n dX0_leastOf_26 2 rfl ?_
  refine j_istore (lv' := [(5, .int (nI (sumP (u 1) e))), (4, .int (nI 1000000)), (3, .int (nI ((sumP (u 1) e) + (2 ^ (u 1 e) - 1)))), (2, .int (nI (sumP (u 1) e))), (0, .ref fo), (1, .int (nI e))]) dX0_leastOf_27 (Nat.le_of_ble_eq_true rfl) rfl ?_
  refine j_lv (lv' := [(0, .ref fo), (1, .int (nI e)), (2, .int (nI (sumP (u 1) e))), (3, .int (nI (sumP (u 1) e + (2 ^ u 1 e - 1)))), (4, .int (nI 1000000)), (5, .int (nI (sumP (u 1) e)))]) [4, 5, 3, 2, 1, 0] rfl ?_
  exact l_leastOf hfo hs hf hm hc hM (by omega) (by omega) hdd hN he (2 ^ u 1 e + 1) (sumP (u 1) e) 1000000 (by omega) (by omega) (by omega) (by omega) (by rw [Nat.add_sub_cancel_left]; rfl)
abbrev rX0_leadOverOtherMeasures : Room := { frames := 3, cells := 0, slots := 0, locals := 69 }
/-- the least cost in another measure than h's, from event i on -/
def leaM (d np ms : Nat → Nat) (h : Nat) : Nat → Nat → Nat → Nat
  | 0, _, acc => acc
  | k + 1, i, acc => leaM d np ms h k (i + 1) (if ms i = h then acc else min acc (leaE d np i))
theorem leaM_step {d np ms : Nat → Nat} {h ev i acc : Nat} (hi : i < ev) : leaM d np ms h (ev - i) i acc = leaM d np ms h (ev - (i + 1)) (i + 1) (if ms i = h then acc else min acc (leaE d np i)) := by
  obtain ⟨k, hk⟩ : ∃ k, ev - i = k + 1 := ⟨ev - i - 1, by omega⟩
  rw [hk, show ev - (i + 1) = k by omega]
  rfl
theorem leaM_ge {d np ms : Nat → Nat} {h B : Nat} : ∀ {k i acc : Nat}, B ≤ acc → (∀ j, j < i + k → i ≤ j → B ≤ leaE d np j) → B ≤ leaM d np ms h k i acc
  | 0, i, acc, h1, _ => h1
  | k + 1, i, acc, h1, h2 => by
    unfold leaM
    refine leaM_ge ?_ (fun j hj hij => h2 j (by omega) (by omega))
    split
    · exact h1
    · have := h2 i (by omega) (Nat.le_refl _)
      omega
def surN (m c : Nat) : Int32 := if m < 1000000 then nI (m - c) else -1
theorem flX0_leadOverOtherMeasures_33 : FL wsX0_leadOverOtherMeasures RX0 33 0 0 := ⟨RX0, TX0, 7, rfl, by decide, by decide +kernel, by decide +kernel⟩
theorem flX0_leadOverOtherMeasures_91 : FL wsX0_leadOverOtherMeasures RX0 91 3 1 := ⟨RX3, TX3, 7, rfl, by decide, by decide +kernel, by decide +kernel⟩
set_option maxRecDepth 100000 in
theorem mX0_leadOverOtherMeasures_0 : Cond.constant RX0 90 (1000000) ∈ wsX0_leadOverOtherMeasures := by decide +kernel
theorem flX0_leadOverOtherMeasures_30 : FL wsX0_leadOverOtherMeasures RX0 30 0 5 := ⟨RX0, TX0, 7, rfl, by decide, by decide +kernel, by decide +kernel⟩
theorem flX0_leadOverOtherMeasures_51 : FL wsX0_leadOverOtherMeasures RX0 51 1 6 := ⟨RX1, TX1, 10, rfl, by decide, by decide +kernel, by decide +kernel⟩
set_option maxRecDepth 100000 in
theorem mX0_leadOverOtherMeasures_1 : Cond.methodLink RX0 97 Lib.Math.min.name ∈ wsX0_leadOverOtherMeasures := by decide +kernel
set_option maxRecDepth 100000 in
theorem mX0_leadOverOtherMeasures_2 : Cond.static Lib.Math.min.name ∈ wsX0_leadOverOtherMeasures := by decide +kernel
set_option maxRecDepth 100000 in
theorem mX0_leadOverOtherMeasures_3 : Cond.initialized "java/lang/Math" ∈ wsX0_leadOverOtherMeasures := by decide +kernel
set_option maxRecDepth 100000 in
theorem mX0_leadOverOtherMeasures_4 : Cond.code Lib.Math.min.name Lib.Math.min.code 2 (some .int) ∈ wsX0_leadOverOtherMeasures := by decide +kernel
set_option maxHeartbeats 4000000 in
set_option maxRecDepth 100000 in
theorem l_leadOver {w : pW} {fo sc pr ar de ms mn nt : Nat} {fa ev be cu st me pa : Nat} {f : Nat → Int32} {u : Nat → Nat → Nat} {bh : Nat → Option Nat} {cm : Nat} {bf nx av ah : Option Nat} {cl pe pb pc an : Nat} {cn : Nat} {d : Nat → Nat} (hfo : w fo = some (.inr (0, [.ref sc, .ref pr, .ref ar, .ref de, .ref ms, .ref mn, .int (nI nt)]))) (hs : w sc = some (.inr (3, [.ref fa, .int (nI ev), .int (nI be), .int (nI cu), .int (nI st), .int (nI me), .int (nI pa)]))) (hf : w fa = some (.inl (0, 1400, .inl f))) (hm : w mn = some (.inr (1, [va_rf bf, va_rf nx, .ref cm, .int (nI cl), .int (nI pe), .int (nI pb), .int (nI pc), .int (nI an), va_rf av, va_rf ah]))) (hc : w cm = some (.inl (0, cn, .inl (fun j9 => nI (d j9))))) (hM : Mus f ev st u bh) (hst : st ≤ cn) (hcn : cn ≤ 100000) (hdd : ∀ j, d j ≤ 1000000) (hN : va_nd [fa, cm] = true) {R9 : Nat} (hpe : pe < ev) (hpc : ∀ e, e < ev → pc ≤ leaE d (u 1) e) (hpc1 : pc ≤ 1000000) : ∀ (m9 : Nat) (i : Nat) (acc : Nat), ev - i < m9 → (i ≤ ev) → (acc ≤ 1000000) → (pc ≤ acc) → (leaM d (u 1) (u 4) (u 4 pe) (ev - i) i acc = R9) → J ((cX0_leadOverOtherMeasures, RX0, 4, wsX0_leadOverOtherMeasures), (rX0_leadOverOtherMeasures, (some .int), "leadOverOtherMeasures", []), fun o w9 => o = .inl (some (.int (surN R9 pc))) ∧ w9 = w, fun _ _ _ => True) 21 [(0, .ref fo), (1, .int (nI (u 4 pe))), (2, .int (nI acc)), (3, .int (nI i))] [] w 0 0 := by
  intro m9
  induction m9 with
  | zero => intro i acc h9; omega
  | succ m9 ih =>
    intro i acc hm9 hi hacc hac2 hr
    have hev := hM.hev
    have hst0 := hM.hst
    have hbdp := hM.bd (e := pe) hpe
    refine j_iload_n dX0_leadOverOtherMeasures_21 3 rfl ?_
    refine j_aload_n dX0_leadOverOtherMeasures_22 0 rfl ?_
    refine j_get flX0_leadOverOtherMeasures_33 hfo rfl dX0_leadOverOtherMeasures_23 ?_
    refine j_get flX0_leadOverOtherMeasures_91 hs rfl dX0_leadOverOtherMeasures_26 ?_
    refine j_icmp_geN 61 (by omega) (by omega) dX0_leadOverOtherMeasures_29 (by decide) (fun c29 => ?_) (fun c29 => ?_)
    · skip
      have hr9 : acc = R9 := by rw [← hr, show ev - i = 0 by omega]; rfl
      refine j_iload_n dX0_leadOverOtherMeasures_61 2 rfl ?_
      refine j_ldc (v := nI 1000000) dX0_leadOverOtherMeasures_62 mX0_leadOverOtherMeasures_0 ?_
      refine j_icmp_ltN 71 (by omega) (by omega) dX0_leadOverOtherMeasures_64 (by decide) (fun c64 => ?_) (fun c64 => ?_)
      · skip
        refine j_iload_n dX0_leadOverOtherMeasures_71 2 rfl ?_
        refine j_aload_n dX0_leadOverOtherMeasures_72 0 rfl ?_
        refine j_get flX0_leadOverOtherMeasures_30 hfo rfl dX0_leadOverOtherMeasures_73 ?_
        refine j_get flX0_leadOverOtherMeasures_51 hm rfl dX0_leadOverOtherMeasures_76 ?_
        refine j_isubN (by omega) dX0_leadOverOtherMeasures_79 ?_
        exact j_iret rfl ⟨by rw [← hr9]; unfold surN; rw [if_pos (by omega)], rfl⟩ (show 0 ≤ 0 by omega) (show 0 ≤ 0 by omega) dX0_leadOverOtherMeasures_80
      · skip
        refine j_iconst (v := (-1)) dX0_leadOverOtherMeasures_67 (by decide) ?_
        refine j_goto 80 dX0_leadOverOtherMeasures_68 (by decide) ?_
        exact j_iret rfl ⟨by rw [← hr9]; unfold surN; rw [if_neg (by omega)], rfl⟩ (show 0 ≤ 0 by omega) (show 0 ≤ 0 by omega) dX0_leadOverOtherMeasures_80
    · skip
      refine j_aload_n dX0_leadOverOtherMeasures_32 0 rfl ?_
      refine j_get flX0_leadOverOtherMeasures_33 hfo rfl dX0_leadOverOtherMeasures_33 ?_
      refine j_iload_n dX0_leadOverOtherMeasures_36 3 rfl ?_
      refine j_iconst (v := nI 4) dX0_leadOverOtherMeasures_37 (by decide) ?_
      have hrg1 := Mus.rg (e := i) hM (by omega)
      have hbd2 := Mus.bd (e := i) hM (by omega)
      refine j_callV (rm := rX3_fact) (As := [.int (nI i), .int (nI 4)]) (st := []) (b0 := sc) (ci := 3) (na := 2) (c_fact (e := i) (c := 4) hs hf (by omega) (by omega)) (by intro E w9 h9; first | exact nomatch h9.1 | (obtain ⟨_, h9, _⟩ := h9; exact nomatch h9) | (obtain ⟨_, _, _, h9, _⟩ := h9; exact nomatch h9)) gX0_leadOverOtherMeasures_X3_fact rfl rfl hs (by decide +kernel) rfl ⟨Nat.le_of_ble_eq_true rfl, Nat.le_of_ble_eq_true rfl⟩ rfl (Nat.le_of_ble_eq_true rfl) dX0_leadOverOtherMeasures_38 ⟨(show 0 + 0 ≤ 0 by omega), (show 0 + 0 ≤ 0 by omega)⟩ (fun v3 w4 h5 => ?_)
      obtain ⟨h5, h6⟩ := h5
      cases h5
      subst w4
      refine j_after (st' := [.int (f (i * 14 + 4))]) (k' := 0) (n' := 0) rfl rfl rfl ?_
      refine j_eqi (y := nI (u 4 i)) (Mus.c4 hM (by omega)) ?_
      refine j_iload_n dX0_leadOverOtherMeasures_41 1 rfl ?_
      refine j_icmp_eqN 55 (by omega) (by omega) dX0_leadOverOtherMeasures_42 (by decide) (fun c42 => ?_) (fun c42 => ?_)
      · skip
        refine j_iinc (q := 3) (v := nI (i + 1)) (lv' := [(3, .int (nI (i + 1))), (0, .ref fo), (1, .int (nI (u 4 pe))), (2, .int (nI acc))]) dX0_leadOverOtherMeasures_55 rfl (by first | exact nI_1 _ | exact nI_add _ _) (Nat.le_of_ble_eq_true rfl) rfl ?_
        refine j_goto 21 dX0_leadOverOtherMeasures_58 (by decide) ?_
        refine j_lv (lv' := [(0, .ref fo), (1, .int (nI (u 4 pe))), (2, .int (nI acc)), (3, .int (nI (i + 1)))]) [1, 2, 3, 0] rfl ?_
        exact ih (i + 1) _ (by omega) (by omega) (by omega) (by omega) (by rw [← hr, leaM_step (show i < ev by omega), if_pos c42])
      · skip
        have hpci := hpc i (by omega)
        refine j_iload_n dX0_leadOverOtherMeasures_45 2 rfl ?_
        refine j_aload_n dX0_leadOverOtherMeasures_46 0 rfl ?_
        refine j_iload_n dX0_leadOverOtherMeasures_47 3 rfl ?_
        have hb7 : leaE d (u 1) i ≤ 1000000 := leaE_le
        refine j_callV (rm := rX0_leastOf) (As := [.int (nI i)]) (st := [.int (nI acc)]) (b0 := fo) (ci := 0) (na := 1) (c_leastOf (e := i) hfo hs hf hm hc hM (by omega) (by omega) hdd hN (by omega)) (by intro E w9 h9; first | exact nomatch h9.1 | (obtain ⟨_, h9, _⟩ := h9; exact nomatch h9) | (obtain ⟨_, _, _, h9, _⟩ := h9; exact nomatch h9)) gX0_leadOverOtherMeasures_X0_leastOf rfl rfl hfo (by decide +kernel) rfl ⟨Nat.le_of_ble_eq_true rfl, Nat.le_of_ble_eq_true rfl⟩ rfl (Nat.le_of_ble_eq_true rfl) dX0_leadOverOtherMeasures_48 ⟨(show 0 + 0 ≤ 0 by omega), (show 0 + 0 ≤ 0 by omega)⟩ (fun v8 w9 h10 => ?_)
        obtain ⟨h10, h11⟩ := h10
        cases h10
        subst w9
        refine j_after (st' := [.int (nI (leaE d (u 1) i)), .int (nI acc)]) (k' := 0) (n' := 0) rfl rfl rfl ?_
        refine j_min mX0_leadOverOtherMeasures_1 mX0_leadOverOtherMeasures_2 mX0_leadOverOtherMeasures_3 mX0_leadOverOtherMeasures_4 (Nat.le_of_ble_eq_true rfl) (Nat.le_of_ble_eq_true rfl) ⟨(show 0 ≤ 0 by omega), (show 0 ≤ 0 by omega)⟩ dX0_leadOverOtherMeasures_51 ?_
        refine j_eqi (y := nI (min acc (leaE d (u 1) i))) (mnN (by omega) (by omega)) ?_
        refine j_istore_n (lv' := [(2, .int (nI (min acc (leaE d (u 1) i)))), (0, .ref fo), (1, .int (nI (u 4 pe))), (3, .int (nI i))]) dX0_leadOverOtherMeasures_54 (Nat.le_of_ble_eq_true rfl) rfl ?_
        refine j_iinc (q := 3) (v := nI (i + 1)) (lv' := [(3, .int (nI (i + 1))), (2, .int (nI (min acc (leaE d (u 1) i)))), (0, .ref fo), (1, .int (nI (u 4 pe)))]) dX0_leadOverOtherMeasures_55 rfl (by first | exact nI_1 _ | exact nI_add _ _) (Nat.le_of_ble_eq_true rfl) rfl ?_
        refine j_goto 21 dX0_leadOverOtherMeasures_58 (by decide) ?_
        refine j_lv (lv' := [(0, .ref fo), (1, .int (nI (u 4 pe))), (2, .int (nI (min acc (leaE d (u 1) i)))), (3, .int (nI (i + 1)))]) [2, 3, 1, 0] rfl ?_
        exact ih (i + 1) _ (by omega) (by omega) (by omega) (by omega) (by rw [← hr, leaM_step (show i < ev by omega), if_neg c42])
theorem flX0_leadOverOtherMeasures_74 : FL wsX0_leadOverOtherMeasures RX0 74 1 4 := ⟨RX1, TX1, 10, rfl, by decide, by decide +kernel, by decide +kernel⟩
set_option maxHeartbeats 4000000 in
set_option maxRecDepth 100000 in
theorem c_leadOver {w : pW} {fo sc pr ar de ms mn nt : Nat} {fa ev be cu st me pa : Nat} {f : Nat → Int32} {u : Nat → Nat → Nat} {bh : Nat → Option Nat} {cm : Nat} {bf nx av ah : Option Nat} {cl pe pb pc an : Nat} {cn : Nat} {d : Nat → Nat} (hfo : w fo = some (.inr (0, [.ref sc, .ref pr, .ref ar, .ref de, .ref ms, .ref mn, .int (nI nt)]))) (hs : w sc = some (.inr (3, [.ref fa, .int (nI ev), .int (nI be), .int (nI cu), .int (nI st), .int (nI me), .int (nI pa)]))) (hf : w fa = some (.inl (0, 1400, .inl f))) (hm : w mn = some (.inr (1, [va_rf bf, va_rf nx, .ref cm, .int (nI cl), .int (nI pe), .int (nI pb), .int (nI pc), .int (nI an), va_rf av, va_rf ah]))) (hc : w cm = some (.inl (0, cn, .inl (fun j9 => nI (d j9))))) (hM : Mus f ev st u bh) (hst : st ≤ cn) (hcn : cn ≤ 100000) (hdd : ∀ j, d j ≤ 1000000) (hN : va_nd [fa, cm] = true) (hpe : pe < ev) (hpc : ∀ e, e < ev → pc ≤ leaE d (u 1) e) (hpc1 : pc ≤ 1000000) : Ct yX0_leadOverOtherMeasures wsX0_leadOverOtherMeasures rX0_leadOverOtherMeasures [.ref fo] w (fun o w9 => o = .inl (some (.int (surN (leaM d (u 1) (u 4) (u 4 pe) ev 0 1000000) pc))) ∧ w9 = w) := by
  refine Ct.of (cc := cX0_leadOverOtherMeasures) (own := RX0) (nm := "leadOverOtherMeasures") (nL := 4) (ret := (some .int)) (by decide +kernel) rfl rfl rfl (Nat.le_of_ble_eq_true rfl) ?_
  refine j_lvE (lv' := [(0, .ref fo)]) rfl ?_
  have hev := hM.hev
  have hst0 := hM.hst
  refine j_aload_n dX0_leadOverOtherMeasures_0 0 rfl ?_
  refine j_get flX0_leadOverOtherMeasures_33 hfo rfl dX0_leadOverOtherMeasures_1 ?_
  refine j_aload_n dX0_leadOverOtherMeasures_4 0 rfl ?_
  refine j_get flX0_leadOverOtherMeasures_30 hfo rfl dX0_leadOverOtherMeasures_5 ?_
  refine j_get flX0_leadOverOtherMeasures_74 hm rfl dX0_leadOverOtherMeasures_8 ?_
  refine j_iconst (v := nI 4) dX0_leadOverOtherMeasures_11 (by decide) ?_
  have hrg1 := Mus.rg (e := pe) hM (by omega)
  have hbd2 := Mus.bd (e := pe) hM (by omega)
  refine j_callV (rm := rX3_fact) (As := [.int (nI pe), .int (nI 4)]) (st := []) (b0 := sc) (ci := 3) (na := 2) (c_fact (e := pe) (c := 4) hs hf (by omega) (by omega)) (by intro E w9 h9; first | exact nomatch h9.1 | (obtain ⟨_, h9, _⟩ := h9; exact nomatch h9) | (obtain ⟨_, _, _, h9, _⟩ := h9; exact nomatch h9)) gX0_leadOverOtherMeasures_X3_fact rfl rfl hs (by decide +kernel) rfl ⟨Nat.le_of_ble_eq_true rfl, Nat.le_of_ble_eq_true rfl⟩ rfl (Nat.le_of_ble_eq_true rfl) dX0_leadOverOtherMeasures_12 ⟨(show 0 + 0 ≤ 0 by omega), (show 0 + 0 ≤ 0 by omega)⟩ (fun v3 w4 h5 => ?_)
  obtain ⟨h5, h6⟩ := h5
  cases h5
  subst w4
  refine j_after (st' := [.int (f (pe * 14 + 4))]) (k' := 0) (n' := 0) rfl rfl rfl ?_
  refine j_eqi (y := nI (u 4 pe)) (Mus.c4 hM (by omega)) ?_
  refine j_istore_n (lv' := [(1, .int (nI (u 4 pe))), (0, .ref fo)]) dX0_leadOverOtherMeasures_15 (Nat.le_of_ble_eq_true rfl) rfl ?_
  refine j_ldc (v := nI 1000000) dX0_leadOverOtherMeasures_16 mX0_leadOverOtherMeasures_0 ?_
  refine j_istore_n (lv' := [(2, .int (nI 1000000)), (1, .int (nI (u 4 pe))), (0, .ref fo)]) dX0_leadOverOtherMeasures_18 (Nat.le_of_ble_eq_true rfl) rfl ?_
  refine j_iconst (v := nI 0) dX0_leadOverOtherMeasures_19 (by decide) ?_
  refine j_istore_n (lv' := [(3, .int (nI 0)), (2, .int (nI 1000000)), (1, .int (nI (u 4 pe))), (0, .ref fo)]) dX0_leadOverOtherMeasures_20 (Nat.le_of_ble_eq_true rfl) rfl ?_
  refine j_lv (lv' := [(0, .ref fo), (1, .int (nI (u 4 pe))), (2, .int (nI 1000000)), (3, .int (nI 0))]) [3, 2, 1, 0] rfl ?_
  exact l_leadOver hfo hs hf hm hc hM (by omega) (by omega) hdd hN hpe hpc hpc1 (ev + 1) 0 1000000 (by omega) (by omega) (by omega) (by omega) rfl
