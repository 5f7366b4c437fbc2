/-- FAR at the first n places -/
def clr (d : Nat → Nat) (n : Nat) : Nat → Nat := fun j => if j < n then 1000000 else d j
theorem clr_0 (d : Nat → Nat) : clr d 0 = d := by funext j; simp [clr]
theorem clr_s (d : Nat → Nat) (i : Nat) : va_up (clr d i) i 1000000 = clr d (i + 1) := by
  funext j
  by_cases h : j = i
  · subst h; rw [va_up_self]; simp [clr]
  · rw [va_up_ne _ _ h]
    by_cases h2 : j < i
    · simp [clr, h2, Nat.lt_succ_of_lt h2]
    · simp [clr, h2, show ¬ j < i + 1 by omega]
theorem clr_lt {d : Nat → Nat} {n j : Nat} (h : j < n) : clr d n j = 1000000 := by simp [clr, h]
/-- a cost is offered to a place -/
def offN (d : Nat → Nat) (cn s c : Nat) : Nat → Nat := if s < cn then va_up d s (min (d s) c) else d
abbrev rX1_init : Room := { frames := 1, cells := 1, slots := 0, locals := 24 }
set_option maxRecDepth 100000 in
theorem mX1_init_0 : Cond.methodLink RX1 1 objectInit ∈ wsX1_init := by decide +kernel
set_option maxRecDepth 100000 in
theorem mX1_init_1 : Cond.instanceMethod objectInit ∈ wsX1_init := by decide +kernel
set_option maxRecDepth 100000 in
theorem mX1_init_2 : Cond.code objectInit ⟨#[0xb1]⟩ 1 none ∈ wsX1_init := by decide +kernel
set_option maxRecDepth 100000 in
theorem mX1_init_3 : Cond.arrayClass .int ∈ wsX1_init := by decide +kernel
theorem fsX1_init_7 : FS wsX1_init RX1 7 1 2 false (.array .int) := ⟨RX1, TX1, 10, tyX1, rfl, by decide, by decide +kernel, by decide +kernel, tyX1_ok, nmX1, rfl, rfl, rfl⟩
theorem fsX1_init_13 : FS wsX1_init RX1 13 1 0 true (.object "PageTurner$Moment") := ⟨RX1, TX1, 10, tyX1, rfl, by decide, by decide +kernel, by decide +kernel, tyX1_ok, nmX1, rfl, rfl, rfl⟩
set_option maxHeartbeats 4000000 in
set_option maxRecDepth 100000 in
theorem c_Moment_init0 {w : pW} {mo : Nat} (hm : w mo = some (.inr (1, [.null, .null, .null, .int (nI 0), .int (nI 0), .int (nI 0), .int (nI 0), .int (nI 0), .null, .null]))) : Ct yX1_init wsX1_init rX1_init [.ref mo, .null] w (fun o w9 => ∃ q : Nat, o = .inl none ∧ w q = none ∧ w9 = va_up (va_up w q (some (.inl (0, 0, .inl (fun j9 => nI ((fun _ => 0) j9)))))) mo (some (.inr (1, [.null, .null, .ref q, .int (nI 0), .int (nI 0), .int (nI 0), .int (nI 0), .int (nI 0), .null, .null])))) := by
  refine Ct.of (cc := cX1_init) (own := RX1) (nm := "<init>") (nL := 2) (ret := none) (by decide +kernel) rfl rfl rfl (Nat.le_of_ble_eq_true rfl) ?_
  refine j_lvE (lv' := [(0, .ref mo), (1, .null)]) rfl ?_
  refine j_aload_n dX1_init_0 0 rfl ?_
  refine j_objInit mX1_init_0 mX1_init_1 mX1_init_2 dX1_init_1 (Nat.le_of_ble_eq_true rfl) (Nat.le_of_ble_eq_true rfl) ?_
  refine j_aload_n dX1_init_4 0 rfl ?_
  refine j_iconst (v := nI 0) dX1_init_5 (by decide) ?_
  refine j_newi (N := 0) mX1_init_3 (nI_pos (by omega)) (nI_clamp (by omega)) (by omega) (show 0 + 1 ≤ 1 by omega) (show 0 + 0 ≤ 0 by omega) dX1_init_6 (fun q1 hq1 => ?_)
  refine j_after (st' := [.ref q1, .ref mo]) (k' := 1) (n' := 0) rfl (by first | rfl | omega) (by first | rfl | omega) ?_
  refine j_w (fun w2 hw2 => ?_)
  have n4 : mo ≠ q1 := fn hm hq1
  have f3 := up_ne hw2 n4 hm
  have f5 : w2 q1 = some (.inl (0, 0, .inl (fun j9 => nI ((fun _ => 0) j9)))) := up_at hw2
  refine j_put (fs9 := [.null, .null, .ref q1, .int (nI 0), .int (nI 0), .int (nI 0), .int (nI 0), .int (nI 0), .null, .null]) fsX1_init_7 f3 rfl rfl (Nat.le_of_ble_eq_true rfl) rfl dX1_init_8 ?_
  refine j_w (fun w6 hw6 => ?_)
  have f7 : w6 mo = some (.inr (1, [.null, .null, .ref q1, .int (nI 0), .int (nI 0), .int (nI 0), .int (nI 0), .int (nI 0), .null, .null])) := up_at hw6
  have f8 := up_ne hw6 (Ne.symm n4) f5
  refine j_aload_n dX1_init_11 0 rfl ?_
  refine j_aload_nN dX1_init_12 1 rfl ?_
  refine j_putF (fs9 := [va_rf none, .null, .ref q1, .int (nI 0), .int (nI 0), .int (nI 0), .int (nI 0), .int (nI 0), .null, .null]) fsX1_init_13 f7 rfl (by intro C T N hc; cases hc; rfl) rfl rfl (Nat.le_of_ble_eq_true rfl) rfl dX1_init_13 ?_
  refine j_w (fun w9 hw9 => ?_)
  have f10 : w9 mo = some (.inr (1, [va_rf none, .null, .ref q1, .int (nI 0), .int (nI 0), .int (nI 0), .int (nI 0), .int (nI 0), .null, .null])) := up_at hw9
  have f11 := up_ne hw9 (Ne.symm n4) f8
  exact j_vret rfl ⟨q1, rfl, hq1, by rw [hw9, hw6, hw2] <;> (try simp only [bx_uu]) <;> (try rfl)⟩ (show 1 ≤ 1 by omega) (show 0 ≤ 0 by omega) dX1_init_16
set_option maxHeartbeats 4000000 in
set_option maxRecDepth 100000 in
theorem c_Moment_init1 {w : pW} {mo : Nat} {b : Nat} (hm : w mo = some (.inr (1, [.null, .null, .null, .int (nI 0), .int (nI 0), .int (nI 0), .int (nI 0), .int (nI 0), .null, .null]))) : Ct yX1_init wsX1_init rX1_init [.ref mo, .ref b] w (fun o w9 => ∃ q : Nat, o = .inl none ∧ w q = none ∧ w9 = va_up (va_up w q (some (.inl (0, 0, .inl (fun j9 => nI ((fun _ => 0) j9)))))) mo (some (.inr (1, [.ref b, .null, .ref q, .int (nI 0), .int (nI 0), .int (nI 0), .int (nI 0), .int (nI 0), .null, .null])))) := by
  refine Ct.of (cc := cX1_init) (own := RX1) (nm := "<init>") (nL := 2) (ret := none) (by decide +kernel) rfl rfl rfl (Nat.le_of_ble_eq_true rfl) ?_
  refine j_lvE (lv' := [(0, .ref mo), (1, .ref b)]) rfl ?_
  refine j_aload_n dX1_init_0 0 rfl ?_
  refine j_objInit mX1_init_0 mX1_init_1 mX1_init_2 dX1_init_1 (Nat.le_of_ble_eq_true rfl) (Nat.le_of_ble_eq_true rfl) ?_
  refine j_aload_n dX1_init_4 0 rfl ?_
  refine j_iconst (v := nI 0) dX1_init_5 (by decide) ?_
  refine j_newi (N := 0) mX1_init_3 (nI_pos (by omega)) (nI_clamp (by omega)) (by omega) (show 0 + 1 ≤ 1 by omega) (show 0 + 0 ≤ 0 by omega) dX1_init_6 (fun q1 hq1 => ?_)
  refine j_after (st' := [.ref q1, .ref mo]) (k' := 1) (n' := 0) rfl (by first | rfl | omega) (by first | rfl | omega) ?_
  refine j_w (fun w2 hw2 => ?_)
  have n4 : mo ≠ q1 := fn hm hq1
  have f3 := up_ne hw2 n4 hm
  have f5 : w2 q1 = some (.inl (0, 0, .inl (fun j9 => nI ((fun _ => 0) j9)))) := up_at hw2
  refine j_put (fs9 := [.null, .null, .ref q1, .int (nI 0), .int (nI 0), .int (nI 0), .int (nI 0), .int (nI 0), .null, .null]) fsX1_init_7 f3 rfl rfl (Nat.le_of_ble_eq_true rfl) rfl dX1_init_8 ?_
  refine j_w (fun w6 hw6 => ?_)
  have f7 : w6 mo = some (.inr (1, [.null, .null, .ref q1, .int (nI 0), .int (nI 0), .int (nI 0), .int (nI 0), .int (nI 0), .null, .null])) := up_at hw6
  have f8 := up_ne hw6 (Ne.symm n4) f5
  refine j_aload_n dX1_init_11 0 rfl ?_
  refine j_aload_n dX1_init_12 1 rfl ?_
  refine j_putF (fs9 := [va_rf (some b), .null, .ref q1, .int (nI 0), .int (nI 0), .int (nI 0), .int (nI 0), .int (nI 0), .null, .null]) fsX1_init_13 f7 rfl (by intro C T N hc; cases hc; rfl) rfl rfl (Nat.le_of_ble_eq_true rfl) rfl dX1_init_13 ?_
  refine j_w (fun w9 hw9 => ?_)
  have f10 : w9 mo = some (.inr (1, [va_rf (some b), .null, .ref q1, .int (nI 0), .int (nI 0), .int (nI 0), .int (nI 0), .int (nI 0), .null, .null])) := up_at hw9
  have f11 := up_ne hw9 (Ne.symm n4) f8
  exact j_vret rfl ⟨q1, rfl, hq1, by rw [hw9, hw6, hw2] <;> (try simp only [bx_uu]) <;> (try rfl)⟩ (show 1 ≤ 1 by omega) (show 0 ≤ 0 by omega) dX1_init_16
abbrev rX1_clear : Room := { frames := 0, cells := 1, slots := 1600, locals := 0 }
theorem fsX1_clear_18 : FS wsX1_clear RX1 18 1 4 false (.int) := ⟨RX1, TX1, 10, tyX1, rfl, by decide, by decide +kernel, by decide +kernel, tyX1_ok, nmX1, rfl, rfl, rfl⟩
theorem fsX1_clear_22 : FS wsX1_clear RX1 22 1 5 false (.int) := ⟨RX1, TX1, 10, tyX1, rfl, by decide, by decide +kernel, by decide +kernel, tyX1_ok, nmX1, rfl, rfl, rfl⟩
set_option maxRecDepth 100000 in
theorem mX1_clear_0 : Cond.constant RX1 17 (1000000) ∈ wsX1_clear := by decide +kernel
theorem fsX1_clear_25 : FS wsX1_clear RX1 25 1 6 false (.int) := ⟨RX1, TX1, 10, tyX1, rfl, by decide, by decide +kernel, by decide +kernel, tyX1_ok, nmX1, rfl, rfl, rfl⟩
theorem fsX1_clear_28 : FS wsX1_clear RX1 28 1 7 false (.int) := ⟨RX1, TX1, 10, tyX1, rfl, by decide, by decide +kernel, by decide +kernel, tyX1_ok, nmX1, rfl, rfl, rfl⟩
theorem fsX1_clear_31 : FS wsX1_clear RX1 31 1 8 false (.object "PageTurner$Moment") := ⟨RX1, TX1, 10, tyX1, rfl, by decide, by decide +kernel, by decide +kernel, tyX1_ok, nmX1, rfl, rfl, rfl⟩
theorem fsX1_clear_34 : FS wsX1_clear RX1 34 1 9 false (.object "PageTurner$Moment") := ⟨RX1, TX1, 10, tyX1, rfl, by decide, by decide +kernel, by decide +kernel, tyX1_ok, nmX1, rfl, rfl, rfl⟩
theorem flX1_clear_7 : FL wsX1_clear RX1 7 1 2 := ⟨RX1, TX1, 10, rfl, by decide, by decide +kernel, by decide +kernel⟩
set_option maxHeartbeats 4000000 in
set_option maxRecDepth 100000 in
theorem l_clear {w : pW} {mo q : Nat} {bf nx av ah : Option Nat} {cl pe pb pc an cn st k0 n0 : Nat} {d : Nat → Nat} (hqm : q ≠ mo) (hcn : cn ≤ 100000) (hst : st ≤ cn) (hk0 : k0 ≤ 1) (hn0 : n0 ≤ 1600) : ∀ (m9 : Nat) (i : Nat) (wl : pW), st - i < m9 → (i ≤ st) → (wl = va_up (va_up w q (some (.inl (0, cn, .inl (fun j9 => nI ((clr d i) j9)))))) mo (some (.inr (1, [va_rf bf, va_rf nx, .ref q, .int (nI cl), .int (nI pe), .int (nI pb), .int (nI pc), .int (nI an), va_rf av, va_rf ah])))) → J ((cX1_clear, RX1, 3, wsX1_clear), (rX1_clear, none, "clear", []), fun o w9 => o = .inl none ∧ w9 = va_up (va_up w q (some (.inl (0, cn, .inl (fun j9 => nI ((clr d st) j9)))))) mo (some (.inr (1, [va_rf bf, va_rf nx, .ref q, .int (nI cl), .int (nI 0), .int (nI 0), .int (nI 1000000), .int (nI 0), va_rf none, va_rf none]))), fun _ _ _ => True) 18 [(0, .ref mo), (1, .int (nI st)), (2, .int (nI i))] [] wl k0 n0 := by
  intro m9
  induction m9 with
  | zero => intro i wl h9; omega
  | succ m9 ih =>
    intro i wl hm9 hi hwl
    have g1 : wl mo = some (.inr (1, [va_rf bf, va_rf nx, .ref q, .int (nI cl), .int (nI pe), .int (nI pb), .int (nI pc), .int (nI an), va_rf av, va_rf ah])) := by rw [hwl]; exact va_up_self _ _ _
    have g2 : wl q = some (.inl (0, cn, .inl (fun j9 => nI ((clr d i) j9)))) := by rw [hwl, va_up_ne _ _ hqm]; exact va_up_self _ _ _
    refine j_iload_n dX1_clear_18 2 rfl ?_
    refine j_iload_n dX1_clear_19 1 rfl ?_
    refine j_icmp_geN 46 (by omega) (by omega) dX1_clear_20 (by decide) (fun c20 => ?_) (fun c20 => ?_)
    · skip
      have hi9 : i = st := by omega
      refine j_aload_n dX1_clear_46 0 rfl ?_
      refine j_iconst (v := nI 0) dX1_clear_47 (by decide) ?_
      refine j_put (fs9 := [va_rf bf, va_rf nx, .ref q, .int (nI cl), .int (nI 0), .int (nI pb), .int (nI pc), .int (nI an), va_rf av, va_rf ah]) fsX1_clear_18 g1 rfl rfl (Nat.le_of_ble_eq_true rfl) rfl dX1_clear_48 ?_
      refine j_w (fun w1 hw1 => ?_)
      have f2 : w1 mo = some (.inr (1, [va_rf bf, va_rf nx, .ref q, .int (nI cl), .int (nI 0), .int (nI pb), .int (nI pc), .int (nI an), va_rf av, va_rf ah])) := up_at hw1
      have f3 := up_ne hw1 (fk g2 g1 rfl) g2
      refine j_aload_n dX1_clear_51 0 rfl ?_
      refine j_iconst (v := nI 0) dX1_clear_52 (by decide) ?_
      refine j_put (fs9 := [va_rf bf, va_rf nx, .ref q, .int (nI cl), .int (nI 0), .int (nI 0), .int (nI pc), .int (nI an), va_rf av, va_rf ah]) fsX1_clear_22 f2 rfl rfl (Nat.le_of_ble_eq_true rfl) rfl dX1_clear_53 ?_
      refine j_w (fun w4 hw4 => ?_)
      have f5 : w4 mo = some (.inr (1, [va_rf bf, va_rf nx, .ref q, .int (nI cl), .int (nI 0), .int (nI 0), .int (nI pc), .int (nI an), va_rf av, va_rf ah])) := up_at hw4
      have f6 := up_ne hw4 (fk f3 f2 rfl) f3
      refine j_aload_n dX1_clear_56 0 rfl ?_
      refine j_ldc (v := nI 1000000) dX1_clear_57 mX1_clear_0 ?_
      refine j_put (fs9 := [va_rf bf, va_rf nx, .ref q, .int (nI cl), .int (nI 0), .int (nI 0), .int (nI 1000000), .int (nI an), va_rf av, va_rf ah]) fsX1_clear_25 f5 rfl rfl (Nat.le_of_ble_eq_true rfl) rfl dX1_clear_59 ?_
      refine j_w (fun w7 hw7 => ?_)
      have f8 : w7 mo = some (.inr (1, [va_rf bf, va_rf nx, .ref q, .int (nI cl), .int (nI 0), .int (nI 0), .int (nI 1000000), .int (nI an), va_rf av, va_rf ah])) := up_at hw7
      have f9 := up_ne hw7 (fk f6 f5 rfl) f6
      refine j_aload_n dX1_clear_62 0 rfl ?_
      refine j_iconst (v := nI 0) dX1_clear_63 (by decide) ?_
      refine j_put (fs9 := [va_rf bf, va_rf nx, .ref q, .int (nI cl), .int (nI 0), .int (nI 0), .int (nI 1000000), .int (nI 0), va_rf av, va_rf ah]) fsX1_clear_28 f8 rfl rfl (Nat.le_of_ble_eq_true rfl) rfl dX1_clear_64 ?_
      refine j_w (fun w10 hw10 => ?_)
      have f11 : w10 mo = some (.inr (1, [va_rf bf, va_rf nx, .ref q, .int (nI cl), .int (nI 0), .int (nI 0), .int (nI 1000000), .int (nI 0), va_rf av, va_rf ah])) := up_at hw10
      have f12 := up_ne hw10 (fk f9 f8 rfl) f9
      refine j_aload_n dX1_clear_67 0 rfl ?_
      refine j_null dX1_clear_68 ?_
      refine j_put (fs9 := [va_rf bf, va_rf nx, .ref q, .int (nI cl), .int (nI 0), .int (nI 0), .int (nI 1000000), .int (nI 0), va_rf none, va_rf ah]) fsX1_clear_31 f11 rfl rfl (Nat.le_of_ble_eq_true rfl) rfl dX1_clear_69 ?_
      refine j_w (fun w13 hw13 => ?_)
      have f14 : w13 mo = some (.inr (1, [va_rf bf, va_rf nx, .ref q, .int (nI cl), .int (nI 0), .int (nI 0), .int (nI 1000000), .int (nI 0), va_rf none, va_rf ah])) := up_at hw13
      have f15 := up_ne hw13 (fk f12 f11 rfl) f12
      refine j_aload_n dX1_clear_72 0 rfl ?_
      refine j_null dX1_clear_73 ?_
      refine j_put (fs9 := [va_rf bf, va_rf nx, .ref q, .int (nI cl), .int (nI 0), .int (nI 0), .int (nI 1000000), .int (nI 0), va_rf none, va_rf none]) fsX1_clear_34 f14 rfl rfl (Nat.le_of_ble_eq_true rfl) rfl dX1_clear_74 ?_
      refine j_w (fun w16 hw16 => ?_)
      have f17 : w16 mo = some (.inr (1, [va_rf bf, va_rf nx, .ref q, .int (nI cl), .int (nI 0), .int (nI 0), .int (nI 1000000), .int (nI 0), va_rf none, va_rf none])) := up_at hw16
      have f18 := up_ne hw16 (fk f15 f14 rfl) f15
      exact j_vret rfl ⟨rfl, by rw [hw16, hw13, hw10, hw7, hw4, hw1, hwl]; simp only [bx_uu]; rw [hi9]; try rfl⟩ (show k0 ≤ 1 by omega) (show n0 ≤ 1600 by omega) dX1_clear_77
    · skip
      refine j_iload_n dX1_clear_23 2 rfl ?_
      refine j_aload_n dX1_clear_24 0 rfl ?_
      refine j_get flX1_clear_7 g1 rfl dX1_clear_25 ?_
      refine j_alen (v := nI cn) (by decide) g2 rfl dX1_clear_28 ?_
      refine j_icmp_geN 46 (by omega) (by omega) dX1_clear_29 (by decide) (fun c29 => ?_) (fun c29 => ?_)
      · skip
        exfalso; omega
      · skip
        refine j_aload_n dX1_clear_32 0 rfl ?_
        refine j_get flX1_clear_7 g1 rfl dX1_clear_33 ?_
        refine j_iload_n dX1_clear_36 2 rfl ?_
        refine j_ldc (v := nI 1000000) dX1_clear_37 mX1_clear_0 ?_
        refine j_iastn (j := i) (x := 1000000) g2 rfl (by omega) (by omega) dX1_clear_39 ?_
        refine j_w (fun w19 hw19 => ?_)
        have f20 := up_ne hw19 (fk g1 g2 rfl) g1
        have f21 : w19 q = some (.inl (0, cn, .inl (fun j9 => nI ((va_up (clr d i) i 1000000) j9)))) := up_at hw19
        refine j_iinc (q := 2) (v := nI (i + 1)) (lv' := [(2, .int (nI (i + 1))), (0, .ref mo), (1, .int (nI st))]) dX1_clear_40 rfl (by first | exact nI_1 _ | exact nI_add _ _) (Nat.le_of_ble_eq_true rfl) rfl ?_
        refine j_goto 18 dX1_clear_43 (by decide) ?_
        refine j_lv (lv' := [(0, .ref mo), (1, .int (nI st)), (2, .int (nI (i + 1)))]) [1, 2, 0] rfl ?_
        exact ih (i + 1) _ (by omega) (by omega) (by rw [hw19, hwl, up_sw (Ne.symm hqm)]; rw [bx_uu, clr_s])
set_option maxRecDepth 100000 in
theorem mX1_clear_1 : Cond.arrayClass .int ∈ wsX1_clear := by decide +kernel
theorem fsX1_clear_7 : FS wsX1_clear RX1 7 1 2 false (.array .int) := ⟨RX1, TX1, 10, tyX1, rfl, by decide, by decide +kernel, by decide +kernel, tyX1_ok, nmX1, rfl, rfl, rfl⟩
set_option maxHeartbeats 4000000 in
set_option maxRecDepth 100000 in
theorem c_mclear {w : pW} {mo ca : Nat} {bf nx av ah : Option Nat} {cl pe pb pc an cn : Nat} {d : Nat → Nat} (hm : w mo = some (.inr (1, [va_rf bf, va_rf nx, .ref ca, .int (nI cl), .int (nI pe), .int (nI pb), .int (nI pc), .int (nI an), va_rf av, va_rf ah]))) (hc : w ca = some (.inl (0, cn, .inl (fun j9 => nI (d j9))))) (hcn : cn ≤ 100000) {st : Nat} (hst : st ≤ 1600) : Ct yX1_clear wsX1_clear rX1_clear [.ref mo, .int (nI st)] w (fun o w9 => ∃ (q cn9 : Nat) (d9 : Nat → Nat), o = .inl none ∧ ((q = ca ∧ cn9 = cn ∧ d9 = d) ∨ (w q = none ∧ cn9 = st ∧ d9 = fun _ => 0)) ∧ st ≤ cn9 ∧ w9 = va_up (va_up w q (some (.inl (0, cn9, .inl (fun j9 => nI ((clr d9 st) j9)))))) mo (some (.inr (1, [va_rf bf, va_rf nx, .ref q, .int (nI cl), .int (nI 0), .int (nI 0), .int (nI 1000000), .int (nI 0), va_rf none, va_rf none])))) := by
  refine Ct.of (cc := cX1_clear) (own := RX1) (nm := "clear") (nL := 3) (ret := none) (by decide +kernel) rfl rfl rfl (Nat.le_of_ble_eq_true rfl) ?_
  refine j_lvE (lv' := [(0, .ref mo), (1, .int (nI st))]) rfl ?_
  refine j_iload_n dX1_clear_0 1 rfl ?_
  refine j_aload_n dX1_clear_1 0 rfl ?_
  refine j_get flX1_clear_7 hm rfl dX1_clear_2 ?_
  refine j_alen (v := nI cn) (by decide) hc rfl dX1_clear_5 ?_
  refine j_icmp_leN 16 (by omega) (by omega) dX1_clear_6 (by decide) (fun c6 => ?_) (fun c6 => ?_)
  · skip
    refine j_iconst (v := nI 0) dX1_clear_16 (by decide) ?_
    refine j_istore_n (lv' := [(2, .int (nI 0)), (0, .ref mo), (1, .int (nI st))]) dX1_clear_17 (Nat.le_of_ble_eq_true rfl) rfl ?_
    refine j_lv (lv' := [(0, .ref mo), (1, .int (nI st)), (2, .int (nI 0))]) [1, 2, 0] rfl ?_
    refine J.post (fun o w9 h => ?_) (l_clear (w := w) (q := ca) (cn := cn) (d := d) (fk hc hm rfl) (by omega) (by omega) (by omega) (by omega) (st + 1) 0 _ (by omega) (by omega) (by rw [clr_0, up_same hc, up_same hm]))
    exact ⟨ca, cn, d, h.1, Or.inl ⟨rfl, rfl, rfl⟩, by omega, h.2⟩
  · skip
    refine j_aload_n dX1_clear_9 0 rfl ?_
    refine j_iload_n dX1_clear_10 1 rfl ?_
    refine j_newi (N := st) mX1_clear_1 (nI_pos (by omega)) (nI_clamp (by omega)) (by omega) (show 0 + 1 ≤ 1 by omega) (show 0 + st ≤ 1600 by omega) dX1_clear_11 (fun q1 hq1 => ?_)
    refine j_after (st' := [.ref q1, .ref mo]) (k' := 1) (n' := st) rfl (by first | rfl | omega) (by first | rfl | omega) ?_
    refine j_w (fun w2 hw2 => ?_)
    have n4 : mo ≠ q1 := fn hm hq1
    have f3 := up_ne hw2 n4 hm
    have n6 : ca ≠ q1 := fn hc hq1
    have f5 := up_ne hw2 n6 hc
    have f7 : w2 q1 = some (.inl (0, st, .inl (fun j9 => nI ((fun _ => 0) j9)))) := up_at hw2
    refine j_put (fs9 := [va_rf bf, va_rf nx, .ref q1, .int (nI cl), .int (nI pe), .int (nI pb), .int (nI pc), .int (nI an), va_rf av, va_rf ah]) fsX1_clear_7 f3 rfl rfl (Nat.le_of_ble_eq_true rfl) rfl dX1_clear_13 ?_
    refine j_w (fun w8 hw8 => ?_)
    have f9 : w8 mo = some (.inr (1, [va_rf bf, va_rf nx, .ref q1, .int (nI cl), .int (nI pe), .int (nI pb), .int (nI pc), .int (nI an), va_rf av, va_rf ah])) := up_at hw8
    have f10 := up_ne hw8 (fk f5 f3 rfl) f5
    have f11 := up_ne hw8 (Ne.symm n4) f7
    refine j_iconst (v := nI 0) dX1_clear_16 (by decide) ?_
    refine j_istore_n (lv' := [(2, .int (nI 0)), (0, .ref mo), (1, .int (nI st))]) dX1_clear_17 (Nat.le_of_ble_eq_true rfl) rfl ?_
    refine j_lv (lv' := [(0, .ref mo), (1, .int (nI st)), (2, .int (nI 0))]) [1, 2, 0] rfl ?_
    refine J.post (fun o w9 h => ?_) (l_clear (w := w) (q := q1) (bf := bf) (nx := nx) (av := av) (ah := ah) (cl := cl) (pe := pe) (pb := pb) (pc := pc) (an := an) (cn := st) (d := fun _ => 0) (Ne.symm n4) (by omega) (by omega) (by omega) (by omega) (st + 1) 0 _ (by omega) (by omega) (by rw [hw8, hw2, clr_0]; rfl))
    exact ⟨q1, st, fun _ => 0, h.1, Or.inr ⟨hq1, rfl, rfl⟩, by omega, h.2⟩
abbrev rX1_costAt : Room := { frames := 0, cells := 0, slots := 0, locals := 0 }
theorem flX1_costAt_7 : FL wsX1_costAt RX1 7 1 2 := ⟨RX1, TX1, 10, rfl, by decide, by decide +kernel, by decide +kernel⟩
set_option maxHeartbeats 4000000 in
set_option maxRecDepth 100000 in
theorem c_costAt {w : pW} {mo ca : Nat} {bf nx av ah : Option Nat} {cl pe pb pc an cn : Nat} {d : Nat → Nat} (hm : w mo = some (.inr (1, [va_rf bf, va_rf nx, .ref ca, .int (nI cl), .int (nI pe), .int (nI pb), .int (nI pc), .int (nI an), va_rf av, va_rf ah]))) (hc : w ca = some (.inl (0, cn, .inl (fun j9 => nI (d j9))))) (hcn : cn ≤ 100000) {s : Nat} (hs : s < cn) : Ct yX1_costAt wsX1_costAt rX1_costAt [.ref mo, .int (nI s)] w (fun o w9 => o = .inl (some (.int (nI (d s)))) ∧ w9 = w) := by
  refine Ct.of (cc := cX1_costAt) (own := RX1) (nm := "costAt") (nL := 2) (ret := (some .int)) (by decide +kernel) rfl rfl rfl (Nat.le_of_ble_eq_true rfl) ?_
  refine j_lvE (lv' := [(0, .ref mo), (1, .int (nI s))]) rfl ?_
  refine j_iload_n dX1_costAt_0 1 rfl ?_
  refine j_if_ltN (by omega) dX1_costAt_1 (by decide : _ = ((22 : Nat) : Int)) ?_
  refine j_iload_n dX1_costAt_4 1 rfl ?_
  refine j_aload_n dX1_costAt_5 0 rfl ?_
  refine j_get flX1_costAt_7 hm rfl dX1_costAt_6 ?_
  refine j_alen (v := nI cn) (by decide) hc rfl dX1_costAt_9 ?_
  refine j_icmp_geN 22 (by omega) (by omega) dX1_costAt_10 (by decide) (fun c10 => ?_) (fun c10 => ?_)
  · skip
    exfalso; omega
  · skip
    refine j_aload_n dX1_costAt_13 0 rfl ?_
    refine j_get flX1_costAt_7 hm rfl dX1_costAt_14 ?_
    refine j_iload_n dX1_costAt_17 1 rfl ?_
    refine j_ialdN (j := s) hc rfl (by omega) (by omega) dX1_costAt_18 ?_
    refine j_goto 24 dX1_costAt_19 (by decide) ?_
    exact j_iret rfl ⟨rfl, rfl⟩ (show 0 ≤ 0 by omega) (show 0 ≤ 0 by omega) dX1_costAt_24
abbrev rX1_offer : Room := { frames := 0, cells := 0, slots := 0, locals := 0 }
theorem flX1_offer_7 : FL wsX1_offer RX1 7 1 2 := ⟨RX1, TX1, 10, rfl, by decide, by decide +kernel, by decide +kernel⟩
set_option maxHeartbeats 4000000 in
set_option maxRecDepth 100000 in
theorem c_offer {w : pW} {mo ca : Nat} {bf nx av ah : Option Nat} {cl pe pb pc an cn : Nat} {d : Nat → Nat} (hm : w mo = some (.inr (1, [va_rf bf, va_rf nx, .ref ca, .int (nI cl), .int (nI pe), .int (nI pb), .int (nI pc), .int (nI an), va_rf av, va_rf ah]))) (hc : w ca = some (.inl (0, cn, .inl (fun j9 => nI (d j9))))) (hcn : cn ≤ 100000) {s c : Nat} (hs : s < 2 ^ 31) (hc2 : c < 2 ^ 31) (hd : ∀ j, d j < 2 ^ 31) : Ct yX1_offer wsX1_offer rX1_offer [.ref mo, .int (nI s), .int (nI c)] w (fun o w9 => o = .inl none ∧ w9 = va_up w ca (some (.inl (0, cn, .inl (fun j9 => nI ((offN d cn s c) j9)))))) := by
  refine Ct.of (cc := cX1_offer) (own := RX1) (nm := "offer") (nL := 3) (ret := none) (by decide +kernel) rfl rfl rfl (Nat.le_of_ble_eq_true rfl) ?_
  refine j_lvE (lv' := [(0, .ref mo), (1, .int (nI s)), (2, .int (nI c))]) rfl ?_
  have hds := hd s
  refine j_iload_n dX1_offer_0 1 rfl ?_
  refine j_if_ltN (by omega) dX1_offer_1 (by decide : _ = ((30 : Nat) : Int)) ?_
  refine j_iload_n dX1_offer_4 1 rfl ?_
  refine j_aload_n dX1_offer_5 0 rfl ?_
  refine j_get flX1_offer_7 hm rfl dX1_offer_6 ?_
  refine j_alen (v := nI cn) (by decide) hc rfl dX1_offer_9 ?_
  refine j_icmp_geN 30 (by omega) (by omega) dX1_offer_10 (by decide) (fun c10 => ?_) (fun c10 => ?_)
  · skip
    exact j_vret rfl ⟨rfl, by rw [show offN d cn s c = d by (simp only [offN]; split <;> first | rfl | (rw [Nat.min_eq_left (by omega)]; funext q; by_cases hq : q = s <;> simp [va_up, hq]))]; exact (up_same hc).symm⟩ (show 0 ≤ 0 by omega) (show 0 ≤ 0 by omega) dX1_offer_30
  · skip
    refine j_iload_n dX1_offer_13 2 rfl ?_
    refine j_aload_n dX1_offer_14 0 rfl ?_
    refine j_get flX1_offer_7 hm rfl dX1_offer_15 ?_
    refine j_iload_n dX1_offer_18 1 rfl ?_
    refine j_ialdN (j := s) hc rfl (by omega) (by omega) dX1_offer_19 ?_
    refine j_icmp_geN 30 (by omega) (by omega) dX1_offer_20 (by decide) (fun c20 => ?_) (fun c20 => ?_)
    · skip
      exact j_vret rfl ⟨rfl, by rw [show offN d cn s c = d by (simp only [offN]; split <;> first | rfl | (rw [Nat.min_eq_left (by omega)]; funext q; by_cases hq : q = s <;> simp [va_up, hq]))]; exact (up_same hc).symm⟩ (show 0 ≤ 0 by omega) (show 0 ≤ 0 by omega) dX1_offer_30
    · skip
      refine j_aload_n dX1_offer_23 0 rfl ?_
      refine j_get flX1_offer_7 hm rfl dX1_offer_24 ?_
      refine j_iload_n dX1_offer_27 1 rfl ?_
      refine j_iload_n dX1_offer_28 2 rfl ?_
      refine j_iastn (j := s) (x := c) hc rfl (by omega) (by omega) dX1_offer_29 ?_
      refine j_w (fun w1 hw1 => ?_)
      have f2 := up_ne hw1 (fk hm hc rfl) hm
      have f3 : w1 ca = some (.inl (0, cn, .inl (fun j9 => nI ((va_up d s c) j9)))) := up_at hw1
      exact j_vret rfl ⟨rfl, by rw [hw1]; simp only [offN]; rw [if_pos (by omega), Nat.min_eq_right (by omega)]⟩ (show 0 ≤ 0 by omega) (show 0 ≤ 0 by omega) dX1_offer_30
