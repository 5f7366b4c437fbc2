/-- no cell is lost -/
def Dm (w w1 : pW) : Prop := ∀ x : Nat, w1 x = none → w x = none
theorem Dm.refl {w : pW} : Dm w w := fun _ h => h
theorem Dm.trans {w w1 w2 : pW} (h1 : Dm w w1) (h2 : Dm w1 w2) : Dm w w2 := fun x h => h1 x (h2 x h)
theorem Dm.up {w w1 : pW} {a : Nat} {c : pE} (h : w1 = va_up w a (some c)) : Dm w w1 := fun x hx => by
  by_cases q : x = a
  · subst q; rw [h, va_up_self] at hx; cases hx
  · rw [h, va_up_ne _ _ q] at hx; exact hx
theorem Dm.up2 {w w1 : pW} {a b : Nat} {c e : pE} (h : w1 = va_up (va_up w a (some c)) b (some e)) : Dm w w1 := (Dm.up rfl).trans (Dm.up h)
theorem Dm.ofS {w w1 : pW} {a : Nat} {c : pE} (h : FrS [a] w w1) (ha : w1 a = some c) : Dm w w1 := fun x hx => by
  cases hw : w x with
  | none => rfl
  | some e =>
    by_cases q : x = a
    · subst q; rw [ha] at hx; cases hx
    · rw [h x e (by simpa using q) hw] at hx; cases hx
abbrev rX5_init : Room := { frames := 3, cells := 14, slots := 5451, locals := 66 }
set_option maxRecDepth 100000 in
theorem mX5_init_0 : Cond.methodLink RX5 1 objectInit ∈ wsX5_init := by decide +kernel
set_option maxRecDepth 100000 in
theorem mX5_init_1 : Cond.instanceMethod objectInit ∈ wsX5_init := by decide +kernel
set_option maxRecDepth 100000 in
theorem mX5_init_2 : Cond.code objectInit ⟨#[0xb1]⟩ 1 none ∈ wsX5_init := by decide +kernel
set_option maxRecDepth 100000 in
theorem mX5_init_3 : Cond.arrayClass .byte ∈ wsX5_init := by decide +kernel
theorem fsX5_init_9 : FS wsX5_init RX5 9 5 0 true (.array .byte) := ⟨RX5, TX5, 6, tyX5, rfl, by decide, by decide +kernel, by decide +kernel, tyX5_ok, nmX5, rfl, rfl, rfl⟩
theorem fsX5_init_13 : FS wsX5_init RX5 13 5 1 false (.int) := ⟨RX5, TX5, 6, tyX5, rfl, by decide, by decide +kernel, by decide +kernel, tyX5_ok, nmX5, rfl, rfl, rfl⟩
set_option maxRecDepth 100000 in
theorem muX5_init_X2 : ∀ w ∈ u_ws RX2 TX2 10, w ∈ wsX5_init := by decide +kernel
set_option maxRecDepth 100000 in
theorem mX5_init_4 : Cond.classLink RX5 17 RX2 ∈ wsX5_init := by decide +kernel
set_option maxRecDepth 100000 in
theorem mX5_init_5 : Cond.instantiable RX2 10 ∈ wsX5_init := by decide +kernel
set_option maxRecDepth 100000 in
theorem mX5_init_6 : Cond.initialized RX2 ∈ wsX5_init := by decide +kernel
set_option maxRecDepth 100000 in
theorem mX5_init_7 : Cond.initialized yX2_init.cls ∈ wsX5_init := by decide +kernel
set_option maxRecDepth 100000 in
theorem mX5_init_8 : Cond.instanceMethod yX2_init ∈ wsX5_init := by decide +kernel
theorem fsX5_init_20 : FS wsX5_init RX5 20 5 2 true (.object "PageTurner$Reader") := ⟨RX5, TX5, 6, tyX5, rfl, by decide, by decide +kernel, by decide +kernel, tyX5_ok, nmX5, rfl, rfl, rfl⟩
set_option maxRecDepth 100000 in
theorem muX5_init_X3 : ∀ w ∈ u_ws RX3 TX3 7, w ∈ wsX5_init := by decide +kernel
set_option maxRecDepth 100000 in
theorem mX5_init_9 : Cond.classLink RX5 24 RX3 ∈ wsX5_init := by decide +kernel
set_option maxRecDepth 100000 in
theorem mX5_init_10 : Cond.instantiable RX3 7 ∈ wsX5_init := by decide +kernel
set_option maxRecDepth 100000 in
theorem mX5_init_11 : Cond.initialized RX3 ∈ wsX5_init := by decide +kernel
set_option maxRecDepth 100000 in
theorem mX5_init_12 : Cond.initialized yX3_init.cls ∈ wsX5_init := by decide +kernel
set_option maxRecDepth 100000 in
theorem mX5_init_13 : Cond.instanceMethod yX3_init ∈ wsX5_init := by decide +kernel
theorem fsX5_init_27 : FS wsX5_init RX5 27 5 3 false (.object "PageTurner$Score") := ⟨RX5, TX5, 6, tyX5, rfl, by decide, by decide +kernel, by decide +kernel, tyX5_ok, nmX5, rfl, rfl, rfl⟩
set_option maxRecDepth 100000 in
theorem muX5_init_X0 : ∀ w ∈ u_ws RX0 TX0 7, w ∈ wsX5_init := by decide +kernel
set_option maxRecDepth 100000 in
theorem mX5_init_14 : Cond.classLink RX5 31 RX0 ∈ wsX5_init := by decide +kernel
set_option maxRecDepth 100000 in
theorem mX5_init_15 : Cond.instantiable RX0 7 ∈ wsX5_init := by decide +kernel
set_option maxRecDepth 100000 in
theorem mX5_init_16 : Cond.initialized RX0 ∈ wsX5_init := by decide +kernel
theorem flX5_init_27 : FL wsX5_init RX5 27 5 3 := ⟨RX5, TX5, 6, rfl, by decide, by decide +kernel, by decide +kernel⟩
set_option maxRecDepth 100000 in
theorem mX5_init_17 : Cond.initialized yX0_init.cls ∈ wsX5_init := by decide +kernel
set_option maxRecDepth 100000 in
theorem mX5_init_18 : Cond.methodLink RX5 33 yX0_init ∈ wsX5_init := by decide +kernel
set_option maxRecDepth 100000 in
theorem mX5_init_19 : Cond.instanceMethod yX0_init ∈ wsX5_init := by decide +kernel
theorem fsX5_init_36 : FS wsX5_init RX5 36 5 4 true (.object "PageTurner$Follower") := ⟨RX5, TX5, 6, tyX5, rfl, by decide, by decide +kernel, by decide +kernel, tyX5_ok, nmX5, rfl, rfl, rfl⟩
theorem fsX5_init_40 : FS wsX5_init RX5 40 5 5 false (.int) := ⟨RX5, TX5, 6, tyX5, rfl, by decide, by decide +kernel, by decide +kernel, tyX5_ok, nmX5, rfl, rfl, rfl⟩
set_option maxHeartbeats 4000000 in
set_option maxRecDepth 100000 in
theorem c_initP {w : pW} {pt : Nat} (hpt : w pt = some (.inr (5, [.null, .int (nI 0), .null, .null, .null, .int (nI 0)]))) : Ct yX5_init wsX5_init rX5_init [.ref pt] w (fun o w9 => ∃ tx rd to tb sd fd sc fb fo pr ar de ms c0 : Nat, o = .inl none ∧ (w tx = none ∧ w rd = none ∧ w to = none ∧ w tb = none ∧ w sd = none ∧ w fd = none ∧ w sc = none ∧ w fb = none ∧ w fo = none ∧ w pr = none ∧ w ar = none ∧ w de = none ∧ w ms = none ∧ w c0 = none) ∧ (sd ≠ sc ∧ tx ≠ tb ∧ va_nd [fd, fb, pr, ar, de, c0] = true) ∧ (w9 pt = some (.inr (5, [.ref tx, .int (nI 0), .ref rd, .ref sc, .ref fo, .int (nI 1000)])) ∧ w9 tx = some (.inl (1, 2400, .inl ((fun _ => 0)))) ∧ w9 rd = some (.inr (2, [.ref to, .ref sd, .int (nI 0), .int (nI 0), .int (nI 0), .int (nI 0), .int (nI 0), .int (nI 0), .int (nI 0), .int ((-1))])) ∧ w9 to = some (.inr (4, [.ref tb, .int (nI 0), .int (nI 0), .int (nI 0), .int (nI 0), .int (nI 0)])) ∧ w9 tb = some (.inl (1, 0, .inl ((fun _ => 0)))) ∧ w9 sd = some (.inr (3, [.ref fd, .int (nI 0), .int (nI 0), .int (nI 0), .int (nI 0), .int (nI 0), .int (nI 0)])) ∧ w9 fd = some (.inl (0, 1400, .inl ((fun _ => 0)))) ∧ w9 sc = some (.inr (3, [.ref fb, .int (nI 0), .int (nI 0), .int (nI 0), .int (nI 0), .int (nI 0), .int (nI 0)])) ∧ w9 fb = some (.inl (0, 1400, .inl ((fun _ => 0)))) ∧ w9 fo = some (.inr (0, [.ref sc, .ref pr, .ref ar, .ref de, .ref ms, .ref ms, .int (nI 0)])) ∧ w9 pr = some (.inl (0, 4, .inl (fun j9 => nI ((va_up (va_up (va_up (va_up (fun _ => 0) 0 3) 1 2) 2 2) 3 6) j9)))) ∧ w9 ar = some (.inl (0, 100, .inl (fun j9 => nI ((fun _ => 0) j9)))) ∧ w9 de = some (.inl (0, 100, .inl (fun j9 => nI ((fun _ => 0) j9)))) ∧ w9 ms = some (.inr (1, [va_rf none, va_rf none, .ref c0, .int (nI 0), .int (nI 0), .int (nI 0), .int (nI 0), .int (nI 0), va_rf none, va_rf none])) ∧ w9 c0 = some (.inl (0, 0, .inl (fun j9 => nI ((fun _ => 0) j9))))) ∧ FrS [pt] w w9) := by
  refine Ct.of (cc := cX5_init) (own := RX5) (nm := "<init>") (nL := 1) (ret := none) (by decide +kernel) rfl rfl rfl (Nat.le_of_ble_eq_true rfl) ?_
  refine j_lvE (lv' := [(0, .ref pt)]) rfl ?_
  refine j_aload_n dX5_init_0 0 rfl ?_
  refine j_objInit mX5_init_0 mX5_init_1 mX5_init_2 dX5_init_1 (Nat.le_of_ble_eq_true rfl) (Nat.le_of_ble_eq_true rfl) ?_
  refine j_aload_n dX5_init_4 0 rfl ?_
  refine j_sipush (v := nI 2400) dX5_init_5 (by decide) ?_
  refine j_newb (N := 2400) mX5_init_3 (nI_pos (by omega)) (nI_clamp (by omega)) (by omega) (show 0 + 1 ≤ 14 by omega) (show 0 + 2400 ≤ 5451 by omega) dX5_init_8 (fun q1 hq1 => ?_)
  refine j_after (st' := [.ref q1, .ref pt]) (k' := 1) (n' := 2400) rfl (by first | rfl | omega) (by first | rfl | omega) ?_
  refine j_w (fun w2 hw2 => ?_)
  have n4 : pt ≠ q1 := fn hpt hq1
  have f3 := up_ne hw2 n4 hpt
  have f5 : w2 q1 = some (.inl (1, 2400, .inl ((fun _ => 0)))) := up_at hw2
  refine j_putF (fs9 := [.ref q1, .int (nI 0), .null, .null, .null, .int (nI 0)]) fsX5_init_9 f3 rfl (by intro C T N hc; cases hc; rfl) rfl rfl (Nat.le_of_ble_eq_true rfl) rfl dX5_init_10 ?_
  refine j_w (fun w6 hw6 => ?_)
  have f7 : w6 pt = some (.inr (5, [.ref q1, .int (nI 0), .null, .null, .null, .int (nI 0)])) := up_at hw6
  have f8 := up_ne hw6 (Ne.symm n4) f5
  refine j_aload_n dX5_init_13 0 rfl ?_
  refine j_iconst (v := nI 0) dX5_init_14 (by decide) ?_
  refine j_put (fs9 := [.ref q1, .int (nI 0), .null, .null, .null, .int (nI 0)]) fsX5_init_13 f7 rfl rfl (Nat.le_of_ble_eq_true rfl) rfl dX5_init_15 ?_
  refine j_w (fun w9 hw9 => ?_)
  have f10 : w9 pt = some (.inr (5, [.ref q1, .int (nI 0), .null, .null, .null, .int (nI 0)])) := up_at hw9
  have f11 := up_ne hw9 (Ne.symm n4) f8
  refine j_aload_n dX5_init_18 0 rfl ?_
  refine j_new (ci := 2) (fs := [.null, .null, .int (nI 0), .int (nI 0), .int (nI 0), .int (nI 0), .int (nI 0), .int (nI 0), .int (nI 0), .int (nI 0)]) tyX2 rfl muX5_init_X2 tyX2_ok mX5_init_4 mX5_init_5 mX5_init_6 (by decide +kernel) (show 1 + 1 ≤ 14 by omega) (show 2400 + 10 ≤ 5451 by omega) dX5_init_19 (fun q12 hq12 => ?_)
  refine j_after (st' := [.ref q12, .ref pt]) (k' := 2) (n' := 2410) rfl (by first | rfl | omega) (by first | rfl | omega) ?_
  refine j_w (fun w13 hw13 => ?_)
  have n15 : pt ≠ q12 := fn f10 hq12
  have f14 := up_ne hw13 n15 f10
  have n17 : q1 ≠ q12 := fn f11 hq12
  have f16 := up_ne hw13 n17 f11
  have f18 : w13 q12 = some (.inr (2, [.null, .null, .int (nI 0), .int (nI 0), .int (nI 0), .int (nI 0), .int (nI 0), .int (nI 0), .int (nI 0), .int (nI 0)])) := up_at hw13
  refine j_dup dX5_init_22 rfl ?_
  refine j_callIN (rm := rX2_init) (As := []) (st := [.ref q12, .ref pt]) (b0 := q12) (na := 0) (c_initR f18) (by intro E w9 h9; first | exact nomatch h9.1 | (obtain ⟨_, h9, _⟩ := h9; exact nomatch h9) | (obtain ⟨_, _, _, h9, _⟩ := h9; exact nomatch h9)) gX5_init_X2_init_n19 rfl mX5_init_7 (show (RX5, 19, yX2_init) ∈ bgNest by simp [bgNest]) mX5_init_8 rfl (by decide +kernel) rfl ⟨Nat.le_of_ble_eq_true rfl, Nat.le_of_ble_eq_true rfl⟩ rfl (Nat.le_of_ble_eq_true rfl) dX5_init_23 ⟨(show 2 + 4 ≤ 14 by omega), (show 2410 + 1413 ≤ 5451 by omega)⟩ (fun v19 w20 h21 => ?_)
  obtain ⟨to, tb, sd, fd, h21, ⟨hq_to, hq_tb, hq_sd, hq_fd⟩, hnd_R, ⟨gO_R, g_to, g_tb, g_sd, g_fd⟩, hfs_R⟩ := h21
  cases h21
  refine j_after (st' := [.ref q12, .ref pt]) (k' := 6) (n' := 3823) rfl rfl rfl ?_
  have n_to_pt : pt ≠ to := fn f14 hq_to
  have n_tb_pt : pt ≠ tb := fn f14 hq_tb
  have n_sd_pt : pt ≠ sd := fn f14 hq_sd
  have n_fd_pt : pt ≠ fd := fn f14 hq_fd
  have n_to_q1 : q1 ≠ to := fn f16 hq_to
  have n_tb_q1 : q1 ≠ tb := fn f16 hq_tb
  have n_sd_q1 : q1 ≠ sd := fn f16 hq_sd
  have n_fd_q1 : q1 ≠ fd := fn f16 hq_fd
  have n_to_q12 : q12 ≠ to := fn f18 hq_to
  have n_tb_q12 : q12 ≠ tb := fn f18 hq_tb
  have n_sd_q12 : q12 ≠ sd := fn f18 hq_sd
  have n_fd_q12 : q12 ≠ fd := fn f18 hq_fd
  have f22 : w20 pt = some (.inr (5, [.ref q1, .int (nI 0), .null, .null, .null, .int (nI 0)])) := hfs_R _ _ (by simpa using n15) f14
  have f23 : w20 q1 = some (.inl (1, 2400, .inl ((fun _ => 0)))) := hfs_R _ _ (by simpa using n17) f16
  have dm_R : Dm _ w20 := Dm.ofS hfs_R gO_R
  refine j_putF (fs9 := [.ref q1, .int (nI 0), .ref q12, .null, .null, .int (nI 0)]) fsX5_init_20 f22 rfl (by intro C T N hc; cases hc; rfl) rfl rfl (Nat.le_of_ble_eq_true rfl) rfl dX5_init_26 ?_
  refine j_w (fun w24 hw24 => ?_)
  have f25 : w24 pt = some (.inr (5, [.ref q1, .int (nI 0), .ref q12, .null, .null, .int (nI 0)])) := up_at hw24
  have f26 := up_ne hw24 (Ne.symm n4) f23
  have f27 := up_ne hw24 (Ne.symm n15) gO_R
  have f28 := up_ne hw24 (Ne.symm n_to_pt) g_to
  have f29 := up_ne hw24 (Ne.symm n_tb_pt) g_tb
  have f30 := up_ne hw24 (Ne.symm n_sd_pt) g_sd
  have f31 := up_ne hw24 (Ne.symm n_fd_pt) g_fd
  refine j_aload_n dX5_init_29 0 rfl ?_
  refine j_new (ci := 3) (fs := [.null, .int (nI 0), .int (nI 0), .int (nI 0), .int (nI 0), .int (nI 0), .int (nI 0)]) tyX3 rfl muX5_init_X3 tyX3_ok mX5_init_9 mX5_init_10 mX5_init_11 (by decide +kernel) (show 6 + 1 ≤ 14 by omega) (show 3823 + 7 ≤ 5451 by omega) dX5_init_30 (fun q32 hq32 => ?_)
  refine j_after (st' := [.ref q32, .ref pt]) (k' := 7) (n' := 3830) rfl (by first | rfl | omega) (by first | rfl | omega) ?_
  refine j_w (fun w33 hw33 => ?_)
  have n35 : pt ≠ q32 := fn f25 hq32
  have f34 := up_ne hw33 n35 f25
  have n37 : q1 ≠ q32 := fn f26 hq32
  have f36 := up_ne hw33 n37 f26
  have n39 : q12 ≠ q32 := fn f27 hq32
  have f38 := up_ne hw33 n39 f27
  have n41 : to ≠ q32 := fn f28 hq32
  have f40 := up_ne hw33 n41 f28
  have n43 : tb ≠ q32 := fn f29 hq32
  have f42 := up_ne hw33 n43 f29
  have n45 : sd ≠ q32 := fn f30 hq32
  have f44 := up_ne hw33 n45 f30
  have n47 : fd ≠ q32 := fn f31 hq32
  have f46 := up_ne hw33 n47 f31
  have f48 : w33 q32 = some (.inr (3, [.null, .int (nI 0), .int (nI 0), .int (nI 0), .int (nI 0), .int (nI 0), .int (nI 0)])) := up_at hw33
  refine j_dup dX5_init_33 rfl ?_
  refine j_callIN (rm := rX3_init) (As := []) (st := [.ref q32, .ref pt]) (b0 := q32) (na := 0) (c_Score_init f48) (by intro E w9 h9; first | exact nomatch h9.1 | (obtain ⟨_, h9, _⟩ := h9; exact nomatch h9) | (obtain ⟨_, _, _, h9, _⟩ := h9; exact nomatch h9)) gX5_init_X3_init_n26 rfl mX5_init_12 (show (RX5, 26, yX3_init) ∈ bgNest by simp [bgNest]) mX5_init_13 rfl (by decide +kernel) rfl ⟨Nat.le_of_ble_eq_true rfl, Nat.le_of_ble_eq_true rfl⟩ rfl (Nat.le_of_ble_eq_true rfl) dX5_init_34 ⟨(show 7 + 1 ≤ 14 by omega), (show 3830 + 1400 ≤ 5451 by omega)⟩ (fun v49 w50 h51 => ?_)
  obtain ⟨fb, h51, hq_fb, hw_fb⟩ := h51
  cases h51
  refine j_after (st' := [.ref q32, .ref pt]) (k' := 8) (n' := 5230) rfl rfl rfl ?_
  have n_fb_pt : pt ≠ fb := fn f34 hq_fb
  have n_fb_q1 : q1 ≠ fb := fn f36 hq_fb
  have n_fb_q12 : q12 ≠ fb := fn f38 hq_fb
  have n_fb_to : to ≠ fb := fn f40 hq_fb
  have n_fb_tb : tb ≠ fb := fn f42 hq_fb
  have n_fb_sd : sd ≠ fb := fn f44 hq_fb
  have n_fb_fd : fd ≠ fb := fn f46 hq_fb
  have n_fb_q32 : q32 ≠ fb := fn f48 hq_fb
  have f52 : w50 pt = some (.inr (5, [.ref q1, .int (nI 0), .ref q12, .null, .null, .int (nI 0)])) := by rw [hw_fb]; exact (va_up_ne _ _ n35).trans ((va_up_ne _ _ n_fb_pt).trans (f34))
  have f53 : w50 q1 = some (.inl (1, 2400, .inl ((fun _ => 0)))) := by rw [hw_fb]; exact (va_up_ne _ _ n37).trans ((va_up_ne _ _ n_fb_q1).trans (f36))
  have f54 : w50 q12 = some (.inr (2, [.ref to, .ref sd, .int (nI 0), .int (nI 0), .int (nI 0), .int (nI 0), .int (nI 0), .int (nI 0), .int (nI 0), .int ((-1))])) := by rw [hw_fb]; exact (va_up_ne _ _ n39).trans ((va_up_ne _ _ n_fb_q12).trans (f38))
  have f55 : w50 to = some (.inr (4, [.ref tb, .int (nI 0), .int (nI 0), .int (nI 0), .int (nI 0), .int (nI 0)])) := by rw [hw_fb]; exact (va_up_ne _ _ n41).trans ((va_up_ne _ _ n_fb_to).trans (f40))
  have f56 : w50 tb = some (.inl (1, 0, .inl ((fun _ => 0)))) := by rw [hw_fb]; exact (va_up_ne _ _ n43).trans ((va_up_ne _ _ n_fb_tb).trans (f42))
  have f57 : w50 sd = some (.inr (3, [.ref fd, .int (nI 0), .int (nI 0), .int (nI 0), .int (nI 0), .int (nI 0), .int (nI 0)])) := by rw [hw_fb]; exact (va_up_ne _ _ n45).trans ((va_up_ne _ _ n_fb_sd).trans (f44))
  have f58 : w50 fd = some (.inl (0, 1400, .inl ((fun _ => 0)))) := by rw [hw_fb]; exact (va_up_ne _ _ n47).trans ((va_up_ne _ _ n_fb_fd).trans (f46))
  have f59 : w50 q32 = some (.inr (3, [.ref fb, .int (nI 0), .int (nI 0), .int (nI 0), .int (nI 0), .int (nI 0), .int (nI 0)])) := by rw [hw_fb]; exact va_up_self _ _ _
  have f60 : w50 fb = some (.inl (0, 1400, .inl ((fun _ => 0)))) := by rw [hw_fb]; exact (va_up_ne _ _ (Ne.symm n_fb_q32)).trans (va_up_self _ _ _)
  refine j_put (fs9 := [.ref q1, .int (nI 0), .ref q12, .ref q32, .null, .int (nI 0)]) fsX5_init_27 f52 rfl rfl (Nat.le_of_ble_eq_true rfl) rfl dX5_init_37 ?_
  refine j_w (fun w61 hw61 => ?_)
  have f62 : w61 pt = some (.inr (5, [.ref q1, .int (nI 0), .ref q12, .ref q32, .null, .int (nI 0)])) := up_at hw61
  have f63 := up_ne hw61 (Ne.symm n4) f53
  have f64 := up_ne hw61 (Ne.symm n15) f54
  have f65 := up_ne hw61 (Ne.symm n_to_pt) f55
  have f66 := up_ne hw61 (Ne.symm n_tb_pt) f56
  have f67 := up_ne hw61 (Ne.symm n_sd_pt) f57
  have f68 := up_ne hw61 (Ne.symm n_fd_pt) f58
  have f69 := up_ne hw61 (Ne.symm n35) f59
  have f70 := up_ne hw61 (Ne.symm n_fb_pt) f60
  refine j_aload_n dX5_init_40 0 rfl ?_
  refine j_new (ci := 0) (fs := [.null, .null, .null, .null, .null, .null, .int (nI 0)]) tyX0 rfl muX5_init_X0 tyX0_ok mX5_init_14 mX5_init_15 mX5_init_16 (by decide +kernel) (show 8 + 1 ≤ 14 by omega) (show 5230 + 7 ≤ 5451 by omega) dX5_init_41 (fun q71 hq71 => ?_)
  refine j_after (st' := [.ref q71, .ref pt]) (k' := 9) (n' := 5237) rfl (by first | rfl | omega) (by first | rfl | omega) ?_
  refine j_w (fun w72 hw72 => ?_)
  have n74 : pt ≠ q71 := fn f62 hq71
  have f73 := up_ne hw72 n74 f62
  have n76 : q1 ≠ q71 := fn f63 hq71
  have f75 := up_ne hw72 n76 f63
  have n78 : q12 ≠ q71 := fn f64 hq71
  have f77 := up_ne hw72 n78 f64
  have n80 : to ≠ q71 := fn f65 hq71
  have f79 := up_ne hw72 n80 f65
  have n82 : tb ≠ q71 := fn f66 hq71
  have f81 := up_ne hw72 n82 f66
  have n84 : sd ≠ q71 := fn f67 hq71
  have f83 := up_ne hw72 n84 f67
  have n86 : fd ≠ q71 := fn f68 hq71
  have f85 := up_ne hw72 n86 f68
  have n88 : q32 ≠ q71 := fn f69 hq71
  have f87 := up_ne hw72 n88 f69
  have n90 : fb ≠ q71 := fn f70 hq71
  have f89 := up_ne hw72 n90 f70
  have f91 : w72 q71 = some (.inr (0, [.null, .null, .null, .null, .null, .null, .int (nI 0)])) := up_at hw72
  refine j_dup dX5_init_44 rfl ?_
  refine j_aload_n dX5_init_45 0 rfl ?_
  refine j_get flX5_init_27 f73 rfl dX5_init_46 ?_
  refine j_callI (rm := rX0_init) (As := [.ref q32]) (st := [.ref q71, .ref pt]) (b0 := q71) (na := 1) (c_Follower_init f91) (by intro E w9 h9; first | exact nomatch h9.1 | (obtain ⟨_, h9, _⟩ := h9; exact nomatch h9) | (obtain ⟨_, _, _, h9, _⟩ := h9; exact nomatch h9)) gX5_init_X0_init rfl mX5_init_17 mX5_init_18 mX5_init_19 rfl (by decide +kernel) rfl ⟨Nat.le_of_ble_eq_true rfl, Nat.le_of_ble_eq_true rfl⟩ rfl (Nat.le_of_ble_eq_true rfl) dX5_init_49 ⟨(show 9 + 5 ≤ 14 by omega), (show 5237 + 214 ≤ 5451 by omega)⟩ (fun v92 w93 h94 => ?_)
  obtain ⟨pr, ar, de, ms, c0, h94, ⟨hq_pr, hq_ar, hq_de, hq_ms, hq_c0⟩, hnd_F, ⟨gO_F, g_pr, g_ar, g_de, g_ms, g_c0⟩, hfs_F⟩ := h94
  cases h94
  refine j_after (st' := [.ref q71, .ref pt]) (k' := 14) (n' := 5451) rfl rfl rfl ?_
  have n_pr_pt : pt ≠ pr := fn f73 hq_pr
  have n_ar_pt : pt ≠ ar := fn f73 hq_ar
  have n_de_pt : pt ≠ de := fn f73 hq_de
  have n_ms_pt : pt ≠ ms := fn f73 hq_ms
  have n_c0_pt : pt ≠ c0 := fn f73 hq_c0
  have n_pr_q1 : q1 ≠ pr := fn f75 hq_pr
  have n_ar_q1 : q1 ≠ ar := fn f75 hq_ar
  have n_de_q1 : q1 ≠ de := fn f75 hq_de
  have n_ms_q1 : q1 ≠ ms := fn f75 hq_ms
  have n_c0_q1 : q1 ≠ c0 := fn f75 hq_c0
  have n_pr_q12 : q12 ≠ pr := fn f77 hq_pr
  have n_ar_q12 : q12 ≠ ar := fn f77 hq_ar
  have n_de_q12 : q12 ≠ de := fn f77 hq_de
  have n_ms_q12 : q12 ≠ ms := fn f77 hq_ms
  have n_c0_q12 : q12 ≠ c0 := fn f77 hq_c0
  have n_pr_to : to ≠ pr := fn f79 hq_pr
  have n_ar_to : to ≠ ar := fn f79 hq_ar
  have n_de_to : to ≠ de := fn f79 hq_de
  have n_ms_to : to ≠ ms := fn f79 hq_ms
  have n_c0_to : to ≠ c0 := fn f79 hq_c0
  have n_pr_tb : tb ≠ pr := fn f81 hq_pr
  have n_ar_tb : tb ≠ ar := fn f81 hq_ar
  have n_de_tb : tb ≠ de := fn f81 hq_de
  have n_ms_tb : tb ≠ ms := fn f81 hq_ms
  have n_c0_tb : tb ≠ c0 := fn f81 hq_c0
  have n_pr_sd : sd ≠ pr := fn f83 hq_pr
  have n_ar_sd : sd ≠ ar := fn f83 hq_ar
  have n_de_sd : sd ≠ de := fn f83 hq_de
  have n_ms_sd : sd ≠ ms := fn f83 hq_ms
  have n_c0_sd : sd ≠ c0 := fn f83 hq_c0
  have n_pr_fd : fd ≠ pr := fn f85 hq_pr
  have n_ar_fd : fd ≠ ar := fn f85 hq_ar
  have n_de_fd : fd ≠ de := fn f85 hq_de
  have n_ms_fd : fd ≠ ms := fn f85 hq_ms
  have n_c0_fd : fd ≠ c0 := fn f85 hq_c0
  have n_pr_q32 : q32 ≠ pr := fn f87 hq_pr
  have n_ar_q32 : q32 ≠ ar := fn f87 hq_ar
  have n_de_q32 : q32 ≠ de := fn f87 hq_de
  have n_ms_q32 : q32 ≠ ms := fn f87 hq_ms
  have n_c0_q32 : q32 ≠ c0 := fn f87 hq_c0
  have n_pr_fb : fb ≠ pr := fn f89 hq_pr
  have n_ar_fb : fb ≠ ar := fn f89 hq_ar
  have n_de_fb : fb ≠ de := fn f89 hq_de
  have n_ms_fb : fb ≠ ms := fn f89 hq_ms
  have n_c0_fb : fb ≠ c0 := fn f89 hq_c0
  have n_pr_q71 : q71 ≠ pr := fn f91 hq_pr
  have n_ar_q71 : q71 ≠ ar := fn f91 hq_ar
  have n_de_q71 : q71 ≠ de := fn f91 hq_de
  have n_ms_q71 : q71 ≠ ms := fn f91 hq_ms
  have n_c0_q71 : q71 ≠ c0 := fn f91 hq_c0
  have f95 : w93 pt = some (.inr (5, [.ref q1, .int (nI 0), .ref q12, .ref q32, .null, .int (nI 0)])) := hfs_F _ _ (by simpa using n74) f73
  have f96 : w93 q1 = some (.inl (1, 2400, .inl ((fun _ => 0)))) := hfs_F _ _ (by simpa using n76) f75
  have f97 : w93 q12 = some (.inr (2, [.ref to, .ref sd, .int (nI 0), .int (nI 0), .int (nI 0), .int (nI 0), .int (nI 0), .int (nI 0), .int (nI 0), .int ((-1))])) := hfs_F _ _ (by simpa using n78) f77
  have f98 : w93 to = some (.inr (4, [.ref tb, .int (nI 0), .int (nI 0), .int (nI 0), .int (nI 0), .int (nI 0)])) := hfs_F _ _ (by simpa using n80) f79
  have f99 : w93 tb = some (.inl (1, 0, .inl ((fun _ => 0)))) := hfs_F _ _ (by simpa using n82) f81
  have f100 : w93 sd = some (.inr (3, [.ref fd, .int (nI 0), .int (nI 0), .int (nI 0), .int (nI 0), .int (nI 0), .int (nI 0)])) := hfs_F _ _ (by simpa using n84) f83
  have f101 : w93 fd = some (.inl (0, 1400, .inl ((fun _ => 0)))) := hfs_F _ _ (by simpa using n86) f85
  have f102 : w93 q32 = some (.inr (3, [.ref fb, .int (nI 0), .int (nI 0), .int (nI 0), .int (nI 0), .int (nI 0), .int (nI 0)])) := hfs_F _ _ (by simpa using n88) f87
  have f103 : w93 fb = some (.inl (0, 1400, .inl ((fun _ => 0)))) := hfs_F _ _ (by simpa using n90) f89
  have dm_F : Dm _ w93 := Dm.ofS hfs_F gO_F
  refine j_putF (fs9 := [.ref q1, .int (nI 0), .ref q12, .ref q32, .ref q71, .int (nI 0)]) fsX5_init_36 f95 rfl (by intro C T N hc; cases hc; rfl) rfl rfl (Nat.le_of_ble_eq_true rfl) rfl dX5_init_52 ?_
  refine j_w (fun w104 hw104 => ?_)
  have f105 : w104 pt = some (.inr (5, [.ref q1, .int (nI 0), .ref q12, .ref q32, .ref q71, .int (nI 0)])) := up_at hw104
  have f106 := up_ne hw104 (Ne.symm n4) f96
  have f107 := up_ne hw104 (Ne.symm n15) f97
  have f108 := up_ne hw104 (Ne.symm n_to_pt) f98
  have f109 := up_ne hw104 (Ne.symm n_tb_pt) f99
  have f110 := up_ne hw104 (Ne.symm n_sd_pt) f100
  have f111 := up_ne hw104 (Ne.symm n_fd_pt) f101
  have f112 := up_ne hw104 (Ne.symm n35) f102
  have f113 := up_ne hw104 (Ne.symm n_fb_pt) f103
  have f114 := up_ne hw104 (Ne.symm n74) gO_F
  have f115 := up_ne hw104 (Ne.symm n_pr_pt) g_pr
  have f116 := up_ne hw104 (Ne.symm n_ar_pt) g_ar
  have f117 := up_ne hw104 (Ne.symm n_de_pt) g_de
  have f118 := up_ne hw104 (Ne.symm n_ms_pt) g_ms
  have f119 := up_ne hw104 (Ne.symm n_c0_pt) g_c0
  refine j_aload_n dX5_init_55 0 rfl ?_
  refine j_sipush (v := nI 1000) dX5_init_56 (by decide) ?_
  refine j_put (fs9 := [.ref q1, .int (nI 0), .ref q12, .ref q32, .ref q71, .int (nI 1000)]) fsX5_init_40 f105 rfl rfl (Nat.le_of_ble_eq_true rfl) rfl dX5_init_59 ?_
  refine j_w (fun w120 hw120 => ?_)
  have f121 : w120 pt = some (.inr (5, [.ref q1, .int (nI 0), .ref q12, .ref q32, .ref q71, .int (nI 1000)])) := up_at hw120
  have f122 := up_ne hw120 (Ne.symm n4) f106
  have f123 := up_ne hw120 (Ne.symm n15) f107
  have f124 := up_ne hw120 (Ne.symm n_to_pt) f108
  have f125 := up_ne hw120 (Ne.symm n_tb_pt) f109
  have f126 := up_ne hw120 (Ne.symm n_sd_pt) f110
  have f127 := up_ne hw120 (Ne.symm n_fd_pt) f111
  have f128 := up_ne hw120 (Ne.symm n35) f112
  have f129 := up_ne hw120 (Ne.symm n_fb_pt) f113
  have f130 := up_ne hw120 (Ne.symm n74) f114
  have f131 := up_ne hw120 (Ne.symm n_pr_pt) f115
  have f132 := up_ne hw120 (Ne.symm n_ar_pt) f116
  have f133 := up_ne hw120 (Ne.symm n_de_pt) f117
  have f134 := up_ne hw120 (Ne.symm n_ms_pt) f118
  have f135 := up_ne hw120 (Ne.symm n_c0_pt) f119
  have hz_q1 : w q1 = none := Dm.refl _ hq1
  have hz_q12 : w q12 = none := (((Dm.refl.trans (Dm.up hw2)).trans (Dm.up hw6)).trans (Dm.up hw9)) _ hq12
  have hz_to : w to = none := ((((Dm.refl.trans (Dm.up hw2)).trans (Dm.up hw6)).trans (Dm.up hw9)).trans (Dm.up hw13)) _ hq_to
  have hz_tb : w tb = none := ((((Dm.refl.trans (Dm.up hw2)).trans (Dm.up hw6)).trans (Dm.up hw9)).trans (Dm.up hw13)) _ hq_tb
  have hz_sd : w sd = none := ((((Dm.refl.trans (Dm.up hw2)).trans (Dm.up hw6)).trans (Dm.up hw9)).trans (Dm.up hw13)) _ hq_sd
  have hz_fd : w fd = none := ((((Dm.refl.trans (Dm.up hw2)).trans (Dm.up hw6)).trans (Dm.up hw9)).trans (Dm.up hw13)) _ hq_fd
  have hz_q32 : w q32 = none := ((((((Dm.refl.trans (Dm.up hw2)).trans (Dm.up hw6)).trans (Dm.up hw9)).trans (Dm.up hw13)).trans dm_R).trans (Dm.up hw24)) _ hq32
  have hz_fb : w fb = none := (((((((Dm.refl.trans (Dm.up hw2)).trans (Dm.up hw6)).trans (Dm.up hw9)).trans (Dm.up hw13)).trans dm_R).trans (Dm.up hw24)).trans (Dm.up hw33)) _ hq_fb
  have hz_q71 : w q71 = none := (((((((((Dm.refl.trans (Dm.up hw2)).trans (Dm.up hw6)).trans (Dm.up hw9)).trans (Dm.up hw13)).trans dm_R).trans (Dm.up hw24)).trans (Dm.up hw33)).trans (Dm.up2 hw_fb)).trans (Dm.up hw61)) _ hq71
  have hz_pr : w pr = none := ((((((((((Dm.refl.trans (Dm.up hw2)).trans (Dm.up hw6)).trans (Dm.up hw9)).trans (Dm.up hw13)).trans dm_R).trans (Dm.up hw24)).trans (Dm.up hw33)).trans (Dm.up2 hw_fb)).trans (Dm.up hw61)).trans (Dm.up hw72)) _ hq_pr
  have hz_ar : w ar = none := ((((((((((Dm.refl.trans (Dm.up hw2)).trans (Dm.up hw6)).trans (Dm.up hw9)).trans (Dm.up hw13)).trans dm_R).trans (Dm.up hw24)).trans (Dm.up hw33)).trans (Dm.up2 hw_fb)).trans (Dm.up hw61)).trans (Dm.up hw72)) _ hq_ar
  have hz_de : w de = none := ((((((((((Dm.refl.trans (Dm.up hw2)).trans (Dm.up hw6)).trans (Dm.up hw9)).trans (Dm.up hw13)).trans dm_R).trans (Dm.up hw24)).trans (Dm.up hw33)).trans (Dm.up2 hw_fb)).trans (Dm.up hw61)).trans (Dm.up hw72)) _ hq_de
  have hz_ms : w ms = none := ((((((((((Dm.refl.trans (Dm.up hw2)).trans (Dm.up hw6)).trans (Dm.up hw9)).trans (Dm.up hw13)).trans dm_R).trans (Dm.up hw24)).trans (Dm.up hw33)).trans (Dm.up2 hw_fb)).trans (Dm.up hw61)).trans (Dm.up hw72)) _ hq_ms
  have hz_c0 : w c0 = none := ((((((((((Dm.refl.trans (Dm.up hw2)).trans (Dm.up hw6)).trans (Dm.up hw9)).trans (Dm.up hw13)).trans dm_R).trans (Dm.up hw24)).trans (Dm.up hw33)).trans (Dm.up2 hw_fb)).trans (Dm.up hw61)).trans (Dm.up hw72)) _ hq_c0
  have hfs : FrS [pt] w w120 := by
    intro x9 c9 hx hc
    have m_pt : x9 ≠ pt := by simpa using hx
    have m_q1 : x9 ≠ q1 := fn hc hz_q1
    have m_q12 : x9 ≠ q12 := fn hc hz_q12
    have m_to : x9 ≠ to := fn hc hz_to
    have m_tb : x9 ≠ tb := fn hc hz_tb
    have m_sd : x9 ≠ sd := fn hc hz_sd
    have m_fd : x9 ≠ fd := fn hc hz_fd
    have m_q32 : x9 ≠ q32 := fn hc hz_q32
    have m_fb : x9 ≠ fb := fn hc hz_fb
    have m_q71 : x9 ≠ q71 := fn hc hz_q71
    have m_pr : x9 ≠ pr := fn hc hz_pr
    have m_ar : x9 ≠ ar := fn hc hz_ar
    have m_de : x9 ≠ de := fn hc hz_de
    have m_ms : x9 ≠ ms := fn hc hz_ms
    have m_c0 : x9 ≠ c0 := fn hc hz_c0
    have s0 := up_ne hw2 m_q1 hc
    have s1 := up_ne hw6 m_pt s0
    have s2 := up_ne hw9 m_pt s1
    have s3 := up_ne hw13 m_q12 s2
    have s4 := hfs_R x9 c9 (by simpa using m_q12) s3
    have s5 := up_ne hw24 m_pt s4
    have s6 := up_ne hw33 m_q32 s5
    have s7 : _ = some c9 := ((congrFun hw_fb x9).trans ((va_up_ne _ _ m_q32).trans ((va_up_ne _ _ m_fb).trans s6)))
    have s8 := up_ne hw61 m_pt s7
    have s9 := up_ne hw72 m_q71 s8
    have s10 := hfs_F x9 c9 (by simpa using m_q71) s9
    have s11 := up_ne hw104 m_pt s10
    have s12 := up_ne hw120 m_pt s11
    exact s12
  have hnd9 : va_nd [fd, fb, pr, ar, de, c0] = true := by simp [va_nd, n_fb_fd, n_pr_fd, n_ar_fd, n_de_fd, n_c0_fd, n_pr_fb, n_ar_fb, n_de_fb, n_c0_fb, (nd_ne hnd_F 0 1 rfl rfl rfl), (nd_ne hnd_F 0 2 rfl rfl rfl), (nd_ne hnd_F 0 3 rfl rfl rfl), (nd_ne hnd_F 1 2 rfl rfl rfl), (nd_ne hnd_F 1 3 rfl rfl rfl), (nd_ne hnd_F 2 3 rfl rfl rfl)]
  exact j_vret rfl ⟨q1, q12, to, tb, sd, fd, q32, fb, q71, pr, ar, de, ms, c0, rfl, ⟨hz_q1, hz_q12, hz_to, hz_tb, hz_sd, hz_fd, hz_q32, hz_fb, hz_q71, hz_pr, hz_ar, hz_de, hz_ms, hz_c0⟩, ⟨n45, n_tb_q1, hnd9⟩, ⟨f121, f122, f123, f124, f125, f126, f127, f128, f129, f130, f131, f132, f133, f134, f135⟩, hfs⟩ (show 14 ≤ 14 by omega) (show 5451 ≤ 5451 by omega) dX5_init_62
