theorem Dm.ofFr {l : List Nat} {w w1 : pW} (h : Fr l w w1) (hl : ∀ a ∈ l, w1 a ≠ none) : Dm w w1 := fun x hx => by
  by_cases q : x ∈ l
  · exact absurd hx (hl x q)
  · rw [← h x q]; exact hx
theorem nn {w : pW} {a : Nat} {c : pE} (h : w a = some c) : w a ≠ none := by rw [h]; exact fun q => nomatch q
abbrev rX5_music : Room := { frames := 7, cells := 2, slots := 1606, locals := 157 }
set_option maxRecDepth 100000 in
theorem atX5_music_51 : ∀ x ∈ (vx_atS RX5 51 "java/lang/IllegalArgumentException" ["java/lang/RuntimeException", "java/lang/Exception"]).filter goodWord, x ∈ wsX5_music := by decide +kernel
theorem otX5_music_51 : ((Cond.classLink RX5 47 "java/lang/IllegalArgumentException" :: Cond.initialized "java/lang/IllegalArgumentException" :: vx_atS RX5 51 "java/lang/IllegalArgumentException" ["java/lang/RuntimeException", "java/lang/Exception"]).all vx_ot) = true := by decide +kernel
set_option maxRecDepth 100000 in
theorem mX5_music_0 : Cond.classLink RX5 47 "java/lang/IllegalArgumentException" ∈ wsX5_music := by decide +kernel
set_option maxRecDepth 100000 in
theorem mX5_music_1 : Cond.initialized "java/lang/IllegalArgumentException" ∈ wsX5_music := by decide +kernel
theorem flX5_music_13 : FL wsX5_music RX5 13 5 1 := ⟨RX5, TX5, 6, rfl, by decide, by decide +kernel, by decide +kernel⟩
set_option maxHeartbeats 4000000 in
set_option maxRecDepth 100000 in
theorem c_musicBad {w : pW} {sc fo : Nat} {pt tx tl rd ld : Nat} (hpt : w pt = some (.inr (5, [.ref tx, .int (nI tl), .ref rd, .ref sc, .ref fo, .int (nI ld)]))) {v : Int32} (hb : v < 0 ∨ nI tl < v) : Ct yX5_music wsX5_music rX5_music [.ref pt, .int v] w (fun o w9 => o = .inr "java/lang/IllegalArgumentException" ∧ w9 = w) := by
  refine Ct.of (cc := cX5_music) (own := RX5) (nm := "music") (nL := 3) (ret := (some .int)) (by decide +kernel) rfl rfl rfl (Nat.le_of_ble_eq_true rfl) ?_
  refine j_lvE (lv' := [(0, .ref pt), (1, .int v)]) rfl ?_
  refine j_iload_n dX5_music_0 1 rfl ?_
  refine j_if_lt 12 dX5_music_1 (by decide) (fun c1 => ?_) (fun c1 => ?_)
  · skip
    exact j_throwS (ik := 47) (is := 49) (ic := 51) (cls := "java/lang/IllegalArgumentException") (text := "the tape has not so many bytes") rfl (Or.inl ⟨rfl, rfl⟩) (by simp [bgStr]) mX5_music_0 mX5_music_1 atX5_music_51 otX5_music_51 rfl (Nat.le_of_ble_eq_true rfl) (Nat.le_of_ble_eq_true rfl) (show 0 + 1 ≤ 2 by omega) (show 0 + 6 ≤ 1606 by omega) dX5_music_12 dX5_music_15 dX5_music_16 dX5_music_18 dX5_music_21 ⟨rfl, rfl⟩
  · skip
    refine j_iload_n dX5_music_4 1 rfl ?_
    refine j_aload_n dX5_music_5 0 rfl ?_
    refine j_get flX5_music_13 hpt rfl dX5_music_6 ?_
    refine j_icmp_le 22 dX5_music_9 (by decide) (fun c9 => ?_) (fun c9 => ?_)
    · skip
      exact absurd hb (fun q => q.elim c1 (fun q => absurd q (Int32.not_lt.mpr c9)))
    · skip
      exact j_throwS (ik := 47) (is := 49) (ic := 51) (cls := "java/lang/IllegalArgumentException") (text := "the tape has not so many bytes") rfl (Or.inl ⟨rfl, rfl⟩) (by simp [bgStr]) mX5_music_0 mX5_music_1 atX5_music_51 otX5_music_51 rfl (Nat.le_of_ble_eq_true rfl) (Nat.le_of_ble_eq_true rfl) (show 0 + 1 ≤ 2 by omega) (show 0 + 6 ≤ 1606 by omega) dX5_music_12 dX5_music_15 dX5_music_16 dX5_music_18 dX5_music_21 ⟨rfl, rfl⟩
theorem rFault_le {kd : Nat} {va : Int32} {s : RSt} : rFault kd va s ≤ 3 := by unfold rFault; (repeat' split) <;> omega
theorem rRun_le {t : Nat → Nat} {ln : Nat} : ∀ {k a : Nat} {s : RSt}, (rRun t ln k a s).1 ≤ 3
  | 0, _, _ => rFault_le
  | k + 1, a, s => by
    unfold rRun
    split
    · exact rRun_le
    · exact rFault_le
theorem rRead_le {t : Nat → Nat} {ln : Nat} {f : Nat → Int32} : (rRead t ln f).1 ≤ 3 := rRun_le
theorem fsX5_music_13 : FS wsX5_music RX5 13 5 1 false (.int) := ⟨RX5, TX5, 6, tyX5, rfl, by decide, by decide +kernel, by decide +kernel, tyX5_ok, nmX5, rfl, rfl, rfl⟩
theorem flX5_music_20 : FL wsX5_music RX5 20 5 2 := ⟨RX5, TX5, 6, rfl, by decide, by decide +kernel, by decide +kernel⟩
theorem flX5_music_9 : FL wsX5_music RX5 9 5 0 := ⟨RX5, TX5, 6, rfl, by decide, by decide +kernel, by decide +kernel⟩
set_option maxHeartbeats 4000000 in
set_option maxRecDepth 100000 in
theorem c_musicFault {w : pW} {pt tx tl rd sc fo ld to sd fd tx0 ln0 nx kd sa s0 mr cu rep ev be cq st me pa flt ln : Nat} {mkd cud : Bool} {fp va : Int32} {f : Nat → Int32} {t : Nat → Nat} (hpt : w pt = some (.inr (5, [.ref tx, .int (nI tl), .ref rd, .ref sc, .ref fo, .int (nI ld)]))) (htx : w tx = some (.inl (1, 2400, .inl (fun j9 => sb_b (t j9))))) (hrd : w rd = some (.inr (2, [.ref to, .ref sd, .int (nI s0), .int (nI mr), .int (nI cu), .int (zb mkd), .int (zb cud), .int (nI rep), .int (nI flt), .int fp]))) (hsd : w sd = some (.inr (3, [.ref fd, .int (nI ev), .int (nI be), .int (nI cq), .int (nI st), .int (nI me), .int (nI pa)]))) (hfd : w fd = some (.inl (0, 1400, .inl f))) (hto : w to = some (.inr (4, [.ref tx0, .int (nI ln0), .int (nI nx), .int (nI kd), .int (nI sa), .int va]))) (ht : ∀ j, t j < 256) (hln : ln ≤ tl) (htl : tl ≤ 2400) (hfa0 : (rRead t ln f).1 ≠ 0) : Ct yX5_music wsX5_music rX5_music [.ref pt, .int (nI ln)] w (fun o w9 => o = .inl (some (.int (nI (rRead t ln f).1))) ∧ Fr [pt, rd, sd, fd, to] w w9 ∧ w9 pt = some (.inr (5, [.ref tx, .int (nI 0), .ref rd, .ref sc, .ref fo, .int (nI ld)])) ∧ w9 rd = some (rdC to sd (rRead t ln f).1 (fpR (rRead t ln f)) (rRead t ln f).2.2) ∧ w9 sd = some (scC fd (rRead t ln f).2.2) ∧ w9 fd = some (faC (rRead t ln f).2.2) ∧ w9 to = some (toC tx t ln (rRead t ln f).2.1)) := by
  refine Ct.of (cc := cX5_music) (own := RX5) (nm := "music") (nL := 3) (ret := (some .int)) (by decide +kernel) rfl rfl rfl (Nat.le_of_ble_eq_true rfl) ?_
  refine j_lvE (lv' := [(0, .ref pt), (1, .int (nI ln))]) rfl ?_
  refine j_iload_n dX5_music_0 1 rfl ?_
  refine j_if_ltN (by omega) dX5_music_1 (by decide : _ = ((12 : Nat) : Int)) ?_
  refine j_iload_n dX5_music_4 1 rfl ?_
  refine j_aload_n dX5_music_5 0 rfl ?_
  refine j_get flX5_music_13 hpt rfl dX5_music_6 ?_
  refine j_icmp_leN 22 (by omega) (by omega) dX5_music_9 (by decide) (fun c9 => ?_) (fun c9 => ?_)
  · skip
    refine j_aload_n dX5_music_22 0 rfl ?_
    refine j_iconst (v := nI 0) dX5_music_23 (by decide) ?_
    refine j_put (fs9 := [.ref tx, .int (nI 0), .ref rd, .ref sc, .ref fo, .int (nI ld)]) fsX5_music_13 hpt rfl rfl (Nat.le_of_ble_eq_true rfl) rfl dX5_music_24 ?_
    refine j_w (fun w1 hw1 => ?_)
    have f2 : w1 pt = some (.inr (5, [.ref tx, .int (nI 0), .ref rd, .ref sc, .ref fo, .int (nI ld)])) := up_at hw1
    have f3 := up_ne hw1 (fk htx hpt rfl) htx
    have f4 := up_ne hw1 (fk hrd hpt rfl) hrd
    have f5 := up_ne hw1 (fk hsd hpt rfl) hsd
    have f6 := up_ne hw1 (fk hfd hpt rfl) hfd
    have f7 := up_ne hw1 (fk hto hpt rfl) hto
    refine j_aload_n dX5_music_27 0 rfl ?_
    refine j_get flX5_music_20 f2 rfl dX5_music_28 ?_
    refine j_aload_n dX5_music_31 0 rfl ?_
    refine j_get flX5_music_9 f2 rfl dX5_music_32 ?_
    refine j_iload_n dX5_music_35 1 rfl ?_
    refine j_callV (rm := rX2_read) (As := [.ref tx, .int (nI ln)]) (st := []) (b0 := rd) (ci := 2) (na := 2) (c_read f4 f5 f6 f7 f3 ht (by omega) (by omega) (by omega)) (by intro E w9 h9; first | exact nomatch h9.1 | (obtain ⟨_, h9, _⟩ := h9; exact nomatch h9) | (obtain ⟨_, _, _, h9, _⟩ := h9; exact nomatch h9)) gX5_music_X2_read rfl rfl f4 (by decide +kernel) rfl ⟨Nat.le_of_ble_eq_true rfl, Nat.le_of_ble_eq_true rfl⟩ rfl (Nat.le_of_ble_eq_true rfl) dX5_music_36 ⟨(show 0 + 0 ≤ 2 by omega), (show 0 + 0 ≤ 1606 by omega)⟩ (fun v8 w9 h10 => ?_)
    obtain ⟨h10, hFr, g_rd, g_sd, g_fd, g_to⟩ := h10
    cases h10
    obtain ⟨⟨flA, aA, sdA, mrA, cuA, mkdA, cudA, repA, npA, ocA, fA, evA, beA, cqA, stA, meA, paA⟩, hR⟩ : ∃ R, R = rRead t ln f := ⟨_, rfl⟩
    rw [← hR] at g_rd g_sd g_fd g_to ⊢
    have hfl : (rRead t ln f).1 = flA := by rw [← hR]
    refine j_after (st' := [.int (nI flA)]) (k' := 0) (n' := 0) rfl rfl rfl ?_
    have f11 : w9 pt = some (.inr (5, [.ref tx, .int (nI 0), .ref rd, .ref sc, .ref fo, .int (nI ld)])) := (hFr pt (by simp only [List.mem_cons, List.not_mem_nil, or_false, not_or]; exact ⟨(fk f2 f4 rfl), (fk f2 f5 rfl), (fk f2 f6 rfl), (fk f2 f7 rfl)⟩)).trans f2
    have f12 : w9 tx = some (.inl (1, 2400, .inl (fun j9 => sb_b (t j9)))) := (hFr tx (by simp only [List.mem_cons, List.not_mem_nil, or_false, not_or]; exact ⟨(fk f3 f4 rfl), (fk f3 f5 rfl), (fk f3 f6 rfl), (fk f3 f7 rfl)⟩)).trans f3
    have f13 : w9 rd = some (.inr (2, [.ref to, .ref sd, .int (nI sdA), .int (nI mrA), .int (nI cuA), .int (zb mkdA), .int (zb cudA), .int (nI repA), .int (nI flA), .int (fpR (flA, aA, sdA, mrA, cuA, mkdA, cudA, repA, npA, ocA, fA, evA, beA, cqA, stA, meA, paA))])) := g_rd
    have f14 : w9 sd = some (.inr (3, [.ref fd, .int (nI evA), .int (nI beA), .int (nI cqA), .int (nI stA), .int (nI meA), .int (nI paA)])) := g_sd
    have f15 : w9 fd = some (.inl (0, 1400, .inl fA)) := g_fd
    have f16 : w9 to = some (.inr (4, [.ref tx, .int (nI ln), .int (nI ((tk t ln aA).1)), .int (nI ((tk t ln aA).2.1)), .int (nI aA), .int ((tk t ln aA).2.2)])) := g_to
    have hbd3 : flA ≤ 3 := by rw [← hfl]; exact rRead_le
    refine j_istore_n (lv' := [(2, .int (nI flA)), (0, .ref pt), (1, .int (nI ln))]) dX5_music_39 (Nat.le_of_ble_eq_true rfl) rfl ?_
    refine j_iload_n dX5_music_40 0 rfl ?_
    refine j_if_neN 70 (by omega) dX5_music_41 (by decide) (fun c41 => ?_) (fun c41 => ?_)
    · skip
      refine j_iload_n dX5_music_70 0 rfl ?_
      exact j_iret rfl (by exact ⟨rfl, (((Fr.refl : Fr [pt, rd, sd, fd, to] w w).trans (Fr.up hw1 (by simp))).trans (hFr.mono (by simp))), f11, f13, f14, f15, f16⟩) (show 0 ≤ 2 by omega) (show 0 ≤ 1606 by omega) dX5_music_71
    · skip
      exact absurd (hfl.trans c41) hfa0
  · skip
    exfalso; omega
theorem flX5_music_27 : FL wsX5_music RX5 27 5 3 := ⟨RX5, TX5, 6, rfl, by decide, by decide +kernel, by decide +kernel⟩
theorem fsX5_music_27 : FS wsX5_music RX5 27 5 3 false (.object "PageTurner$Score") := ⟨RX5, TX5, 6, tyX5, rfl, by decide, by decide +kernel, by decide +kernel, tyX5_ok, nmX5, rfl, rfl, rfl⟩
theorem flX5_music_36 : FL wsX5_music RX5 36 5 4 := ⟨RX5, TX5, 6, rfl, by decide, by decide +kernel, by decide +kernel⟩
set_option maxHeartbeats 4000000 in
set_option maxRecDepth 100000 in
theorem c_musicOk {w : pW} {pt tx tl rd sc fo ld to sd fd tx0 ln0 nx kd sa s0 mr cu rep ev be cq st me pa flt ln : Nat} {mkd cud : Bool} {fp va : Int32} {f : Nat → Int32} {t : Nat → Nat} (hpt : w pt = some (.inr (5, [.ref tx, .int (nI tl), .ref rd, .ref sc, .ref fo, .int (nI ld)]))) (htx : w tx = some (.inl (1, 2400, .inl (fun j9 => sb_b (t j9))))) (hrd : w rd = some (.inr (2, [.ref to, .ref sd, .int (nI s0), .int (nI mr), .int (nI cu), .int (zb mkd), .int (zb cud), .int (nI rep), .int (nI flt), .int fp]))) (hsd : w sd = some (.inr (3, [.ref fd, .int (nI ev), .int (nI be), .int (nI cq), .int (nI st), .int (nI me), .int (nI pa)]))) (hfd : w fd = some (.inl (0, 1400, .inl f))) (hto : w to = some (.inr (4, [.ref tx0, .int (nI ln0), .int (nI nx), .int (nI kd), .int (nI sa), .int va]))) (ht : ∀ j, t j < 256) (hln : ln ≤ tl) (htl : tl ≤ 2400) {fb ev1 be1 cq1 st1 me1 pa1 pr ar de ms mn nt c0 cl1 pe1 pb1 pc1 an1 cn : Nat} {bf1 nx1 av1 ah1 : Option Nat} {d : Nat → Nat} (hsc : w sc = some (.inr (3, [.ref fb, .int (nI ev1), .int (nI be1), .int (nI cq1), .int (nI st1), .int (nI me1), .int (nI pa1)]))) (hsn : sd ≠ sc) (hfo : w fo = some (.inr (0, [.ref sc, .ref pr, .ref ar, .ref de, .ref ms, .ref mn, .int (nI nt)]))) (hms : w ms = some (.inr (1, [va_rf bf1, va_rf nx1, .ref c0, .int (nI cl1), .int (nI pe1), .int (nI pb1), .int (nI pc1), .int (nI an1), va_rf av1, va_rf ah1]))) (hc0 : w c0 = some (.inl (0, cn, .inl (fun j9 => nI (d j9))))) (hfc : fd ≠ c0) (hcn : cn ≤ 100000) (hdd : ∀ j, d j ≤ 1000000) (hfa0 : (rRead t ln f).1 = 0) (hst9 : (rRead t ln f).2.2.2.2.2.2.2.2.2.2.2.2.2.2.1 ≤ 1600) : Ct yX5_music wsX5_music rX5_music [.ref pt, .int (nI ln)] w (fun o w9 => o = .inl (some (.int (nI 0))) ∧ (∃ (q cn9 : Nat) (d9 : Nat → Nat), ((q = c0 ∧ cn9 = cn ∧ d9 = d) ∨ (w q = none ∧ cn9 = (rRead t ln f).2.2.2.2.2.2.2.2.2.2.2.2.2.2.1 ∧ d9 = fun _ => 0)) ∧ (rRead t ln f).2.2.2.2.2.2.2.2.2.2.2.2.2.2.1 ≤ cn9 ∧ w9 q = some (.inl (0, cn9, .inl (fun j9 => nI ((offN (clr d9 (rRead t ln f).2.2.2.2.2.2.2.2.2.2.2.2.2.2.1) cn9 0 0) j9)))) ∧ w9 ms = some (.inr (1, [va_rf bf1, va_rf nx1, .ref q, .int (nI cl1), .int (nI 0), .int (nI 0), .int (nI 0), .int (nI 0), va_rf none, va_rf none]))) ∧ w9 fo = some (.inr (0, [.ref sd, .ref pr, .ref ar, .ref de, .ref ms, .ref ms, .int (nI 0)])) ∧ FrS [pt, rd, sd, fd, to, fo, ms, c0] w w9 ∧ w9 pt = some (.inr (5, [.ref tx, .int (nI 0), .ref rd, .ref sd, .ref fo, .int (nI ld)])) ∧ w9 rd = some (rdC to sc 0 (-1) (rRead t ln f).2.2) ∧ w9 sd = some (scC fd (rRead t ln f).2.2) ∧ w9 fd = some (faC (rRead t ln f).2.2) ∧ w9 to = some (toC tx t ln (rRead t ln f).2.1)) := by
  refine Ct.of (cc := cX5_music) (own := RX5) (nm := "music") (nL := 3) (ret := (some .int)) (by decide +kernel) rfl rfl rfl (Nat.le_of_ble_eq_true rfl) ?_
  refine j_lvE (lv' := [(0, .ref pt), (1, .int (nI ln))]) rfl ?_
  refine j_iload_n dX5_music_0 1 rfl ?_
  refine j_if_ltN (by omega) dX5_music_1 (by decide : _ = ((12 : Nat) : Int)) ?_
  refine j_iload_n dX5_music_4 1 rfl ?_
  refine j_aload_n dX5_music_5 0 rfl ?_
  refine j_get flX5_music_13 hpt rfl dX5_music_6 ?_
  refine j_icmp_leN 22 (by omega) (by omega) dX5_music_9 (by decide) (fun c9 => ?_) (fun c9 => ?_)
  · skip
    refine j_aload_n dX5_music_22 0 rfl ?_
    refine j_iconst (v := nI 0) dX5_music_23 (by decide) ?_
    refine j_put (fs9 := [.ref tx, .int (nI 0), .ref rd, .ref sc, .ref fo, .int (nI ld)]) fsX5_music_13 hpt rfl rfl (Nat.le_of_ble_eq_true rfl) rfl dX5_music_24 ?_
    refine j_w (fun w1 hw1 => ?_)
    have f2 : w1 pt = some (.inr (5, [.ref tx, .int (nI 0), .ref rd, .ref sc, .ref fo, .int (nI ld)])) := up_at hw1
    have f3 := up_ne hw1 (fk htx hpt rfl) htx
    have f4 := up_ne hw1 (fk hrd hpt rfl) hrd
    have f5 := up_ne hw1 (fk hsd hpt rfl) hsd
    have f6 := up_ne hw1 (fk hfd hpt rfl) hfd
    have f7 := up_ne hw1 (fk hto hpt rfl) hto
    have f8 := up_ne hw1 (fk hsc hpt rfl) hsc
    have f9 := up_ne hw1 (fk hfo hpt rfl) hfo
    have f10 := up_ne hw1 (fk hms hpt rfl) hms
    have f11 := up_ne hw1 (fk hc0 hpt rfl) hc0
    refine j_aload_n dX5_music_27 0 rfl ?_
    refine j_get flX5_music_20 f2 rfl dX5_music_28 ?_
    refine j_aload_n dX5_music_31 0 rfl ?_
    refine j_get flX5_music_9 f2 rfl dX5_music_32 ?_
    refine j_iload_n dX5_music_35 1 rfl ?_
    refine j_callV (rm := rX2_read) (As := [.ref tx, .int (nI ln)]) (st := []) (b0 := rd) (ci := 2) (na := 2) (c_read f4 f5 f6 f7 f3 ht (by omega) (by omega) (by omega)) (by intro E w9 h9; first | exact nomatch h9.1 | (obtain ⟨_, h9, _⟩ := h9; exact nomatch h9) | (obtain ⟨_, _, _, h9, _⟩ := h9; exact nomatch h9)) gX5_music_X2_read rfl rfl f4 (by decide +kernel) rfl ⟨Nat.le_of_ble_eq_true rfl, Nat.le_of_ble_eq_true rfl⟩ rfl (Nat.le_of_ble_eq_true rfl) dX5_music_36 ⟨(show 0 + 0 ≤ 2 by omega), (show 0 + 0 ≤ 1606 by omega)⟩ (fun v12 w13 h14 => ?_)
    obtain ⟨h14, hFr, g_rd, g_sd, g_fd, g_to⟩ := h14
    cases h14
    obtain ⟨⟨flA, aA, sdA, mrA, cuA, mkdA, cudA, repA, npA, ocA, fA, evA, beA, cqA, stA, meA, paA⟩, hR⟩ : ∃ R, R = rRead t ln f := ⟨_, rfl⟩
    rw [← hR] at g_rd g_sd g_fd g_to ⊢
    have hfl : (rRead t ln f).1 = flA := by rw [← hR]
    refine j_after (st' := [.int (nI flA)]) (k' := 0) (n' := 0) rfl rfl rfl ?_
    have f15 : w13 pt = some (.inr (5, [.ref tx, .int (nI 0), .ref rd, .ref sc, .ref fo, .int (nI ld)])) := (hFr pt (by simp only [List.mem_cons, List.not_mem_nil, or_false, not_or]; exact ⟨(fk f2 f4 rfl), (fk f2 f5 rfl), (fk f2 f6 rfl), (fk f2 f7 rfl)⟩)).trans f2
    have f16 : w13 tx = some (.inl (1, 2400, .inl (fun j9 => sb_b (t j9)))) := (hFr tx (by simp only [List.mem_cons, List.not_mem_nil, or_false, not_or]; exact ⟨(fk f3 f4 rfl), (fk f3 f5 rfl), (fk f3 f6 rfl), (fk f3 f7 rfl)⟩)).trans f3
    have f17 : w13 rd = some (.inr (2, [.ref to, .ref sd, .int (nI sdA), .int (nI mrA), .int (nI cuA), .int (zb mkdA), .int (zb cudA), .int (nI repA), .int (nI flA), .int (fpR (flA, aA, sdA, mrA, cuA, mkdA, cudA, repA, npA, ocA, fA, evA, beA, cqA, stA, meA, paA))])) := g_rd
    have f18 : w13 sd = some (.inr (3, [.ref fd, .int (nI evA), .int (nI beA), .int (nI cqA), .int (nI stA), .int (nI meA), .int (nI paA)])) := g_sd
    have f19 : w13 fd = some (.inl (0, 1400, .inl fA)) := g_fd
    have f20 : w13 to = some (.inr (4, [.ref tx, .int (nI ln), .int (nI ((tk t ln aA).1)), .int (nI ((tk t ln aA).2.1)), .int (nI aA), .int ((tk t ln aA).2.2)])) := g_to
    have f21 : w13 sc = some (.inr (3, [.ref fb, .int (nI ev1), .int (nI be1), .int (nI cq1), .int (nI st1), .int (nI me1), .int (nI pa1)])) := (hFr sc (by simp only [List.mem_cons, List.not_mem_nil, or_false, not_or]; exact ⟨(fk f8 f4 rfl), (Ne.symm hsn), (fk f8 f6 rfl), (fk f8 f7 rfl)⟩)).trans f8
    have f22 : w13 fo = some (.inr (0, [.ref sc, .ref pr, .ref ar, .ref de, .ref ms, .ref mn, .int (nI nt)])) := (hFr fo (by simp only [List.mem_cons, List.not_mem_nil, or_false, not_or]; exact ⟨(fk f9 f4 rfl), (fk f9 f5 rfl), (fk f9 f6 rfl), (fk f9 f7 rfl)⟩)).trans f9
    have f23 : w13 ms = some (.inr (1, [va_rf bf1, va_rf nx1, .ref c0, .int (nI cl1), .int (nI pe1), .int (nI pb1), .int (nI pc1), .int (nI an1), va_rf av1, va_rf ah1])) := (hFr ms (by simp only [List.mem_cons, List.not_mem_nil, or_false, not_or]; exact ⟨(fk f10 f4 rfl), (fk f10 f5 rfl), (fk f10 f6 rfl), (fk f10 f7 rfl)⟩)).trans f10
    have f24 : w13 c0 = some (.inl (0, cn, .inl (fun j9 => nI (d j9)))) := (hFr c0 (by simp only [List.mem_cons, List.not_mem_nil, or_false, not_or]; exact ⟨(fk f11 f4 rfl), (fk f11 f5 rfl), (Ne.symm hfc), (fk f11 f7 rfl)⟩)).trans f11
    have hbd3 : flA ≤ 3 := by rw [← hfl]; exact rRead_le
    refine j_istore_n (lv' := [(2, .int (nI flA)), (0, .ref pt), (1, .int (nI ln))]) dX5_music_39 (Nat.le_of_ble_eq_true rfl) rfl ?_
    refine j_iload_n dX5_music_40 0 rfl ?_
    refine j_if_neN 70 (by omega) dX5_music_41 (by decide) (fun c41 => ?_) (fun c41 => ?_)
    · skip
      exact absurd (hfl.symm.trans hfa0) c41
    · skip
      refine j_aload_n dX5_music_44 1 rfl ?_
      refine j_aload_n dX5_music_45 1 rfl ?_
      refine j_get flX5_music_20 f15 rfl dX5_music_46 ?_
      refine j_aload_n dX5_music_49 1 rfl ?_
      refine j_get flX5_music_27 f15 rfl dX5_music_50 ?_
      refine j_callV (rm := rX2_trade) (As := [.ref sc]) (st := [.ref pt]) (b0 := rd) (ci := 2) (na := 1) (c_trade (so := sc) f17) (by intro E w9 h9; first | exact nomatch h9.1 | (obtain ⟨_, h9, _⟩ := h9; exact nomatch h9) | (obtain ⟨_, _, _, h9, _⟩ := h9; exact nomatch h9)) gX5_music_X2_trade rfl rfl f17 (by decide +kernel) rfl ⟨Nat.le_of_ble_eq_true rfl, Nat.le_of_ble_eq_true rfl⟩ rfl (Nat.le_of_ble_eq_true rfl) dX5_music_53 ⟨(show 0 + 0 ≤ 2 by omega), (show 0 + 0 ≤ 1606 by omega)⟩ (fun v25 w26 h27 => ?_)
      obtain ⟨h27, h28⟩ := h27
      cases h27
      -- w26
      refine j_after (st' := [.ref sd, .ref pt]) (k' := 0) (n' := 0) rfl rfl rfl ?_
      have f29 : w26 pt = some (.inr (5, [.ref tx, .int (nI 0), .ref rd, .ref sc, .ref fo, .int (nI ld)])) := by rw [h28]; exact (va_up_ne _ _ (fk f15 f17 rfl)).trans (f15)
      have f30 : w26 tx = some (.inl (1, 2400, .inl (fun j9 => sb_b (t j9)))) := by rw [h28]; exact (va_up_ne _ _ (fk f16 f17 rfl)).trans (f16)
      have f31 : w26 rd = some (.inr (2, [.ref to, .ref sc, .int (nI sdA), .int (nI mrA), .int (nI cuA), .int (zb mkdA), .int (zb cudA), .int (nI repA), .int (nI flA), .int (fpR (flA, aA, sdA, mrA, cuA, mkdA, cudA, repA, npA, ocA, fA, evA, beA, cqA, stA, meA, paA))])) := by rw [h28]; exact va_up_self _ _ _
      have f32 : w26 sd = some (.inr (3, [.ref fd, .int (nI evA), .int (nI beA), .int (nI cqA), .int (nI stA), .int (nI meA), .int (nI paA)])) := by rw [h28]; exact (va_up_ne _ _ (fk f18 f17 rfl)).trans (f18)
      have f33 : w26 fd = some (.inl (0, 1400, .inl fA)) := by rw [h28]; exact (va_up_ne _ _ (fk f19 f17 rfl)).trans (f19)
      have f34 : w26 to = some (.inr (4, [.ref tx, .int (nI ln), .int (nI ((tk t ln aA).1)), .int (nI ((tk t ln aA).2.1)), .int (nI aA), .int ((tk t ln aA).2.2)])) := by rw [h28]; exact (va_up_ne _ _ (fk f20 f17 rfl)).trans (f20)
      have f35 : w26 sc = some (.inr (3, [.ref fb, .int (nI ev1), .int (nI be1), .int (nI cq1), .int (nI st1), .int (nI me1), .int (nI pa1)])) := by rw [h28]; exact (va_up_ne _ _ (fk f21 f17 rfl)).trans (f21)
      have f36 : w26 fo = some (.inr (0, [.ref sc, .ref pr, .ref ar, .ref de, .ref ms, .ref mn, .int (nI nt)])) := by rw [h28]; exact (va_up_ne _ _ (fk f22 f17 rfl)).trans (f22)
      have f37 : w26 ms = some (.inr (1, [va_rf bf1, va_rf nx1, .ref c0, .int (nI cl1), .int (nI pe1), .int (nI pb1), .int (nI pc1), .int (nI an1), va_rf av1, va_rf ah1])) := by rw [h28]; exact (va_up_ne _ _ (fk f23 f17 rfl)).trans (f23)
      have f38 : w26 c0 = some (.inl (0, cn, .inl (fun j9 => nI (d j9)))) := by rw [h28]; exact (va_up_ne _ _ (fk f24 f17 rfl)).trans (f24)
      refine j_put (fs9 := [.ref tx, .int (nI 0), .ref rd, .ref sd, .ref fo, .int (nI ld)]) fsX5_music_27 f29 rfl rfl (Nat.le_of_ble_eq_true rfl) rfl dX5_music_56 ?_
      refine j_w (fun w39 hw39 => ?_)
      have f40 : w39 pt = some (.inr (5, [.ref tx, .int (nI 0), .ref rd, .ref sd, .ref fo, .int (nI ld)])) := up_at hw39
      have f41 := up_ne hw39 (fk f30 f29 rfl) f30
      have f42 := up_ne hw39 (fk f31 f29 rfl) f31
      have f43 := up_ne hw39 (fk f32 f29 rfl) f32
      have f44 := up_ne hw39 (fk f33 f29 rfl) f33
      have f45 := up_ne hw39 (fk f34 f29 rfl) f34
      have f46 := up_ne hw39 (fk f35 f29 rfl) f35
      have f47 := up_ne hw39 (fk f36 f29 rfl) f36
      have f48 := up_ne hw39 (fk f37 f29 rfl) f37
      have f49 := up_ne hw39 (fk f38 f29 rfl) f38
      refine j_aload_n dX5_music_59 1 rfl ?_
      refine j_get flX5_music_36 f40 rfl dX5_music_60 ?_
      refine j_aload_n dX5_music_63 1 rfl ?_
      refine j_get flX5_music_27 f40 rfl dX5_music_64 ?_
      have hstA : stA ≤ 1600 := by rw [← hR] at hst9; exact hst9
      refine j_callV (rm := rX0_begin) (As := [.ref sd]) (st := []) (b0 := fo) (ci := 0) (na := 1) (c_begin f47 f43 f48 f49 hstA hcn hdd) (by intro E w9 h9; first | exact nomatch h9.1 | (obtain ⟨_, h9, _⟩ := h9; exact nomatch h9) | (obtain ⟨_, _, _, h9, _⟩ := h9; exact nomatch h9)) gX5_music_X0_begin rfl rfl f47 (by decide +kernel) rfl ⟨Nat.le_of_ble_eq_true rfl, Nat.le_of_ble_eq_true rfl⟩ rfl (Nat.le_of_ble_eq_true rfl) dX5_music_67 ⟨(show 0 + 1 ≤ 2 by omega), (show 0 + 1600 ≤ 1606 by omega)⟩ (fun v50 w51 h52 => ?_)
      obtain ⟨h52, q9, cn9, d9, hq9, hst8, ⟨g_q, g_ms, g_fo⟩, hfs⟩ := h52
      cases h52
      refine j_after (st' := []) (k' := 1) (n' := 1600) rfl rfl rfl ?_
      have f53 : w51 pt = some (.inr (5, [.ref tx, .int (nI 0), .ref rd, .ref sd, .ref fo, .int (nI ld)])) := hfs _ _ (by simp only [List.mem_cons, List.not_mem_nil, or_false, not_or]; exact ⟨(fk f40 f47 rfl), (fk f40 f48 rfl), (fk f40 f49 rfl)⟩) f40
      have f54 : w51 rd = some (.inr (2, [.ref to, .ref sc, .int (nI sdA), .int (nI mrA), .int (nI cuA), .int (zb mkdA), .int (zb cudA), .int (nI repA), .int (nI flA), .int (fpR (flA, aA, sdA, mrA, cuA, mkdA, cudA, repA, npA, ocA, fA, evA, beA, cqA, stA, meA, paA))])) := hfs _ _ (by simp only [List.mem_cons, List.not_mem_nil, or_false, not_or]; exact ⟨(fk f42 f47 rfl), (fk f42 f48 rfl), (fk f42 f49 rfl)⟩) f42
      have f55 : w51 sd = some (.inr (3, [.ref fd, .int (nI evA), .int (nI beA), .int (nI cqA), .int (nI stA), .int (nI meA), .int (nI paA)])) := hfs _ _ (by simp only [List.mem_cons, List.not_mem_nil, or_false, not_or]; exact ⟨(fk f43 f47 rfl), (fk f43 f48 rfl), (fk f43 f49 rfl)⟩) f43
      have f56 : w51 fd = some (.inl (0, 1400, .inl fA)) := hfs _ _ (by simp only [List.mem_cons, List.not_mem_nil, or_false, not_or]; exact ⟨(fk f44 f47 rfl), (fk f44 f48 rfl), hfc⟩) f44
      have f57 : w51 to = some (.inr (4, [.ref tx, .int (nI ln), .int (nI ((tk t ln aA).1)), .int (nI ((tk t ln aA).2.1)), .int (nI aA), .int ((tk t ln aA).2.2)])) := hfs _ _ (by simp only [List.mem_cons, List.not_mem_nil, or_false, not_or]; exact ⟨(fk f45 f47 rfl), (fk f45 f48 rfl), (fk f45 f49 rfl)⟩) f45
      have f58 : w51 sc = some (.inr (3, [.ref fb, .int (nI ev1), .int (nI be1), .int (nI cq1), .int (nI st1), .int (nI me1), .int (nI pa1)])) := hfs _ _ (by simp only [List.mem_cons, List.not_mem_nil, or_false, not_or]; exact ⟨(fk f46 f47 rfl), (fk f46 f48 rfl), (fk f46 f49 rfl)⟩) f46
      have f59 : w51 tx = some (.inl (1, 2400, .inl (fun j9 => sb_b (t j9)))) := hfs _ _ (by simp only [List.mem_cons, List.not_mem_nil, or_false, not_or]; exact ⟨(fk f41 f47 rfl), (fk f41 f48 rfl), (fk f41 f49 rfl)⟩) f41
      refine j_iload_n dX5_music_70 0 rfl ?_
      have hFw := (((((Fr.refl : Fr [pt, rd, sd, fd, to] w w).trans (Fr.up hw1 (by simp))).trans (hFr.mono (by simp))).trans (Fr.up h28 (by simp))).trans (Fr.up hw39 (by simp)))
      have hDw := Dm.ofFr hFw (by intro a ha; simp only [List.mem_cons, List.not_mem_nil, or_false] at ha; rcases ha with rfl | rfl | rfl | rfl | rfl <;> first | exact nn f40 | exact nn f42 | exact nn f43 | exact nn f44 | exact nn f45)
      subst c41
      exact j_iret rfl (by exact ⟨rfl, ⟨q9, cn9, d9, hq9.imp id (fun z => ⟨hDw _ z.1, z.2⟩), hst8, g_q, g_ms⟩, g_fo, (hFw.s.mono (by simp)).trans (hfs.mono (by simp)), f53, f54, f55, f56, f57⟩) (show 1 ≤ 2 by omega) (show 1600 ≤ 1606 by omega) dX5_music_71
  · skip
    exfalso; omega
