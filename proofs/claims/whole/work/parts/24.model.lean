abbrev rX6_thrown : Room := { frames := 0, cells := 0, slots := 0, locals := 0 }
theorem flX6_thrown_80 : FL wsX6_thrown RX6 80 6 0 := ⟨RX6, TX6, 45, rfl, by decide, by decide +kernel, by decide +kernel⟩
set_option maxHeartbeats 4000000 in
set_option maxRecDepth 100000 in
theorem m_thrown {w : pW} {mm co0 tp tpd flt ev ms pg be cu kd mn pi bt sz me pa le im ic ol os at_ ln tkn sg bg en ba bp mk0 fm rf nt ti pe pb cos op pr ae aT an ld : Nat} {fpl nu : Int32} (hmm : w mm = some (.inr (6, [.int (nI co0), .ref tp, .int (nI tpd), .int (nI flt), .int fpl, .int (nI ev), .int (nI ms), .int (nI pg), .int (nI be), .int (nI cu), .ref kd, .ref mn, .ref pi, .ref bt, .ref sz, .ref me, .ref pa, .ref le, .ref im, .ref ic, .ref ol, .int (nI os), .int (nI at_), .int (nI ln), .int (nI tkn), .int (nI sg), .int nu, .int (nI bg), .int (nI en), .int (nI ba), .int (nI bp), .int (nI mk0), .int (nI fm), .int (nI rf), .int (nI nt), .ref ti, .ref pe, .ref pb, .ref cos, .ref op, .ref pr, .ref ae, .ref aT, .int (nI an), .int (nI ld)]))) : Ct yX6_thrown wsX6_thrown rX6_thrown [.ref mm] w (fun o w9 => o = .inl (some (.int (nI co0))) ∧ w9 = w) := by
  refine Ct.of (cc := cX6_thrown) (own := RX6) (nm := "thrown") (nL := 1) (ret := (some .int)) (by decide +kernel) rfl rfl rfl (Nat.le_of_ble_eq_true rfl) ?_
  refine j_lvE (lv' := [(0, .ref mm)]) rfl ?_
  refine j_aload_n dX6_thrown_0 0 rfl ?_
  refine j_get flX6_thrown_80 hmm rfl dX6_thrown_1 ?_
  exact j_iret rfl ⟨rfl, rfl⟩ (show 0 ≤ 0 by omega) (show 0 ≤ 0 by omega) dX6_thrown_4
abbrev rX6_fail : Room := { frames := 0, cells := 0, slots := 0, locals := 0 }
theorem fsX6_fail_80 : FS wsX6_fail RX6 80 6 0 false (.int) := ⟨RX6, TX6, 45, tyX6, rfl, by decide, by decide +kernel, by decide +kernel, tyX6_ok, nmX6, rfl, rfl, rfl⟩
set_option maxHeartbeats 4000000 in
set_option maxRecDepth 100000 in
theorem m_fail {w : pW} {mm co0 tp tpd flt ev ms pg be cu kd mn pi bt sz me pa le im ic ol os at_ ln tkn sg bg en ba bp mk0 fm rf nt ti pe pb cos op pr ae aT an ld : Nat} {fpl nu : Int32} (hmm : w mm = some (.inr (6, [.int (nI co0), .ref tp, .int (nI tpd), .int (nI flt), .int fpl, .int (nI ev), .int (nI ms), .int (nI pg), .int (nI be), .int (nI cu), .ref kd, .ref mn, .ref pi, .ref bt, .ref sz, .ref me, .ref pa, .ref le, .ref im, .ref ic, .ref ol, .int (nI os), .int (nI at_), .int (nI ln), .int (nI tkn), .int (nI sg), .int nu, .int (nI bg), .int (nI en), .int (nI ba), .int (nI bp), .int (nI mk0), .int (nI fm), .int (nI rf), .int (nI nt), .ref ti, .ref pe, .ref pb, .ref cos, .ref op, .ref pr, .ref ae, .ref aT, .int (nI an), .int (nI ld)]))) : Ct yX6_fail wsX6_fail rX6_fail [.ref mm] w (fun o w9 => o = .inl (some (.int (nI 0))) ∧ w9 = va_up w mm (some (.inr (6, [.int (nI 1), .ref tp, .int (nI tpd), .int (nI flt), .int fpl, .int (nI ev), .int (nI ms), .int (nI pg), .int (nI be), .int (nI cu), .ref kd, .ref mn, .ref pi, .ref bt, .ref sz, .ref me, .ref pa, .ref le, .ref im, .ref ic, .ref ol, .int (nI os), .int (nI at_), .int (nI ln), .int (nI tkn), .int (nI sg), .int nu, .int (nI bg), .int (nI en), .int (nI ba), .int (nI bp), .int (nI mk0), .int (nI fm), .int (nI rf), .int (nI nt), .ref ti, .ref pe, .ref pb, .ref cos, .ref op, .ref pr, .ref ae, .ref aT, .int (nI an), .int (nI ld)])))) := by
  refine Ct.of (cc := cX6_fail) (own := RX6) (nm := "fail") (nL := 1) (ret := (some .int)) (by decide +kernel) rfl rfl rfl (Nat.le_of_ble_eq_true rfl) ?_
  refine j_lvE (lv' := [(0, .ref mm)]) rfl ?_
  refine j_aload_n dX6_fail_0 0 rfl ?_
  refine j_iconst (v := nI 1) dX6_fail_1 (by decide) ?_
  refine j_put (fs9 := [.int (nI 1), .ref tp, .int (nI tpd), .int (nI flt), .int fpl, .int (nI ev), .int (nI ms), .int (nI pg), .int (nI be), .int (nI cu), .ref kd, .ref mn, .ref pi, .ref bt, .ref sz, .ref me, .ref pa, .ref le, .ref im, .ref ic, .ref ol, .int (nI os), .int (nI at_), .int (nI ln), .int (nI tkn), .int (nI sg), .int nu, .int (nI bg), .int (nI en), .int (nI ba), .int (nI bp), .int (nI mk0), .int (nI fm), .int (nI rf), .int (nI nt), .ref ti, .ref pe, .ref pb, .ref cos, .ref op, .ref pr, .ref ae, .ref aT, .int (nI an), .int (nI ld)]) fsX6_fail_80 hmm rfl rfl (Nat.le_of_ble_eq_true rfl) rfl dX6_fail_2 ?_
  refine j_w (fun w1 hw1 => ?_)
  have f2 : w1 mm = some (.inr (6, [.int (nI 1), .ref tp, .int (nI tpd), .int (nI flt), .int fpl, .int (nI ev), .int (nI ms), .int (nI pg), .int (nI be), .int (nI cu), .ref kd, .ref mn, .ref pi, .ref bt, .ref sz, .ref me, .ref pa, .ref le, .ref im, .ref ic, .ref ol, .int (nI os), .int (nI at_), .int (nI ln), .int (nI tkn), .int (nI sg), .int nu, .int (nI bg), .int (nI en), .int (nI ba), .int (nI bp), .int (nI mk0), .int (nI fm), .int (nI rf), .int (nI nt), .ref ti, .ref pe, .ref pb, .ref cos, .ref op, .ref pr, .ref ae, .ref aT, .int (nI an), .int (nI ld)])) := up_at hw1
  refine j_iconst (v := nI 0) dX6_fail_5 (by decide) ?_
  exact j_iret rfl ⟨rfl, hw1⟩ (show 0 ≤ 0 by omega) (show 0 ≤ 0 by omega) dX6_fail_6
abbrev rX6_byteAt : Room := { frames := 0, cells := 0, slots := 0, locals := 0 }
theorem flX6_byteAt_86 : FL wsX6_byteAt RX6 86 6 23 := ⟨RX6, TX6, 45, rfl, by decide, by decide +kernel, by decide +kernel⟩
theorem flX6_byteAt_9 : FL wsX6_byteAt RX6 9 6 1 := ⟨RX6, TX6, 45, rfl, by decide, by decide +kernel, by decide +kernel⟩
set_option maxHeartbeats 4000000 in
set_option maxRecDepth 100000 in
theorem m_byteAt {w : pW} {mm co0 tp tpd flt ev ms pg be cu kd mn pi bt sz me pa le im ic ol os at_ ln tkn sg bg en ba bp mk0 fm rf nt ti pe pb cos op pr ae aT an ld : Nat} {fpl nu : Int32} {t : Nat → Nat} {i : Nat} (hmm : w mm = some (.inr (6, [.int (nI co0), .ref tp, .int (nI tpd), .int (nI flt), .int fpl, .int (nI ev), .int (nI ms), .int (nI pg), .int (nI be), .int (nI cu), .ref kd, .ref mn, .ref pi, .ref bt, .ref sz, .ref me, .ref pa, .ref le, .ref im, .ref ic, .ref ol, .int (nI os), .int (nI at_), .int (nI ln), .int (nI tkn), .int (nI sg), .int nu, .int (nI bg), .int (nI en), .int (nI ba), .int (nI bp), .int (nI mk0), .int (nI fm), .int (nI rf), .int (nI nt), .ref ti, .ref pe, .ref pb, .ref cos, .ref op, .ref pr, .ref ae, .ref aT, .int (nI an), .int (nI ld)]))) (htp : w tp = some (.inl (0, 2400, .inl (fun j9 => nI (t j9))))) (hln : ln ≤ 2400) (hi : i < 2 ^ 31) : Ct yX6_byteAt wsX6_byteAt rX6_byteAt [.ref mm, .int (nI i)] w (fun o w9 => o = .inl (some (.int (bA t ln i))) ∧ w9 = w) := by
  refine Ct.of (cc := cX6_byteAt) (own := RX6) (nm := "byteAt") (nL := 2) (ret := (some .int)) (by decide +kernel) rfl rfl rfl (Nat.le_of_ble_eq_true rfl) ?_
  refine j_lvE (lv' := [(0, .ref mm), (1, .int (nI i))]) rfl ?_
  refine j_iload_n dX6_byteAt_0 1 rfl ?_
  refine j_aload_n dX6_byteAt_1 0 rfl ?_
  refine j_get flX6_byteAt_86 hmm rfl dX6_byteAt_2 ?_
  refine j_icmp_geN 17 (by omega) (by omega) dX6_byteAt_5 (by decide) (fun c5 => ?_) (fun c5 => ?_)
  · skip
    refine j_iconst (v := (-1)) dX6_byteAt_17 (by decide) ?_
    exact j_iret rfl ⟨by rw [bA_out (by omega)], rfl⟩ (show 0 ≤ 0 by omega) (show 0 ≤ 0 by omega) dX6_byteAt_18
  · skip
    refine j_aload_n dX6_byteAt_8 0 rfl ?_
    refine j_get flX6_byteAt_9 hmm rfl dX6_byteAt_9 ?_
    refine j_iload_n dX6_byteAt_12 1 rfl ?_
    refine j_ialdN (j := i) htp rfl (by omega) (by omega) dX6_byteAt_13 ?_
    refine j_goto 18 dX6_byteAt_14 (by decide) ?_
    exact j_iret rfl ⟨by rw [bA_in (by omega)], rfl⟩ (show 0 ≤ 0 by omega) (show 0 ≤ 0 by omega) dX6_byteAt_18
abbrev rX6_isDigit : Room := { frames := 0, cells := 0, slots := 0, locals := 0 }
set_option maxHeartbeats 4000000 in
set_option maxRecDepth 100000 in
theorem m_isDigit {w : pW} {c : Int32} : Ct yX6_isDigit wsX6_isDigit rX6_isDigit [.int c] w (fun o w9 => o = .inl (some (.int (zb (isD c)))) ∧ w9 = w) := by
  refine Ct.of (cc := cX6_isDigit) (own := RX6) (nm := "isDigit") (nL := 1) (ret := (some .boolean)) (by decide +kernel) rfl rfl rfl (Nat.le_of_ble_eq_true rfl) ?_
  refine j_lvE (lv' := [(0, .int c)]) rfl ?_
  refine j_iload_n dX6_isDigit_0 0 rfl ?_
  refine j_bipush (v := nI 48) dX6_isDigit_1 (by decide) ?_
  refine j_icmp_lt 16 dX6_isDigit_3 (by decide) (fun c3 => ?_) (fun c3 => ?_)
  · skip
    refine j_iconst (v := nI 0) dX6_isDigit_16 (by decide) ?_
    exact j_zret rfl (Or.inl rfl) ⟨by unfold isD; rw [zb_f (decide_eq_false (fun h => by first | exact h.1 c3 | exact h.2 c9))]; rfl, rfl⟩ (show 0 ≤ 0 by omega) (show 0 ≤ 0 by omega) dX6_isDigit_17
  · skip
    refine j_iload_n dX6_isDigit_6 0 rfl ?_
    refine j_bipush (v := nI 57) dX6_isDigit_7 (by decide) ?_
    refine j_icmp_gt 16 dX6_isDigit_9 (by decide) (fun c9 => ?_) (fun c9 => ?_)
    · skip
      refine j_iconst (v := nI 0) dX6_isDigit_16 (by decide) ?_
      exact j_zret rfl (Or.inl rfl) ⟨by unfold isD; rw [zb_f (decide_eq_false (fun h => by first | exact h.1 c3 | exact h.2 c9))]; rfl, rfl⟩ (show 0 ≤ 0 by omega) (show 0 ≤ 0 by omega) dX6_isDigit_17
    · skip
      refine j_iconst (v := nI 1) dX6_isDigit_12 (by decide) ?_
      refine j_goto 17 dX6_isDigit_13 (by decide) ?_
      exact j_zret rfl (Or.inr rfl) ⟨by unfold isD; rw [zb_t (decide_eq_true ⟨c3, c9⟩)]; rfl, rfl⟩ (show 0 ≤ 0 by omega) (show 0 ≤ 0 by omega) dX6_isDigit_17
abbrev rX6_wrong : Room := { frames := 0, cells := 0, slots := 0, locals := 0 }
theorem flX6_wrong_124 : FL wsX6_wrong RX6 124 6 29 := ⟨RX6, TX6, 45, rfl, by decide, by decide +kernel, by decide +kernel⟩
theorem fsX6_wrong_124 : FS wsX6_wrong RX6 124 6 29 false (.int) := ⟨RX6, TX6, 45, tyX6, rfl, by decide, by decide +kernel, by decide +kernel, tyX6_ok, nmX6, rfl, rfl, rfl⟩
theorem flX6_wrong_96 : FL wsX6_wrong RX6 96 6 27 := ⟨RX6, TX6, 45, rfl, by decide, by decide +kernel, by decide +kernel⟩
theorem fsX6_wrong_127 : FS wsX6_wrong RX6 127 6 30 false (.int) := ⟨RX6, TX6, 45, tyX6, rfl, by decide, by decide +kernel, by decide +kernel, tyX6_ok, nmX6, rfl, rfl, rfl⟩
set_option maxHeartbeats 4000000 in
set_option maxRecDepth 100000 in
theorem m_wrong0 {w : pW} {mm co0 tp tpd flt ev ms pg be cu kd mn pi bt sz me pa le im ic ol os at_ ln tkn sg bg en ba bp mk0 fm rf nt ti pe pb cos op pr ae aT an ld : Nat} {fpl nu : Int32} (hmm : w mm = some (.inr (6, [.int (nI co0), .ref tp, .int (nI tpd), .int (nI flt), .int fpl, .int (nI ev), .int (nI ms), .int (nI pg), .int (nI be), .int (nI cu), .ref kd, .ref mn, .ref pi, .ref bt, .ref sz, .ref me, .ref pa, .ref le, .ref im, .ref ic, .ref ol, .int (nI os), .int (nI at_), .int (nI ln), .int (nI tkn), .int (nI sg), .int nu, .int (nI bg), .int (nI en), .int (nI ba), .int (nI bp), .int (nI mk0), .int (nI fm), .int (nI rf), .int (nI nt), .ref ti, .ref pe, .ref pb, .ref cos, .ref op, .ref pr, .ref ae, .ref aT, .int (nI an), .int (nI ld)]))) {k : Nat} (hba : ba = 0) : Ct yX6_wrong wsX6_wrong rX6_wrong [.ref mm, .int (nI k)] w (fun o w9 => o = .inl none ∧ w9 = va_up w mm (some (.inr (6, [.int (nI co0), .ref tp, .int (nI tpd), .int (nI flt), .int fpl, .int (nI ev), .int (nI ms), .int (nI pg), .int (nI be), .int (nI cu), .ref kd, .ref mn, .ref pi, .ref bt, .ref sz, .ref me, .ref pa, .ref le, .ref im, .ref ic, .ref ol, .int (nI os), .int (nI at_), .int (nI ln), .int (nI tkn), .int (nI sg), .int nu, .int (nI bg), .int (nI en), .int (nI k), .int (nI bg), .int (nI mk0), .int (nI fm), .int (nI rf), .int (nI nt), .ref ti, .ref pe, .ref pb, .ref cos, .ref op, .ref pr, .ref ae, .ref aT, .int (nI an), .int (nI ld)])))) := by
  refine Ct.of (cc := cX6_wrong) (own := RX6) (nm := "wrong") (nL := 2) (ret := none) (by decide +kernel) rfl rfl rfl (Nat.le_of_ble_eq_true rfl) ?_
  refine j_lvE (lv' := [(0, .ref mm), (1, .int (nI k))]) rfl ?_
  refine j_aload_n dX6_wrong_0 0 rfl ?_
  refine j_get flX6_wrong_124 hmm rfl dX6_wrong_1 ?_
  refine j_if_eqN 8 (by omega) dX6_wrong_4 (by decide) (fun c4 => ?_) (fun c4 => ?_)
  · skip
    refine j_aload_n dX6_wrong_8 0 rfl ?_
    refine j_iload_n dX6_wrong_9 1 rfl ?_
    refine j_put (fs9 := [.int (nI co0), .ref tp, .int (nI tpd), .int (nI flt), .int fpl, .int (nI ev), .int (nI ms), .int (nI pg), .int (nI be), .int (nI cu), .ref kd, .ref mn, .ref pi, .ref bt, .ref sz, .ref me, .ref pa, .ref le, .ref im, .ref ic, .ref ol, .int (nI os), .int (nI at_), .int (nI ln), .int (nI tkn), .int (nI sg), .int nu, .int (nI bg), .int (nI en), .int (nI k), .int (nI bp), .int (nI mk0), .int (nI fm), .int (nI rf), .int (nI nt), .ref ti, .ref pe, .ref pb, .ref cos, .ref op, .ref pr, .ref ae, .ref aT, .int (nI an), .int (nI ld)]) fsX6_wrong_124 hmm rfl rfl (Nat.le_of_ble_eq_true rfl) rfl dX6_wrong_10 ?_
    refine j_w (fun w1 hw1 => ?_)
    have f2 : w1 mm = some (.inr (6, [.int (nI co0), .ref tp, .int (nI tpd), .int (nI flt), .int fpl, .int (nI ev), .int (nI ms), .int (nI pg), .int (nI be), .int (nI cu), .ref kd, .ref mn, .ref pi, .ref bt, .ref sz, .ref me, .ref pa, .ref le, .ref im, .ref ic, .ref ol, .int (nI os), .int (nI at_), .int (nI ln), .int (nI tkn), .int (nI sg), .int nu, .int (nI bg), .int (nI en), .int (nI k), .int (nI bp), .int (nI mk0), .int (nI fm), .int (nI rf), .int (nI nt), .ref ti, .ref pe, .ref pb, .ref cos, .ref op, .ref pr, .ref ae, .ref aT, .int (nI an), .int (nI ld)])) := up_at hw1
    refine j_aload_n dX6_wrong_13 0 rfl ?_
    refine j_aload_n dX6_wrong_14 0 rfl ?_
    refine j_get flX6_wrong_96 f2 rfl dX6_wrong_15 ?_
    refine j_put (fs9 := [.int (nI co0), .ref tp, .int (nI tpd), .int (nI flt), .int fpl, .int (nI ev), .int (nI ms), .int (nI pg), .int (nI be), .int (nI cu), .ref kd, .ref mn, .ref pi, .ref bt, .ref sz, .ref me, .ref pa, .ref le, .ref im, .ref ic, .ref ol, .int (nI os), .int (nI at_), .int (nI ln), .int (nI tkn), .int (nI sg), .int nu, .int (nI bg), .int (nI en), .int (nI k), .int (nI bg), .int (nI mk0), .int (nI fm), .int (nI rf), .int (nI nt), .ref ti, .ref pe, .ref pb, .ref cos, .ref op, .ref pr, .ref ae, .ref aT, .int (nI an), .int (nI ld)]) fsX6_wrong_127 f2 rfl rfl (Nat.le_of_ble_eq_true rfl) rfl dX6_wrong_18 ?_
    refine j_w (fun w3 hw3 => ?_)
    have f4 : w3 mm = some (.inr (6, [.int (nI co0), .ref tp, .int (nI tpd), .int (nI flt), .int fpl, .int (nI ev), .int (nI ms), .int (nI pg), .int (nI be), .int (nI cu), .ref kd, .ref mn, .ref pi, .ref bt, .ref sz, .ref me, .ref pa, .ref le, .ref im, .ref ic, .ref ol, .int (nI os), .int (nI at_), .int (nI ln), .int (nI tkn), .int (nI sg), .int nu, .int (nI bg), .int (nI en), .int (nI k), .int (nI bg), .int (nI mk0), .int (nI fm), .int (nI rf), .int (nI nt), .ref ti, .ref pe, .ref pb, .ref cos, .ref op, .ref pr, .ref ae, .ref aT, .int (nI an), .int (nI ld)])) := up_at hw3
    exact j_vret rfl ⟨rfl, by rw [hw3, hw1]; simp only [bx_uu]⟩ (show 0 ≤ 0 by omega) (show 0 ≤ 0 by omega) dX6_wrong_21
  · skip
    exfalso; omega
set_option maxHeartbeats 4000000 in
set_option maxRecDepth 100000 in
theorem m_wrong1 {w : pW} {mm co0 tp tpd flt ev ms pg be cu kd mn pi bt sz me pa le im ic ol os at_ ln tkn sg bg en ba bp mk0 fm rf nt ti pe pb cos op pr ae aT an ld : Nat} {fpl nu : Int32} (hmm : w mm = some (.inr (6, [.int (nI co0), .ref tp, .int (nI tpd), .int (nI flt), .int fpl, .int (nI ev), .int (nI ms), .int (nI pg), .int (nI be), .int (nI cu), .ref kd, .ref mn, .ref pi, .ref bt, .ref sz, .ref me, .ref pa, .ref le, .ref im, .ref ic, .ref ol, .int (nI os), .int (nI at_), .int (nI ln), .int (nI tkn), .int (nI sg), .int nu, .int (nI bg), .int (nI en), .int (nI ba), .int (nI bp), .int (nI mk0), .int (nI fm), .int (nI rf), .int (nI nt), .ref ti, .ref pe, .ref pb, .ref cos, .ref op, .ref pr, .ref ae, .ref aT, .int (nI an), .int (nI ld)]))) {k : Nat} (hba : ba ≠ 0) (hba2 : ba < 2 ^ 31) : Ct yX6_wrong wsX6_wrong rX6_wrong [.ref mm, .int (nI k)] w (fun o w9 => o = .inl none ∧ w9 = w) := by
  refine Ct.of (cc := cX6_wrong) (own := RX6) (nm := "wrong") (nL := 2) (ret := none) (by decide +kernel) rfl rfl rfl (Nat.le_of_ble_eq_true rfl) ?_
  refine j_lvE (lv' := [(0, .ref mm), (1, .int (nI k))]) rfl ?_
  refine j_aload_n dX6_wrong_0 0 rfl ?_
  refine j_get flX6_wrong_124 hmm rfl dX6_wrong_1 ?_
  refine j_if_eqN 8 (by omega) dX6_wrong_4 (by decide) (fun c4 => ?_) (fun c4 => ?_)
  · skip
    exfalso; omega
  · skip
    exact j_vret rfl ⟨rfl, rfl⟩ (show 0 ≤ 0 by omega) (show 0 ≤ 0 by omega) dX6_wrong_7
/-- the token is the sign c -/
def isG (tkn sg c : Nat) : Bool := decide (tkn = 3 ∧ sg = c)
/-- the token begins an event; a mark, a cue or an event -/
def bgE (tkn sg : Nat) : Bool := decide (tkn = 1) || isG tkn sg 40 || isG tkn sg 126 || isG tkn sg 114
def bgM (tkn sg : Nat) : Bool := bgE tkn sg || isG tkn sg 64 || isG tkn sg 33
abbrev rX6_isSign : Room := { frames := 0, cells := 0, slots := 0, locals := 0 }
theorem flX6_isSign_102 : FL wsX6_isSign RX6 102 6 24 := ⟨RX6, TX6, 45, rfl, by decide, by decide +kernel, by decide +kernel⟩
theorem flX6_isSign_99 : FL wsX6_isSign RX6 99 6 25 := ⟨RX6, TX6, 45, rfl, by decide, by decide +kernel, by decide +kernel⟩
set_option maxHeartbeats 4000000 in
set_option maxRecDepth 100000 in
theorem m_isSign {w : pW} {mm co0 tp tpd flt ev ms pg be cu kd mn pi bt sz me pa le im ic ol os at_ ln tkn sg bg en ba bp mk0 fm rf nt ti pe pb cos op pr ae aT an ld : Nat} {fpl nu : Int32} (hmm : w mm = some (.inr (6, [.int (nI co0), .ref tp, .int (nI tpd), .int (nI flt), .int fpl, .int (nI ev), .int (nI ms), .int (nI pg), .int (nI be), .int (nI cu), .ref kd, .ref mn, .ref pi, .ref bt, .ref sz, .ref me, .ref pa, .ref le, .ref im, .ref ic, .ref ol, .int (nI os), .int (nI at_), .int (nI ln), .int (nI tkn), .int (nI sg), .int nu, .int (nI bg), .int (nI en), .int (nI ba), .int (nI bp), .int (nI mk0), .int (nI fm), .int (nI rf), .int (nI nt), .ref ti, .ref pe, .ref pb, .ref cos, .ref op, .ref pr, .ref ae, .ref aT, .int (nI an), .int (nI ld)]))) (htk : tkn < 2 ^ 31) (hsg : sg < 2 ^ 31) {c : Nat} (hc : c < 2 ^ 31) : Ct yX6_isSign wsX6_isSign rX6_isSign [.ref mm, .int (nI c)] w (fun o w9 => o = .inl (some (.int (zb (isG tkn sg c)))) ∧ w9 = w) := by
  refine Ct.of (cc := cX6_isSign) (own := RX6) (nm := "isSign") (nL := 2) (ret := (some .boolean)) (by decide +kernel) rfl rfl rfl (Nat.le_of_ble_eq_true rfl) ?_
  refine j_lvE (lv' := [(0, .ref mm), (1, .int (nI c))]) rfl ?_
  refine j_aload_n dX6_isSign_0 0 rfl ?_
  refine j_get flX6_isSign_102 hmm rfl dX6_isSign_1 ?_
  refine j_iconst (v := nI 3) dX6_isSign_4 (by decide) ?_
  refine j_icmp_neN 20 (by omega) (by omega) dX6_isSign_5 (by decide) (fun c5 => ?_) (fun c5 => ?_)
  · skip
    refine j_iconst (v := nI 0) dX6_isSign_20 (by decide) ?_
    exact j_zret rfl (Or.inl rfl) ⟨by unfold isG; rw [zb_f (decide_eq_false (fun h => by omega))]; rfl, rfl⟩ (show 0 ≤ 0 by omega) (show 0 ≤ 0 by omega) dX6_isSign_21
  · skip
    refine j_aload_n dX6_isSign_8 0 rfl ?_
    refine j_get flX6_isSign_99 hmm rfl dX6_isSign_9 ?_
    refine j_iload_n dX6_isSign_12 1 rfl ?_
    refine j_icmp_neN 20 (by omega) (by omega) dX6_isSign_13 (by decide) (fun c13 => ?_) (fun c13 => ?_)
    · skip
      refine j_iconst (v := nI 0) dX6_isSign_20 (by decide) ?_
      exact j_zret rfl (Or.inl rfl) ⟨by unfold isG; rw [zb_f (decide_eq_false (fun h => by omega))]; rfl, rfl⟩ (show 0 ≤ 0 by omega) (show 0 ≤ 0 by omega) dX6_isSign_21
    · skip
      refine j_iconst (v := nI 1) dX6_isSign_16 (by decide) ?_
      refine j_goto 21 dX6_isSign_17 (by decide) ?_
      exact j_zret rfl (Or.inr rfl) ⟨by unfold isG; rw [zb_t (decide_eq_true ⟨by omega, by omega⟩)]; rfl, rfl⟩ (show 0 ≤ 0 by omega) (show 0 ≤ 0 by omega) dX6_isSign_21
abbrev rX6_beginsEvent : Room := { frames := 1, cells := 0, slots := 0, locals := 21 }
theorem flX6_beginsEvent_102 : FL wsX6_beginsEvent RX6 102 6 24 := ⟨RX6, TX6, 45, rfl, by decide, by decide +kernel, by decide +kernel⟩
set_option maxHeartbeats 4000000 in
set_option maxRecDepth 100000 in
theorem m_beginsEvent {w : pW} {mm co0 tp tpd flt ev ms pg be cu kd mn pi bt sz me pa le im ic ol os at_ ln tkn sg bg en ba bp mk0 fm rf nt ti pe pb cos op pr ae aT an ld : Nat} {fpl nu : Int32} (hmm : w mm = some (.inr (6, [.int (nI co0), .ref tp, .int (nI tpd), .int (nI flt), .int fpl, .int (nI ev), .int (nI ms), .int (nI pg), .int (nI be), .int (nI cu), .ref kd, .ref mn, .ref pi, .ref bt, .ref sz, .ref me, .ref pa, .ref le, .ref im, .ref ic, .ref ol, .int (nI os), .int (nI at_), .int (nI ln), .int (nI tkn), .int (nI sg), .int nu, .int (nI bg), .int (nI en), .int (nI ba), .int (nI bp), .int (nI mk0), .int (nI fm), .int (nI rf), .int (nI nt), .ref ti, .ref pe, .ref pb, .ref cos, .ref op, .ref pr, .ref ae, .ref aT, .int (nI an), .int (nI ld)]))) (htk : tkn < 2 ^ 31) (hsg : sg < 2 ^ 31) : Ct yX6_beginsEvent wsX6_beginsEvent rX6_beginsEvent [.ref mm] w (fun o w9 => o = .inl (some (.int (zb (bgE tkn sg)))) ∧ w9 = w) := by
  refine Ct.of (cc := cX6_beginsEvent) (own := RX6) (nm := "beginsEvent") (nL := 1) (ret := (some .boolean)) (by decide +kernel) rfl rfl rfl (Nat.le_of_ble_eq_true rfl) ?_
  refine j_lvE (lv' := [(0, .ref mm)]) rfl ?_
  refine j_aload_n dX6_beginsEvent_0 0 rfl ?_
  refine j_get flX6_beginsEvent_102 hmm rfl dX6_beginsEvent_1 ?_
  refine j_iconst (v := nI 1) dX6_beginsEvent_4 (by decide) ?_
  refine j_icmp_eqN 35 (by omega) (by omega) dX6_beginsEvent_5 (by decide) (fun c5 => ?_) (fun c5 => ?_)
  · skip
    refine j_iconst (v := nI 1) dX6_beginsEvent_35 (by decide) ?_
    refine j_goto 40 dX6_beginsEvent_36 (by decide) ?_
    exact j_zret rfl (Or.inr rfl) ⟨by unfold bgE; rw [decide_eq_true c5]; simp [zb]; rfl, rfl⟩ (show 0 ≤ 0 by omega) (show 0 ≤ 0 by omega) dX6_beginsEvent_40
  · skip
    refine j_aload_n dX6_beginsEvent_8 0 rfl ?_
    refine j_bipush (v := nI 40) dX6_beginsEvent_9 (by decide) ?_
    refine j_callV (rm := rX6_isSign) (As := [.int (nI 40)]) (st := []) (b0 := mm) (ci := 6) (na := 1) (m_isSign (c := 40) hmm (by omega) (by omega) (by omega)) (by intro E w9 h9; first | exact nomatch h9.1 | (obtain ⟨_, h9, _⟩ := h9; exact nomatch h9) | (obtain ⟨_, _, _, h9, _⟩ := h9; exact nomatch h9)) gX6_beginsEvent_X6_isSign rfl rfl hmm (by decide +kernel) rfl ⟨Nat.le_of_ble_eq_true rfl, Nat.le_of_ble_eq_true rfl⟩ rfl (Nat.le_of_ble_eq_true rfl) dX6_beginsEvent_11 ⟨(show 0 + 0 ≤ 0 by omega), (show 0 + 0 ≤ 0 by omega)⟩ (fun v1 w2 h3 => ?_)
    obtain ⟨h3, h4⟩ := h3
    cases h3
    subst w2
    refine j_after (st' := [.int (zb (isG tkn sg 40))]) (k' := 0) (n' := 0) rfl rfl rfl ?_
    refine j_if_ne 35 dX6_beginsEvent_14 (by decide) (fun c14 => ?_) (fun c14 => ?_)
    · skip
      refine j_iconst (v := nI 1) dX6_beginsEvent_35 (by decide) ?_
      refine j_goto 40 dX6_beginsEvent_36 (by decide) ?_
      exact j_zret rfl (Or.inr rfl) ⟨by unfold bgE; rw [decide_eq_false c5, zb_n' c14]; simp [zb]; rfl, rfl⟩ (show 0 ≤ 0 by omega) (show 0 ≤ 0 by omega) dX6_beginsEvent_40
    · skip
      refine j_aload_n dX6_beginsEvent_17 0 rfl ?_
      refine j_bipush (v := nI 126) dX6_beginsEvent_18 (by decide) ?_
      refine j_callV (rm := rX6_isSign) (As := [.int (nI 126)]) (st := []) (b0 := mm) (ci := 6) (na := 1) (m_isSign (c := 126) hmm (by omega) (by omega) (by omega)) (by intro E w9 h9; first | exact nomatch h9.1 | (obtain ⟨_, h9, _⟩ := h9; exact nomatch h9) | (obtain ⟨_, _, _, h9, _⟩ := h9; exact nomatch h9)) gX6_beginsEvent_X6_isSign rfl rfl hmm (by decide +kernel) rfl ⟨Nat.le_of_ble_eq_true rfl, Nat.le_of_ble_eq_true rfl⟩ rfl (Nat.le_of_ble_eq_true rfl) dX6_beginsEvent_20 ⟨(show 0 + 0 ≤ 0 by omega), (show 0 + 0 ≤ 0 by omega)⟩ (fun v5 w6 h7 => ?_)
      obtain ⟨h7, h8⟩ := h7
      cases h7
      subst w6
      refine j_after (st' := [.int (zb (isG tkn sg 126))]) (k' := 0) (n' := 0) rfl rfl rfl ?_
      refine j_if_ne 35 dX6_beginsEvent_23 (by decide) (fun c23 => ?_) (fun c23 => ?_)
      · skip
        refine j_iconst (v := nI 1) dX6_beginsEvent_35 (by decide) ?_
        refine j_goto 40 dX6_beginsEvent_36 (by decide) ?_
        exact j_zret rfl (Or.inr rfl) ⟨by unfold bgE; rw [decide_eq_false c5, zb_0 c14, zb_n' c23]; simp [zb]; rfl, rfl⟩ (show 0 ≤ 0 by omega) (show 0 ≤ 0 by omega) dX6_beginsEvent_40
      · skip
        refine j_aload_n dX6_beginsEvent_26 0 rfl ?_
        refine j_bipush (v := nI 114) dX6_beginsEvent_27 (by decide) ?_
        refine j_callV (rm := rX6_isSign) (As := [.int (nI 114)]) (st := []) (b0 := mm) (ci := 6) (na := 1) (m_isSign (c := 114) hmm (by omega) (by omega) (by omega)) (by intro E w9 h9; first | exact nomatch h9.1 | (obtain ⟨_, h9, _⟩ := h9; exact nomatch h9) | (obtain ⟨_, _, _, h9, _⟩ := h9; exact nomatch h9)) gX6_beginsEvent_X6_isSign rfl rfl hmm (by decide +kernel) rfl ⟨Nat.le_of_ble_eq_true rfl, Nat.le_of_ble_eq_true rfl⟩ rfl (Nat.le_of_ble_eq_true rfl) dX6_beginsEvent_29 ⟨(show 0 + 0 ≤ 0 by omega), (show 0 + 0 ≤ 0 by omega)⟩ (fun v9 w10 h11 => ?_)
        obtain ⟨h11, h12⟩ := h11
        cases h11
        subst w10
        refine j_after (st' := [.int (zb (isG tkn sg 114))]) (k' := 0) (n' := 0) rfl rfl rfl ?_
        refine j_if_eq 39 dX6_beginsEvent_32 (by decide) (fun c32 => ?_) (fun c32 => ?_)
        · skip
          refine j_iconst (v := nI 0) dX6_beginsEvent_39 (by decide) ?_
          exact j_zret rfl (Or.inl rfl) ⟨by unfold bgE; rw [decide_eq_false c5, zb_0 c14, zb_0 c23, zb_0 c32]; simp [zb]; rfl, rfl⟩ (show 0 ≤ 0 by omega) (show 0 ≤ 0 by omega) dX6_beginsEvent_40
        · skip
          refine j_iconst (v := nI 1) dX6_beginsEvent_35 (by decide) ?_
          refine j_goto 40 dX6_beginsEvent_36 (by decide) ?_
          exact j_zret rfl (Or.inr rfl) ⟨by unfold bgE; rw [decide_eq_false c5, zb_0 c14, zb_0 c23, zb_n' c32]; simp [zb]; rfl, rfl⟩ (show 0 ≤ 0 by omega) (show 0 ≤ 0 by omega) dX6_beginsEvent_40
abbrev rX6_beginsMarked : Room := { frames := 2, cells := 0, slots := 0, locals := 41 }
set_option maxHeartbeats 4000000 in
set_option maxRecDepth 100000 in
theorem m_beginsMarked {w : pW} {mm co0 tp tpd flt ev ms pg be cu kd mn pi bt sz me pa le im ic ol os at_ ln tkn sg bg en ba bp mk0 fm rf nt ti pe pb cos op pr ae aT an ld : Nat} {fpl nu : Int32} (hmm : w mm = some (.inr (6, [.int (nI co0), .ref tp, .int (nI tpd), .int (nI flt), .int fpl, .int (nI ev), .int (nI ms), .int (nI pg), .int (nI be), .int (nI cu), .ref kd, .ref mn, .ref pi, .ref bt, .ref sz, .ref me, .ref pa, .ref le, .ref im, .ref ic, .ref ol, .int (nI os), .int (nI at_), .int (nI ln), .int (nI tkn), .int (nI sg), .int nu, .int (nI bg), .int (nI en), .int (nI ba), .int (nI bp), .int (nI mk0), .int (nI fm), .int (nI rf), .int (nI nt), .ref ti, .ref pe, .ref pb, .ref cos, .ref op, .ref pr, .ref ae, .ref aT, .int (nI an), .int (nI ld)]))) (htk : tkn < 2 ^ 31) (hsg : sg < 2 ^ 31) : Ct yX6_beginsMarked wsX6_beginsMarked rX6_beginsMarked [.ref mm] w (fun o w9 => o = .inl (some (.int (zb (bgM tkn sg)))) ∧ w9 = w) := by
  refine Ct.of (cc := cX6_beginsMarked) (own := RX6) (nm := "beginsMarked") (nL := 1) (ret := (some .boolean)) (by decide +kernel) rfl rfl rfl (Nat.le_of_ble_eq_true rfl) ?_
  refine j_lvE (lv' := [(0, .ref mm)]) rfl ?_
  refine j_aload_n dX6_beginsMarked_0 0 rfl ?_
  refine j_callV (rm := rX6_beginsEvent) (As := []) (st := []) (b0 := mm) (ci := 6) (na := 0) (m_beginsEvent hmm (by omega) (by omega)) (by intro E w9 h9; first | exact nomatch h9.1 | (obtain ⟨_, h9, _⟩ := h9; exact nomatch h9) | (obtain ⟨_, _, _, h9, _⟩ := h9; exact nomatch h9)) gX6_beginsMarked_X6_beginsEvent rfl rfl hmm (by decide +kernel) rfl ⟨Nat.le_of_ble_eq_true rfl, Nat.le_of_ble_eq_true rfl⟩ rfl (Nat.le_of_ble_eq_true rfl) dX6_beginsMarked_1 ⟨(show 0 + 0 ≤ 0 by omega), (show 0 + 0 ≤ 0 by omega)⟩ (fun v1 w2 h3 => ?_)
  obtain ⟨h3, h4⟩ := h3
  cases h3
  subst w2
  refine j_after (st' := [.int (zb (bgE tkn sg))]) (k' := 0) (n' := 0) rfl rfl rfl ?_
  refine j_if_ne 25 dX6_beginsMarked_4 (by decide) (fun c4 => ?_) (fun c4 => ?_)
  · skip
    refine j_iconst (v := nI 1) dX6_beginsMarked_25 (by decide) ?_
    refine j_goto 30 dX6_beginsMarked_26 (by decide) ?_
    exact j_zret rfl (Or.inr rfl) ⟨by unfold bgM; rw [zb_n' c4]; simp [zb]; rfl, rfl⟩ (show 0 ≤ 0 by omega) (show 0 ≤ 0 by omega) dX6_beginsMarked_30
  · skip
    refine j_aload_n dX6_beginsMarked_7 0 rfl ?_
    refine j_bipush (v := nI 64) dX6_beginsMarked_8 (by decide) ?_
    refine j_callV (rm := rX6_isSign) (As := [.int (nI 64)]) (st := []) (b0 := mm) (ci := 6) (na := 1) (m_isSign (c := 64) hmm (by omega) (by omega) (by omega)) (by intro E w9 h9; first | exact nomatch h9.1 | (obtain ⟨_, h9, _⟩ := h9; exact nomatch h9) | (obtain ⟨_, _, _, h9, _⟩ := h9; exact nomatch h9)) gX6_beginsMarked_X6_isSign rfl rfl hmm (by decide +kernel) rfl ⟨Nat.le_of_ble_eq_true rfl, Nat.le_of_ble_eq_true rfl⟩ rfl (Nat.le_of_ble_eq_true rfl) dX6_beginsMarked_10 ⟨(show 0 + 0 ≤ 0 by omega), (show 0 + 0 ≤ 0 by omega)⟩ (fun v5 w6 h7 => ?_)
    obtain ⟨h7, h8⟩ := h7
    cases h7
    subst w6
    refine j_after (st' := [.int (zb (isG tkn sg 64))]) (k' := 0) (n' := 0) rfl rfl rfl ?_
    refine j_if_ne 25 dX6_beginsMarked_13 (by decide) (fun c13 => ?_) (fun c13 => ?_)
    · skip
      refine j_iconst (v := nI 1) dX6_beginsMarked_25 (by decide) ?_
      refine j_goto 30 dX6_beginsMarked_26 (by decide) ?_
      exact j_zret rfl (Or.inr rfl) ⟨by unfold bgM; rw [zb_0 c4, zb_n' c13]; simp [zb]; rfl, rfl⟩ (show 0 ≤ 0 by omega) (show 0 ≤ 0 by omega) dX6_beginsMarked_30
    · skip
      refine j_aload_n dX6_beginsMarked_16 0 rfl ?_
      refine j_bipush (v := nI 33) dX6_beginsMarked_17 (by decide) ?_
      refine j_callV (rm := rX6_isSign) (As := [.int (nI 33)]) (st := []) (b0 := mm) (ci := 6) (na := 1) (m_isSign (c := 33) hmm (by omega) (by omega) (by omega)) (by intro E w9 h9; first | exact nomatch h9.1 | (obtain ⟨_, h9, _⟩ := h9; exact nomatch h9) | (obtain ⟨_, _, _, h9, _⟩ := h9; exact nomatch h9)) gX6_beginsMarked_X6_isSign rfl rfl hmm (by decide +kernel) rfl ⟨Nat.le_of_ble_eq_true rfl, Nat.le_of_ble_eq_true rfl⟩ rfl (Nat.le_of_ble_eq_true rfl) dX6_beginsMarked_19 ⟨(show 0 + 0 ≤ 0 by omega), (show 0 + 0 ≤ 0 by omega)⟩ (fun v9 w10 h11 => ?_)
      obtain ⟨h11, h12⟩ := h11
      cases h11
      subst w10
      refine j_after (st' := [.int (zb (isG tkn sg 33))]) (k' := 0) (n' := 0) rfl rfl rfl ?_
      refine j_if_eq 29 dX6_beginsMarked_22 (by decide) (fun c22 => ?_) (fun c22 => ?_)
      · skip
        refine j_iconst (v := nI 0) dX6_beginsMarked_29 (by decide) ?_
        exact j_zret rfl (Or.inl rfl) ⟨by unfold bgM; rw [zb_0 c4, zb_0 c13, zb_0 c22]; simp [zb]; rfl, rfl⟩ (show 0 ≤ 0 by omega) (show 0 ≤ 0 by omega) dX6_beginsMarked_30
      · skip
        refine j_iconst (v := nI 1) dX6_beginsMarked_25 (by decide) ?_
        refine j_goto 30 dX6_beginsMarked_26 (by decide) ?_
        exact j_zret rfl (Or.inr rfl) ⟨by unfold bgM; rw [zb_0 c4, zb_0 c13, zb_n' c22]; simp [zb]; rfl, rfl⟩ (show 0 ≤ 0 by omega) (show 0 ≤ 0 by omega) dX6_beginsMarked_30
