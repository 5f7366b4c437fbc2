section TK
variable {P : JP} {pc : Nat} {lv : List (Nat × Value)} {st : List Value} {w : pW} {k n idx : Nat}
/-- SIGNS.indexOf((char) sign) -/
theorem j_signs {c q : Nat} (hc : c < 256) (hown0 : P.1.2.1 = RX4) (hq : lv[q]? = some (1, .int (nI c))) (g : GoodIn P.1.2.2.2 (wsV P.1.2.1 idx RJ0 yJ0_indexOf_0f7a4 wsJ0_indexOf_0f7a4)) (hR : rJ0_indexOf_0f7a4.frames + 1 ≤ P.2.1.1.frames ∧ 8 + (2 + 11) + rJ0_indexOf_0f7a4.locals ≤ P.2.1.1.locals) (hcat : (st.map fun v => v.category).sum ≤ 8) (hf : k ≤ P.2.1.1.cells ∧ n ≤ P.2.1.1.slots)
    (d0 : decode P.1.1 pc = .ok (.ldc 62, 2)) (d2 : decode P.1.1 (pc + 2) = .ok (.iload_n 1, 1)) (d3 : decode P.1.1 (pc + 2 + 1) = .ok (.i2c, 1)) (d4 : decode P.1.1 (pc + 2 + 1 + 1) = .ok (.invokevirtual idx, 3)) (h : J P (pc + 2 + 1 + 1 + 3) lv (.int (ixS c) :: st) w k n) : J P pc lv st w k n := by
  intro p l e s m args below meth cd H locs G b ls F hP hD hS hl
  obtain ⟨hx, hb, hml, hown, hts, hr, hlk, hnm, htb, hK, hBg, hst2, hbs, hXX⟩ := id F
  obtain ⟨adK, adV, hRf, hSt⟩ := hBg.2.2.2.2.1
  have hyy : Sg (adK 0) (adV 0) b s := hSt.1 0 (by decide)
  have hfw := j_fwY (As := [.ref (adK 0), .int (nI c)]) (Sg_ok _ _) hyy F hP hD hS
  rw [← hown0] at hRf
  refine va_ldcS hx hb hown hRf d0 ?_
  refine lv_iload_n hx hb d2 rfl (lv_at hl q hq) ?_
  refine lv_i2c hx hb d3 (sb_byte c hc).2.1 ?_
  refine j_back F hS hl (va_runV (As := [.int (nI c)]) (rest := st) ⟨hx, hb, hml, hown, hts⟩ ((c_indexOf1 (sa := adK 0) (sv := adV 0) hc).met (by intro E w9 h9; exact nomatch h9.1) G b hst2) (cwV 1 hts g rfl rfl rfl (by decide +kernel) hR) ⟨fwY_blind (Sg_ok _ _), Sg_recv b s H locs hyy hS, hfw⟩ rfl rfl hl.1 rfl (lv_room hcat) d4 hf) (fun v9 w9 h9 => ?_)
  obtain ⟨h9, h8⟩ := h9
  cases h9
  subst w9
  exact h
/-- STEPS[j] -/
theorem j_steps {j q : Nat} (hj : j < 7) (hl1 : Cond.fieldLink P.1.2.1 idx RX4 "STEPS" "[I" ∈ P.1.2.2.2) (hq : lv[q]? = some (1, .int (nI j))) (d0 : decode P.1.1 pc = .ok (.getstatic idx, 3)) (d3 : decode P.1.1 (pc + 3) = .ok (.iload_n 1, 1)) (d4 : decode P.1.1 (pc + 3 + 1) = .ok (.iaload, 1)) (h : J P (pc + 3 + 1 + 1) lv (.int (bgStep j) :: st) w k n) : J P pc lv st w k n := by
  intro p l e s m args below meth cd H locs G b ls F hP hD hS hl
  obtain ⟨hx, hb, hml, hown, hts, hr, hlk, hnm, htb, hK, hBg, hst2, hbs, hXX⟩ := id F
  obtain ⟨t, hZ, hT⟩ := hBg.2.2.2.1
  refine va_gets hx hb hZ hS hown (hts _ hl1) (fun _ h9 => h9) d0 ?_
  refine lv_iload_n hx hb d3 rfl (lv_at hl q hq) ?_
  refine va_ti hx hb hT hS (vp_in_nI hj (by decide)) (v := .int (bgStep j)) (by rw [nI_clamp (by omega)]) d4 ?_
  exact h p l e s m args below meth cd H locs G b ls F hP hD hS hl
/-- STEPS.length -/
theorem j_stepsL (hl1 : Cond.fieldLink P.1.2.1 idx RX4 "STEPS" "[I" ∈ P.1.2.2.2) (d0 : decode P.1.1 pc = .ok (.getstatic idx, 3)) (d3 : decode P.1.1 (pc + 3) = .ok (.arraylength, 1)) (h : J P (pc + 3 + 1) lv (.int (nI 7) :: st) w k n) : J P pc lv st w k n := by
  intro p l e s m args below meth cd H locs G b ls F hP hD hS hl
  obtain ⟨hx, hb, hml, hown, hts, hr, hlk, hnm, htb, hK, hBg, hst2, hbs, hXX⟩ := id F
  obtain ⟨t, hZ, hT⟩ := hBg.2.2.2.1
  refine va_gets hx hb hZ hS hown (hts _ hl1) (fun _ h9 => h9) d0 ?_
  refine va_tlen hx hb hT hS (v := nI 7) rfl d3 ?_
  exact h p l e s m args below meth cd H locs G b ls F hP hD hS hl
end TK
section TP
/-- the byte at i of the first ln of t, or -1 -/
def bA (t : Nat → Nat) (ln i : Nat) : Int32 := if i < ln then nI (t i) else -1
def isD (c : Int32) : Bool := decide (¬ c < nI 48 ∧ ¬ nI 57 < c)
def isB (c : Int32) : Bool := decide (c = nI 32 ∨ c = nI 10)
/-- from p on, as long as q holds -/
def whl (q : Nat → Bool) : Nat → Nat → Nat
  | 0, p => p
  | k + 1, p => if q p then whl q k (p + 1) else p
theorem whl_step {q : Nat → Bool} {e p : Nat} (h : p < e) (hq : q p = true) : whl q (e - p) p = whl q (e - (p + 1)) (p + 1) := by
  obtain ⟨k, hk⟩ : ∃ k, e - p = k + 1 := ⟨e - p - 1, by omega⟩
  rw [hk, show e - (p + 1) = k by omega]
  simp [whl, hq]
theorem whl_stop {q : Nat → Bool} {k p : Nat} (hq : q p = false) : whl q k p = p := by
  cases k with
  | zero => rfl
  | succ k => simp [whl, hq]
theorem whl_end {q : Nat → Bool} {e p : Nat} (h : e ≤ p) : whl q (e - p) p = p := by
  rw [show e - p = 0 by omega]; rfl
theorem whl_bd {q : Nat → Bool} : ∀ {k p : Nat}, p ≤ whl q k p ∧ whl q k p ≤ p + k
  | 0, p => ⟨Nat.le_refl _, Nat.le_refl _⟩
  | k + 1, p => by
    unfold whl
    split
    · have := whl_bd (q := q) (k := k) (p := p + 1)
      omega
    · omega
def skB (t : Nat → Nat) (ln p : Nat) : Nat := whl (fun i => isB (bA t ln i)) (ln - p) p
def dgE (t : Nat → Nat) (ln p : Nat) : Nat := whl (fun i => isD (bA t ln i)) (ln - p) p
def nvF (t : Nat → Nat) (s : Nat) : Nat → Nat
  | 0 => 0
  | m + 1 => 10 * nvF t s m + (t (s + m) - 48)
theorem bA_in {t : Nat → Nat} {ln i : Nat} (h : i < ln) : bA t ln i = nI (t i) := by simp [bA, h]
theorem bA_out {t : Nat → Nat} {ln i : Nat} (h : ln ≤ i) : bA t ln i = -1 := by simp [bA, Nat.not_lt.mpr h]
theorem isD_in {t : Nat → Nat} {ln i : Nat} (ht : t i < 256) (h : isD (bA t ln i) = true) : i < ln ∧ 48 ≤ t i ∧ t i ≤ 57 := by
  have h1 := of_decide_eq_true h
  by_cases hi : i < ln
  · rw [bA_in hi] at h1
    refine ⟨hi, ?_, ?_⟩
    · have := h1.1
      exact Nat.not_lt.mp (fun q => this (nI_lt q (by decide)))
    · have := h1.2
      exact Nat.not_lt.mp (fun q => this (nI_lt q (by omega)))
  · rw [bA_out (by omega)] at h1
    exact absurd (by decide) h1.1
theorem nvF_le {t : Nat → Nat} {s : Nat} (ht : ∀ j, t j < 256) : ∀ {m : Nat}, m ≤ 3 → nvF t s m ≤ 300 * 111
  | 0, _ => by simp [nvF]
  | 1, _ => by have := ht (s + 0); simp only [nvF]; omega
  | 2, _ => by have := ht (s + 0); have := ht (s + 1); simp only [nvF]; omega
  | 3, _ => by have := ht (s + 0); have := ht (s + 1); have := ht (s + 2); simp only [nvF]; omega
  | _ + 4, h => by omega
end TP
abbrev rX4_byteAt : Room := { frames := 0, cells := 0, slots := 0, locals := 0 }
theorem flX4_byteAt_21 : FL wsX4_byteAt RX4 21 4 1 := ⟨RX4, TX4, 6, rfl, by decide, by decide +kernel, by decide +kernel⟩
theorem flX4_byteAt_9 : FL wsX4_byteAt RX4 9 4 0 := ⟨RX4, TX4, 6, rfl, by decide, by decide +kernel, by decide +kernel⟩
set_option maxHeartbeats 4000000 in
set_option maxRecDepth 100000 in
theorem c_byteAt {w : pW} {to tx : Nat} {ln nx kd sa tn : Nat} {va : Int32} {t : Nat → Nat} (hto : w to = some (.inr (4, [.ref tx, .int (nI ln), .int (nI nx), .int (nI kd), .int (nI sa), .int va]))) (htx : w tx = some (.inl (1, tn, .inl (fun j9 => sb_b (t j9))))) (ht : ∀ j, t j < 256) (hln : ln ≤ tn) (htn : tn ≤ 100000) {i : Nat} (hi : i < 2 ^ 31) : Ct yX4_byteAt wsX4_byteAt rX4_byteAt [.ref to, .int (nI i)] w (fun o w9 => o = .inl (some (.int (bA t ln i))) ∧ w9 = w) := by
  refine Ct.of (cc := cX4_byteAt) (own := RX4) (nm := "byteAt") (nL := 2) (ret := (some .int)) (by decide +kernel) rfl rfl rfl (Nat.le_of_ble_eq_true rfl) ?_
  refine j_lvE (lv' := [(0, .ref to), (1, .int (nI i))]) rfl ?_
  refine j_iload_n dX4_byteAt_0 1 rfl ?_
  refine j_if_ltN (by omega) dX4_byteAt_1 (by decide : _ = ((34 : Nat) : Int)) ?_
  refine j_iload_n dX4_byteAt_4 1 rfl ?_
  refine j_aload_n dX4_byteAt_5 0 rfl ?_
  refine j_get flX4_byteAt_21 hto rfl dX4_byteAt_6 ?_
  refine j_icmp_geN 34 (by omega) (by omega) dX4_byteAt_9 (by decide) (fun c9 => ?_) (fun c9 => ?_)
  · skip
    refine j_iconst (v := (-1)) dX4_byteAt_34 (by decide) ?_
    exact j_iret rfl ⟨by rw [bA_out (by omega)], rfl⟩ (show 0 ≤ 0 by omega) (show 0 ≤ 0 by omega) dX4_byteAt_35
  · skip
    refine j_iload_n dX4_byteAt_12 1 rfl ?_
    refine j_aload_n dX4_byteAt_13 0 rfl ?_
    refine j_get flX4_byteAt_9 hto rfl dX4_byteAt_14 ?_
    refine j_alen (v := nI tn) (by decide) htx rfl dX4_byteAt_17 ?_
    refine j_icmp_geN 34 (by omega) (by omega) dX4_byteAt_18 (by decide) (fun c18 => ?_) (fun c18 => ?_)
    · skip
      refine j_iconst (v := (-1)) dX4_byteAt_34 (by decide) ?_
      exact j_iret rfl ⟨by rw [bA_out (by omega)], rfl⟩ (show 0 ≤ 0 by omega) (show 0 ≤ 0 by omega) dX4_byteAt_35
    · skip
      refine j_aload_n dX4_byteAt_21 0 rfl ?_
      refine j_get flX4_byteAt_9 hto rfl dX4_byteAt_22 ?_
      refine j_iload_n dX4_byteAt_25 1 rfl ?_
      refine j_baldN (j := i) htx rfl (by omega) (by omega) dX4_byteAt_26 ?_
      refine j_sipush (v := nI 255) dX4_byteAt_27 (by decide) ?_
      refine j_iand dX4_byteAt_30 ?_
      refine j_eqi (y := nI (t i)) (sb_byte (t i) (ht i)).1 ?_
      refine j_goto 35 dX4_byteAt_31 (by decide) ?_
      exact j_iret rfl ⟨by rw [bA_in (by omega)], rfl⟩ (show 0 ≤ 0 by omega) (show 0 ≤ 0 by omega) dX4_byteAt_35
abbrev rX4_isDigit : Room := { frames := 0, cells := 0, slots := 0, locals := 0 }
set_option maxHeartbeats 4000000 in
set_option maxRecDepth 100000 in
theorem c_isDigit {w : pW} {c : Int32} : Ct yX4_isDigit wsX4_isDigit rX4_isDigit [.int c] w (fun o w9 => o = .inl (some (.int (zb (isD c)))) ∧ w9 = w) := by
  refine Ct.of (cc := cX4_isDigit) (own := RX4) (nm := "isDigit") (nL := 1) (ret := (some .boolean)) (by decide +kernel) rfl rfl rfl (Nat.le_of_ble_eq_true rfl) ?_
  refine j_lvE (lv' := [(0, .int c)]) rfl ?_
  refine j_iload_n dX4_isDigit_0 0 rfl ?_
  refine j_bipush (v := nI 48) dX4_isDigit_1 (by decide) ?_
  refine j_icmp_lt 16 dX4_isDigit_3 (by decide) (fun c3 => ?_) (fun c3 => ?_)
  · skip
    refine j_iconst (v := nI 0) dX4_isDigit_16 (by decide) ?_
    exact j_zret rfl (Or.inl rfl) ⟨by unfold isD; rw [zb_f (decide_eq_false (fun h => by first | exact h.1 c3 | exact h.2 c9))]; rfl, rfl⟩ (show 0 ≤ 0 by omega) (show 0 ≤ 0 by omega) dX4_isDigit_17
  · skip
    refine j_iload_n dX4_isDigit_6 0 rfl ?_
    refine j_bipush (v := nI 57) dX4_isDigit_7 (by decide) ?_
    refine j_icmp_gt 16 dX4_isDigit_9 (by decide) (fun c9 => ?_) (fun c9 => ?_)
    · skip
      refine j_iconst (v := nI 0) dX4_isDigit_16 (by decide) ?_
      exact j_zret rfl (Or.inl rfl) ⟨by unfold isD; rw [zb_f (decide_eq_false (fun h => by first | exact h.1 c3 | exact h.2 c9))]; rfl, rfl⟩ (show 0 ≤ 0 by omega) (show 0 ≤ 0 by omega) dX4_isDigit_17
    · skip
      refine j_iconst (v := nI 1) dX4_isDigit_12 (by decide) ?_
      refine j_goto 17 dX4_isDigit_13 (by decide) ?_
      exact j_zret rfl (Or.inr rfl) ⟨by unfold isD; rw [zb_t (decide_eq_true ⟨c3, c9⟩)]; rfl, rfl⟩ (show 0 ≤ 0 by omega) (show 0 ≤ 0 by omega) dX4_isDigit_17
abbrev rX4_take : Room := { frames := 0, cells := 0, slots := 0, locals := 0 }
theorem fsX4_take_44 : FS wsX4_take RX4 44 4 3 false (.int) := ⟨RX4, TX4, 6, tyX4, rfl, by decide, by decide +kernel, by decide +kernel, tyX4_ok, nmX4, rfl, rfl, rfl⟩
theorem flX4_take_34 : FL wsX4_take RX4 34 4 4 := ⟨RX4, TX4, 6, rfl, by decide, by decide +kernel, by decide +kernel⟩
theorem fsX4_take_25 : FS wsX4_take RX4 25 4 2 false (.int) := ⟨RX4, TX4, 6, tyX4, rfl, by decide, by decide +kernel, by decide +kernel, tyX4_ok, nmX4, rfl, rfl, rfl⟩
set_option maxHeartbeats 4000000 in
set_option maxRecDepth 100000 in
theorem c_take {w : pW} {to tx : Nat} {ln nx kd sa tn : Nat} {va : Int32} {t : Nat → Nat} (hto : w to = some (.inr (4, [.ref tx, .int (nI ln), .int (nI nx), .int (nI kd), .int (nI sa), .int va]))) (htx : w tx = some (.inl (1, tn, .inl (fun j9 => sb_b (t j9))))) (ht : ∀ j, t j < 256) (hln : ln ≤ tn) (htn : tn ≤ 100000) {k m : Nat} : Ct yX4_take wsX4_take rX4_take [.ref to, .int (nI k), .int (nI m)] w (fun o w9 => o = .inl none ∧ w9 = va_up w to (some (.inr (4, [.ref tx, .int (nI ln), .int (nI (sa + m)), .int (nI k), .int (nI sa), .int va])))) := by
  refine Ct.of (cc := cX4_take) (own := RX4) (nm := "take") (nL := 3) (ret := none) (by decide +kernel) rfl rfl rfl (Nat.le_of_ble_eq_true rfl) ?_
  refine j_lvE (lv' := [(0, .ref to), (1, .int (nI k)), (2, .int (nI m))]) rfl ?_
  refine j_aload_n dX4_take_0 0 rfl ?_
  refine j_iload_n dX4_take_1 1 rfl ?_
  refine j_put (fs9 := [.ref tx, .int (nI ln), .int (nI nx), .int (nI k), .int (nI sa), .int va]) fsX4_take_44 hto rfl rfl (Nat.le_of_ble_eq_true rfl) rfl dX4_take_2 ?_
  refine j_w (fun w1 hw1 => ?_)
  have f2 : w1 to = some (.inr (4, [.ref tx, .int (nI ln), .int (nI nx), .int (nI k), .int (nI sa), .int va])) := up_at hw1
  have f3 := up_ne hw1 (fk htx hto rfl) htx
  refine j_aload_n dX4_take_5 0 rfl ?_
  refine j_aload_n dX4_take_6 0 rfl ?_
  refine j_get flX4_take_34 f2 rfl dX4_take_7 ?_
  refine j_iload_n dX4_take_10 2 rfl ?_
  refine j_iaddN dX4_take_11 ?_
  refine j_put (fs9 := [.ref tx, .int (nI ln), .int (nI (sa + m)), .int (nI k), .int (nI sa), .int va]) fsX4_take_25 f2 rfl rfl (Nat.le_of_ble_eq_true rfl) rfl dX4_take_12 ?_
  refine j_w (fun w4 hw4 => ?_)
  have f5 : w4 to = some (.inr (4, [.ref tx, .int (nI ln), .int (nI (sa + m)), .int (nI k), .int (nI sa), .int va])) := up_at hw4
  have f6 := up_ne hw4 (fk f3 f2 rfl) f3
  exact j_vret rfl ⟨rfl, by rw [hw4, hw1] <;> (try simp only [bx_uu]) <;> (try rfl)⟩ (show 0 ≤ 0 by omega) (show 0 ≤ 0 by omega) dX4_take_15
abbrev rX4_skipBlanks : Room := { frames := 1, cells := 0, slots := 0, locals := 21 }
theorem flX4_skipBlanks_25 : FL wsX4_skipBlanks RX4 25 4 2 := ⟨RX4, TX4, 6, rfl, by decide, by decide +kernel, by decide +kernel⟩
theorem flX4_skipBlanks_21 : FL wsX4_skipBlanks RX4 21 4 1 := ⟨RX4, TX4, 6, rfl, by decide, by decide +kernel, by decide +kernel⟩
theorem fsX4_skipBlanks_25 : FS wsX4_skipBlanks RX4 25 4 2 false (.int) := ⟨RX4, TX4, 6, tyX4, rfl, by decide, by decide +kernel, by decide +kernel, tyX4_ok, nmX4, rfl, rfl, rfl⟩
set_option maxHeartbeats 4000000 in
set_option maxRecDepth 100000 in
theorem l_skipBlanks {w : pW} {to tx : Nat} {ln nx kd sa tn : Nat} {va : Int32} {t : Nat → Nat} (hto : w to = some (.inr (4, [.ref tx, .int (nI ln), .int (nI nx), .int (nI kd), .int (nI sa), .int va]))) (htx : w tx = some (.inl (1, tn, .inl (fun j9 => sb_b (t j9))))) (ht : ∀ j, t j < 256) (hln : ln ≤ tn) (htn : tn ≤ 100000) {R9 : Nat} : ∀ (m9 : Nat) (p : Nat) (wl : pW), 100000 - p < m9 → (p ≤ 100000) → (whl (fun i => isB (bA t ln i)) (ln - p) p = R9) → (wl = va_up w to (some (.inr (4, [.ref tx, .int (nI ln), .int (nI p), .int (nI kd), .int (nI sa), .int va])))) → J ((cX4_skipBlanks, RX4, 1, wsX4_skipBlanks), (rX4_skipBlanks, none, "skipBlanks", []), fun o w9 => o = .inl none ∧ w9 = va_up w to (some (.inr (4, [.ref tx, .int (nI ln), .int (nI R9), .int (nI kd), .int (nI sa), .int va]))), fun _ _ _ => True) 0 [(0, .ref to)] [] wl 0 0 := by
  intro m9
  induction m9 with
  | zero => intro p wl h9; omega
  | succ m9 ih =>
    intro p wl hm9 hp hr hwl
    have g_to : wl to = some (.inr (4, [.ref tx, .int (nI ln), .int (nI p), .int (nI kd), .int (nI sa), .int va])) := up_at hwl
    have g_tx := up_ne hwl (fk htx hto rfl) htx
    refine j_aload_n dX4_skipBlanks_0 0 rfl ?_
    refine j_get flX4_skipBlanks_25 g_to rfl dX4_skipBlanks_1 ?_
    refine j_aload_n dX4_skipBlanks_4 0 rfl ?_
    refine j_get flX4_skipBlanks_21 g_to rfl dX4_skipBlanks_5 ?_
    refine j_icmp_geN 50 (by omega) (by omega) dX4_skipBlanks_8 (by decide) (fun c8 => ?_) (fun c8 => ?_)
    · skip
      exact j_vret rfl ⟨rfl, by rw [← hr, whl_end (by omega)]; exact hwl⟩ (show 0 ≤ 0 by omega) (show 0 ≤ 0 by omega) dX4_skipBlanks_50
    · skip
      refine j_aload_n dX4_skipBlanks_11 0 rfl ?_
      refine j_aload_n dX4_skipBlanks_12 0 rfl ?_
      refine j_get flX4_skipBlanks_25 g_to rfl dX4_skipBlanks_13 ?_
      refine j_callV (rm := rX4_byteAt) (As := [.int (nI p)]) (st := []) (b0 := to) (ci := 4) (na := 1) (c_byteAt (i := p) g_to g_tx ht (by omega) (by omega) (by omega)) (by intro E w9 h9; first | exact nomatch h9.1 | (obtain ⟨_, h9, _⟩ := h9; exact nomatch h9) | (obtain ⟨_, _, _, h9, _⟩ := h9; exact nomatch h9)) gX4_skipBlanks_X4_byteAt rfl rfl g_to (by decide +kernel) rfl ⟨Nat.le_of_ble_eq_true rfl, Nat.le_of_ble_eq_true rfl⟩ rfl (Nat.le_of_ble_eq_true rfl) dX4_skipBlanks_16 ⟨(show 0 + 0 ≤ 0 by omega), (show 0 + 0 ≤ 0 by omega)⟩ (fun v1 w2 h3 => ?_)
      obtain ⟨h3, h4⟩ := h3
      cases h3
      subst w2
      refine j_after (st' := [.int (bA t ln p)]) (k' := 0) (n' := 0) rfl rfl rfl ?_
      refine j_bipush (v := nI 32) dX4_skipBlanks_19 (by decide) ?_
      refine j_icmp_eq 37 dX4_skipBlanks_21 (by decide) (fun c21 => ?_) (fun c21 => ?_)
      · skip
        refine j_aload_n dX4_skipBlanks_37 0 rfl ?_
        refine j_dup dX4_skipBlanks_38 rfl ?_
        refine j_get flX4_skipBlanks_25 g_to rfl dX4_skipBlanks_39 ?_
        refine j_iconst (v := nI 1) dX4_skipBlanks_42 (by decide) ?_
        refine j_iaddN dX4_skipBlanks_43 ?_
        refine j_put (fs9 := [.ref tx, .int (nI ln), .int (nI (p + 1)), .int (nI kd), .int (nI sa), .int va]) fsX4_skipBlanks_25 g_to rfl rfl (Nat.le_of_ble_eq_true rfl) rfl dX4_skipBlanks_44 ?_
        refine j_w (fun w5 hw5 => ?_)
        have f6 : w5 to = some (.inr (4, [.ref tx, .int (nI ln), .int (nI (p + 1)), .int (nI kd), .int (nI sa), .int va])) := up_at hw5
        have f7 := up_ne hw5 (fk g_tx g_to rfl) g_tx
        refine j_goto 0 dX4_skipBlanks_47 (by decide) ?_
        refine j_lv (lv' := [(0, .ref to)]) [0] rfl ?_
        exact ih (p + 1) _ (by omega) (by omega) (by rw [← hr]; exact (whl_step (q := fun i => isB (bA t ln i)) (by omega) (by simp only [isB, decide_eq_true_eq]; first | exact Or.inl c21 | exact Or.inr c34)).symm) (by rw [hw5, hwl]; simp only [bx_uu])
      · skip
        refine j_aload_n dX4_skipBlanks_24 0 rfl ?_
        refine j_aload_n dX4_skipBlanks_25 0 rfl ?_
        refine j_get flX4_skipBlanks_25 g_to rfl dX4_skipBlanks_26 ?_
        refine j_callV (rm := rX4_byteAt) (As := [.int (nI p)]) (st := []) (b0 := to) (ci := 4) (na := 1) (c_byteAt (i := p) g_to g_tx ht (by omega) (by omega) (by omega)) (by intro E w9 h9; first | exact nomatch h9.1 | (obtain ⟨_, h9, _⟩ := h9; exact nomatch h9) | (obtain ⟨_, _, _, h9, _⟩ := h9; exact nomatch h9)) gX4_skipBlanks_X4_byteAt rfl rfl g_to (by decide +kernel) rfl ⟨Nat.le_of_ble_eq_true rfl, Nat.le_of_ble_eq_true rfl⟩ rfl (Nat.le_of_ble_eq_true rfl) dX4_skipBlanks_29 ⟨(show 0 + 0 ≤ 0 by omega), (show 0 + 0 ≤ 0 by omega)⟩ (fun v8 w9 h10 => ?_)
        obtain ⟨h10, h11⟩ := h10
        cases h10
        subst w9
        refine j_after (st' := [.int (bA t ln p)]) (k' := 0) (n' := 0) rfl rfl rfl ?_
        refine j_bipush (v := nI 10) dX4_skipBlanks_32 (by decide) ?_
        refine j_icmp_ne 50 dX4_skipBlanks_34 (by decide) (fun c34 => ?_) (fun c34 => ?_)
        · skip
          exact j_vret rfl ⟨rfl, by rw [← hr, whl_stop (by simp only [isB, decide_eq_false_iff_not]; exact fun h => h.elim c21 c34)]; exact hwl⟩ (show 0 ≤ 0 by omega) (show 0 ≤ 0 by omega) dX4_skipBlanks_50
        · skip
          refine j_aload_n dX4_skipBlanks_37 0 rfl ?_
          refine j_dup dX4_skipBlanks_38 rfl ?_
          refine j_get flX4_skipBlanks_25 g_to rfl dX4_skipBlanks_39 ?_
          refine j_iconst (v := nI 1) dX4_skipBlanks_42 (by decide) ?_
          refine j_iaddN dX4_skipBlanks_43 ?_
          refine j_put (fs9 := [.ref tx, .int (nI ln), .int (nI (p + 1)), .int (nI kd), .int (nI sa), .int va]) fsX4_skipBlanks_25 g_to rfl rfl (Nat.le_of_ble_eq_true rfl) rfl dX4_skipBlanks_44 ?_
          refine j_w (fun w12 hw12 => ?_)
          have f13 : w12 to = some (.inr (4, [.ref tx, .int (nI ln), .int (nI (p + 1)), .int (nI kd), .int (nI sa), .int va])) := up_at hw12
          have f14 := up_ne hw12 (fk g_tx g_to rfl) g_tx
          refine j_goto 0 dX4_skipBlanks_47 (by decide) ?_
          refine j_lv (lv' := [(0, .ref to)]) [0] rfl ?_
          exact ih (p + 1) _ (by omega) (by omega) (by rw [← hr]; exact (whl_step (q := fun i => isB (bA t ln i)) (by omega) (by simp only [isB, decide_eq_true_eq]; first | exact Or.inl c21 | exact Or.inr c34)).symm) (by rw [hw12, hwl]; simp only [bx_uu])
set_option maxHeartbeats 4000000 in
set_option maxRecDepth 100000 in
theorem c_skipBlanks {w : pW} {to tx : Nat} {ln nx kd sa tn : Nat} {va : Int32} {t : Nat → Nat} (hto : w to = some (.inr (4, [.ref tx, .int (nI ln), .int (nI nx), .int (nI kd), .int (nI sa), .int va]))) (htx : w tx = some (.inl (1, tn, .inl (fun j9 => sb_b (t j9))))) (ht : ∀ j, t j < 256) (hln : ln ≤ tn) (htn : tn ≤ 100000) (hnx : nx ≤ 100000) : Ct yX4_skipBlanks wsX4_skipBlanks rX4_skipBlanks [.ref to] w (fun o w9 => o = .inl none ∧ w9 = va_up w to (some (.inr (4, [.ref tx, .int (nI ln), .int (nI (skB t ln nx)), .int (nI kd), .int (nI sa), .int va])))) := by
  refine Ct.of (cc := cX4_skipBlanks) (own := RX4) (nm := "skipBlanks") (nL := 1) (ret := none) (by decide +kernel) rfl rfl rfl (Nat.le_of_ble_eq_true rfl) ?_
  refine j_lvE (lv' := [(0, .ref to)]) rfl ?_
  exact l_skipBlanks hto htx ht hln htn 100001 nx w (by omega) (by omega) rfl (up_same hto).symm
abbrev rX4_takeNumber : Room := { frames := 1, cells := 0, slots := 0, locals := 22 }
theorem flX4_takeNumber_21 : FL wsX4_takeNumber RX4 21 4 1 := ⟨RX4, TX4, 6, rfl, by decide, by decide +kernel, by decide +kernel⟩
theorem flX4_takeNumber_34 : FL wsX4_takeNumber RX4 34 4 4 := ⟨RX4, TX4, 6, rfl, by decide, by decide +kernel, by decide +kernel⟩
theorem fsX4_takeNumber_37 : FS wsX4_takeNumber RX4 37 4 5 false (.int) := ⟨RX4, TX4, 6, tyX4, rfl, by decide, by decide +kernel, by decide +kernel, tyX4_ok, nmX4, rfl, rfl, rfl⟩
theorem flX4_takeNumber_37 : FL wsX4_takeNumber RX4 37 4 5 := ⟨RX4, TX4, 6, rfl, by decide, by decide +kernel, by decide +kernel⟩
set_option maxHeartbeats 4000000 in
set_option maxRecDepth 100000 in
theorem l_takeNumber {w : pW} {to tx : Nat} {ln nx kd sa tn : Nat} {va : Int32} {t : Nat → Nat} (hto : w to = some (.inr (4, [.ref tx, .int (nI ln), .int (nI nx), .int (nI kd), .int (nI sa), .int va]))) (htx : w tx = some (.inl (1, tn, .inl (fun j9 => sb_b (t j9))))) (ht : ∀ j, t j < 256) (hln : ln ≤ tn) (htn : tn ≤ 100000) {R9 : Nat} (hln2 : ln ≤ 2400) : ∀ (m9 : Nat) (e : Nat) (wl : pW), ln - e < m9 → (sa ≤ e) → (e ≤ ln) → (whl (fun i => isD (bA t ln i)) (ln - e) e = R9) → (wl = va_up w to (some (.inr (4, [.ref tx, .int (nI ln), .int (nI nx), .int (nI kd), .int (nI sa), .int (nI (nvF t sa (min 3 (e - sa))))])))) → J ((cX4_takeNumber, RX4, 2, wsX4_takeNumber), (rX4_takeNumber, none, "takeNumber", []), fun o w9 => o = .inl none ∧ w9 = va_up w to (some (.inr (4, [.ref tx, .int (nI ln), .int (nI R9), .int (nI 3), .int (nI sa), .int (if 3 < R9 - sa then nI 0 else nI (nvF t sa (R9 - sa)))]))), fun _ _ _ => True) 5 [(0, .ref to), (1, .int (nI e))] [] wl 0 0 := by
  intro m9
  induction m9 with
  | zero => intro e wl h9; omega
  | succ m9 ih =>
    intro e wl hm9 he he2 hr hwl
    have g_to : wl to = some (.inr (4, [.ref tx, .int (nI ln), .int (nI nx), .int (nI kd), .int (nI sa), .int (nI (nvF t sa (min 3 (e - sa))))])) := up_at hwl
    have g_tx := up_ne hwl (fk htx hto rfl) htx
    refine j_iload_n dX4_takeNumber_5 1 rfl ?_
    refine j_aload_n dX4_takeNumber_6 0 rfl ?_
    refine j_get flX4_takeNumber_21 g_to rfl dX4_takeNumber_7 ?_
    refine j_icmp_geN 60 (by omega) (by omega) dX4_takeNumber_10 (by decide) (fun c10 => ?_) (fun c10 => ?_)
    · skip
      refine j_iload_n dX4_takeNumber_60 1 rfl ?_
      refine j_aload_n dX4_takeNumber_61 0 rfl ?_
      refine j_get flX4_takeNumber_34 g_to rfl dX4_takeNumber_62 ?_
      refine j_isubN (by omega) dX4_takeNumber_65 ?_
      refine j_iconst (v := nI 3) dX4_takeNumber_66 (by decide) ?_
      refine j_icmp_leN 75 (by omega) (by omega) dX4_takeNumber_67 (by decide) (fun c67 => ?_) (fun c67 => ?_)
      · skip
        refine j_aload_n dX4_takeNumber_75 0 rfl ?_
        refine j_iconst (v := nI 3) dX4_takeNumber_76 (by decide) ?_
        refine j_iload_n dX4_takeNumber_77 1 rfl ?_
        refine j_aload_n dX4_takeNumber_78 0 rfl ?_
        refine j_get flX4_takeNumber_34 g_to rfl dX4_takeNumber_79 ?_
        refine j_isubN (by omega) dX4_takeNumber_82 ?_
        refine j_callV (rm := rX4_take) (As := [.int (nI 3), .int (nI (e - sa))]) (st := []) (b0 := to) (ci := 4) (na := 2) (c_take (k := 3) (m := (e - sa)) g_to g_tx ht (by omega) (by omega)) (by intro E w9 h9; first | exact nomatch h9.1 | (obtain ⟨_, h9, _⟩ := h9; exact nomatch h9) | (obtain ⟨_, _, _, h9, _⟩ := h9; exact nomatch h9)) gX4_takeNumber_X4_take rfl rfl g_to (by decide +kernel) rfl ⟨Nat.le_of_ble_eq_true rfl, Nat.le_of_ble_eq_true rfl⟩ rfl (Nat.le_of_ble_eq_true rfl) dX4_takeNumber_83 ⟨(show 0 + 0 ≤ 0 by omega), (show 0 + 0 ≤ 0 by omega)⟩ (fun v1 w2 h3 => ?_)
        obtain ⟨h3, h4⟩ := h3
        cases h3
        -- w2
        refine j_after (st' := []) (k' := 0) (n' := 0) rfl rfl rfl ?_
        have f5 : w2 to = some (.inr (4, [.ref tx, .int (nI ln), .int (nI (sa + (e - sa))), .int (nI 3), .int (nI sa), .int (nI (nvF t sa (min 3 (e - sa))))])) := by rw [h4]; exact va_up_self _ _ _
        have f6 : w2 tx = some (.inl (1, tn, .inl (fun j9 => sb_b (t j9)))) := by rw [h4]; exact (va_up_ne _ _ (fk g_tx g_to rfl)).trans (g_tx)
        exact j_vret rfl ⟨rfl, by rw [h4, hwl]; simp only [bx_uu]; rw [← hr, whl_end (by omega), if_neg (by omega)]; rw [show min 3 (e - sa) = e - sa by omega]; rw [show sa + (e - sa) = e by omega]⟩ (show 0 ≤ 0 by omega) (show 0 ≤ 0 by omega) dX4_takeNumber_86
      · skip
        refine j_aload_n dX4_takeNumber_70 0 rfl ?_
        refine j_iconst (v := nI 0) dX4_takeNumber_71 (by decide) ?_
        refine j_put (fs9 := [.ref tx, .int (nI ln), .int (nI nx), .int (nI kd), .int (nI sa), .int (nI 0)]) fsX4_takeNumber_37 g_to rfl rfl (Nat.le_of_ble_eq_true rfl) rfl dX4_takeNumber_72 ?_
        refine j_w (fun w7 hw7 => ?_)
        have f8 : w7 to = some (.inr (4, [.ref tx, .int (nI ln), .int (nI nx), .int (nI kd), .int (nI sa), .int (nI 0)])) := up_at hw7
        have f9 := up_ne hw7 (fk g_tx g_to rfl) g_tx
        refine j_aload_n dX4_takeNumber_75 0 rfl ?_
        refine j_iconst (v := nI 3) dX4_takeNumber_76 (by decide) ?_
        refine j_iload_n dX4_takeNumber_77 1 rfl ?_
        refine j_aload_n dX4_takeNumber_78 0 rfl ?_
        refine j_get flX4_takeNumber_34 f8 rfl dX4_takeNumber_79 ?_
        refine j_isubN (by omega) dX4_takeNumber_82 ?_
        refine j_callV (rm := rX4_take) (As := [.int (nI 3), .int (nI (e - sa))]) (st := []) (b0 := to) (ci := 4) (na := 2) (c_take (k := 3) (m := (e - sa)) f8 f9 ht (by omega) (by omega)) (by intro E w9 h9; first | exact nomatch h9.1 | (obtain ⟨_, h9, _⟩ := h9; exact nomatch h9) | (obtain ⟨_, _, _, h9, _⟩ := h9; exact nomatch h9)) gX4_takeNumber_X4_take rfl rfl f8 (by decide +kernel) rfl ⟨Nat.le_of_ble_eq_true rfl, Nat.le_of_ble_eq_true rfl⟩ rfl (Nat.le_of_ble_eq_true rfl) dX4_takeNumber_83 ⟨(show 0 + 0 ≤ 0 by omega), (show 0 + 0 ≤ 0 by omega)⟩ (fun v10 w11 h12 => ?_)
        obtain ⟨h12, h13⟩ := h12
        cases h12
        -- w11
        refine j_after (st' := []) (k' := 0) (n' := 0) rfl rfl rfl ?_
        have f14 : w11 to = some (.inr (4, [.ref tx, .int (nI ln), .int (nI (sa + (e - sa))), .int (nI 3), .int (nI sa), .int (nI 0)])) := by rw [h13]; exact va_up_self _ _ _
        have f15 : w11 tx = some (.inl (1, tn, .inl (fun j9 => sb_b (t j9)))) := by rw [h13]; exact (va_up_ne _ _ (fk f9 f8 rfl)).trans (f9)
        exact j_vret rfl ⟨rfl, by rw [h13, hw7, hwl]; simp only [bx_uu]; rw [← hr, whl_end (by omega), if_pos (by omega)]; rw [show sa + (e - sa) = e by omega]⟩ (show 0 ≤ 0 by omega) (show 0 ≤ 0 by omega) dX4_takeNumber_86
    · skip
      refine j_aload_n dX4_takeNumber_13 0 rfl ?_
      refine j_iload_n dX4_takeNumber_14 1 rfl ?_
      refine j_callV (rm := rX4_byteAt) (As := [.int (nI e)]) (st := []) (b0 := to) (ci := 4) (na := 1) (c_byteAt (i := e) g_to g_tx ht (by omega) (by omega) (by omega)) (by intro E w9 h9; first | exact nomatch h9.1 | (obtain ⟨_, h9, _⟩ := h9; exact nomatch h9) | (obtain ⟨_, _, _, h9, _⟩ := h9; exact nomatch h9)) gX4_takeNumber_X4_byteAt rfl rfl g_to (by decide +kernel) rfl ⟨Nat.le_of_ble_eq_true rfl, Nat.le_of_ble_eq_true rfl⟩ rfl (Nat.le_of_ble_eq_true rfl) dX4_takeNumber_15 ⟨(show 0 + 0 ≤ 0 by omega), (show 0 + 0 ≤ 0 by omega)⟩ (fun v16 w17 h18 => ?_)
      obtain ⟨h18, h19⟩ := h18
      cases h18
      subst w17
      refine j_after (st' := [.int (bA t ln e)]) (k' := 0) (n' := 0) rfl rfl rfl ?_
      refine j_callS (rm := rX4_isDigit) (As := [.int (bA t ln e)]) (st := []) (na := 1) (c_isDigit (c := bA t ln e)) (by intro E w9 h9; first | exact nomatch h9.1 | (obtain ⟨_, h9, _⟩ := h9; exact nomatch h9) | (obtain ⟨_, _, _, h9, _⟩ := h9; exact nomatch h9)) gX4_takeNumber_X4_isDigit rfl (by decide +kernel) rfl ⟨Nat.le_of_ble_eq_true rfl, Nat.le_of_ble_eq_true rfl⟩ rfl (Nat.le_of_ble_eq_true rfl) dX4_takeNumber_18 ⟨(show 0 + 0 ≤ 0 by omega), (show 0 + 0 ≤ 0 by omega)⟩ (fun v20 w21 h22 => ?_)
      obtain ⟨h22, h23⟩ := h22
      cases h22
      subst w21
      refine j_after (st' := [.int (zb (isD (bA t ln e)))]) (k' := 0) (n' := 0) rfl rfl rfl ?_
      refine j_if_eq 60 dX4_takeNumber_21 (by decide) (fun c21 => ?_) (fun c21 => ?_)
      · skip
        refine j_iload_n dX4_takeNumber_60 1 rfl ?_
        refine j_aload_n dX4_takeNumber_61 0 rfl ?_
        refine j_get flX4_takeNumber_34 g_to rfl dX4_takeNumber_62 ?_
        refine j_isubN (by omega) dX4_takeNumber_65 ?_
        refine j_iconst (v := nI 3) dX4_takeNumber_66 (by decide) ?_
        refine j_icmp_leN 75 (by omega) (by omega) dX4_takeNumber_67 (by decide) (fun c67 => ?_) (fun c67 => ?_)
        · skip
          refine j_aload_n dX4_takeNumber_75 0 rfl ?_
          refine j_iconst (v := nI 3) dX4_takeNumber_76 (by decide) ?_
          refine j_iload_n dX4_takeNumber_77 1 rfl ?_
          refine j_aload_n dX4_takeNumber_78 0 rfl ?_
          refine j_get flX4_takeNumber_34 g_to rfl dX4_takeNumber_79 ?_
          refine j_isubN (by omega) dX4_takeNumber_82 ?_
          refine j_callV (rm := rX4_take) (As := [.int (nI 3), .int (nI (e - sa))]) (st := []) (b0 := to) (ci := 4) (na := 2) (c_take (k := 3) (m := (e - sa)) g_to g_tx ht (by omega) (by omega)) (by intro E w9 h9; first | exact nomatch h9.1 | (obtain ⟨_, h9, _⟩ := h9; exact nomatch h9) | (obtain ⟨_, _, _, h9, _⟩ := h9; exact nomatch h9)) gX4_takeNumber_X4_take rfl rfl g_to (by decide +kernel) rfl ⟨Nat.le_of_ble_eq_true rfl, Nat.le_of_ble_eq_true rfl⟩ rfl (Nat.le_of_ble_eq_true rfl) dX4_takeNumber_83 ⟨(show 0 + 0 ≤ 0 by omega), (show 0 + 0 ≤ 0 by omega)⟩ (fun v24 w25 h26 => ?_)
          obtain ⟨h26, h27⟩ := h26
          cases h26
          -- w25
          refine j_after (st' := []) (k' := 0) (n' := 0) rfl rfl rfl ?_
          have f28 : w25 to = some (.inr (4, [.ref tx, .int (nI ln), .int (nI (sa + (e - sa))), .int (nI 3), .int (nI sa), .int (nI (nvF t sa (min 3 (e - sa))))])) := by rw [h27]; exact va_up_self _ _ _
          have f29 : w25 tx = some (.inl (1, tn, .inl (fun j9 => sb_b (t j9)))) := by rw [h27]; exact (va_up_ne _ _ (fk g_tx g_to rfl)).trans (g_tx)
          exact j_vret rfl ⟨rfl, by rw [h27, hwl]; simp only [bx_uu]; rw [← hr, whl_stop (zb_0 c21), if_neg (by omega)]; rw [show min 3 (e - sa) = e - sa by omega]; rw [show sa + (e - sa) = e by omega]⟩ (show 0 ≤ 0 by omega) (show 0 ≤ 0 by omega) dX4_takeNumber_86
        · skip
          refine j_aload_n dX4_takeNumber_70 0 rfl ?_
          refine j_iconst (v := nI 0) dX4_takeNumber_71 (by decide) ?_
          refine j_put (fs9 := [.ref tx, .int (nI ln), .int (nI nx), .int (nI kd), .int (nI sa), .int (nI 0)]) fsX4_takeNumber_37 g_to rfl rfl (Nat.le_of_ble_eq_true rfl) rfl dX4_takeNumber_72 ?_
          refine j_w (fun w30 hw30 => ?_)
          have f31 : w30 to = some (.inr (4, [.ref tx, .int (nI ln), .int (nI nx), .int (nI kd), .int (nI sa), .int (nI 0)])) := up_at hw30
          have f32 := up_ne hw30 (fk g_tx g_to rfl) g_tx
          refine j_aload_n dX4_takeNumber_75 0 rfl ?_
          refine j_iconst (v := nI 3) dX4_takeNumber_76 (by decide) ?_
          refine j_iload_n dX4_takeNumber_77 1 rfl ?_
          refine j_aload_n dX4_takeNumber_78 0 rfl ?_
          refine j_get flX4_takeNumber_34 f31 rfl dX4_takeNumber_79 ?_
          refine j_isubN (by omega) dX4_takeNumber_82 ?_
          refine j_callV (rm := rX4_take) (As := [.int (nI 3), .int (nI (e - sa))]) (st := []) (b0 := to) (ci := 4) (na := 2) (c_take (k := 3) (m := (e - sa)) f31 f32 ht (by omega) (by omega)) (by intro E w9 h9; first | exact nomatch h9.1 | (obtain ⟨_, h9, _⟩ := h9; exact nomatch h9) | (obtain ⟨_, _, _, h9, _⟩ := h9; exact nomatch h9)) gX4_takeNumber_X4_take rfl rfl f31 (by decide +kernel) rfl ⟨Nat.le_of_ble_eq_true rfl, Nat.le_of_ble_eq_true rfl⟩ rfl (Nat.le_of_ble_eq_true rfl) dX4_takeNumber_83 ⟨(show 0 + 0 ≤ 0 by omega), (show 0 + 0 ≤ 0 by omega)⟩ (fun v33 w34 h35 => ?_)
          obtain ⟨h35, h36⟩ := h35
          cases h35
          -- w34
          refine j_after (st' := []) (k' := 0) (n' := 0) rfl rfl rfl ?_
          have f37 : w34 to = some (.inr (4, [.ref tx, .int (nI ln), .int (nI (sa + (e - sa))), .int (nI 3), .int (nI sa), .int (nI 0)])) := by rw [h36]; exact va_up_self _ _ _
          have f38 : w34 tx = some (.inl (1, tn, .inl (fun j9 => sb_b (t j9)))) := by rw [h36]; exact (va_up_ne _ _ (fk f32 f31 rfl)).trans (f32)
          exact j_vret rfl ⟨rfl, by rw [h36, hw30, hwl]; simp only [bx_uu]; rw [← hr, whl_stop (zb_0 c21), if_pos (by omega)]; rw [show sa + (e - sa) = e by omega]⟩ (show 0 ≤ 0 by omega) (show 0 ≤ 0 by omega) dX4_takeNumber_86
      · skip
        have hdg := isD_in (ht e) (zb_n' c21)
        refine j_iload_n dX4_takeNumber_24 1 rfl ?_
        refine j_aload_n dX4_takeNumber_25 0 rfl ?_
        refine j_get flX4_takeNumber_34 g_to rfl dX4_takeNumber_26 ?_
        refine j_isubN (by omega) dX4_takeNumber_29 ?_
        refine j_iconst (v := nI 3) dX4_takeNumber_30 (by decide) ?_
        refine j_icmp_geN 54 (by omega) (by omega) dX4_takeNumber_31 (by decide) (fun c31 => ?_) (fun c31 => ?_)
        · skip
          refine j_iinc (q := 1) (v := nI (e + 1)) (lv' := [(1, .int (nI (e + 1))), (0, .ref to)]) dX4_takeNumber_54 rfl (by first | exact nI_1 _ | exact nI_add _ _) (Nat.le_of_ble_eq_true rfl) rfl ?_
          refine j_goto 5 dX4_takeNumber_57 (by decide) ?_
          refine j_lv (lv' := [(0, .ref to), (1, .int (nI (e + 1)))]) [1, 0] rfl ?_
          have hv9 : nI (nvF t sa (min 3 ((e + 1) - sa))) = nI (nvF t sa (min 3 (e - sa))) := by rw [show min 3 (e + 1 - sa) = min 3 (e - sa) by omega]
          exact ih (e + 1) _ (by omega) (by omega) (by omega) (by rw [← hr]; exact (whl_step (q := fun i => isD (bA t ln i)) (by omega) (zb_n' c21)).symm) (by rw [hwl, hv9])
        · skip
          refine j_aload_n dX4_takeNumber_34 0 rfl ?_
          refine j_bipush (v := nI 10) dX4_takeNumber_35 (by decide) ?_
          refine j_aload_n dX4_takeNumber_37 0 rfl ?_
          refine j_get flX4_takeNumber_37 g_to rfl dX4_takeNumber_38 ?_
          have hnv : nvF t sa (min 3 (e - sa)) ≤ 300 * 111 := nvF_le ht (by omega)
          refine j_imulN dX4_takeNumber_41 ?_
          refine j_aload_n dX4_takeNumber_42 0 rfl ?_
          refine j_iload_n dX4_takeNumber_43 1 rfl ?_
          refine j_callV (rm := rX4_byteAt) (As := [.int (nI e)]) (st := [.int (nI (10 * (nvF t sa (min 3 (e - sa))))), .ref to]) (b0 := to) (ci := 4) (na := 1) (c_byteAt (i := e) g_to g_tx ht (by omega) (by omega) (by omega)) (by intro E w9 h9; first | exact nomatch h9.1 | (obtain ⟨_, h9, _⟩ := h9; exact nomatch h9) | (obtain ⟨_, _, _, h9, _⟩ := h9; exact nomatch h9)) gX4_takeNumber_X4_byteAt rfl rfl g_to (by decide +kernel) rfl ⟨Nat.le_of_ble_eq_true rfl, Nat.le_of_ble_eq_true rfl⟩ rfl (Nat.le_of_ble_eq_true rfl) dX4_takeNumber_44 ⟨(show 0 + 0 ≤ 0 by omega), (show 0 + 0 ≤ 0 by omega)⟩ (fun v39 w40 h41 => ?_)
          obtain ⟨h41, h42⟩ := h41
          cases h41
          subst w40
          refine j_after (st' := [.int (bA t ln e), .int (nI (10 * (nvF t sa (min 3 (e - sa))))), .ref to]) (k' := 0) (n' := 0) rfl rfl rfl ?_
          refine j_eqi (y := nI (t e)) (bA_in hdg.1) ?_
          refine j_iaddN dX4_takeNumber_47 ?_
          refine j_bipush (v := nI 48) dX4_takeNumber_48 (by decide) ?_
          refine j_isubN (by omega) dX4_takeNumber_50 ?_
          refine j_put (fs9 := [.ref tx, .int (nI ln), .int (nI nx), .int (nI kd), .int (nI sa), .int (nI (((10 * (nvF t sa (min 3 (e - sa)))) + (t e)) - 48))]) fsX4_takeNumber_37 g_to rfl rfl (Nat.le_of_ble_eq_true rfl) rfl dX4_takeNumber_51 ?_
          refine j_w (fun w43 hw43 => ?_)
          have f44 : w43 to = some (.inr (4, [.ref tx, .int (nI ln), .int (nI nx), .int (nI kd), .int (nI sa), .int (nI (((10 * (nvF t sa (min 3 (e - sa)))) + (t e)) - 48))])) := up_at hw43
          have f45 := up_ne hw43 (fk g_tx g_to rfl) g_tx
          refine j_iinc (q := 1) (v := nI (e + 1)) (lv' := [(1, .int (nI (e + 1))), (0, .ref to)]) dX4_takeNumber_54 rfl (by first | exact nI_1 _ | exact nI_add _ _) (Nat.le_of_ble_eq_true rfl) rfl ?_
          refine j_goto 5 dX4_takeNumber_57 (by decide) ?_
          refine j_lv (lv' := [(0, .ref to), (1, .int (nI (e + 1)))]) [1, 0] rfl ?_
          have hv9 : nI (nvF t sa (min 3 ((e + 1) - sa))) = nI (((10 * (nvF t sa (min 3 (e - sa)))) + (t e)) - 48) := by rw [show min 3 (e + 1 - sa) = min 3 (e - sa) + 1 by omega]; simp only [nvF]; rw [show sa + min 3 (e - sa) = e by omega, show 10 * nvF t sa (min 3 (e - sa)) + (t e - 48) = 10 * nvF t sa (min 3 (e - sa)) + t e - 48 by omega]
          exact ih (e + 1) _ (by omega) (by omega) (by omega) (by rw [← hr]; exact (whl_step (q := fun i => isD (bA t ln i)) (by omega) (zb_n' c21)).symm) (by rw [hw43, hwl, hv9]; simp only [bx_uu])
set_option maxHeartbeats 4000000 in
set_option maxRecDepth 100000 in
theorem c_takeNumber {w : pW} {to tx : Nat} {ln nx kd sa tn : Nat} {t : Nat → Nat} (hto : w to = some (.inr (4, [.ref tx, .int (nI ln), .int (nI nx), .int (nI kd), .int (nI sa), .int (nI 0)]))) (htx : w tx = some (.inl (1, tn, .inl (fun j9 => sb_b (t j9))))) (ht : ∀ j, t j < 256) (hln : ln ≤ tn) (htn : tn ≤ 100000) (hln2 : ln ≤ 2400) (hsa : sa ≤ ln) : Ct yX4_takeNumber wsX4_takeNumber rX4_takeNumber [.ref to] w (fun o w9 => o = .inl none ∧ w9 = va_up w to (some (.inr (4, [.ref tx, .int (nI ln), .int (nI (dgE t ln sa)), .int (nI 3), .int (nI sa), .int (if 3 < dgE t ln sa - sa then nI 0 else nI (nvF t sa (dgE t ln sa - sa)))])))) := by
  refine Ct.of (cc := cX4_takeNumber) (own := RX4) (nm := "takeNumber") (nL := 2) (ret := none) (by decide +kernel) rfl rfl rfl (Nat.le_of_ble_eq_true rfl) ?_
  refine j_lvE (lv' := [(0, .ref to)]) rfl ?_
  refine j_aload_n dX4_takeNumber_0 0 rfl ?_
  refine j_get flX4_takeNumber_34 hto rfl dX4_takeNumber_1 ?_
  refine j_istore_n (lv' := [(1, .int (nI sa)), (0, .ref to)]) dX4_takeNumber_4 (Nat.le_of_ble_eq_true rfl) rfl ?_
  refine j_lv (lv' := [(0, .ref to), (1, .int (nI sa))]) [1, 0] rfl ?_
  exact l_takeNumber hto htx ht hln htn hln2 (ln + 1) sa w (by omega) (by omega) (by omega) rfl (by rw [Nat.sub_self]; exact (up_same hto).symm)
