section TK
variable {P : JP} {pc : Nat} {lv : List (Nat × Value)} {st : List Value} {w : pW} {k n idx : Nat}
/-- SIGNS.indexOf((char) sign) -/
theorem j_signs {c q : Nat} (hc : c < 256) (hown0 : P.1.2.1 = RX4) (hq : lv[q]? = some (1, .int (nI c))) (g : GoodIn P.1.2.2.2 (wsV P.1.2.1 idx RJ0 yJ0_indexOf_0f7a4 wsJ0_indexOf_0f7a4)) (hR : rJ0_indexOf_0f7a4.frames + 1 ≤ P.2.1.1.frames ∧ 8 + (2 + 11) + rJ0_indexOf_0f7a4.locals ≤ P.2.1.1.locals) (hcat : (st.map fun v => v.category).sum ≤ 8) (hf : k ≤ P.2.1.1.cells ∧ n ≤ P.2.1.1.slots)
    (d0 : decode P.1.1 pc = .ok (.ldc 62, 2)) (d2 : decode P.1.1 (pc + 2) = .ok (.iload_n 1, 1)) (d3 : decode P.1.1 (pc + 2 + 1) = .ok (.i2c, 1)) (d4 : decode P.1.1 (pc + 2 + 1 + 1) = .ok (.invokevirtual idx, 3)) (h : J P (pc + 2 + 1 + 1 + 3) lv (.int (ixS c) :: st) w k n) : J P pc lv st w k n := by
  intro p l e s m args below meth cd H locs G b ls F hP hD hS hl
  obtain ⟨hx, hb, hml, hown, hts, hr, hlk, hnm, htb, hK, hBg, hst2, hbs, hXX⟩ := id F
  obtain ⟨adK, adV, hRf, hSt⟩ := hBg.2.2.2.2.1
  have hyy : Sg (adK 0) (adV 0) b s := hSt.1 0 (by decide)
  have hfw := j_fwY (As := [.ref (adK 0), .int (nI c)]) (Sg_ok _ _) hyy F hP hD hS
  rw [← hown0] at hRf
  refine va_ldcS hx hb hown hRf d0 ?_
  refine lv_iload_n hx hb d2 rfl (lv_at hl q hq) ?_
  refine lv_i2c hx hb d3 (sb_byte c hc).2.1 ?_
  refine j_back F hS hl (va_runV (As := [.int (nI c)]) (rest := st) ⟨hx, hb, hml, hown, hts⟩ ((c_indexOf1 (sa := adK 0) (sv := adV 0) hc).met (by intro E w9 h9; exact nomatch h9.1) G b hst2) (cwV 1 hts g rfl rfl rfl (by decide +kernel) hR) ⟨fwY_blind (Sg_ok _ _), Sg_recv b s H locs hyy hS, hfw⟩ rfl rfl hl.1 rfl (lv_room hcat) d4 hf) (fun v9 w9 h9 => ?_)
  obtain ⟨h9, h8⟩ := h9
  cases h9
  subst w9
  exact h
/-- STEPS[j] -/
theorem j_steps {j q : Nat} (hj : j < 7) (hl1 : Cond.fieldLink P.1.2.1 idx RX4 "STEPS" "[I" ∈ P.1.2.2.2) (hq : lv[q]? = some (1, .int (nI j))) (d0 : decode P.1.1 pc = .ok (.getstatic idx, 3)) (d3 : decode P.1.1 (pc + 3) = .ok (.iload_n 1, 1)) (d4 : decode P.1.1 (pc + 3 + 1) = .ok (.iaload, 1)) (h : J P (pc + 3 + 1 + 1) lv (.int (bgStep j) :: st) w k n) : J P pc lv st w k n := by
  intro p l e s m args below meth cd H locs G b ls F hP hD hS hl
  obtain ⟨hx, hb, hml, hown, hts, hr, hlk, hnm, htb, hK, hBg, hst2, hbs, hXX⟩ := id F
  obtain ⟨t, hZ, hT⟩ := hBg.2.2.2.1
  refine va_gets hx hb hZ hS hown (hts _ hl1) (fun _ h9 => h9) d0 ?_
  refine lv_iload_n hx hb d3 rfl (lv_at hl q hq) ?_
  refine va_ti hx hb hT hS (vp_in_nI hj (by decide)) (v := .int (bgStep j)) (by rw [nI_clamp (by omega)]) d4 ?_
  exact h p l e s m args below meth cd H locs G b ls F hP hD hS hl
/-- STEPS.length -/
theorem j_stepsL (hl1 : Cond.fieldLink P.1.2.1 idx RX4 "STEPS" "[I" ∈ P.1.2.2.2) (d0 : decode P.1.1 pc = .ok (.getstatic idx, 3)) (d3 : decode P.1.1 (pc + 3) = .ok (.arraylength, 1)) (h : J P (pc + 3 + 1) lv (.int (nI 7) :: st) w k n) : J P pc lv st w k n := by
  intro p l e s m args below meth cd H locs G b ls F hP hD hS hl
  obtain ⟨hx, hb, hml, hown, hts, hr, hlk, hnm, htb, hK, hBg, hst2, hbs, hXX⟩ := id F
  obtain ⟨t, hZ, hT⟩ := hBg.2.2.2.1
  refine va_gets hx hb hZ hS hown (hts _ hl1) (fun _ h9 => h9) d0 ?_
  refine va_tlen hx hb hT hS (v := nI 7) rfl d3 ?_
  exact h p l e s m args below meth cd H locs G b ls F hP hD hS hl
end TK
section TP
/-- the byte at i of the first ln of t, or -1 -/
def bA (t : Nat → Nat) (ln i : Nat) : Int32 := if i < ln then nI (t i) else -1
def isD (c : Int32) : Bool := decide (¬ c < nI 48 ∧ ¬ nI 57 < c)
def isB (c : Int32) : Bool := decide (c = nI 32 ∨ c = nI 10)
/-- from p on, as long as q holds -/
def whl (q : Nat → Bool) : Nat → Nat → Nat
  | 0, p => p
  | k + 1, p => if q p then whl q k (p + 1) else p
theorem whl_step {q : Nat → Bool} {e p : Nat} (h : p < e) (hq : q p = true) : whl q (e - p) p = whl q (e - (p + 1)) (p + 1) := by
  obtain ⟨k, hk⟩ : ∃ k, e - p = k + 1 := ⟨e - p - 1, by omega⟩
  rw [hk, show e - (p + 1) = k by omega]
  simp [whl, hq]
theorem whl_stop {q : Nat → Bool} {k p : Nat} (hq : q p = false) : whl q k p = p := by
  cases k with
  | zero => rfl
  | succ k => simp [whl, hq]
theorem whl_end {q : Nat → Bool} {e p : Nat} (h : e ≤ p) : whl q (e - p) p = p := by
  rw [show e - p = 0 by omega]; rfl
theorem whl_bd {q : Nat → Bool} : ∀ {k p : Nat}, p ≤ whl q k p ∧ whl q k p ≤ p + k
  | 0, p => ⟨Nat.le_refl _, Nat.le_refl _⟩
  | k + 1, p => by
    unfold whl
    split
    · have := whl_bd (q := q) (k := k) (p := p + 1)
      omega
    · omega
def skB (t : Nat → Nat) (ln p : Nat) : Nat := whl (fun i => isB (bA t ln i)) (ln - p) p
def dgE (t : Nat → Nat) (ln p : Nat) : Nat := whl (fun i => isD (bA t ln i)) (ln - p) p
def nvF (t : Nat → Nat) (s : Nat) : Nat → Nat
  | 0 => 0
  | m + 1 => 10 * nvF t s m + (t (s + m) - 48)
theorem bA_in {t : Nat → Nat} {ln i : Nat} (h : i < ln) : bA t ln i = nI (t i) := by simp [bA, h]
theorem bA_out {t : Nat → Nat} {ln i : Nat} (h : ln ≤ i) : bA t ln i = -1 := by simp [bA, Nat.not_lt.mpr h]
theorem isD_in {t : Nat → Nat} {ln i : Nat} (ht : t i < 256) (h : isD (bA t ln i) = true) : i < ln ∧ 48 ≤ t i ∧ t i ≤ 57 := by
  have h1 := of_decide_eq_true h
  by_cases hi : i < ln
  · rw [bA_in hi] at h1
    refine ⟨hi, ?_, ?_⟩
    · have := h1.1
      exact Nat.not_lt.mp (fun q => this (nI_lt q (by decide)))
    · have := h1.2
      exact Nat.not_lt.mp (fun q => this (nI_lt q (by omega)))
  · rw [bA_out (by omega)] at h1
    exact absurd (by decide) h1.1
theorem nvF_le {t : Nat → Nat} {s : Nat} (ht : ∀ j, t j < 256) : ∀ {m : Nat}, m ≤ 3 → nvF t s m ≤ 300 * 111
  | 0, _ => by simp [nvF]
  | 1, _ => by have := ht (s + 0); simp only [nvF]; omega
  | 2, _ => by have := ht (s + 0); have := ht (s + 1); simp only [nvF]; omega
  | 3, _ => by have := ht (s + 0); have := ht (s + 1); have := ht (s + 2); simp only [nvF]; omega
  | _ + 4, h => by omega
/-- a pitch: the sign behind the letter, the octave's place, the value -/
def ptK (t : Nat → Nat) (ln s : Nat) : Nat := if bA t ln (s + 1) = nI 43 ∨ bA t ln (s + 1) = nI 45 then 1 else 0
def ptV (t : Nat → Nat) (ln s : Nat) : Int32 := if bA t ln (s + 1) = nI 43 then nI 1 else if bA t ln (s + 1) = nI 45 then -1 else nI 0
def ptO (t : Nat → Nat) (ln p : Nat) : Bool := decide (p < ln ∧ 48 ≤ t p ∧ t p ≤ 56)
theorem oc_bad {t : Nat → Nat} {ln p : Nat} (ht : t p < 256) (h : ¬ (p < ln ∧ 48 ≤ t p ∧ t p ≤ 56)) : bA t ln p - nI 48 < 0 ∨ nI 8 < bA t ln p - nI 48 := by
  by_cases hp : p < ln
  · rw [bA_in hp]
    have : ∀ x : Fin 256, ¬ (48 ≤ x.val ∧ x.val ≤ 56) → nI x.val - nI 48 < 0 ∨ nI 8 < nI x.val - nI 48 := by decide +kernel
    exact this ⟨t p, ht⟩ (fun q => h ⟨hp, q⟩)
  · rw [bA_out (by omega)]; exact Or.inl (by decide)
theorem oc_ok {x : Nat} (h : 48 ≤ x) : nI x - nI 48 = nI (x - 48) := pk_sub h
/-- the token that starts at s: where the next begins, its kind, its value -/
def tk (t : Nat → Nat) (ln s : Nat) : Nat × Nat × Int32 :=
  if ln ≤ s then (s, 0, nI 0)
  else if 97 ≤ t s ∧ t s ≤ 103 then
    (if ptO t ln (s + 1 + ptK t ln s) then (s + (s + 1 + ptK t ln s + 1 - s), 2, nI (12 * (t (s + 1 + ptK t ln s) - 48)) + bgStep (t s - 97) + ptV t ln s) else (s + 1, 1, nI 0))
  else if isD (nI (t s)) then (dgE t ln s, 3, if 3 < dgE t ln s - s then nI 0 else nI (nvF t s (dgE t ln s - s)))
  else if t s = 124 ∧ bA t ln (s + 1) = nI 58 then (s + 2, 4, nI 0)
  else if t s = 58 ∧ bA t ln (s + 1) = nI 124 then (s + 2, 5, nI 0)
  else if ixS (t s) < 0 then (s + 1, 1, nI 0) else (s + 1, t s, nI 0)
theorem tk_bd {t : Nat → Nat} {ln s : Nat} : s ≤ (tk t ln s).1 ∧ (s < ln → s < (tk t ln s).1) ∧ (tk t ln s).1 ≤ max s (ln + 1) := by
  unfold tk
  have hk : ptK t ln s ≤ 1 := by unfold ptK; split <;> omega
  split
  · exact ⟨Nat.le_refl _, fun h => by omega, by omega⟩
  · split
    · split
      · rename_i h1 h2 h3
        have := of_decide_eq_true h3
        exact ⟨by simp only; omega, fun _ => by simp only; omega, by simp only; omega⟩
      · exact ⟨by simp only; omega, fun _ => by simp only; omega, by simp only; omega⟩
    · split
      · rename_i h1 h2 h3
        have hb := whl_bd (q := fun i => isD (bA t ln i)) (k := ln - s) (p := s)
        have hst : dgE t ln s = whl (fun i => isD (bA t ln i)) (ln - (s + 1)) (s + 1) := whl_step (by omega) (by rw [bA_in (by omega)]; exact h3)
        have hb2 := whl_bd (q := fun i => isD (bA t ln i)) (k := ln - (s + 1)) (p := s + 1)
        rw [← hst] at hb2
        exact ⟨by simp only; omega, fun _ => by simp only; omega, by simp only; omega⟩
      · split
        · exact ⟨by simp only; omega, fun _ => by simp only; omega, by simp only; omega⟩
        · split
          · exact ⟨by simp only; omega, fun _ => by simp only; omega, by simp only; omega⟩
          · split <;> exact ⟨by simp only; omega, fun _ => by simp only; omega, by simp only; omega⟩
end TP
abbrev rX4_byteAt : Room := { frames := 0, cells := 0, slots := 0, locals := 0 }
theorem flX4_byteAt_21 : FL wsX4_byteAt RX4 21 4 1 := ⟨RX4, TX4, 6, rfl, by decide, by decide +kernel, by decide +kernel⟩
theorem flX4_byteAt_9 : FL wsX4_byteAt RX4 9 4 0 := ⟨RX4, TX4, 6, rfl, by decide, by decide +kernel, by decide +kernel⟩
set_option maxHeartbeats 4000000 in
set_option maxRecDepth 100000 in
theorem c_byteAt {w : pW} {to tx : Nat} {ln nx kd sa tn : Nat} {va : Int32} {t : Nat → Nat} (hto : w to = some (.inr (4, [.ref tx, .int (nI ln), .int (nI nx), .int (nI kd), .int (nI sa), .int va]))) (htx : w tx = some (.inl (1, tn, .inl (fun j9 => sb_b (t j9))))) (ht : ∀ j, t j < 256) (hln : ln ≤ tn) (htn : tn ≤ 100000) {i : Nat} (hi : i < 2 ^ 31) : Ct yX4_byteAt wsX4_byteAt rX4_byteAt [.ref to, .int (nI i)] w (fun o w9 => o = .inl (some (.int (bA t ln i))) ∧ w9 = w) := by
  refine Ct.of (cc := cX4_byteAt) (own := RX4) (nm := "byteAt") (nL := 2) (ret := (some .int)) (by decide +kernel) rfl rfl rfl (Nat.le_of_ble_eq_true rfl) ?_
  refine j_lvE (lv' := [(0, .ref to), (1, .int (nI i))]) rfl ?_
  refine j_iload_n dX4_byteAt_0 1 rfl ?_
  refine j_if_ltN (by omega) dX4_byteAt_1 (by decide : _ = ((34 : Nat) : Int)) ?_
  refine j_iload_n dX4_byteAt_4 1 rfl ?_
  refine j_aload_n dX4_byteAt_5 0 rfl ?_
  refine j_get flX4_byteAt_21 hto rfl dX4_byteAt_6 ?_
  refine j_icmp_geN 34 (by omega) (by omega) dX4_byteAt_9 (by decide) (fun c9 => ?_) (fun c9 => ?_)
  · skip
    refine j_iconst (v := (-1)) dX4_byteAt_34 (by decide) ?_
    exact j_iret rfl ⟨by rw [bA_out (by omega)], rfl⟩ (show 0 ≤ 0 by omega) (show 0 ≤ 0 by omega) dX4_byteAt_35
  · skip
    refine j_iload_n dX4_byteAt_12 1 rfl ?_
    refine j_aload_n dX4_byteAt_13 0 rfl ?_
    refine j_get flX4_byteAt_9 hto rfl dX4_byteAt_14 ?_
    refine j_alen (v := nI tn) (by decide) htx rfl dX4_byteAt_17 ?_
    refine j_icmp_geN 34 (by omega) (by omega) dX4_byteAt_18 (by decide) (fun c18 => ?_) (fun c18 => ?_)
    · skip
      refine j_iconst (v := (-1)) dX4_byteAt_34 (by decide) ?_
      exact j_iret rfl ⟨by rw [bA_out (by omega)], rfl⟩ (show 0 ≤ 0 by omega) (show 0 ≤ 0 by omega) dX4_byteAt_35
    · skip
      refine j_aload_n dX4_byteAt_21 0 rfl ?_
      refine j_get flX4_byteAt_9 hto rfl dX4_byteAt_22 ?_
      refine j_iload_n dX4_byteAt_25 1 rfl ?_
      refine j_baldN (j := i) htx rfl (by omega) (by omega) dX4_byteAt_26 ?_
      refine j_sipush (v := nI 255) dX4_byteAt_27 (by decide) ?_
      refine j_iand dX4_byteAt_30 ?_
      refine j_eqi (y := nI (t i)) (sb_byte (t i) (ht i)).1 ?_
      refine j_goto 35 dX4_byteAt_31 (by decide) ?_
      exact j_iret rfl ⟨by rw [bA_in (by omega)], rfl⟩ (show 0 ≤ 0 by omega) (show 0 ≤ 0 by omega) dX4_byteAt_35
abbrev rX4_isDigit : Room := { frames := 0, cells := 0, slots := 0, locals := 0 }
set_option maxHeartbeats 4000000 in
set_option maxRecDepth 100000 in
theorem c_isDigit {w : pW} {c : Int32} : Ct yX4_isDigit wsX4_isDigit rX4_isDigit [.int c] w (fun o w9 => o = .inl (some (.int (zb (isD c)))) ∧ w9 = w) := by
  refine Ct.of (cc := cX4_isDigit) (own := RX4) (nm := "isDigit") (nL := 1) (ret := (some .boolean)) (by decide +kernel) rfl rfl rfl (Nat.le_of_ble_eq_true rfl) ?_
  refine j_lvE (lv' := [(0, .int c)]) rfl ?_
  refine j_iload_n dX4_isDigit_0 0 rfl ?_
  refine j_bipush (v := nI 48) dX4_isDigit_1 (by decide) ?_
  refine j_icmp_lt 16 dX4_isDigit_3 (by decide) (fun c3 => ?_) (fun c3 => ?_)
  · skip
    refine j_iconst (v := nI 0) dX4_isDigit_16 (by decide) ?_
    exact j_zret rfl (Or.inl rfl) ⟨by unfold isD; rw [zb_f (decide_eq_false (fun h => by first | exact h.1 c3 | exact h.2 c9))]; rfl, rfl⟩ (show 0 ≤ 0 by omega) (show 0 ≤ 0 by omega) dX4_isDigit_17
  · skip
    refine j_iload_n dX4_isDigit_6 0 rfl ?_
    refine j_bipush (v := nI 57) dX4_isDigit_7 (by decide) ?_
    refine j_icmp_gt 16 dX4_isDigit_9 (by decide) (fun c9 => ?_) (fun c9 => ?_)
    · skip
      refine j_iconst (v := nI 0) dX4_isDigit_16 (by decide) ?_
      exact j_zret rfl (Or.inl rfl) ⟨by unfold isD; rw [zb_f (decide_eq_false (fun h => by first | exact h.1 c3 | exact h.2 c9))]; rfl, rfl⟩ (show 0 ≤ 0 by omega) (show 0 ≤ 0 by omega) dX4_isDigit_17
    · skip
      refine j_iconst (v := nI 1) dX4_isDigit_12 (by decide) ?_
      refine j_goto 17 dX4_isDigit_13 (by decide) ?_
      exact j_zret rfl (Or.inr rfl) ⟨by unfold isD; rw [zb_t (decide_eq_true ⟨c3, c9⟩)]; rfl, rfl⟩ (show 0 ≤ 0 by omega) (show 0 ≤ 0 by omega) dX4_isDigit_17
abbrev rX4_take : Room := { frames := 0, cells := 0, slots := 0, locals := 0 }
theorem fsX4_take_44 : FS wsX4_take RX4 44 4 3 false (.int) := ⟨RX4, TX4, 6, tyX4, rfl, by decide, by decide +kernel, by decide +kernel, tyX4_ok, nmX4, rfl, rfl, rfl⟩
theorem flX4_take_34 : FL wsX4_take RX4 34 4 4 := ⟨RX4, TX4, 6, rfl, by decide, by decide +kernel, by decide +kernel⟩
theorem fsX4_take_25 : FS wsX4_take RX4 25 4 2 false (.int) := ⟨RX4, TX4, 6, tyX4, rfl, by decide, by decide +kernel, by decide +kernel, tyX4_ok, nmX4, rfl, rfl, rfl⟩
set_option maxHeartbeats 4000000 in
set_option maxRecDepth 100000 in
theorem c_take {w : pW} {to tx : Nat} {ln nx kd sa tn : Nat} {va : Int32} {t : Nat → Nat} (hto : w to = some (.inr (4, [.ref tx, .int (nI ln), .int (nI nx), .int (nI kd), .int (nI sa), .int va]))) (htx : w tx = some (.inl (1, tn, .inl (fun j9 => sb_b (t j9))))) (ht : ∀ j, t j < 256) (hln : ln ≤ tn) (htn : tn ≤ 100000) {k m : Nat} : Ct yX4_take wsX4_take rX4_take [.ref to, .int (nI k), .int (nI m)] w (fun o w9 => o = .inl none ∧ w9 = va_up w to (some (.inr (4, [.ref tx, .int (nI ln), .int (nI (sa + m)), .int (nI k), .int (nI sa), .int va])))) := by
  refine Ct.of (cc := cX4_take) (own := RX4) (nm := "take") (nL := 3) (ret := none) (by decide +kernel) rfl rfl rfl (Nat.le_of_ble_eq_true rfl) ?_
  refine j_lvE (lv' := [(0, .ref to), (1, .int (nI k)), (2, .int (nI m))]) rfl ?_
  refine j_aload_n dX4_take_0 0 rfl ?_
  refine j_iload_n dX4_take_1 1 rfl ?_
  refine j_put (fs9 := [.ref tx, .int (nI ln), .int (nI nx), .int (nI k), .int (nI sa), .int va]) fsX4_take_44 hto rfl rfl (Nat.le_of_ble_eq_true rfl) rfl dX4_take_2 ?_
  refine j_w (fun w1 hw1 => ?_)
  have f2 : w1 to = some (.inr (4, [.ref tx, .int (nI ln), .int (nI nx), .int (nI k), .int (nI sa), .int va])) := up_at hw1
  have f3 := up_ne hw1 (fk htx hto rfl) htx
  refine j_aload_n dX4_take_5 0 rfl ?_
  refine j_aload_n dX4_take_6 0 rfl ?_
  refine j_get flX4_take_34 f2 rfl dX4_take_7 ?_
  refine j_iload_n dX4_take_10 2 rfl ?_
  refine j_iaddN dX4_take_11 ?_
  refine j_put (fs9 := [.ref tx, .int (nI ln), .int (nI (sa + m)), .int (nI k), .int (nI sa), .int va]) fsX4_take_25 f2 rfl rfl (Nat.le_of_ble_eq_true rfl) rfl dX4_take_12 ?_
  refine j_w (fun w4 hw4 => ?_)
  have f5 : w4 to = some (.inr (4, [.ref tx, .int (nI ln), .int (nI (sa + m)), .int (nI k), .int (nI sa), .int va])) := up_at hw4
  have f6 := up_ne hw4 (fk f3 f2 rfl) f3
  exact j_vret rfl ⟨rfl, by rw [hw4, hw1] <;> (try simp only [bx_uu]) <;> (try rfl)⟩ (show 0 ≤ 0 by omega) (show 0 ≤ 0 by omega) dX4_take_15
abbrev rX4_skipBlanks : Room := { frames := 1, cells := 0, slots := 0, locals := 21 }
theorem flX4_skipBlanks_25 : FL wsX4_skipBlanks RX4 25 4 2 := ⟨RX4, TX4, 6, rfl, by decide, by decide +kernel, by decide +kernel⟩
theorem flX4_skipBlanks_21 : FL wsX4_skipBlanks RX4 21 4 1 := ⟨RX4, TX4, 6, rfl, by decide, by decide +kernel, by decide +kernel⟩
theorem fsX4_skipBlanks_25 : FS wsX4_skipBlanks RX4 25 4 2 false (.int) := ⟨RX4, TX4, 6, tyX4, rfl, by decide, by decide +kernel, by decide +kernel, tyX4_ok, nmX4, rfl, rfl, rfl⟩
set_option maxHeartbeats 4000000 in
set_option maxRecDepth 100000 in
theorem l_skipBlanks {w : pW} {to tx : Nat} {ln nx kd sa tn : Nat} {va : Int32} {t : Nat → Nat} (hto : w to = some (.inr (4, [.ref tx, .int (nI ln), .int (nI nx), .int (nI kd), .int (nI sa), .int va]))) (htx : w tx = some (.inl (1, tn, .inl (fun j9 => sb_b (t j9))))) (ht : ∀ j, t j < 256) (hln : ln ≤ tn) (htn : tn ≤ 100000) {R9 : Nat} : ∀ (m9 : Nat) (p : Nat) (wl : pW), 100000 - p < m9 → (p ≤ 100000) → (whl (fun i => isB (bA t ln i)) (ln - p) p = R9) → (wl = va_up w to (some (.inr (4, [.ref tx, .int (nI ln), .int (nI p), .int (nI kd), .int (nI sa), .int va])))) → J ((cX4_skipBlanks, RX4, 1, wsX4_skipBlanks), (rX4_skipBlanks, none, "skipBlanks", []), fun o w9 => o = .inl none ∧ w9 = va_up w to (some (.inr (4, [.ref tx, .int (nI ln), .int (nI R9), .int (nI kd), .int (nI sa), .int va]))), fun _ _ _ => True) 0 [(0, .ref to)] [] wl 0 0 := by
  intro m9
  induction m9 with
  | zero => intro p wl h9; omega
  | succ m9 ih =>
    intro p wl hm9 hp hr hwl
    have g_to : wl to = some (.inr (4, [.ref tx, .int (nI ln), .int (nI p), .int (nI kd), .int (nI sa), .int va])) := up_at hwl
    have g_tx := up_ne hwl (fk htx hto rfl) htx
    refine j_aload_n dX4_skipBlanks_0 0 rfl ?_
    refine j_get flX4_skipBlanks_25 g_to rfl dX4_skipBlanks_1 ?_
    refine j_aload_n dX4_skipBlanks_4 0 rfl ?_
    refine j_get flX4_skipBlanks_21 g_to rfl dX4_skipBlanks_5 ?_
    refine j_icmp_geN 50 (by omega) (by omega) dX4_skipBlanks_8 (by decide) (fun c8 => ?_) (fun c8 => ?_)
    · skip
      exact j_vret rfl ⟨rfl, by rw [← hr, whl_end (by omega)]; exact hwl⟩ (show 0 ≤ 0 by omega) (show 0 ≤ 0 by omega) dX4_skipBlanks_50
    · skip
      refine j_aload_n dX4_skipBlanks_11 0 rfl ?_
      refine j_aload_n dX4_skipBlanks_12 0 rfl ?_
      refine j_get flX4_skipBlanks_25 g_to rfl dX4_skipBlanks_13 ?_
      refine j_callV (rm := rX4_byteAt) (As := [.int (nI p)]) (st := []) (b0 := to) (ci := 4) (na := 1) (c_byteAt (i := p) g_to g_tx ht (by omega) (by omega) (by omega)) (by intro E w9 h9; first | exact nomatch h9.1 | (obtain ⟨_, h9, _⟩ := h9; exact nomatch h9) | (obtain ⟨_, _, _, h9, _⟩ := h9; exact nomatch h9)) gX4_skipBlanks_X4_byteAt rfl rfl g_to (by decide +kernel) rfl ⟨Nat.le_of_ble_eq_true rfl, Nat.le_of_ble_eq_true rfl⟩ rfl (Nat.le_of_ble_eq_true rfl) dX4_skipBlanks_16 ⟨(show 0 + 0 ≤ 0 by omega), (show 0 + 0 ≤ 0 by omega)⟩ (fun v1 w2 h3 => ?_)
      obtain ⟨h3, h4⟩ := h3
      cases h3
      subst w2
      refine j_after (st' := [.int (bA t ln p)]) (k' := 0) (n' := 0) rfl rfl rfl ?_
      refine j_bipush (v := nI 32) dX4_skipBlanks_19 (by decide) ?_
      refine j_icmp_eq 37 dX4_skipBlanks_21 (by decide) (fun c21 => ?_) (fun c21 => ?_)
      · skip
        refine j_aload_n dX4_skipBlanks_37 0 rfl ?_
        refine j_dup dX4_skipBlanks_38 rfl ?_
        refine j_get flX4_skipBlanks_25 g_to rfl dX4_skipBlanks_39 ?_
        refine j_iconst (v := nI 1) dX4_skipBlanks_42 (by decide) ?_
        refine j_iaddN dX4_skipBlanks_43 ?_
        refine j_put (fs9 := [.ref tx, .int (nI ln), .int (nI (p + 1)), .int (nI kd), .int (nI sa), .int va]) fsX4_skipBlanks_25 g_to rfl rfl (Nat.le_of_ble_eq_true rfl) rfl dX4_skipBlanks_44 ?_
        refine j_w (fun w5 hw5 => ?_)
        have f6 : w5 to = some (.inr (4, [.ref tx, .int (nI ln), .int (nI (p + 1)), .int (nI kd), .int (nI sa), .int va])) := up_at hw5
        have f7 := up_ne hw5 (fk g_tx g_to rfl) g_tx
        refine j_goto 0 dX4_skipBlanks_47 (by decide) ?_
        refine j_lv (lv' := [(0, .ref to)]) [0] rfl ?_
        exact ih (p + 1) _ (by omega) (by omega) (by rw [← hr]; exact (whl_step (q := fun i => isB (bA t ln i)) (by omega) (by simp only [isB, decide_eq_true_eq]; first | exact Or.inl c21 | exact Or.inr c34)).symm) (by rw [hw5, hwl]; simp only [bx_uu])
      · skip
        refine j_aload_n dX4_skipBlanks_24 0 rfl ?_
        refine j_aload_n dX4_skipBlanks_25 0 rfl ?_
        refine j_get flX4_skipBlanks_25 g_to rfl dX4_skipBlanks_26 ?_
        refine j_callV (rm := rX4_byteAt) (As := [.int (nI p)]) (st := []) (b0 := to) (ci := 4) (na := 1) (c_byteAt (i := p) g_to g_tx ht (by omega) (by omega) (by omega)) (by intro E w9 h9; first | exact nomatch h9.1 | (obtain ⟨_, h9, _⟩ := h9; exact nomatch h9) | (obtain ⟨_, _, _, h9, _⟩ := h9; exact nomatch h9)) gX4_skipBlanks_X4_byteAt rfl rfl g_to (by decide +kernel) rfl ⟨Nat.le_of_ble_eq_true rfl, Nat.le_of_ble_eq_true rfl⟩ rfl (Nat.le_of_ble_eq_true rfl) dX4_skipBlanks_29 ⟨(show 0 + 0 ≤ 0 by omega), (show 0 + 0 ≤ 0 by omega)⟩ (fun v8 w9 h10 => ?_)
        obtain ⟨h10, h11⟩ := h10
        cases h10
        subst w9
        refine j_after (st' := [.int (bA t ln p)]) (k' := 0) (n' := 0) rfl rfl rfl ?_
        refine j_bipush (v := nI 10) dX4_skipBlanks_32 (by decide) ?_
        refine j_icmp_ne 50 dX4_skipBlanks_34 (by decide) (fun c34 => ?_) (fun c34 => ?_)
        · skip
          exact j_vret rfl ⟨rfl, by rw [← hr, whl_stop (by simp only [isB, decide_eq_false_iff_not]; exact fun h => h.elim c21 c34)]; exact hwl⟩ (show 0 ≤ 0 by omega) (show 0 ≤ 0 by omega) dX4_skipBlanks_50
        · skip
          refine j_aload_n dX4_skipBlanks_37 0 rfl ?_
          refine j_dup dX4_skipBlanks_38 rfl ?_
          refine j_get flX4_skipBlanks_25 g_to rfl dX4_skipBlanks_39 ?_
          refine j_iconst (v := nI 1) dX4_skipBlanks_42 (by decide) ?_
          refine j_iaddN dX4_skipBlanks_43 ?_
          refine j_put (fs9 := [.ref tx, .int (nI ln), .int (nI (p + 1)), .int (nI kd), .int (nI sa), .int va]) fsX4_skipBlanks_25 g_to rfl rfl (Nat.le_of_ble_eq_true rfl) rfl dX4_skipBlanks_44 ?_
          refine j_w (fun w12 hw12 => ?_)
          have f13 : w12 to = some (.inr (4, [.ref tx, .int (nI ln), .int (nI (p + 1)), .int (nI kd), .int (nI sa), .int va])) := up_at hw12
          have f14 := up_ne hw12 (fk g_tx g_to rfl) g_tx
          refine j_goto 0 dX4_skipBlanks_47 (by decide) ?_
          refine j_lv (lv' := [(0, .ref to)]) [0] rfl ?_
          exact ih (p + 1) _ (by omega) (by omega) (by rw [← hr]; exact (whl_step (q := fun i => isB (bA t ln i)) (by omega) (by simp only [isB, decide_eq_true_eq]; first | exact Or.inl c21 | exact Or.inr c34)).symm) (by rw [hw12, hwl]; simp only [bx_uu])
set_option maxHeartbeats 4000000 in
set_option maxRecDepth 100000 in
theorem c_skipBlanks {w : pW} {to tx : Nat} {ln nx kd sa tn : Nat} {va : Int32} {t : Nat → Nat} (hto : w to = some (.inr (4, [.ref tx, .int (nI ln), .int (nI nx), .int (nI kd), .int (nI sa), .int va]))) (htx : w tx = some (.inl (1, tn, .inl (fun j9 => sb_b (t j9))))) (ht : ∀ j, t j < 256) (hln : ln ≤ tn) (htn : tn ≤ 100000) (hnx : nx ≤ 100000) : Ct yX4_skipBlanks wsX4_skipBlanks rX4_skipBlanks [.ref to] w (fun o w9 => o = .inl none ∧ w9 = va_up w to (some (.inr (4, [.ref tx, .int (nI ln), .int (nI (skB t ln nx)), .int (nI kd), .int (nI sa), .int va])))) := by
  refine Ct.of (cc := cX4_skipBlanks) (own := RX4) (nm := "skipBlanks") (nL := 1) (ret := none) (by decide +kernel) rfl rfl rfl (Nat.le_of_ble_eq_true rfl) ?_
  refine j_lvE (lv' := [(0, .ref to)]) rfl ?_
  exact l_skipBlanks hto htx ht hln htn 100001 nx w (by omega) (by omega) rfl (up_same hto).symm
abbrev rX4_takeNumber : Room := { frames := 1, cells := 0, slots := 0, locals := 22 }
theorem flX4_takeNumber_21 : FL wsX4_takeNumber RX4 21 4 1 := ⟨RX4, TX4, 6, rfl, by decide, by decide +kernel, by decide +kernel⟩
theorem flX4_takeNumber_34 : FL wsX4_takeNumber RX4 34 4 4 := ⟨RX4, TX4, 6, rfl, by decide, by decide +kernel, by decide +kernel⟩
theorem fsX4_takeNumber_37 : FS wsX4_takeNumber RX4 37 4 5 false (.int) := ⟨RX4, TX4, 6, tyX4, rfl, by decide, by decide +kernel, by decide +kernel, tyX4_ok, nmX4, rfl, rfl, rfl⟩
theorem flX4_takeNumber_37 : FL wsX4_takeNumber RX4 37 4 5 := ⟨RX4, TX4, 6, rfl, by decide, by decide +kernel, by decide +kernel⟩
set_option maxHeartbeats 4000000 in
set_option maxRecDepth 100000 in
theorem l_takeNumber {w : pW} {to tx : Nat} {ln nx kd sa tn : Nat} {va : Int32} {t : Nat → Nat} (hto : w to = some (.inr (4, [.ref tx, .int (nI ln), .int (nI nx), .int (nI kd), .int (nI sa), .int va]))) (htx : w tx = some (.inl (1, tn, .inl (fun j9 => sb_b (t j9))))) (ht : ∀ j, t j < 256) (hln : ln ≤ tn) (htn : tn ≤ 100000) {R9 : Nat} (hln2 : ln ≤ 2400) : ∀ (m9 : Nat) (e : Nat) (wl : pW), ln - e < m9 → (sa ≤ e) → (e ≤ ln) → (whl (fun i => isD (bA t ln i)) (ln - e) e = R9) → (wl = va_up w to (some (.inr (4, [.ref tx, .int (nI ln), .int (nI nx), .int (nI kd), .int (nI sa), .int (nI (nvF t sa (min 3 (e - sa))))])))) → J ((cX4_takeNumber, RX4, 2, wsX4_takeNumber), (rX4_takeNumber, none, "takeNumber", []), fun o w9 => o = .inl none ∧ w9 = va_up w to (some (.inr (4, [.ref tx, .int (nI ln), .int (nI R9), .int (nI 3), .int (nI sa), .int (if 3 < R9 - sa then nI 0 else nI (nvF t sa (R9 - sa)))]))), fun _ _ _ => True) 5 [(0, .ref to), (1, .int (nI e))] [] wl 0 0 := by
  intro m9
  induction m9 with
  | zero => intro e wl h9; omega
  | succ m9 ih =>
    intro e wl hm9 he he2 hr hwl
    have g_to : wl to = some (.inr (4, [.ref tx, .int (nI ln), .int (nI nx), .int (nI kd), .int (nI sa), .int (nI (nvF t sa (min 3 (e - sa))))])) := up_at hwl
    have g_tx := up_ne hwl (fk htx hto rfl) htx
    refine j_iload_n dX4_takeNumber_5 1 rfl ?_
    refine j_aload_n dX4_takeNumber_6 0 rfl ?_
    refine j_get flX4_takeNumber_21 g_to rfl dX4_takeNumber_7 ?_
    refine j_icmp_geN 60 (by omega) (by omega) dX4_takeNumber_10 (by decide) (fun c10 => ?_) (fun c10 => ?_)
    · skip
      refine j_iload_n dX4_takeNumber_60 1 rfl ?_
      refine j_aload_n dX4_takeNumber_61 0 rfl ?_
      refine j_get flX4_takeNumber_34 g_to rfl dX4_takeNumber_62 ?_
      refine j_isubN (by omega) dX4_takeNumber_65 ?_
      refine j_iconst (v := nI 3) dX4_takeNumber_66 (by decide) ?_
      refine j_icmp_leN 75 (by omega) (by omega) dX4_takeNumber_67 (by decide) (fun c67 => ?_) (fun c67 => ?_)
      · skip
        refine j_aload_n dX4_takeNumber_75 0 rfl ?_
        refine j_iconst (v := nI 3) dX4_takeNumber_76 (by decide) ?_
        refine j_iload_n dX4_takeNumber_77 1 rfl ?_
        refine j_aload_n dX4_takeNumber_78 0 rfl ?_
        refine j_get flX4_takeNumber_34 g_to rfl dX4_takeNumber_79 ?_
        refine j_isubN (by omega) dX4_takeNumber_82 ?_
        refine j_callV (rm := rX4_take) (As := [.int (nI 3), .int (nI (e - sa))]) (st := []) (b0 := to) (ci := 4) (na := 2) (c_take (k := 3) (m := (e - sa)) g_to g_tx ht (by omega) (by omega)) (by intro E w9 h9; first | exact nomatch h9.1 | (obtain ⟨_, h9, _⟩ := h9; exact nomatch h9) | (obtain ⟨_, _, _, h9, _⟩ := h9; exact nomatch h9)) gX4_takeNumber_X4_take rfl rfl g_to (by decide +kernel) rfl ⟨Nat.le_of_ble_eq_true rfl, Nat.le_of_ble_eq_true rfl⟩ rfl (Nat.le_of_ble_eq_true rfl) dX4_takeNumber_83 ⟨(show 0 + 0 ≤ 0 by omega), (show 0 + 0 ≤ 0 by omega)⟩ (fun v1 w2 h3 => ?_)
        obtain ⟨h3, h4⟩ := h3
        cases h3
        -- w2
        refine j_after (st' := []) (k' := 0) (n' := 0) rfl rfl rfl ?_
        have f5 : w2 to = some (.inr (4, [.ref tx, .int (nI ln), .int (nI (sa + (e - sa))), .int (nI 3), .int (nI sa), .int (nI (nvF t sa (min 3 (e - sa))))])) := by rw [h4]; exact va_up_self _ _ _
        have f6 : w2 tx = some (.inl (1, tn, .inl (fun j9 => sb_b (t j9)))) := by rw [h4]; exact (va_up_ne _ _ (fk g_tx g_to rfl)).trans (g_tx)
        exact j_vret rfl ⟨rfl, by rw [h4, hwl]; simp only [bx_uu]; rw [← hr, whl_end (by omega), if_neg (by omega)]; rw [show min 3 (e - sa) = e - sa by omega]; rw [show sa + (e - sa) = e by omega]⟩ (show 0 ≤ 0 by omega) (show 0 ≤ 0 by omega) dX4_takeNumber_86
      · skip
        refine j_aload_n dX4_takeNumber_70 0 rfl ?_
        refine j_iconst (v := nI 0) dX4_takeNumber_71 (by decide) ?_
        refine j_put (fs9 := [.ref tx, .int (nI ln), .int (nI nx), .int (nI kd), .int (nI sa), .int (nI 0)]) fsX4_takeNumber_37 g_to rfl rfl (Nat.le_of_ble_eq_true rfl) rfl dX4_takeNumber_72 ?_
        refine j_w (fun w7 hw7 => ?_)
        have f8 : w7 to = some (.inr (4, [.ref tx, .int (nI ln), .int (nI nx), .int (nI kd), .int (nI sa), .int (nI 0)])) := up_at hw7
        have f9 := up_ne hw7 (fk g_tx g_to rfl) g_tx
        refine j_aload_n dX4_takeNumber_75 0 rfl ?_
        refine j_iconst (v := nI 3) dX4_takeNumber_76 (by decide) ?_
        refine j_iload_n dX4_takeNumber_77 1 rfl ?_
        refine j_aload_n dX4_takeNumber_78 0 rfl ?_
        refine j_get flX4_takeNumber_34 f8 rfl dX4_takeNumber_79 ?_
        refine j_isubN (by omega) dX4_takeNumber_82 ?_
        refine j_callV (rm := rX4_take) (As := [.int (nI 3), .int (nI (e - sa))]) (st := []) (b0 := to) (ci := 4) (na := 2) (c_take (k := 3) (m := (e - sa)) f8 f9 ht (by omega) (by omega)) (by intro E w9 h9; first | exact nomatch h9.1 | (obtain ⟨_, h9, _⟩ := h9; exact nomatch h9) | (obtain ⟨_, _, _, h9, _⟩ := h9; exact nomatch h9)) gX4_takeNumber_X4_take rfl rfl f8 (by decide +kernel) rfl ⟨Nat.le_of_ble_eq_true rfl, Nat.le_of_ble_eq_true rfl⟩ rfl (Nat.le_of_ble_eq_true rfl) dX4_takeNumber_83 ⟨(show 0 + 0 ≤ 0 by omega), (show 0 + 0 ≤ 0 by omega)⟩ (fun v10 w11 h12 => ?_)
        obtain ⟨h12, h13⟩ := h12
        cases h12
        -- w11
        refine j_after (st' := []) (k' := 0) (n' := 0) rfl rfl rfl ?_
        have f14 : w11 to = some (.inr (4, [.ref tx, .int (nI ln), .int (nI (sa + (e - sa))), .int (nI 3), .int (nI sa), .int (nI 0)])) := by rw [h13]; exact va_up_self _ _ _
        have f15 : w11 tx = some (.inl (1, tn, .inl (fun j9 => sb_b (t j9)))) := by rw [h13]; exact (va_up_ne _ _ (fk f9 f8 rfl)).trans (f9)
        exact j_vret rfl ⟨rfl, by rw [h13, hw7, hwl]; simp only [bx_uu]; rw [← hr, whl_end (by omega), if_pos (by omega)]; rw [show sa + (e - sa) = e by omega]⟩ (show 0 ≤ 0 by omega) (show 0 ≤ 0 by omega) dX4_takeNumber_86
    · skip
      refine j_aload_n dX4_takeNumber_13 0 rfl ?_
      refine j_iload_n dX4_takeNumber_14 1 rfl ?_
      refine j_callV (rm := rX4_byteAt) (As := [.int (nI e)]) (st := []) (b0 := to) (ci := 4) (na := 1) (c_byteAt (i := e) g_to g_tx ht (by omega) (by omega) (by omega)) (by intro E w9 h9; first | exact nomatch h9.1 | (obtain ⟨_, h9, _⟩ := h9; exact nomatch h9) | (obtain ⟨_, _, _, h9, _⟩ := h9; exact nomatch h9)) gX4_takeNumber_X4_byteAt rfl rfl g_to (by decide +kernel) rfl ⟨Nat.le_of_ble_eq_true rfl, Nat.le_of_ble_eq_true rfl⟩ rfl (Nat.le_of_ble_eq_true rfl) dX4_takeNumber_15 ⟨(show 0 + 0 ≤ 0 by omega), (show 0 + 0 ≤ 0 by omega)⟩ (fun v16 w17 h18 => ?_)
      obtain ⟨h18, h19⟩ := h18
      cases h18
      subst w17
      refine j_after (st' := [.int (bA t ln e)]) (k' := 0) (n' := 0) rfl rfl rfl ?_
      refine j_callS (rm := rX4_isDigit) (As := [.int (bA t ln e)]) (st := []) (na := 1) (c_isDigit (c := bA t ln e)) (by intro E w9 h9; first | exact nomatch h9.1 | (obtain ⟨_, h9, _⟩ := h9; exact nomatch h9) | (obtain ⟨_, _, _, h9, _⟩ := h9; exact nomatch h9)) gX4_takeNumber_X4_isDigit rfl (by decide +kernel) rfl ⟨Nat.le_of_ble_eq_true rfl, Nat.le_of_ble_eq_true rfl⟩ rfl (Nat.le_of_ble_eq_true rfl) dX4_takeNumber_18 ⟨(show 0 + 0 ≤ 0 by omega), (show 0 + 0 ≤ 0 by omega)⟩ (fun v20 w21 h22 => ?_)
      obtain ⟨h22, h23⟩ := h22
      cases h22
      subst w21
      refine j_after (st' := [.int (zb (isD (bA t ln e)))]) (k' := 0) (n' := 0) rfl rfl rfl ?_
      refine j_if_eq 60 dX4_takeNumber_21 (by decide) (fun c21 => ?_) (fun c21 => ?_)
      · skip
        refine j_iload_n dX4_takeNumber_60 1 rfl ?_
        refine j_aload_n dX4_takeNumber_61 0 rfl ?_
        refine j_get flX4_takeNumber_34 g_to rfl dX4_takeNumber_62 ?_
        refine j_isubN (by omega) dX4_takeNumber_65 ?_
        refine j_iconst (v := nI 3) dX4_takeNumber_66 (by decide) ?_
        refine j_icmp_leN 75 (by omega) (by omega) dX4_takeNumber_67 (by decide) (fun c67 => ?_) (fun c67 => ?_)
        · skip
          refine j_aload_n dX4_takeNumber_75 0 rfl ?_
          refine j_iconst (v := nI 3) dX4_takeNumber_76 (by decide) ?_
          refine j_iload_n dX4_takeNumber_77 1 rfl ?_
          refine j_aload_n dX4_takeNumber_78 0 rfl ?_
          refine j_get flX4_takeNumber_34 g_to rfl dX4_takeNumber_79 ?_
          refine j_isubN (by omega) dX4_takeNumber_82 ?_
          refine j_callV (rm := rX4_take) (As := [.int (nI 3), .int (nI (e - sa))]) (st := []) (b0 := to) (ci := 4) (na := 2) (c_take (k := 3) (m := (e - sa)) g_to g_tx ht (by omega) (by omega)) (by intro E w9 h9; first | exact nomatch h9.1 | (obtain ⟨_, h9, _⟩ := h9; exact nomatch h9) | (obtain ⟨_, _, _, h9, _⟩ := h9; exact nomatch h9)) gX4_takeNumber_X4_take rfl rfl g_to (by decide +kernel) rfl ⟨Nat.le_of_ble_eq_true rfl, Nat.le_of_ble_eq_true rfl⟩ rfl (Nat.le_of_ble_eq_true rfl) dX4_takeNumber_83 ⟨(show 0 + 0 ≤ 0 by omega), (show 0 + 0 ≤ 0 by omega)⟩ (fun v24 w25 h26 => ?_)
          obtain ⟨h26, h27⟩ := h26
          cases h26
          -- w25
          refine j_after (st' := []) (k' := 0) (n' := 0) rfl rfl rfl ?_
          have f28 : w25 to = some (.inr (4, [.ref tx, .int (nI ln), .int (nI (sa + (e - sa))), .int (nI 3), .int (nI sa), .int (nI (nvF t sa (min 3 (e - sa))))])) := by rw [h27]; exact va_up_self _ _ _
          have f29 : w25 tx = some (.inl (1, tn, .inl (fun j9 => sb_b (t j9)))) := by rw [h27]; exact (va_up_ne _ _ (fk g_tx g_to rfl)).trans (g_tx)
          exact j_vret rfl ⟨rfl, by rw [h27, hwl]; simp only [bx_uu]; rw [← hr, whl_stop (zb_0 c21), if_neg (by omega)]; rw [show min 3 (e - sa) = e - sa by omega]; rw [show sa + (e - sa) = e by omega]⟩ (show 0 ≤ 0 by omega) (show 0 ≤ 0 by omega) dX4_takeNumber_86
        · skip
          refine j_aload_n dX4_takeNumber_70 0 rfl ?_
          refine j_iconst (v := nI 0) dX4_takeNumber_71 (by decide) ?_
          refine j_put (fs9 := [.ref tx, .int (nI ln), .int (nI nx), .int (nI kd), .int (nI sa), .int (nI 0)]) fsX4_takeNumber_37 g_to rfl rfl (Nat.le_of_ble_eq_true rfl) rfl dX4_takeNumber_72 ?_
          refine j_w (fun w30 hw30 => ?_)
          have f31 : w30 to = some (.inr (4, [.ref tx, .int (nI ln), .int (nI nx), .int (nI kd), .int (nI sa), .int (nI 0)])) := up_at hw30
          have f32 := up_ne hw30 (fk g_tx g_to rfl) g_tx
          refine j_aload_n dX4_takeNumber_75 0 rfl ?_
          refine j_iconst (v := nI 3) dX4_takeNumber_76 (by decide) ?_
          refine j_iload_n dX4_takeNumber_77 1 rfl ?_
          refine j_aload_n dX4_takeNumber_78 0 rfl ?_
          refine j_get flX4_takeNumber_34 f31 rfl dX4_takeNumber_79 ?_
          refine j_isubN (by omega) dX4_takeNumber_82 ?_
          refine j_callV (rm := rX4_take) (As := [.int (nI 3), .int (nI (e - sa))]) (st := []) (b0 := to) (ci := 4) (na := 2) (c_take (k := 3) (m := (e - sa)) f31 f32 ht (by omega) (by omega)) (by intro E w9 h9; first | exact nomatch h9.1 | (obtain ⟨_, h9, _⟩ := h9; exact nomatch h9) | (obtain ⟨_, _, _, h9, _⟩ := h9; exact nomatch h9)) gX4_takeNumber_X4_take rfl rfl f31 (by decide +kernel) rfl ⟨Nat.le_of_ble_eq_true rfl, Nat.le_of_ble_eq_true rfl⟩ rfl (Nat.le_of_ble_eq_true rfl) dX4_takeNumber_83 ⟨(show 0 + 0 ≤ 0 by omega), (show 0 + 0 ≤ 0 by omega)⟩ (fun v33 w34 h35 => ?_)
          obtain ⟨h35, h36⟩ := h35
          cases h35
          -- w34
          refine j_after (st' := []) (k' := 0) (n' := 0) rfl rfl rfl ?_
          have f37 : w34 to = some (.inr (4, [.ref tx, .int (nI ln), .int (nI (sa + (e - sa))), .int (nI 3), .int (nI sa), .int (nI 0)])) := by rw [h36]; exact va_up_self _ _ _
          have f38 : w34 tx = some (.inl (1, tn, .inl (fun j9 => sb_b (t j9)))) := by rw [h36]; exact (va_up_ne _ _ (fk f32 f31 rfl)).trans (f32)
          exact j_vret rfl ⟨rfl, by rw [h36, hw30, hwl]; simp only [bx_uu]; rw [← hr, whl_stop (zb_0 c21), if_pos (by omega)]; rw [show sa + (e - sa) = e by omega]⟩ (show 0 ≤ 0 by omega) (show 0 ≤ 0 by omega) dX4_takeNumber_86
      · skip
        have hdg := isD_in (ht e) (zb_n' c21)
        refine j_iload_n dX4_takeNumber_24 1 rfl ?_
        refine j_aload_n dX4_takeNumber_25 0 rfl ?_
        refine j_get flX4_takeNumber_34 g_to rfl dX4_takeNumber_26 ?_
        refine j_isubN (by omega) dX4_takeNumber_29 ?_
        refine j_iconst (v := nI 3) dX4_takeNumber_30 (by decide) ?_
        refine j_icmp_geN 54 (by omega) (by omega) dX4_takeNumber_31 (by decide) (fun c31 => ?_) (fun c31 => ?_)
        · skip
          refine j_iinc (q := 1) (v := nI (e + 1)) (lv' := [(1, .int (nI (e + 1))), (0, .ref to)]) dX4_takeNumber_54 rfl (by first | exact nI_1 _ | exact nI_add _ _) (Nat.le_of_ble_eq_true rfl) rfl ?_
          refine j_goto 5 dX4_takeNumber_57 (by decide) ?_
          refine j_lv (lv' := [(0, .ref to), (1, .int (nI (e + 1)))]) [1, 0] rfl ?_
          have hv9 : nI (nvF t sa (min 3 ((e + 1) - sa))) = nI (nvF t sa (min 3 (e - sa))) := by rw [show min 3 (e + 1 - sa) = min 3 (e - sa) by omega]
          exact ih (e + 1) _ (by omega) (by omega) (by omega) (by rw [← hr]; exact (whl_step (q := fun i => isD (bA t ln i)) (by omega) (zb_n' c21)).symm) (by rw [hwl, hv9])
        · skip
          refine j_aload_n dX4_takeNumber_34 0 rfl ?_
          refine j_bipush (v := nI 10) dX4_takeNumber_35 (by decide) ?_
          refine j_aload_n dX4_takeNumber_37 0 rfl ?_
          refine j_get flX4_takeNumber_37 g_to rfl dX4_takeNumber_38 ?_
          have hnv : nvF t sa (min 3 (e - sa)) ≤ 300 * 111 := nvF_le ht (by omega)
          refine j_imulN dX4_takeNumber_41 ?_
          refine j_aload_n dX4_takeNumber_42 0 rfl ?_
          refine j_iload_n dX4_takeNumber_43 1 rfl ?_
          refine j_callV (rm := rX4_byteAt) (As := [.int (nI e)]) (st := [.int (nI (10 * (nvF t sa (min 3 (e - sa))))), .ref to]) (b0 := to) (ci := 4) (na := 1) (c_byteAt (i := e) g_to g_tx ht (by omega) (by omega) (by omega)) (by intro E w9 h9; first | exact nomatch h9.1 | (obtain ⟨_, h9, _⟩ := h9; exact nomatch h9) | (obtain ⟨_, _, _, h9, _⟩ := h9; exact nomatch h9)) gX4_takeNumber_X4_byteAt rfl rfl g_to (by decide +kernel) rfl ⟨Nat.le_of_ble_eq_true rfl, Nat.le_of_ble_eq_true rfl⟩ rfl (Nat.le_of_ble_eq_true rfl) dX4_takeNumber_44 ⟨(show 0 + 0 ≤ 0 by omega), (show 0 + 0 ≤ 0 by omega)⟩ (fun v39 w40 h41 => ?_)
          obtain ⟨h41, h42⟩ := h41
          cases h41
          subst w40
          refine j_after (st' := [.int (bA t ln e), .int (nI (10 * (nvF t sa (min 3 (e - sa))))), .ref to]) (k' := 0) (n' := 0) rfl rfl rfl ?_
          refine j_eqi (y := nI (t e)) (bA_in hdg.1) ?_
          refine j_iaddN dX4_takeNumber_47 ?_
          refine j_bipush (v := nI 48) dX4_takeNumber_48 (by decide) ?_
          refine j_isubN (by omega) dX4_takeNumber_50 ?_
          refine j_put (fs9 := [.ref tx, .int (nI ln), .int (nI nx), .int (nI kd), .int (nI sa), .int (nI (((10 * (nvF t sa (min 3 (e - sa)))) + (t e)) - 48))]) fsX4_takeNumber_37 g_to rfl rfl (Nat.le_of_ble_eq_true rfl) rfl dX4_takeNumber_51 ?_
          refine j_w (fun w43 hw43 => ?_)
          have f44 : w43 to = some (.inr (4, [.ref tx, .int (nI ln), .int (nI nx), .int (nI kd), .int (nI sa), .int (nI (((10 * (nvF t sa (min 3 (e - sa)))) + (t e)) - 48))])) := up_at hw43
          have f45 := up_ne hw43 (fk g_tx g_to rfl) g_tx
          refine j_iinc (q := 1) (v := nI (e + 1)) (lv' := [(1, .int (nI (e + 1))), (0, .ref to)]) dX4_takeNumber_54 rfl (by first | exact nI_1 _ | exact nI_add _ _) (Nat.le_of_ble_eq_true rfl) rfl ?_
          refine j_goto 5 dX4_takeNumber_57 (by decide) ?_
          refine j_lv (lv' := [(0, .ref to), (1, .int (nI (e + 1)))]) [1, 0] rfl ?_
          have hv9 : nI (nvF t sa (min 3 ((e + 1) - sa))) = nI (((10 * (nvF t sa (min 3 (e - sa)))) + (t e)) - 48) := by rw [show min 3 (e + 1 - sa) = min 3 (e - sa) + 1 by omega]; simp only [nvF]; rw [show sa + min 3 (e - sa) = e by omega, show 10 * nvF t sa (min 3 (e - sa)) + (t e - 48) = 10 * nvF t sa (min 3 (e - sa)) + t e - 48 by omega]
          exact ih (e + 1) _ (by omega) (by omega) (by omega) (by rw [← hr]; exact (whl_step (q := fun i => isD (bA t ln i)) (by omega) (zb_n' c21)).symm) (by rw [hw43, hwl, hv9]; simp only [bx_uu])
set_option maxHeartbeats 4000000 in
set_option maxRecDepth 100000 in
theorem c_takeNumber {w : pW} {to tx : Nat} {ln nx kd sa tn : Nat} {t : Nat → Nat} (hto : w to = some (.inr (4, [.ref tx, .int (nI ln), .int (nI nx), .int (nI kd), .int (nI sa), .int (nI 0)]))) (htx : w tx = some (.inl (1, tn, .inl (fun j9 => sb_b (t j9))))) (ht : ∀ j, t j < 256) (hln : ln ≤ tn) (htn : tn ≤ 100000) (hln2 : ln ≤ 2400) (hsa : sa ≤ ln) : Ct yX4_takeNumber wsX4_takeNumber rX4_takeNumber [.ref to] w (fun o w9 => o = .inl none ∧ w9 = va_up w to (some (.inr (4, [.ref tx, .int (nI ln), .int (nI (dgE t ln sa)), .int (nI 3), .int (nI sa), .int (if 3 < dgE t ln sa - sa then nI 0 else nI (nvF t sa (dgE t ln sa - sa)))])))) := by
  refine Ct.of (cc := cX4_takeNumber) (own := RX4) (nm := "takeNumber") (nL := 2) (ret := none) (by decide +kernel) rfl rfl rfl (Nat.le_of_ble_eq_true rfl) ?_
  refine j_lvE (lv' := [(0, .ref to)]) rfl ?_
  refine j_aload_n dX4_takeNumber_0 0 rfl ?_
  refine j_get flX4_takeNumber_34 hto rfl dX4_takeNumber_1 ?_
  refine j_istore_n (lv' := [(1, .int (nI sa)), (0, .ref to)]) dX4_takeNumber_4 (Nat.le_of_ble_eq_true rfl) rfl ?_
  refine j_lv (lv' := [(0, .ref to), (1, .int (nI sa))]) [1, 0] rfl ?_
  exact l_takeNumber hto htx ht hln htn hln2 (ln + 1) sa w (by omega) (by omega) (by omega) rfl (by rw [Nat.sub_self]; exact (up_same hto).symm)
abbrev rX4_takePitch : Room := { frames := 1, cells := 0, slots := 0, locals := 22 }
set_option maxRecDepth 100000 in
theorem mX4_takePitch_0 : Cond.fieldLink RX4 69 RX4 "STEPS" "[I" ∈ wsX4_takePitch := by decide +kernel
theorem fsX4_takePitch_37 : FS wsX4_takePitch RX4 37 4 5 false (.int) := ⟨RX4, TX4, 6, tyX4, rfl, by decide, by decide +kernel, by decide +kernel, tyX4_ok, nmX4, rfl, rfl, rfl⟩
theorem flX4_takePitch_34 : FL wsX4_takePitch RX4 34 4 4 := ⟨RX4, TX4, 6, rfl, by decide, by decide +kernel, by decide +kernel⟩
set_option maxHeartbeats 4000000 in
set_option maxRecDepth 100000 in
theorem s_pitch {w : pW} {to tx : Nat} {ln nx kd sa tn : Nat} {va : Int32} {t : Nat → Nat} (hto : w to = some (.inr (4, [.ref tx, .int (nI ln), .int (nI nx), .int (nI kd), .int (nI sa), .int va]))) (htx : w tx = some (.inl (1, tn, .inl (fun j9 => sb_b (t j9))))) (ht : ∀ j, t j < 256) (hln : ln ≤ tn) (htn : tn ≤ 100000) {p j : Nat} {sh : Int32} (hp : sa < p) (hp2 : p ≤ sa + 2) (hsa : sa ≤ 100000) (hj : j < 7) : J ((cX4_takePitch, RX4, 5, wsX4_takePitch), (rX4_takePitch, none, "takePitch", []), fun o w9 => o = .inl none ∧ w9 = va_up w to (some (.inr (4, [.ref tx, .int (nI ln), .int (nI (if ptO t ln p then sa + (p + 1 - sa) else sa + 1)), .int (nI (if ptO t ln p then 2 else 1)), .int (nI sa), .int (if ptO t ln p then nI (12 * (t p - 48)) + bgStep j + sh else va)]))), fun _ _ _ => True) 42 [(0, .ref to), (1, .int (nI j)), (2, .int sh), (3, .int (nI p))] [] w 0 0 := by
  refine j_aload_n dX4_takePitch_42 0 rfl ?_
  refine j_iload_n dX4_takePitch_43 3 rfl ?_
  refine j_callV (rm := rX4_byteAt) (As := [.int (nI p)]) (st := []) (b0 := to) (ci := 4) (na := 1) (c_byteAt (i := p) hto htx ht (by omega) (by omega) (by omega)) (by intro E w9 h9; first | exact nomatch h9.1 | (obtain ⟨_, h9, _⟩ := h9; exact nomatch h9) | (obtain ⟨_, _, _, h9, _⟩ := h9; exact nomatch h9)) gX4_takePitch_X4_byteAt rfl rfl hto (by decide +kernel) rfl ⟨Nat.le_of_ble_eq_true rfl, Nat.le_of_ble_eq_true rfl⟩ rfl (Nat.le_of_ble_eq_true rfl) dX4_takePitch_44 ⟨(show 0 + 0 ≤ 0 by omega), (show 0 + 0 ≤ 0 by omega)⟩ (fun v1 w2 h3 => ?_)
  obtain ⟨h3, h4⟩ := h3
  cases h3
  subst w2
  refine j_after (st' := [.int (bA t ln p)]) (k' := 0) (n' := 0) rfl rfl rfl ?_
  refine j_bipush (v := nI 48) dX4_takePitch_47 (by decide) ?_
  refine j_isub dX4_takePitch_49 ?_
  by_cases ho : p < ln ∧ 48 ≤ t p ∧ t p ≤ 56
  · skip
    refine j_eqi (y := nI (t p - 48)) ((congrArg (· - nI 48) (bA_in ho.1)).trans (oc_ok ho.2.1)) ?_
    refine j_istore (lv' := [(4, .int (nI (t p - 48))), (0, .ref to), (1, .int (nI j)), (2, .int sh), (3, .int (nI p))]) dX4_takePitch_50 (Nat.le_of_ble_eq_true rfl) rfl ?_
    refine j_iload dX4_takePitch_52 0 rfl ?_
    refine j_if_ltN (by omega) dX4_takePitch_54 (by decide : _ = ((76 : Nat) : Int)) ?_
    refine j_iload dX4_takePitch_57 0 rfl ?_
    refine j_bipush (v := nI 8) dX4_takePitch_59 (by decide) ?_
    refine j_icmp_gtN 76 (by omega) (by omega) dX4_takePitch_61 (by decide) (fun c61 => ?_) (fun c61 => ?_)
    · skip
      exfalso; omega
    · skip
      refine j_iload_n dX4_takePitch_64 2 rfl ?_
      refine j_if_ltN (by omega) dX4_takePitch_65 (by decide : _ = ((76 : Nat) : Int)) ?_
      refine j_iload_n dX4_takePitch_68 2 rfl ?_
      refine j_stepsL mX4_takePitch_0 dX4_takePitch_69 dX4_takePitch_72 ?_
      refine j_icmp_ltN 83 (by omega) (by omega) dX4_takePitch_73 (by decide) (fun c73 => ?_) (fun c73 => ?_)
      · skip
        refine j_aload_n dX4_takePitch_83 1 rfl ?_
        refine j_bipush (v := nI 12) dX4_takePitch_84 (by decide) ?_
        refine j_iload dX4_takePitch_86 0 rfl ?_
        refine j_imulN dX4_takePitch_88 ?_
        refine j_steps (q := 2) (by omega) mX4_takePitch_0 rfl dX4_takePitch_89 dX4_takePitch_92 dX4_takePitch_93 ?_
        refine j_iadd dX4_takePitch_94 ?_
        refine j_iload_n dX4_takePitch_95 3 rfl ?_
        refine j_iadd dX4_takePitch_96 ?_
        refine j_topi (fun x5 ex5 => ?_)
        refine j_put (fs9 := [.ref tx, .int (nI ln), .int (nI nx), .int (nI kd), .int (nI sa), .int x5]) fsX4_takePitch_37 hto rfl rfl (Nat.le_of_ble_eq_true rfl) rfl dX4_takePitch_97 ?_
        refine j_w (fun w6 hw6 => ?_)
        have f7 : w6 to = some (.inr (4, [.ref tx, .int (nI ln), .int (nI nx), .int (nI kd), .int (nI sa), .int x5])) := up_at hw6
        have f8 := up_ne hw6 (fk htx hto rfl) htx
        refine j_aload_n dX4_takePitch_100 1 rfl ?_
        refine j_iconst (v := nI 2) dX4_takePitch_101 (by decide) ?_
        refine j_iload_n dX4_takePitch_102 4 rfl ?_
        refine j_iconst (v := nI 1) dX4_takePitch_103 (by decide) ?_
        refine j_iaddN dX4_takePitch_104 ?_
        refine j_aload_n dX4_takePitch_105 1 rfl ?_
        refine j_get flX4_takePitch_34 f7 rfl dX4_takePitch_106 ?_
        refine j_isubN (by omega) dX4_takePitch_109 ?_
        refine j_callV (rm := rX4_take) (As := [.int (nI 2), .int (nI ((p + 1) - sa))]) (st := []) (b0 := to) (ci := 4) (na := 2) (c_take (k := 2) (m := ((p + 1) - sa)) f7 f8 ht (by omega) (by omega)) (by intro E w9 h9; first | exact nomatch h9.1 | (obtain ⟨_, h9, _⟩ := h9; exact nomatch h9) | (obtain ⟨_, _, _, h9, _⟩ := h9; exact nomatch h9)) gX4_takePitch_X4_take rfl rfl f7 (by decide +kernel) rfl ⟨Nat.le_of_ble_eq_true rfl, Nat.le_of_ble_eq_true rfl⟩ rfl (Nat.le_of_ble_eq_true rfl) dX4_takePitch_110 ⟨(show 0 + 0 ≤ 0 by omega), (show 0 + 0 ≤ 0 by omega)⟩ (fun v9 w10 h11 => ?_)
        obtain ⟨h11, h12⟩ := h11
        cases h11
        -- w10
        refine j_after (st' := []) (k' := 0) (n' := 0) rfl rfl rfl ?_
        have f13 : w10 to = some (.inr (4, [.ref tx, .int (nI ln), .int (nI (sa + ((p + 1) - sa))), .int (nI 2), .int (nI sa), .int x5])) := by rw [h12]; exact va_up_self _ _ _
        have f14 : w10 tx = some (.inl (1, tn, .inl (fun j9 => sb_b (t j9)))) := by rw [h12]; exact (va_up_ne _ _ (fk f8 f7 rfl)).trans (f8)
        exact j_vret rfl ⟨rfl, by rw [h12, hw6] <;> (try simp only [bx_uu]) <;> rw [show ptO t ln p = true from decide_eq_true ho, ex5]; simp only [if_true]⟩ (show 0 ≤ 0 by omega) (show 0 ≤ 0 by omega) dX4_takePitch_113
      · skip
        exfalso; omega
  · skip
    have hbad := oc_bad (ht p) ho
    refine j_topi (fun x15 ex15 => ?_)
    refine j_istore (lv' := [(4, .int x15), (0, .ref to), (1, .int (nI j)), (2, .int sh), (3, .int (nI p))]) dX4_takePitch_50 (Nat.le_of_ble_eq_true rfl) rfl ?_
    refine j_iload dX4_takePitch_52 0 rfl ?_
    refine j_if_lt 76 dX4_takePitch_54 (by decide) (fun c54 => ?_) (fun c54 => ?_)
    · skip
      refine j_aload_n dX4_takePitch_76 1 rfl ?_
      refine j_iconst (v := nI 1) dX4_takePitch_77 (by decide) ?_
      refine j_iconst (v := nI 1) dX4_takePitch_78 (by decide) ?_
      refine j_callV (rm := rX4_take) (As := [.int (nI 1), .int (nI 1)]) (st := []) (b0 := to) (ci := 4) (na := 2) (c_take (k := 1) (m := 1) hto htx ht (by omega) (by omega)) (by intro E w9 h9; first | exact nomatch h9.1 | (obtain ⟨_, h9, _⟩ := h9; exact nomatch h9) | (obtain ⟨_, _, _, h9, _⟩ := h9; exact nomatch h9)) gX4_takePitch_X4_take rfl rfl hto (by decide +kernel) rfl ⟨Nat.le_of_ble_eq_true rfl, Nat.le_of_ble_eq_true rfl⟩ rfl (Nat.le_of_ble_eq_true rfl) dX4_takePitch_79 ⟨(show 0 + 0 ≤ 0 by omega), (show 0 + 0 ≤ 0 by omega)⟩ (fun v16 w17 h18 => ?_)
      obtain ⟨h18, h19⟩ := h18
      cases h18
      -- w17
      refine j_after (st' := []) (k' := 0) (n' := 0) rfl rfl rfl ?_
      have f20 : w17 to = some (.inr (4, [.ref tx, .int (nI ln), .int (nI (sa + 1)), .int (nI 1), .int (nI sa), .int va])) := by rw [h19]; exact va_up_self _ _ _
      have f21 : w17 tx = some (.inl (1, tn, .inl (fun j9 => sb_b (t j9)))) := by rw [h19]; exact (va_up_ne _ _ (fk htx hto rfl)).trans (htx)
      exact j_vret rfl ⟨rfl, by rw [h19] <;> (try simp only [bx_uu]) <;> rw [show ptO t ln p = false from decide_eq_false ho]; simp only [Bool.false_eq_true, if_false]⟩ (show 0 ≤ 0 by omega) (show 0 ≤ 0 by omega) dX4_takePitch_82
    · skip
      refine j_iload dX4_takePitch_57 0 rfl ?_
      refine j_bipush (v := nI 8) dX4_takePitch_59 (by decide) ?_
      refine j_icmp_gt 76 dX4_takePitch_61 (by decide) (fun c61 => ?_) (fun c61 => ?_)
      · skip
        refine j_aload_n dX4_takePitch_76 1 rfl ?_
        refine j_iconst (v := nI 1) dX4_takePitch_77 (by decide) ?_
        refine j_iconst (v := nI 1) dX4_takePitch_78 (by decide) ?_
        refine j_callV (rm := rX4_take) (As := [.int (nI 1), .int (nI 1)]) (st := []) (b0 := to) (ci := 4) (na := 2) (c_take (k := 1) (m := 1) hto htx ht (by omega) (by omega)) (by intro E w9 h9; first | exact nomatch h9.1 | (obtain ⟨_, h9, _⟩ := h9; exact nomatch h9) | (obtain ⟨_, _, _, h9, _⟩ := h9; exact nomatch h9)) gX4_takePitch_X4_take rfl rfl hto (by decide +kernel) rfl ⟨Nat.le_of_ble_eq_true rfl, Nat.le_of_ble_eq_true rfl⟩ rfl (Nat.le_of_ble_eq_true rfl) dX4_takePitch_79 ⟨(show 0 + 0 ≤ 0 by omega), (show 0 + 0 ≤ 0 by omega)⟩ (fun v22 w23 h24 => ?_)
        obtain ⟨h24, h25⟩ := h24
        cases h24
        -- w23
        refine j_after (st' := []) (k' := 0) (n' := 0) rfl rfl rfl ?_
        have f26 : w23 to = some (.inr (4, [.ref tx, .int (nI ln), .int (nI (sa + 1)), .int (nI 1), .int (nI sa), .int va])) := by rw [h25]; exact va_up_self _ _ _
        have f27 : w23 tx = some (.inl (1, tn, .inl (fun j9 => sb_b (t j9)))) := by rw [h25]; exact (va_up_ne _ _ (fk htx hto rfl)).trans (htx)
        exact j_vret rfl ⟨rfl, by rw [h25] <;> (try simp only [bx_uu]) <;> rw [show ptO t ln p = false from decide_eq_false ho]; simp only [Bool.false_eq_true, if_false]⟩ (show 0 ≤ 0 by omega) (show 0 ≤ 0 by omega) dX4_takePitch_82
      · skip
        exfalso; subst ex15; exact hbad.elim c54 c61
theorem pt_plus {t : Nat → Nat} {ln s : Nat} (h : bA t ln (s + 1) = nI 43) : ptK t ln s = 1 ∧ ptV t ln s = nI 1 := ⟨if_pos (Or.inl h), if_pos h⟩
theorem pt_minus {t : Nat → Nat} {ln s : Nat} (h0 : ¬ bA t ln (s + 1) = nI 43) (h : bA t ln (s + 1) = nI 45) : ptK t ln s = 1 ∧ ptV t ln s = -1 := ⟨if_pos (Or.inr h), (if_neg h0).trans (if_pos h)⟩
theorem pt_none {t : Nat → Nat} {ln s : Nat} (h0 : ¬ bA t ln (s + 1) = nI 43) (h : ¬ bA t ln (s + 1) = nI 45) : ptK t ln s = 0 ∧ ptV t ln s = nI 0 := ⟨if_neg (fun q => q.elim h0 h), (if_neg h0).trans (if_neg h)⟩
set_option maxHeartbeats 4000000 in
set_option maxRecDepth 100000 in
theorem c_takePitch {w : pW} {to tx : Nat} {ln nx kd sa tn : Nat} {va : Int32} {t : Nat → Nat} (hto : w to = some (.inr (4, [.ref tx, .int (nI ln), .int (nI nx), .int (nI kd), .int (nI sa), .int va]))) (htx : w tx = some (.inl (1, tn, .inl (fun j9 => sb_b (t j9))))) (ht : ∀ j, t j < 256) (hln : ln ≤ tn) (htn : tn ≤ 100000) {j : Nat} (hsa : sa ≤ 100000) (hj : j < 7) : Ct yX4_takePitch wsX4_takePitch rX4_takePitch [.ref to, .int (nI j)] w (fun o w9 => o = .inl none ∧ w9 = va_up w to (some (.inr (4, [.ref tx, .int (nI ln), .int (nI (if ptO t ln (sa + 1 + ptK t ln sa) then sa + (sa + 1 + ptK t ln sa + 1 - sa) else sa + 1)), .int (nI (if ptO t ln (sa + 1 + ptK t ln sa) then 2 else 1)), .int (nI sa), .int (if ptO t ln (sa + 1 + ptK t ln sa) then nI (12 * (t (sa + 1 + ptK t ln sa) - 48)) + bgStep j + ptV t ln sa else va)])))) := by
  refine Ct.of (cc := cX4_takePitch) (own := RX4) (nm := "takePitch") (nL := 5) (ret := none) (by decide +kernel) rfl rfl rfl (Nat.le_of_ble_eq_true rfl) ?_
  refine j_lvE (lv' := [(0, .ref to), (1, .int (nI j))]) rfl ?_
  refine j_iconst (v := nI 0) dX4_takePitch_0 (by decide) ?_
  refine j_istore_n (lv' := [(2, .int (nI 0)), (0, .ref to), (1, .int (nI j))]) dX4_takePitch_1 (Nat.le_of_ble_eq_true rfl) rfl ?_
  refine j_aload_n dX4_takePitch_2 1 rfl ?_
  refine j_get flX4_takePitch_34 hto rfl dX4_takePitch_3 ?_
  refine j_iconst (v := nI 1) dX4_takePitch_6 (by decide) ?_
  refine j_iaddN dX4_takePitch_7 ?_
  refine j_istore_n (lv' := [(3, .int (nI (sa + 1))), (2, .int (nI 0)), (0, .ref to), (1, .int (nI j))]) dX4_takePitch_8 (Nat.le_of_ble_eq_true rfl) rfl ?_
  refine j_aload_n dX4_takePitch_9 2 rfl ?_
  refine j_iload_n dX4_takePitch_10 0 rfl ?_
  refine j_callV (rm := rX4_byteAt) (As := [.int (nI (sa + 1))]) (st := []) (b0 := to) (ci := 4) (na := 1) (c_byteAt (i := (sa + 1)) hto htx ht (by omega) (by omega) (by omega)) (by intro E w9 h9; first | exact nomatch h9.1 | (obtain ⟨_, h9, _⟩ := h9; exact nomatch h9) | (obtain ⟨_, _, _, h9, _⟩ := h9; exact nomatch h9)) gX4_takePitch_X4_byteAt rfl rfl hto (by decide +kernel) rfl ⟨Nat.le_of_ble_eq_true rfl, Nat.le_of_ble_eq_true rfl⟩ rfl (Nat.le_of_ble_eq_true rfl) dX4_takePitch_11 ⟨(show 0 + 0 ≤ 0 by omega), (show 0 + 0 ≤ 0 by omega)⟩ (fun v1 w2 h3 => ?_)
  obtain ⟨h3, h4⟩ := h3
  cases h3
  subst w2
  refine j_after (st' := [.int (bA t ln (sa + 1))]) (k' := 0) (n' := 0) rfl rfl rfl ?_
  refine j_bipush (v := nI 43) dX4_takePitch_14 (by decide) ?_
  refine j_icmp_ne 27 dX4_takePitch_16 (by decide) (fun c16 => ?_) (fun c16 => ?_)
  · skip
    refine j_aload_n dX4_takePitch_27 2 rfl ?_
    refine j_iload_n dX4_takePitch_28 0 rfl ?_
    refine j_callV (rm := rX4_byteAt) (As := [.int (nI (sa + 1))]) (st := []) (b0 := to) (ci := 4) (na := 1) (c_byteAt (i := (sa + 1)) hto htx ht (by omega) (by omega) (by omega)) (by intro E w9 h9; first | exact nomatch h9.1 | (obtain ⟨_, h9, _⟩ := h9; exact nomatch h9) | (obtain ⟨_, _, _, h9, _⟩ := h9; exact nomatch h9)) gX4_takePitch_X4_byteAt rfl rfl hto (by decide +kernel) rfl ⟨Nat.le_of_ble_eq_true rfl, Nat.le_of_ble_eq_true rfl⟩ rfl (Nat.le_of_ble_eq_true rfl) dX4_takePitch_29 ⟨(show 0 + 0 ≤ 0 by omega), (show 0 + 0 ≤ 0 by omega)⟩ (fun v5 w6 h7 => ?_)
    obtain ⟨h7, h8⟩ := h7
    cases h7
    subst w6
    refine j_after (st' := [.int (bA t ln (sa + 1))]) (k' := 0) (n' := 0) rfl rfl rfl ?_
    refine j_bipush (v := nI 45) dX4_takePitch_32 (by decide) ?_
    refine j_icmp_ne 42 dX4_takePitch_34 (by decide) (fun c34 => ?_) (fun c34 => ?_)
    · skip
      refine j_lv (lv' := [(0, .ref to), (1, .int (nI j)), (2, .int (nI 0)), (3, .int (nI (sa + 1)))]) [2, 3, 1, 0] rfl ?_
      obtain ⟨hk9, hv9⟩ := pt_none c16 c34
      refine J.post ?_ (s_pitch (sh := nI 0) hto htx ht (by omega) (by omega) (p := sa + 1) (by omega) (by omega) (by omega) hj)
      intro o w9 h9; rw [hk9, hv9]; exact h9
    · skip
      refine j_iconst (v := (-1)) dX4_takePitch_37 (by decide) ?_
      refine j_topi (fun x9 ex9 => ?_)
      refine j_istore_n (lv' := [(2, .int x9), (3, .int (nI (sa + 1))), (0, .ref to), (1, .int (nI j))]) dX4_takePitch_38 (Nat.le_of_ble_eq_true rfl) rfl ?_
      refine j_iinc (q := 1) (v := nI ((sa + 1) + 1)) (lv' := [(3, .int (nI ((sa + 1) + 1))), (2, .int x9), (0, .ref to), (1, .int (nI j))]) dX4_takePitch_39 rfl (by first | exact nI_1 _ | exact nI_add _ _) (Nat.le_of_ble_eq_true rfl) rfl ?_
      refine j_lv (lv' := [(0, .ref to), (1, .int (nI j)), (2, .int x9), (3, .int (nI ((sa + 1) + 1)))]) [2, 3, 1, 0] rfl ?_
      obtain ⟨hk9, hv9⟩ := pt_minus c16 c34
      refine J.post ?_ (s_pitch (sh := x9) hto htx ht (by omega) (by omega) (p := (sa + 1) + 1) (by omega) (by omega) (by omega) hj)
      intro o w9 h9; rw [hk9, hv9, ← ex9]; exact h9
  · skip
    refine j_iconst (v := nI 1) dX4_takePitch_19 (by decide) ?_
    refine j_istore_n (lv' := [(2, .int (nI 1)), (3, .int (nI (sa + 1))), (0, .ref to), (1, .int (nI j))]) dX4_takePitch_20 (Nat.le_of_ble_eq_true rfl) rfl ?_
    refine j_iinc (q := 1) (v := nI ((sa + 1) + 1)) (lv' := [(3, .int (nI ((sa + 1) + 1))), (2, .int (nI 1)), (0, .ref to), (1, .int (nI j))]) dX4_takePitch_21 rfl (by first | exact nI_1 _ | exact nI_add _ _) (Nat.le_of_ble_eq_true rfl) rfl ?_
    refine j_goto 42 dX4_takePitch_24 (by decide) ?_
    refine j_lv (lv' := [(0, .ref to), (1, .int (nI j)), (2, .int (nI 1)), (3, .int (nI ((sa + 1) + 1)))]) [2, 3, 1, 0] rfl ?_
    obtain ⟨hk9, hv9⟩ := pt_plus c16
    refine J.post ?_ (s_pitch (sh := nI 1) hto htx ht (by omega) (by omega) (p := (sa + 1) + 1) (by omega) (by omega) (by omega) hj)
    intro o w9 h9; rw [hk9, hv9]; exact h9
abbrev rX4_advance : Room := { frames := 4, cells := 0, slots := 0, locals := 91 }
theorem nI_m1 {x : Nat} (h : x < 2 ^ 31) : ¬ nI x = -1 := fun q => absurd (show nI x < 0 by rw [q]; decide) (nI_pos h)
theorem tk_end {t : Nat → Nat} {ln s : Nat} (h : ln ≤ s) : tk t ln s = (s, 0, nI 0) := if_pos h
theorem tk_pitch {t : Nat → Nat} {ln s : Nat} (h : s < ln) (h1 : 97 ≤ t s ∧ t s ≤ 103) : tk t ln s = (if ptO t ln (s + 1 + ptK t ln s) then s + (s + 1 + ptK t ln s + 1 - s) else s + 1, if ptO t ln (s + 1 + ptK t ln s) then 2 else 1, if ptO t ln (s + 1 + ptK t ln s) then nI (12 * (t (s + 1 + ptK t ln s) - 48)) + bgStep (t s - 97) + ptV t ln s else nI 0) := by
  unfold tk
  rw [if_neg (by omega), if_pos h1]
  split <;> rfl
theorem tk_num {t : Nat → Nat} {ln s : Nat} (h : s < ln) (h1 : ¬ (97 ≤ t s ∧ t s ≤ 103)) (h2 : isD (nI (t s)) = true) : tk t ln s = (dgE t ln s, 3, if 3 < dgE t ln s - s then nI 0 else nI (nvF t s (dgE t ln s - s))) := by
  unfold tk
  rw [if_neg (by omega), if_neg h1, if_pos h2]
theorem tk_op {t : Nat → Nat} {ln s : Nat} (h : s < ln) (h1 : ¬ (97 ≤ t s ∧ t s ≤ 103)) (h2 : isD (nI (t s)) = false) (h3 : t s = 124 ∧ bA t ln (s + 1) = nI 58) : tk t ln s = (s + 2, 4, nI 0) := by
  unfold tk
  rw [if_neg (by omega), if_neg h1, if_neg (by rw [h2]; decide), if_pos h3]
theorem tk_cl {t : Nat → Nat} {ln s : Nat} (h : s < ln) (h1 : ¬ (97 ≤ t s ∧ t s ≤ 103)) (h2 : isD (nI (t s)) = false) (h3 : ¬ (t s = 124 ∧ bA t ln (s + 1) = nI 58)) (h4 : t s = 58 ∧ bA t ln (s + 1) = nI 124) : tk t ln s = (s + 2, 5, nI 0) := by
  unfold tk
  rw [if_neg (by omega), if_neg h1, if_neg (by rw [h2]; decide), if_neg h3, if_pos h4]
theorem tk_bad {t : Nat → Nat} {ln s : Nat} (h : s < ln) (h1 : ¬ (97 ≤ t s ∧ t s ≤ 103)) (h2 : isD (nI (t s)) = false) (h3 : ¬ (t s = 124 ∧ bA t ln (s + 1) = nI 58)) (h4 : ¬ (t s = 58 ∧ bA t ln (s + 1) = nI 124)) (h5 : ixS (t s) < 0) : tk t ln s = (s + 1, 1, nI 0) := by
  unfold tk
  rw [if_neg (by omega), if_neg h1, if_neg (by rw [h2]; decide), if_neg h3, if_neg h4, if_pos h5]
theorem tk_sign {t : Nat → Nat} {ln s : Nat} (h : s < ln) (h1 : ¬ (97 ≤ t s ∧ t s ≤ 103)) (h2 : isD (nI (t s)) = false) (h3 : ¬ (t s = 124 ∧ bA t ln (s + 1) = nI 58)) (h4 : ¬ (t s = 58 ∧ bA t ln (s + 1) = nI 124)) (h5 : ¬ ixS (t s) < 0) : tk t ln s = (s + 1, t s, nI 0) := by
  unfold tk
  rw [if_neg (by omega), if_neg h1, if_neg (by rw [h2]; decide), if_neg h3, if_neg h4, if_neg h5]
theorem flX4_advance_25 : FL wsX4_advance RX4 25 4 2 := ⟨RX4, TX4, 6, rfl, by decide, by decide +kernel, by decide +kernel⟩
theorem fsX4_advance_34 : FS wsX4_advance RX4 34 4 4 false (.int) := ⟨RX4, TX4, 6, tyX4, rfl, by decide, by decide +kernel, by decide +kernel, tyX4_ok, nmX4, rfl, rfl, rfl⟩
theorem fsX4_advance_37 : FS wsX4_advance RX4 37 4 5 false (.int) := ⟨RX4, TX4, 6, tyX4, rfl, by decide, by decide +kernel, by decide +kernel, tyX4_ok, nmX4, rfl, rfl, rfl⟩
theorem flX4_advance_34 : FL wsX4_advance RX4 34 4 4 := ⟨RX4, TX4, 6, rfl, by decide, by decide +kernel, by decide +kernel⟩
theorem fsX4_advance_44 : FS wsX4_advance RX4 44 4 3 false (.int) := ⟨RX4, TX4, 6, tyX4, rfl, by decide, by decide +kernel, by decide +kernel, tyX4_ok, nmX4, rfl, rfl, rfl⟩
set_option maxHeartbeats 4000000 in
set_option maxRecDepth 100000 in
theorem s_adv {w : pW} {to tx : Nat} {ln nx kd sa tn : Nat} {va : Int32} {t : Nat → Nat} (hto : w to = some (.inr (4, [.ref tx, .int (nI ln), .int (nI nx), .int (nI kd), .int (nI sa), .int va]))) (htx : w tx = some (.inl (1, tn, .inl (fun j9 => sb_b (t j9))))) (ht : ∀ j, t j < 256) (hln : ln ≤ tn) (htn : tn ≤ 100000) (hnx : nx ≤ 100000) (hln2 : ln ≤ 2400) : J ((cX4_advance, RX4, 2, wsX4_advance), (rX4_advance, none, "advance", []), fun o w9 => o = .inl none ∧ w9 = va_up w to (some (.inr (4, [.ref tx, .int (nI ln), .int (nI ((tk t ln nx).1)), .int (nI ((tk t ln nx).2.1)), .int (nI nx), .int ((tk t ln nx).2.2)]))), fun _ _ _ => True) 4 [(0, .ref to)] [] w 0 0 := by
  refine j_aload_n dX4_advance_4 0 rfl ?_
  refine j_aload_n dX4_advance_5 0 rfl ?_
  refine j_get flX4_advance_25 hto rfl dX4_advance_6 ?_
  refine j_put (fs9 := [.ref tx, .int (nI ln), .int (nI nx), .int (nI kd), .int (nI nx), .int va]) fsX4_advance_34 hto rfl rfl (Nat.le_of_ble_eq_true rfl) rfl dX4_advance_9 ?_
  refine j_w (fun w1 hw1 => ?_)
  have f2 : w1 to = some (.inr (4, [.ref tx, .int (nI ln), .int (nI nx), .int (nI kd), .int (nI nx), .int va])) := up_at hw1
  have f3 := up_ne hw1 (fk htx hto rfl) htx
  refine j_aload_n dX4_advance_12 0 rfl ?_
  refine j_iconst (v := nI 0) dX4_advance_13 (by decide) ?_
  refine j_put (fs9 := [.ref tx, .int (nI ln), .int (nI nx), .int (nI kd), .int (nI nx), .int (nI 0)]) fsX4_advance_37 f2 rfl rfl (Nat.le_of_ble_eq_true rfl) rfl dX4_advance_14 ?_
  refine j_w (fun w4 hw4 => ?_)
  have f5 : w4 to = some (.inr (4, [.ref tx, .int (nI ln), .int (nI nx), .int (nI kd), .int (nI nx), .int (nI 0)])) := up_at hw4
  have f6 := up_ne hw4 (fk f3 f2 rfl) f3
  refine j_aload_n dX4_advance_17 0 rfl ?_
  refine j_aload_n dX4_advance_18 0 rfl ?_
  refine j_get flX4_advance_34 f5 rfl dX4_advance_19 ?_
  refine j_callV (rm := rX4_byteAt) (As := [.int (nI nx)]) (st := []) (b0 := to) (ci := 4) (na := 1) (c_byteAt (i := nx) f5 f6 ht (by omega) (by omega) (by omega)) (by intro E w9 h9; first | exact nomatch h9.1 | (obtain ⟨_, h9, _⟩ := h9; exact nomatch h9) | (obtain ⟨_, _, _, h9, _⟩ := h9; exact nomatch h9)) gX4_advance_X4_byteAt rfl rfl f5 (by decide +kernel) rfl ⟨Nat.le_of_ble_eq_true rfl, Nat.le_of_ble_eq_true rfl⟩ rfl (Nat.le_of_ble_eq_true rfl) dX4_advance_22 ⟨(show 0 + 0 ≤ 0 by omega), (show 0 + 0 ≤ 0 by omega)⟩ (fun v7 w8 h9 => ?_)
  obtain ⟨h9, h10⟩ := h9
  cases h9
  subst w8
  refine j_after (st' := [.int (bA t ln nx)]) (k' := 0) (n' := 0) rfl rfl rfl ?_
  rcases Nat.lt_or_ge nx ln with hs | hs
  · skip
    have hb9 := ht nx
    refine j_eqi (y := nI (t nx)) (bA_in hs) ?_
    refine j_istore_n (lv' := [(1, .int (nI (t nx))), (0, .ref to)]) dX4_advance_25 (Nat.le_of_ble_eq_true rfl) rfl ?_
    refine j_iload_n dX4_advance_26 0 rfl ?_
    refine j_iconst (v := (-1)) dX4_advance_27 (by decide) ?_
    refine j_icmp_ne 39 dX4_advance_28 (by decide) (fun c28 => ?_) (fun c28 => ?_)
    · skip
      refine j_iload_n dX4_advance_39 0 rfl ?_
      refine j_bipush (v := nI 97) dX4_advance_40 (by decide) ?_
      refine j_icmp_ltN 62 (by omega) (by omega) dX4_advance_42 (by decide) (fun c42 => ?_) (fun c42 => ?_)
      · skip
        refine j_iload_n dX4_advance_62 0 rfl ?_
        refine j_callS (rm := rX4_isDigit) (As := [.int (nI (t nx))]) (st := []) (na := 1) (c_isDigit (c := nI (t nx))) (by intro E w9 h9; first | exact nomatch h9.1 | (obtain ⟨_, h9, _⟩ := h9; exact nomatch h9) | (obtain ⟨_, _, _, h9, _⟩ := h9; exact nomatch h9)) gX4_advance_X4_isDigit rfl (by decide +kernel) rfl ⟨Nat.le_of_ble_eq_true rfl, Nat.le_of_ble_eq_true rfl⟩ rfl (Nat.le_of_ble_eq_true rfl) dX4_advance_63 ⟨(show 0 + 0 ≤ 0 by omega), (show 0 + 0 ≤ 0 by omega)⟩ (fun v11 w12 h13 => ?_)
        obtain ⟨h13, h14⟩ := h13
        cases h13
        subst w12
        refine j_after (st' := [.int (zb (isD (nI (t nx))))]) (k' := 0) (n' := 0) rfl rfl rfl ?_
        refine j_if_eq 76 dX4_advance_66 (by decide) (fun c66 => ?_) (fun c66 => ?_)
        · skip
          refine j_iload_n dX4_advance_76 0 rfl ?_
          refine j_bipush (v := nI 124) dX4_advance_77 (by decide) ?_
          refine j_icmp_neN 106 (by omega) (by omega) dX4_advance_79 (by decide) (fun c79 => ?_) (fun c79 => ?_)
          · skip
            refine j_iload_n dX4_advance_106 0 rfl ?_
            refine j_bipush (v := nI 58) dX4_advance_107 (by decide) ?_
            refine j_icmp_neN 136 (by omega) (by omega) dX4_advance_109 (by decide) (fun c109 => ?_) (fun c109 => ?_)
            · skip
              refine j_signs (q := 0) (ht nx) rfl rfl gX4_advance_J0_indexOf_0f7a4 ⟨Nat.le_of_ble_eq_true rfl, Nat.le_of_ble_eq_true rfl⟩ (Nat.le_of_ble_eq_true rfl) ⟨(show 0 ≤ 0 by omega), (show 0 ≤ 0 by omega)⟩ dX4_advance_136 dX4_advance_138 dX4_advance_139 dX4_advance_140 ?_
              refine j_if_lt 155 dX4_advance_143 (by decide) (fun c143 => ?_) (fun c143 => ?_)
              · skip
                refine j_aload_n dX4_advance_155 1 rfl ?_
                refine j_iconst (v := nI 1) dX4_advance_156 (by decide) ?_
                refine j_iconst (v := nI 1) dX4_advance_157 (by decide) ?_
                refine j_callV (rm := rX4_take) (As := [.int (nI 1), .int (nI 1)]) (st := []) (b0 := to) (ci := 4) (na := 2) (c_take (k := 1) (m := 1) f5 f6 ht (by omega) (by omega)) (by intro E w9 h9; first | exact nomatch h9.1 | (obtain ⟨_, h9, _⟩ := h9; exact nomatch h9) | (obtain ⟨_, _, _, h9, _⟩ := h9; exact nomatch h9)) gX4_advance_X4_take rfl rfl f5 (by decide +kernel) rfl ⟨Nat.le_of_ble_eq_true rfl, Nat.le_of_ble_eq_true rfl⟩ rfl (Nat.le_of_ble_eq_true rfl) dX4_advance_158 ⟨(show 0 + 0 ≤ 0 by omega), (show 0 + 0 ≤ 0 by omega)⟩ (fun v15 w16 h17 => ?_)
                obtain ⟨h17, h18⟩ := h17
                cases h17
                -- w16
                refine j_after (st' := []) (k' := 0) (n' := 0) rfl rfl rfl ?_
                have f19 : w16 to = some (.inr (4, [.ref tx, .int (nI ln), .int (nI (nx + 1)), .int (nI 1), .int (nI nx), .int (nI 0)])) := by rw [h18]; exact va_up_self _ _ _
                have f20 : w16 tx = some (.inl (1, tn, .inl (fun j9 => sb_b (t j9)))) := by rw [h18]; exact (va_up_ne _ _ (fk f6 f5 rfl)).trans (f6)
                exact j_vret rfl ⟨rfl, by rw [h18, hw4, hw1] <;> (try simp only [bx_uu]) <;> rw [tk_bad hs (by omega) (zb_0 c66) (fun q => c79 q.1) (fun q => c109 q.1) c143]⟩ (show 0 ≤ 0 by omega) (show 0 ≤ 0 by omega) dX4_advance_161
              · skip
                refine j_aload_n dX4_advance_146 1 rfl ?_
                refine j_iload_n dX4_advance_147 0 rfl ?_
                refine j_iconst (v := nI 1) dX4_advance_148 (by decide) ?_
                refine j_callV (rm := rX4_take) (As := [.int (nI (t nx)), .int (nI 1)]) (st := []) (b0 := to) (ci := 4) (na := 2) (c_take (k := (t nx)) (m := 1) f5 f6 ht (by omega) (by omega)) (by intro E w9 h9; first | exact nomatch h9.1 | (obtain ⟨_, h9, _⟩ := h9; exact nomatch h9) | (obtain ⟨_, _, _, h9, _⟩ := h9; exact nomatch h9)) gX4_advance_X4_take rfl rfl f5 (by decide +kernel) rfl ⟨Nat.le_of_ble_eq_true rfl, Nat.le_of_ble_eq_true rfl⟩ rfl (Nat.le_of_ble_eq_true rfl) dX4_advance_149 ⟨(show 0 + 0 ≤ 0 by omega), (show 0 + 0 ≤ 0 by omega)⟩ (fun v21 w22 h23 => ?_)
                obtain ⟨h23, h24⟩ := h23
                cases h23
                -- w22
                refine j_after (st' := []) (k' := 0) (n' := 0) rfl rfl rfl ?_
                have f25 : w22 to = some (.inr (4, [.ref tx, .int (nI ln), .int (nI (nx + 1)), .int (nI (t nx)), .int (nI nx), .int (nI 0)])) := by rw [h24]; exact va_up_self _ _ _
                have f26 : w22 tx = some (.inl (1, tn, .inl (fun j9 => sb_b (t j9)))) := by rw [h24]; exact (va_up_ne _ _ (fk f6 f5 rfl)).trans (f6)
                refine j_goto 161 dX4_advance_152 (by decide) ?_
                exact j_vret rfl ⟨rfl, by rw [h24, hw4, hw1] <;> (try simp only [bx_uu]) <;> rw [tk_sign hs (by omega) (zb_0 c66) (fun q => c79 q.1) (fun q => c109 q.1) c143]⟩ (show 0 ≤ 0 by omega) (show 0 ≤ 0 by omega) dX4_advance_161
            · skip
              refine j_aload_n dX4_advance_112 1 rfl ?_
              refine j_aload_n dX4_advance_113 1 rfl ?_
              refine j_get flX4_advance_34 f5 rfl dX4_advance_114 ?_
              refine j_iconst (v := nI 1) dX4_advance_117 (by decide) ?_
              refine j_iaddN dX4_advance_118 ?_
              refine j_callV (rm := rX4_byteAt) (As := [.int (nI (nx + 1))]) (st := []) (b0 := to) (ci := 4) (na := 1) (c_byteAt (i := (nx + 1)) f5 f6 ht (by omega) (by omega) (by omega)) (by intro E w9 h9; first | exact nomatch h9.1 | (obtain ⟨_, h9, _⟩ := h9; exact nomatch h9) | (obtain ⟨_, _, _, h9, _⟩ := h9; exact nomatch h9)) gX4_advance_X4_byteAt rfl rfl f5 (by decide +kernel) rfl ⟨Nat.le_of_ble_eq_true rfl, Nat.le_of_ble_eq_true rfl⟩ rfl (Nat.le_of_ble_eq_true rfl) dX4_advance_119 ⟨(show 0 + 0 ≤ 0 by omega), (show 0 + 0 ≤ 0 by omega)⟩ (fun v27 w28 h29 => ?_)
              obtain ⟨h29, h30⟩ := h29
              cases h29
              subst w28
              refine j_after (st' := [.int (bA t ln (nx + 1))]) (k' := 0) (n' := 0) rfl rfl rfl ?_
              refine j_bipush (v := nI 124) dX4_advance_122 (by decide) ?_
              refine j_icmp_ne 136 dX4_advance_124 (by decide) (fun c124 => ?_) (fun c124 => ?_)
              · skip
                refine j_signs (q := 0) (ht nx) rfl rfl gX4_advance_J0_indexOf_0f7a4 ⟨Nat.le_of_ble_eq_true rfl, Nat.le_of_ble_eq_true rfl⟩ (Nat.le_of_ble_eq_true rfl) ⟨(show 0 ≤ 0 by omega), (show 0 ≤ 0 by omega)⟩ dX4_advance_136 dX4_advance_138 dX4_advance_139 dX4_advance_140 ?_
                refine j_if_lt 155 dX4_advance_143 (by decide) (fun c143 => ?_) (fun c143 => ?_)
                · skip
                  refine j_aload_n dX4_advance_155 1 rfl ?_
                  refine j_iconst (v := nI 1) dX4_advance_156 (by decide) ?_
                  refine j_iconst (v := nI 1) dX4_advance_157 (by decide) ?_
                  refine j_callV (rm := rX4_take) (As := [.int (nI 1), .int (nI 1)]) (st := []) (b0 := to) (ci := 4) (na := 2) (c_take (k := 1) (m := 1) f5 f6 ht (by omega) (by omega)) (by intro E w9 h9; first | exact nomatch h9.1 | (obtain ⟨_, h9, _⟩ := h9; exact nomatch h9) | (obtain ⟨_, _, _, h9, _⟩ := h9; exact nomatch h9)) gX4_advance_X4_take rfl rfl f5 (by decide +kernel) rfl ⟨Nat.le_of_ble_eq_true rfl, Nat.le_of_ble_eq_true rfl⟩ rfl (Nat.le_of_ble_eq_true rfl) dX4_advance_158 ⟨(show 0 + 0 ≤ 0 by omega), (show 0 + 0 ≤ 0 by omega)⟩ (fun v31 w32 h33 => ?_)
                  obtain ⟨h33, h34⟩ := h33
                  cases h33
                  -- w32
                  refine j_after (st' := []) (k' := 0) (n' := 0) rfl rfl rfl ?_
                  have f35 : w32 to = some (.inr (4, [.ref tx, .int (nI ln), .int (nI (nx + 1)), .int (nI 1), .int (nI nx), .int (nI 0)])) := by rw [h34]; exact va_up_self _ _ _
                  have f36 : w32 tx = some (.inl (1, tn, .inl (fun j9 => sb_b (t j9)))) := by rw [h34]; exact (va_up_ne _ _ (fk f6 f5 rfl)).trans (f6)
                  exact j_vret rfl ⟨rfl, by rw [h34, hw4, hw1] <;> (try simp only [bx_uu]) <;> rw [tk_bad hs (by omega) (zb_0 c66) (fun q => c79 q.1) (fun q => c124 q.2) c143]⟩ (show 0 ≤ 0 by omega) (show 0 ≤ 0 by omega) dX4_advance_161
                · skip
                  refine j_aload_n dX4_advance_146 1 rfl ?_
                  refine j_iload_n dX4_advance_147 0 rfl ?_
                  refine j_iconst (v := nI 1) dX4_advance_148 (by decide) ?_
                  refine j_callV (rm := rX4_take) (As := [.int (nI (t nx)), .int (nI 1)]) (st := []) (b0 := to) (ci := 4) (na := 2) (c_take (k := (t nx)) (m := 1) f5 f6 ht (by omega) (by omega)) (by intro E w9 h9; first | exact nomatch h9.1 | (obtain ⟨_, h9, _⟩ := h9; exact nomatch h9) | (obtain ⟨_, _, _, h9, _⟩ := h9; exact nomatch h9)) gX4_advance_X4_take rfl rfl f5 (by decide +kernel) rfl ⟨Nat.le_of_ble_eq_true rfl, Nat.le_of_ble_eq_true rfl⟩ rfl (Nat.le_of_ble_eq_true rfl) dX4_advance_149 ⟨(show 0 + 0 ≤ 0 by omega), (show 0 + 0 ≤ 0 by omega)⟩ (fun v37 w38 h39 => ?_)
                  obtain ⟨h39, h40⟩ := h39
                  cases h39
                  -- w38
                  refine j_after (st' := []) (k' := 0) (n' := 0) rfl rfl rfl ?_
                  have f41 : w38 to = some (.inr (4, [.ref tx, .int (nI ln), .int (nI (nx + 1)), .int (nI (t nx)), .int (nI nx), .int (nI 0)])) := by rw [h40]; exact va_up_self _ _ _
                  have f42 : w38 tx = some (.inl (1, tn, .inl (fun j9 => sb_b (t j9)))) := by rw [h40]; exact (va_up_ne _ _ (fk f6 f5 rfl)).trans (f6)
                  refine j_goto 161 dX4_advance_152 (by decide) ?_
                  exact j_vret rfl ⟨rfl, by rw [h40, hw4, hw1] <;> (try simp only [bx_uu]) <;> rw [tk_sign hs (by omega) (zb_0 c66) (fun q => c79 q.1) (fun q => c124 q.2) c143]⟩ (show 0 ≤ 0 by omega) (show 0 ≤ 0 by omega) dX4_advance_161
              · skip
                refine j_aload_n dX4_advance_127 1 rfl ?_
                refine j_iconst (v := nI 5) dX4_advance_128 (by decide) ?_
                refine j_iconst (v := nI 2) dX4_advance_129 (by decide) ?_
                refine j_callV (rm := rX4_take) (As := [.int (nI 5), .int (nI 2)]) (st := []) (b0 := to) (ci := 4) (na := 2) (c_take (k := 5) (m := 2) f5 f6 ht (by omega) (by omega)) (by intro E w9 h9; first | exact nomatch h9.1 | (obtain ⟨_, h9, _⟩ := h9; exact nomatch h9) | (obtain ⟨_, _, _, h9, _⟩ := h9; exact nomatch h9)) gX4_advance_X4_take rfl rfl f5 (by decide +kernel) rfl ⟨Nat.le_of_ble_eq_true rfl, Nat.le_of_ble_eq_true rfl⟩ rfl (Nat.le_of_ble_eq_true rfl) dX4_advance_130 ⟨(show 0 + 0 ≤ 0 by omega), (show 0 + 0 ≤ 0 by omega)⟩ (fun v43 w44 h45 => ?_)
                obtain ⟨h45, h46⟩ := h45
                cases h45
                -- w44
                refine j_after (st' := []) (k' := 0) (n' := 0) rfl rfl rfl ?_
                have f47 : w44 to = some (.inr (4, [.ref tx, .int (nI ln), .int (nI (nx + 2)), .int (nI 5), .int (nI nx), .int (nI 0)])) := by rw [h46]; exact va_up_self _ _ _
                have f48 : w44 tx = some (.inl (1, tn, .inl (fun j9 => sb_b (t j9)))) := by rw [h46]; exact (va_up_ne _ _ (fk f6 f5 rfl)).trans (f6)
                refine j_goto 161 dX4_advance_133 (by decide) ?_
                exact j_vret rfl ⟨rfl, by rw [h46, hw4, hw1] <;> (try simp only [bx_uu]) <;> rw [tk_cl hs (by omega) (zb_0 c66) (fun q => c79 q.1) ⟨c109, c124⟩]⟩ (show 0 ≤ 0 by omega) (show 0 ≤ 0 by omega) dX4_advance_161
          · skip
            refine j_aload_n dX4_advance_82 1 rfl ?_
            refine j_aload_n dX4_advance_83 1 rfl ?_
            refine j_get flX4_advance_34 f5 rfl dX4_advance_84 ?_
            refine j_iconst (v := nI 1) dX4_advance_87 (by decide) ?_
            refine j_iaddN dX4_advance_88 ?_
            refine j_callV (rm := rX4_byteAt) (As := [.int (nI (nx + 1))]) (st := []) (b0 := to) (ci := 4) (na := 1) (c_byteAt (i := (nx + 1)) f5 f6 ht (by omega) (by omega) (by omega)) (by intro E w9 h9; first | exact nomatch h9.1 | (obtain ⟨_, h9, _⟩ := h9; exact nomatch h9) | (obtain ⟨_, _, _, h9, _⟩ := h9; exact nomatch h9)) gX4_advance_X4_byteAt rfl rfl f5 (by decide +kernel) rfl ⟨Nat.le_of_ble_eq_true rfl, Nat.le_of_ble_eq_true rfl⟩ rfl (Nat.le_of_ble_eq_true rfl) dX4_advance_89 ⟨(show 0 + 0 ≤ 0 by omega), (show 0 + 0 ≤ 0 by omega)⟩ (fun v49 w50 h51 => ?_)
            obtain ⟨h51, h52⟩ := h51
            cases h51
            subst w50
            refine j_after (st' := [.int (bA t ln (nx + 1))]) (k' := 0) (n' := 0) rfl rfl rfl ?_
            refine j_bipush (v := nI 58) dX4_advance_92 (by decide) ?_
            refine j_icmp_ne 106 dX4_advance_94 (by decide) (fun c94 => ?_) (fun c94 => ?_)
            · skip
              refine j_iload_n dX4_advance_106 0 rfl ?_
              refine j_bipush (v := nI 58) dX4_advance_107 (by decide) ?_
              refine j_icmp_neN 136 (by omega) (by omega) dX4_advance_109 (by decide) (fun c109 => ?_) (fun c109 => ?_)
              · skip
                refine j_signs (q := 0) (ht nx) rfl rfl gX4_advance_J0_indexOf_0f7a4 ⟨Nat.le_of_ble_eq_true rfl, Nat.le_of_ble_eq_true rfl⟩ (Nat.le_of_ble_eq_true rfl) ⟨(show 0 ≤ 0 by omega), (show 0 ≤ 0 by omega)⟩ dX4_advance_136 dX4_advance_138 dX4_advance_139 dX4_advance_140 ?_
                refine j_if_lt 155 dX4_advance_143 (by decide) (fun c143 => ?_) (fun c143 => ?_)
                · skip
                  refine j_aload_n dX4_advance_155 1 rfl ?_
                  refine j_iconst (v := nI 1) dX4_advance_156 (by decide) ?_
                  refine j_iconst (v := nI 1) dX4_advance_157 (by decide) ?_
                  refine j_callV (rm := rX4_take) (As := [.int (nI 1), .int (nI 1)]) (st := []) (b0 := to) (ci := 4) (na := 2) (c_take (k := 1) (m := 1) f5 f6 ht (by omega) (by omega)) (by intro E w9 h9; first | exact nomatch h9.1 | (obtain ⟨_, h9, _⟩ := h9; exact nomatch h9) | (obtain ⟨_, _, _, h9, _⟩ := h9; exact nomatch h9)) gX4_advance_X4_take rfl rfl f5 (by decide +kernel) rfl ⟨Nat.le_of_ble_eq_true rfl, Nat.le_of_ble_eq_true rfl⟩ rfl (Nat.le_of_ble_eq_true rfl) dX4_advance_158 ⟨(show 0 + 0 ≤ 0 by omega), (show 0 + 0 ≤ 0 by omega)⟩ (fun v53 w54 h55 => ?_)
                  obtain ⟨h55, h56⟩ := h55
                  cases h55
                  -- w54
                  refine j_after (st' := []) (k' := 0) (n' := 0) rfl rfl rfl ?_
                  have f57 : w54 to = some (.inr (4, [.ref tx, .int (nI ln), .int (nI (nx + 1)), .int (nI 1), .int (nI nx), .int (nI 0)])) := by rw [h56]; exact va_up_self _ _ _
                  have f58 : w54 tx = some (.inl (1, tn, .inl (fun j9 => sb_b (t j9)))) := by rw [h56]; exact (va_up_ne _ _ (fk f6 f5 rfl)).trans (f6)
                  exact j_vret rfl ⟨rfl, by rw [h56, hw4, hw1] <;> (try simp only [bx_uu]) <;> rw [tk_bad hs (by omega) (zb_0 c66) (fun q => c94 q.2) (fun q => c109 q.1) c143]⟩ (show 0 ≤ 0 by omega) (show 0 ≤ 0 by omega) dX4_advance_161
                · skip
                  refine j_aload_n dX4_advance_146 1 rfl ?_
                  refine j_iload_n dX4_advance_147 0 rfl ?_
                  refine j_iconst (v := nI 1) dX4_advance_148 (by decide) ?_
                  refine j_callV (rm := rX4_take) (As := [.int (nI (t nx)), .int (nI 1)]) (st := []) (b0 := to) (ci := 4) (na := 2) (c_take (k := (t nx)) (m := 1) f5 f6 ht (by omega) (by omega)) (by intro E w9 h9; first | exact nomatch h9.1 | (obtain ⟨_, h9, _⟩ := h9; exact nomatch h9) | (obtain ⟨_, _, _, h9, _⟩ := h9; exact nomatch h9)) gX4_advance_X4_take rfl rfl f5 (by decide +kernel) rfl ⟨Nat.le_of_ble_eq_true rfl, Nat.le_of_ble_eq_true rfl⟩ rfl (Nat.le_of_ble_eq_true rfl) dX4_advance_149 ⟨(show 0 + 0 ≤ 0 by omega), (show 0 + 0 ≤ 0 by omega)⟩ (fun v59 w60 h61 => ?_)
                  obtain ⟨h61, h62⟩ := h61
                  cases h61
                  -- w60
                  refine j_after (st' := []) (k' := 0) (n' := 0) rfl rfl rfl ?_
                  have f63 : w60 to = some (.inr (4, [.ref tx, .int (nI ln), .int (nI (nx + 1)), .int (nI (t nx)), .int (nI nx), .int (nI 0)])) := by rw [h62]; exact va_up_self _ _ _
                  have f64 : w60 tx = some (.inl (1, tn, .inl (fun j9 => sb_b (t j9)))) := by rw [h62]; exact (va_up_ne _ _ (fk f6 f5 rfl)).trans (f6)
                  refine j_goto 161 dX4_advance_152 (by decide) ?_
                  exact j_vret rfl ⟨rfl, by rw [h62, hw4, hw1] <;> (try simp only [bx_uu]) <;> rw [tk_sign hs (by omega) (zb_0 c66) (fun q => c94 q.2) (fun q => c109 q.1) c143]⟩ (show 0 ≤ 0 by omega) (show 0 ≤ 0 by omega) dX4_advance_161
              · skip
                refine j_aload_n dX4_advance_112 1 rfl ?_
                refine j_aload_n dX4_advance_113 1 rfl ?_
                refine j_get flX4_advance_34 f5 rfl dX4_advance_114 ?_
                refine j_iconst (v := nI 1) dX4_advance_117 (by decide) ?_
                refine j_iaddN dX4_advance_118 ?_
                refine j_callV (rm := rX4_byteAt) (As := [.int (nI (nx + 1))]) (st := []) (b0 := to) (ci := 4) (na := 1) (c_byteAt (i := (nx + 1)) f5 f6 ht (by omega) (by omega) (by omega)) (by intro E w9 h9; first | exact nomatch h9.1 | (obtain ⟨_, h9, _⟩ := h9; exact nomatch h9) | (obtain ⟨_, _, _, h9, _⟩ := h9; exact nomatch h9)) gX4_advance_X4_byteAt rfl rfl f5 (by decide +kernel) rfl ⟨Nat.le_of_ble_eq_true rfl, Nat.le_of_ble_eq_true rfl⟩ rfl (Nat.le_of_ble_eq_true rfl) dX4_advance_119 ⟨(show 0 + 0 ≤ 0 by omega), (show 0 + 0 ≤ 0 by omega)⟩ (fun v65 w66 h67 => ?_)
                obtain ⟨h67, h68⟩ := h67
                cases h67
                subst w66
                refine j_after (st' := [.int (bA t ln (nx + 1))]) (k' := 0) (n' := 0) rfl rfl rfl ?_
                refine j_bipush (v := nI 124) dX4_advance_122 (by decide) ?_
                refine j_icmp_ne 136 dX4_advance_124 (by decide) (fun c124 => ?_) (fun c124 => ?_)
                · skip
                  refine j_signs (q := 0) (ht nx) rfl rfl gX4_advance_J0_indexOf_0f7a4 ⟨Nat.le_of_ble_eq_true rfl, Nat.le_of_ble_eq_true rfl⟩ (Nat.le_of_ble_eq_true rfl) ⟨(show 0 ≤ 0 by omega), (show 0 ≤ 0 by omega)⟩ dX4_advance_136 dX4_advance_138 dX4_advance_139 dX4_advance_140 ?_
                  refine j_if_lt 155 dX4_advance_143 (by decide) (fun c143 => ?_) (fun c143 => ?_)
                  · skip
                    refine j_aload_n dX4_advance_155 1 rfl ?_
                    refine j_iconst (v := nI 1) dX4_advance_156 (by decide) ?_
                    refine j_iconst (v := nI 1) dX4_advance_157 (by decide) ?_
                    refine j_callV (rm := rX4_take) (As := [.int (nI 1), .int (nI 1)]) (st := []) (b0 := to) (ci := 4) (na := 2) (c_take (k := 1) (m := 1) f5 f6 ht (by omega) (by omega)) (by intro E w9 h9; first | exact nomatch h9.1 | (obtain ⟨_, h9, _⟩ := h9; exact nomatch h9) | (obtain ⟨_, _, _, h9, _⟩ := h9; exact nomatch h9)) gX4_advance_X4_take rfl rfl f5 (by decide +kernel) rfl ⟨Nat.le_of_ble_eq_true rfl, Nat.le_of_ble_eq_true rfl⟩ rfl (Nat.le_of_ble_eq_true rfl) dX4_advance_158 ⟨(show 0 + 0 ≤ 0 by omega), (show 0 + 0 ≤ 0 by omega)⟩ (fun v69 w70 h71 => ?_)
                    obtain ⟨h71, h72⟩ := h71
                    cases h71
                    -- w70
                    refine j_after (st' := []) (k' := 0) (n' := 0) rfl rfl rfl ?_
                    have f73 : w70 to = some (.inr (4, [.ref tx, .int (nI ln), .int (nI (nx + 1)), .int (nI 1), .int (nI nx), .int (nI 0)])) := by rw [h72]; exact va_up_self _ _ _
                    have f74 : w70 tx = some (.inl (1, tn, .inl (fun j9 => sb_b (t j9)))) := by rw [h72]; exact (va_up_ne _ _ (fk f6 f5 rfl)).trans (f6)
                    exact j_vret rfl ⟨rfl, by rw [h72, hw4, hw1] <;> (try simp only [bx_uu]) <;> rw [tk_bad hs (by omega) (zb_0 c66) (fun q => c94 q.2) (fun q => c124 q.2) c143]⟩ (show 0 ≤ 0 by omega) (show 0 ≤ 0 by omega) dX4_advance_161
                  · skip
                    refine j_aload_n dX4_advance_146 1 rfl ?_
                    refine j_iload_n dX4_advance_147 0 rfl ?_
                    refine j_iconst (v := nI 1) dX4_advance_148 (by decide) ?_
                    refine j_callV (rm := rX4_take) (As := [.int (nI (t nx)), .int (nI 1)]) (st := []) (b0 := to) (ci := 4) (na := 2) (c_take (k := (t nx)) (m := 1) f5 f6 ht (by omega) (by omega)) (by intro E w9 h9; first | exact nomatch h9.1 | (obtain ⟨_, h9, _⟩ := h9; exact nomatch h9) | (obtain ⟨_, _, _, h9, _⟩ := h9; exact nomatch h9)) gX4_advance_X4_take rfl rfl f5 (by decide +kernel) rfl ⟨Nat.le_of_ble_eq_true rfl, Nat.le_of_ble_eq_true rfl⟩ rfl (Nat.le_of_ble_eq_true rfl) dX4_advance_149 ⟨(show 0 + 0 ≤ 0 by omega), (show 0 + 0 ≤ 0 by omega)⟩ (fun v75 w76 h77 => ?_)
                    obtain ⟨h77, h78⟩ := h77
                    cases h77
                    -- w76
                    refine j_after (st' := []) (k' := 0) (n' := 0) rfl rfl rfl ?_
                    have f79 : w76 to = some (.inr (4, [.ref tx, .int (nI ln), .int (nI (nx + 1)), .int (nI (t nx)), .int (nI nx), .int (nI 0)])) := by rw [h78]; exact va_up_self _ _ _
                    have f80 : w76 tx = some (.inl (1, tn, .inl (fun j9 => sb_b (t j9)))) := by rw [h78]; exact (va_up_ne _ _ (fk f6 f5 rfl)).trans (f6)
                    refine j_goto 161 dX4_advance_152 (by decide) ?_
                    exact j_vret rfl ⟨rfl, by rw [h78, hw4, hw1] <;> (try simp only [bx_uu]) <;> rw [tk_sign hs (by omega) (zb_0 c66) (fun q => c94 q.2) (fun q => c124 q.2) c143]⟩ (show 0 ≤ 0 by omega) (show 0 ≤ 0 by omega) dX4_advance_161
                · skip
                  refine j_aload_n dX4_advance_127 1 rfl ?_
                  refine j_iconst (v := nI 5) dX4_advance_128 (by decide) ?_
                  refine j_iconst (v := nI 2) dX4_advance_129 (by decide) ?_
                  refine j_callV (rm := rX4_take) (As := [.int (nI 5), .int (nI 2)]) (st := []) (b0 := to) (ci := 4) (na := 2) (c_take (k := 5) (m := 2) f5 f6 ht (by omega) (by omega)) (by intro E w9 h9; first | exact nomatch h9.1 | (obtain ⟨_, h9, _⟩ := h9; exact nomatch h9) | (obtain ⟨_, _, _, h9, _⟩ := h9; exact nomatch h9)) gX4_advance_X4_take rfl rfl f5 (by decide +kernel) rfl ⟨Nat.le_of_ble_eq_true rfl, Nat.le_of_ble_eq_true rfl⟩ rfl (Nat.le_of_ble_eq_true rfl) dX4_advance_130 ⟨(show 0 + 0 ≤ 0 by omega), (show 0 + 0 ≤ 0 by omega)⟩ (fun v81 w82 h83 => ?_)
                  obtain ⟨h83, h84⟩ := h83
                  cases h83
                  -- w82
                  refine j_after (st' := []) (k' := 0) (n' := 0) rfl rfl rfl ?_
                  have f85 : w82 to = some (.inr (4, [.ref tx, .int (nI ln), .int (nI (nx + 2)), .int (nI 5), .int (nI nx), .int (nI 0)])) := by rw [h84]; exact va_up_self _ _ _
                  have f86 : w82 tx = some (.inl (1, tn, .inl (fun j9 => sb_b (t j9)))) := by rw [h84]; exact (va_up_ne _ _ (fk f6 f5 rfl)).trans (f6)
                  refine j_goto 161 dX4_advance_133 (by decide) ?_
                  exact j_vret rfl ⟨rfl, by rw [h84, hw4, hw1] <;> (try simp only [bx_uu]) <;> rw [tk_cl hs (by omega) (zb_0 c66) (fun q => c94 q.2) ⟨c109, c124⟩]⟩ (show 0 ≤ 0 by omega) (show 0 ≤ 0 by omega) dX4_advance_161
            · skip
              refine j_aload_n dX4_advance_97 1 rfl ?_
              refine j_iconst (v := nI 4) dX4_advance_98 (by decide) ?_
              refine j_iconst (v := nI 2) dX4_advance_99 (by decide) ?_
              refine j_callV (rm := rX4_take) (As := [.int (nI 4), .int (nI 2)]) (st := []) (b0 := to) (ci := 4) (na := 2) (c_take (k := 4) (m := 2) f5 f6 ht (by omega) (by omega)) (by intro E w9 h9; first | exact nomatch h9.1 | (obtain ⟨_, h9, _⟩ := h9; exact nomatch h9) | (obtain ⟨_, _, _, h9, _⟩ := h9; exact nomatch h9)) gX4_advance_X4_take rfl rfl f5 (by decide +kernel) rfl ⟨Nat.le_of_ble_eq_true rfl, Nat.le_of_ble_eq_true rfl⟩ rfl (Nat.le_of_ble_eq_true rfl) dX4_advance_100 ⟨(show 0 + 0 ≤ 0 by omega), (show 0 + 0 ≤ 0 by omega)⟩ (fun v87 w88 h89 => ?_)
              obtain ⟨h89, h90⟩ := h89
              cases h89
              -- w88
              refine j_after (st' := []) (k' := 0) (n' := 0) rfl rfl rfl ?_
              have f91 : w88 to = some (.inr (4, [.ref tx, .int (nI ln), .int (nI (nx + 2)), .int (nI 4), .int (nI nx), .int (nI 0)])) := by rw [h90]; exact va_up_self _ _ _
              have f92 : w88 tx = some (.inl (1, tn, .inl (fun j9 => sb_b (t j9)))) := by rw [h90]; exact (va_up_ne _ _ (fk f6 f5 rfl)).trans (f6)
              refine j_goto 161 dX4_advance_103 (by decide) ?_
              exact j_vret rfl ⟨rfl, by rw [h90, hw4, hw1] <;> (try simp only [bx_uu]) <;> rw [tk_op hs (by omega) (zb_0 c66) ⟨c79, c94⟩]⟩ (show 0 ≤ 0 by omega) (show 0 ≤ 0 by omega) dX4_advance_161
        · skip
          refine j_aload_n dX4_advance_69 1 rfl ?_
          refine j_callV (rm := rX4_takeNumber) (As := []) (st := []) (b0 := to) (ci := 4) (na := 0) (c_takeNumber f5 f6 ht (by omega) (by omega) (by omega) (by omega)) (by intro E w9 h9; first | exact nomatch h9.1 | (obtain ⟨_, h9, _⟩ := h9; exact nomatch h9) | (obtain ⟨_, _, _, h9, _⟩ := h9; exact nomatch h9)) gX4_advance_X4_takeNumber rfl rfl f5 (by decide +kernel) rfl ⟨Nat.le_of_ble_eq_true rfl, Nat.le_of_ble_eq_true rfl⟩ rfl (Nat.le_of_ble_eq_true rfl) dX4_advance_70 ⟨(show 0 + 0 ≤ 0 by omega), (show 0 + 0 ≤ 0 by omega)⟩ (fun v93 w94 h95 => ?_)
          obtain ⟨h95, h96⟩ := h95
          cases h95
          -- w94
          refine j_after (st' := []) (k' := 0) (n' := 0) rfl rfl rfl ?_
          have f97 : w94 to = some (.inr (4, [.ref tx, .int (nI ln), .int (nI (dgE t ln nx)), .int (nI 3), .int (nI nx), .int (if 3 < dgE t ln nx - nx then nI 0 else nI (nvF t nx (dgE t ln nx - nx)))])) := by rw [h96]; exact va_up_self _ _ _
          have f98 : w94 tx = some (.inl (1, tn, .inl (fun j9 => sb_b (t j9)))) := by rw [h96]; exact (va_up_ne _ _ (fk f6 f5 rfl)).trans (f6)
          refine j_goto 161 dX4_advance_73 (by decide) ?_
          exact j_vret rfl ⟨rfl, by rw [h96, hw4, hw1] <;> (try simp only [bx_uu]) <;> rw [tk_num hs (by omega) (zb_n' c66)]⟩ (show 0 ≤ 0 by omega) (show 0 ≤ 0 by omega) dX4_advance_161
      · skip
        refine j_iload_n dX4_advance_45 0 rfl ?_
        refine j_bipush (v := nI 103) dX4_advance_46 (by decide) ?_
        refine j_icmp_gtN 62 (by omega) (by omega) dX4_advance_48 (by decide) (fun c48 => ?_) (fun c48 => ?_)
        · skip
          refine j_iload_n dX4_advance_62 0 rfl ?_
          refine j_callS (rm := rX4_isDigit) (As := [.int (nI (t nx))]) (st := []) (na := 1) (c_isDigit (c := nI (t nx))) (by intro E w9 h9; first | exact nomatch h9.1 | (obtain ⟨_, h9, _⟩ := h9; exact nomatch h9) | (obtain ⟨_, _, _, h9, _⟩ := h9; exact nomatch h9)) gX4_advance_X4_isDigit rfl (by decide +kernel) rfl ⟨Nat.le_of_ble_eq_true rfl, Nat.le_of_ble_eq_true rfl⟩ rfl (Nat.le_of_ble_eq_true rfl) dX4_advance_63 ⟨(show 0 + 0 ≤ 0 by omega), (show 0 + 0 ≤ 0 by omega)⟩ (fun v99 w100 h101 => ?_)
          obtain ⟨h101, h102⟩ := h101
          cases h101
          subst w100
          refine j_after (st' := [.int (zb (isD (nI (t nx))))]) (k' := 0) (n' := 0) rfl rfl rfl ?_
          refine j_if_eq 76 dX4_advance_66 (by decide) (fun c66 => ?_) (fun c66 => ?_)
          · skip
            refine j_iload_n dX4_advance_76 0 rfl ?_
            refine j_bipush (v := nI 124) dX4_advance_77 (by decide) ?_
            refine j_icmp_neN 106 (by omega) (by omega) dX4_advance_79 (by decide) (fun c79 => ?_) (fun c79 => ?_)
            · skip
              refine j_iload_n dX4_advance_106 0 rfl ?_
              refine j_bipush (v := nI 58) dX4_advance_107 (by decide) ?_
              refine j_icmp_neN 136 (by omega) (by omega) dX4_advance_109 (by decide) (fun c109 => ?_) (fun c109 => ?_)
              · skip
                refine j_signs (q := 0) (ht nx) rfl rfl gX4_advance_J0_indexOf_0f7a4 ⟨Nat.le_of_ble_eq_true rfl, Nat.le_of_ble_eq_true rfl⟩ (Nat.le_of_ble_eq_true rfl) ⟨(show 0 ≤ 0 by omega), (show 0 ≤ 0 by omega)⟩ dX4_advance_136 dX4_advance_138 dX4_advance_139 dX4_advance_140 ?_
                refine j_if_lt 155 dX4_advance_143 (by decide) (fun c143 => ?_) (fun c143 => ?_)
                · skip
                  refine j_aload_n dX4_advance_155 1 rfl ?_
                  refine j_iconst (v := nI 1) dX4_advance_156 (by decide) ?_
                  refine j_iconst (v := nI 1) dX4_advance_157 (by decide) ?_
                  refine j_callV (rm := rX4_take) (As := [.int (nI 1), .int (nI 1)]) (st := []) (b0 := to) (ci := 4) (na := 2) (c_take (k := 1) (m := 1) f5 f6 ht (by omega) (by omega)) (by intro E w9 h9; first | exact nomatch h9.1 | (obtain ⟨_, h9, _⟩ := h9; exact nomatch h9) | (obtain ⟨_, _, _, h9, _⟩ := h9; exact nomatch h9)) gX4_advance_X4_take rfl rfl f5 (by decide +kernel) rfl ⟨Nat.le_of_ble_eq_true rfl, Nat.le_of_ble_eq_true rfl⟩ rfl (Nat.le_of_ble_eq_true rfl) dX4_advance_158 ⟨(show 0 + 0 ≤ 0 by omega), (show 0 + 0 ≤ 0 by omega)⟩ (fun v103 w104 h105 => ?_)
                  obtain ⟨h105, h106⟩ := h105
                  cases h105
                  -- w104
                  refine j_after (st' := []) (k' := 0) (n' := 0) rfl rfl rfl ?_
                  have f107 : w104 to = some (.inr (4, [.ref tx, .int (nI ln), .int (nI (nx + 1)), .int (nI 1), .int (nI nx), .int (nI 0)])) := by rw [h106]; exact va_up_self _ _ _
                  have f108 : w104 tx = some (.inl (1, tn, .inl (fun j9 => sb_b (t j9)))) := by rw [h106]; exact (va_up_ne _ _ (fk f6 f5 rfl)).trans (f6)
                  exact j_vret rfl ⟨rfl, by rw [h106, hw4, hw1] <;> (try simp only [bx_uu]) <;> rw [tk_bad hs (by omega) (zb_0 c66) (fun q => c79 q.1) (fun q => c109 q.1) c143]⟩ (show 0 ≤ 0 by omega) (show 0 ≤ 0 by omega) dX4_advance_161
                · skip
                  refine j_aload_n dX4_advance_146 1 rfl ?_
                  refine j_iload_n dX4_advance_147 0 rfl ?_
                  refine j_iconst (v := nI 1) dX4_advance_148 (by decide) ?_
                  refine j_callV (rm := rX4_take) (As := [.int (nI (t nx)), .int (nI 1)]) (st := []) (b0 := to) (ci := 4) (na := 2) (c_take (k := (t nx)) (m := 1) f5 f6 ht (by omega) (by omega)) (by intro E w9 h9; first | exact nomatch h9.1 | (obtain ⟨_, h9, _⟩ := h9; exact nomatch h9) | (obtain ⟨_, _, _, h9, _⟩ := h9; exact nomatch h9)) gX4_advance_X4_take rfl rfl f5 (by decide +kernel) rfl ⟨Nat.le_of_ble_eq_true rfl, Nat.le_of_ble_eq_true rfl⟩ rfl (Nat.le_of_ble_eq_true rfl) dX4_advance_149 ⟨(show 0 + 0 ≤ 0 by omega), (show 0 + 0 ≤ 0 by omega)⟩ (fun v109 w110 h111 => ?_)
                  obtain ⟨h111, h112⟩ := h111
                  cases h111
                  -- w110
                  refine j_after (st' := []) (k' := 0) (n' := 0) rfl rfl rfl ?_
                  have f113 : w110 to = some (.inr (4, [.ref tx, .int (nI ln), .int (nI (nx + 1)), .int (nI (t nx)), .int (nI nx), .int (nI 0)])) := by rw [h112]; exact va_up_self _ _ _
                  have f114 : w110 tx = some (.inl (1, tn, .inl (fun j9 => sb_b (t j9)))) := by rw [h112]; exact (va_up_ne _ _ (fk f6 f5 rfl)).trans (f6)
                  refine j_goto 161 dX4_advance_152 (by decide) ?_
                  exact j_vret rfl ⟨rfl, by rw [h112, hw4, hw1] <;> (try simp only [bx_uu]) <;> rw [tk_sign hs (by omega) (zb_0 c66) (fun q => c79 q.1) (fun q => c109 q.1) c143]⟩ (show 0 ≤ 0 by omega) (show 0 ≤ 0 by omega) dX4_advance_161
              · skip
                refine j_aload_n dX4_advance_112 1 rfl ?_
                refine j_aload_n dX4_advance_113 1 rfl ?_
                refine j_get flX4_advance_34 f5 rfl dX4_advance_114 ?_
                refine j_iconst (v := nI 1) dX4_advance_117 (by decide) ?_
                refine j_iaddN dX4_advance_118 ?_
                refine j_callV (rm := rX4_byteAt) (As := [.int (nI (nx + 1))]) (st := []) (b0 := to) (ci := 4) (na := 1) (c_byteAt (i := (nx + 1)) f5 f6 ht (by omega) (by omega) (by omega)) (by intro E w9 h9; first | exact nomatch h9.1 | (obtain ⟨_, h9, _⟩ := h9; exact nomatch h9) | (obtain ⟨_, _, _, h9, _⟩ := h9; exact nomatch h9)) gX4_advance_X4_byteAt rfl rfl f5 (by decide +kernel) rfl ⟨Nat.le_of_ble_eq_true rfl, Nat.le_of_ble_eq_true rfl⟩ rfl (Nat.le_of_ble_eq_true rfl) dX4_advance_119 ⟨(show 0 + 0 ≤ 0 by omega), (show 0 + 0 ≤ 0 by omega)⟩ (fun v115 w116 h117 => ?_)
                obtain ⟨h117, h118⟩ := h117
                cases h117
                subst w116
                refine j_after (st' := [.int (bA t ln (nx + 1))]) (k' := 0) (n' := 0) rfl rfl rfl ?_
                refine j_bipush (v := nI 124) dX4_advance_122 (by decide) ?_
                refine j_icmp_ne 136 dX4_advance_124 (by decide) (fun c124 => ?_) (fun c124 => ?_)
                · skip
                  refine j_signs (q := 0) (ht nx) rfl rfl gX4_advance_J0_indexOf_0f7a4 ⟨Nat.le_of_ble_eq_true rfl, Nat.le_of_ble_eq_true rfl⟩ (Nat.le_of_ble_eq_true rfl) ⟨(show 0 ≤ 0 by omega), (show 0 ≤ 0 by omega)⟩ dX4_advance_136 dX4_advance_138 dX4_advance_139 dX4_advance_140 ?_
                  refine j_if_lt 155 dX4_advance_143 (by decide) (fun c143 => ?_) (fun c143 => ?_)
                  · skip
                    refine j_aload_n dX4_advance_155 1 rfl ?_
                    refine j_iconst (v := nI 1) dX4_advance_156 (by decide) ?_
                    refine j_iconst (v := nI 1) dX4_advance_157 (by decide) ?_
                    refine j_callV (rm := rX4_take) (As := [.int (nI 1), .int (nI 1)]) (st := []) (b0 := to) (ci := 4) (na := 2) (c_take (k := 1) (m := 1) f5 f6 ht (by omega) (by omega)) (by intro E w9 h9; first | exact nomatch h9.1 | (obtain ⟨_, h9, _⟩ := h9; exact nomatch h9) | (obtain ⟨_, _, _, h9, _⟩ := h9; exact nomatch h9)) gX4_advance_X4_take rfl rfl f5 (by decide +kernel) rfl ⟨Nat.le_of_ble_eq_true rfl, Nat.le_of_ble_eq_true rfl⟩ rfl (Nat.le_of_ble_eq_true rfl) dX4_advance_158 ⟨(show 0 + 0 ≤ 0 by omega), (show 0 + 0 ≤ 0 by omega)⟩ (fun v119 w120 h121 => ?_)
                    obtain ⟨h121, h122⟩ := h121
                    cases h121
                    -- w120
                    refine j_after (st' := []) (k' := 0) (n' := 0) rfl rfl rfl ?_
                    have f123 : w120 to = some (.inr (4, [.ref tx, .int (nI ln), .int (nI (nx + 1)), .int (nI 1), .int (nI nx), .int (nI 0)])) := by rw [h122]; exact va_up_self _ _ _
                    have f124 : w120 tx = some (.inl (1, tn, .inl (fun j9 => sb_b (t j9)))) := by rw [h122]; exact (va_up_ne _ _ (fk f6 f5 rfl)).trans (f6)
                    exact j_vret rfl ⟨rfl, by rw [h122, hw4, hw1] <;> (try simp only [bx_uu]) <;> rw [tk_bad hs (by omega) (zb_0 c66) (fun q => c79 q.1) (fun q => c124 q.2) c143]⟩ (show 0 ≤ 0 by omega) (show 0 ≤ 0 by omega) dX4_advance_161
                  · skip
                    refine j_aload_n dX4_advance_146 1 rfl ?_
                    refine j_iload_n dX4_advance_147 0 rfl ?_
                    refine j_iconst (v := nI 1) dX4_advance_148 (by decide) ?_
                    refine j_callV (rm := rX4_take) (As := [.int (nI (t nx)), .int (nI 1)]) (st := []) (b0 := to) (ci := 4) (na := 2) (c_take (k := (t nx)) (m := 1) f5 f6 ht (by omega) (by omega)) (by intro E w9 h9; first | exact nomatch h9.1 | (obtain ⟨_, h9, _⟩ := h9; exact nomatch h9) | (obtain ⟨_, _, _, h9, _⟩ := h9; exact nomatch h9)) gX4_advance_X4_take rfl rfl f5 (by decide +kernel) rfl ⟨Nat.le_of_ble_eq_true rfl, Nat.le_of_ble_eq_true rfl⟩ rfl (Nat.le_of_ble_eq_true rfl) dX4_advance_149 ⟨(show 0 + 0 ≤ 0 by omega), (show 0 + 0 ≤ 0 by omega)⟩ (fun v125 w126 h127 => ?_)
                    obtain ⟨h127, h128⟩ := h127
                    cases h127
                    -- w126
                    refine j_after (st' := []) (k' := 0) (n' := 0) rfl rfl rfl ?_
                    have f129 : w126 to = some (.inr (4, [.ref tx, .int (nI ln), .int (nI (nx + 1)), .int (nI (t nx)), .int (nI nx), .int (nI 0)])) := by rw [h128]; exact va_up_self _ _ _
                    have f130 : w126 tx = some (.inl (1, tn, .inl (fun j9 => sb_b (t j9)))) := by rw [h128]; exact (va_up_ne _ _ (fk f6 f5 rfl)).trans (f6)
                    refine j_goto 161 dX4_advance_152 (by decide) ?_
                    exact j_vret rfl ⟨rfl, by rw [h128, hw4, hw1] <;> (try simp only [bx_uu]) <;> rw [tk_sign hs (by omega) (zb_0 c66) (fun q => c79 q.1) (fun q => c124 q.2) c143]⟩ (show 0 ≤ 0 by omega) (show 0 ≤ 0 by omega) dX4_advance_161
                · skip
                  refine j_aload_n dX4_advance_127 1 rfl ?_
                  refine j_iconst (v := nI 5) dX4_advance_128 (by decide) ?_
                  refine j_iconst (v := nI 2) dX4_advance_129 (by decide) ?_
                  refine j_callV (rm := rX4_take) (As := [.int (nI 5), .int (nI 2)]) (st := []) (b0 := to) (ci := 4) (na := 2) (c_take (k := 5) (m := 2) f5 f6 ht (by omega) (by omega)) (by intro E w9 h9; first | exact nomatch h9.1 | (obtain ⟨_, h9, _⟩ := h9; exact nomatch h9) | (obtain ⟨_, _, _, h9, _⟩ := h9; exact nomatch h9)) gX4_advance_X4_take rfl rfl f5 (by decide +kernel) rfl ⟨Nat.le_of_ble_eq_true rfl, Nat.le_of_ble_eq_true rfl⟩ rfl (Nat.le_of_ble_eq_true rfl) dX4_advance_130 ⟨(show 0 + 0 ≤ 0 by omega), (show 0 + 0 ≤ 0 by omega)⟩ (fun v131 w132 h133 => ?_)
                  obtain ⟨h133, h134⟩ := h133
                  cases h133
                  -- w132
                  refine j_after (st' := []) (k' := 0) (n' := 0) rfl rfl rfl ?_
                  have f135 : w132 to = some (.inr (4, [.ref tx, .int (nI ln), .int (nI (nx + 2)), .int (nI 5), .int (nI nx), .int (nI 0)])) := by rw [h134]; exact va_up_self _ _ _
                  have f136 : w132 tx = some (.inl (1, tn, .inl (fun j9 => sb_b (t j9)))) := by rw [h134]; exact (va_up_ne _ _ (fk f6 f5 rfl)).trans (f6)
                  refine j_goto 161 dX4_advance_133 (by decide) ?_
                  exact j_vret rfl ⟨rfl, by rw [h134, hw4, hw1] <;> (try simp only [bx_uu]) <;> rw [tk_cl hs (by omega) (zb_0 c66) (fun q => c79 q.1) ⟨c109, c124⟩]⟩ (show 0 ≤ 0 by omega) (show 0 ≤ 0 by omega) dX4_advance_161
            · skip
              refine j_aload_n dX4_advance_82 1 rfl ?_
              refine j_aload_n dX4_advance_83 1 rfl ?_
              refine j_get flX4_advance_34 f5 rfl dX4_advance_84 ?_
              refine j_iconst (v := nI 1) dX4_advance_87 (by decide) ?_
              refine j_iaddN dX4_advance_88 ?_
              refine j_callV (rm := rX4_byteAt) (As := [.int (nI (nx + 1))]) (st := []) (b0 := to) (ci := 4) (na := 1) (c_byteAt (i := (nx + 1)) f5 f6 ht (by omega) (by omega) (by omega)) (by intro E w9 h9; first | exact nomatch h9.1 | (obtain ⟨_, h9, _⟩ := h9; exact nomatch h9) | (obtain ⟨_, _, _, h9, _⟩ := h9; exact nomatch h9)) gX4_advance_X4_byteAt rfl rfl f5 (by decide +kernel) rfl ⟨Nat.le_of_ble_eq_true rfl, Nat.le_of_ble_eq_true rfl⟩ rfl (Nat.le_of_ble_eq_true rfl) dX4_advance_89 ⟨(show 0 + 0 ≤ 0 by omega), (show 0 + 0 ≤ 0 by omega)⟩ (fun v137 w138 h139 => ?_)
              obtain ⟨h139, h140⟩ := h139
              cases h139
              subst w138
              refine j_after (st' := [.int (bA t ln (nx + 1))]) (k' := 0) (n' := 0) rfl rfl rfl ?_
              refine j_bipush (v := nI 58) dX4_advance_92 (by decide) ?_
              refine j_icmp_ne 106 dX4_advance_94 (by decide) (fun c94 => ?_) (fun c94 => ?_)
              · skip
                refine j_iload_n dX4_advance_106 0 rfl ?_
                refine j_bipush (v := nI 58) dX4_advance_107 (by decide) ?_
                refine j_icmp_neN 136 (by omega) (by omega) dX4_advance_109 (by decide) (fun c109 => ?_) (fun c109 => ?_)
                · skip
                  refine j_signs (q := 0) (ht nx) rfl rfl gX4_advance_J0_indexOf_0f7a4 ⟨Nat.le_of_ble_eq_true rfl, Nat.le_of_ble_eq_true rfl⟩ (Nat.le_of_ble_eq_true rfl) ⟨(show 0 ≤ 0 by omega), (show 0 ≤ 0 by omega)⟩ dX4_advance_136 dX4_advance_138 dX4_advance_139 dX4_advance_140 ?_
                  refine j_if_lt 155 dX4_advance_143 (by decide) (fun c143 => ?_) (fun c143 => ?_)
                  · skip
                    refine j_aload_n dX4_advance_155 1 rfl ?_
                    refine j_iconst (v := nI 1) dX4_advance_156 (by decide) ?_
                    refine j_iconst (v := nI 1) dX4_advance_157 (by decide) ?_
                    refine j_callV (rm := rX4_take) (As := [.int (nI 1), .int (nI 1)]) (st := []) (b0 := to) (ci := 4) (na := 2) (c_take (k := 1) (m := 1) f5 f6 ht (by omega) (by omega)) (by intro E w9 h9; first | exact nomatch h9.1 | (obtain ⟨_, h9, _⟩ := h9; exact nomatch h9) | (obtain ⟨_, _, _, h9, _⟩ := h9; exact nomatch h9)) gX4_advance_X4_take rfl rfl f5 (by decide +kernel) rfl ⟨Nat.le_of_ble_eq_true rfl, Nat.le_of_ble_eq_true rfl⟩ rfl (Nat.le_of_ble_eq_true rfl) dX4_advance_158 ⟨(show 0 + 0 ≤ 0 by omega), (show 0 + 0 ≤ 0 by omega)⟩ (fun v141 w142 h143 => ?_)
                    obtain ⟨h143, h144⟩ := h143
                    cases h143
                    -- w142
                    refine j_after (st' := []) (k' := 0) (n' := 0) rfl rfl rfl ?_
                    have f145 : w142 to = some (.inr (4, [.ref tx, .int (nI ln), .int (nI (nx + 1)), .int (nI 1), .int (nI nx), .int (nI 0)])) := by rw [h144]; exact va_up_self _ _ _
                    have f146 : w142 tx = some (.inl (1, tn, .inl (fun j9 => sb_b (t j9)))) := by rw [h144]; exact (va_up_ne _ _ (fk f6 f5 rfl)).trans (f6)
                    exact j_vret rfl ⟨rfl, by rw [h144, hw4, hw1] <;> (try simp only [bx_uu]) <;> rw [tk_bad hs (by omega) (zb_0 c66) (fun q => c94 q.2) (fun q => c109 q.1) c143]⟩ (show 0 ≤ 0 by omega) (show 0 ≤ 0 by omega) dX4_advance_161
                  · skip
                    refine j_aload_n dX4_advance_146 1 rfl ?_
                    refine j_iload_n dX4_advance_147 0 rfl ?_
                    refine j_iconst (v := nI 1) dX4_advance_148 (by decide) ?_
                    refine j_callV (rm := rX4_take) (As := [.int (nI (t nx)), .int (nI 1)]) (st := []) (b0 := to) (ci := 4) (na := 2) (c_take (k := (t nx)) (m := 1) f5 f6 ht (by omega) (by omega)) (by intro E w9 h9; first | exact nomatch h9.1 | (obtain ⟨_, h9, _⟩ := h9; exact nomatch h9) | (obtain ⟨_, _, _, h9, _⟩ := h9; exact nomatch h9)) gX4_advance_X4_take rfl rfl f5 (by decide +kernel) rfl ⟨Nat.le_of_ble_eq_true rfl, Nat.le_of_ble_eq_true rfl⟩ rfl (Nat.le_of_ble_eq_true rfl) dX4_advance_149 ⟨(show 0 + 0 ≤ 0 by omega), (show 0 + 0 ≤ 0 by omega)⟩ (fun v147 w148 h149 => ?_)
                    obtain ⟨h149, h150⟩ := h149
                    cases h149
                    -- w148
                    refine j_after (st' := []) (k' := 0) (n' := 0) rfl rfl rfl ?_
                    have f151 : w148 to = some (.inr (4, [.ref tx, .int (nI ln), .int (nI (nx + 1)), .int (nI (t nx)), .int (nI nx), .int (nI 0)])) := by rw [h150]; exact va_up_self _ _ _
                    have f152 : w148 tx = some (.inl (1, tn, .inl (fun j9 => sb_b (t j9)))) := by rw [h150]; exact (va_up_ne _ _ (fk f6 f5 rfl)).trans (f6)
                    refine j_goto 161 dX4_advance_152 (by decide) ?_
                    exact j_vret rfl ⟨rfl, by rw [h150, hw4, hw1] <;> (try simp only [bx_uu]) <;> rw [tk_sign hs (by omega) (zb_0 c66) (fun q => c94 q.2) (fun q => c109 q.1) c143]⟩ (show 0 ≤ 0 by omega) (show 0 ≤ 0 by omega) dX4_advance_161
                · skip
                  refine j_aload_n dX4_advance_112 1 rfl ?_
                  refine j_aload_n dX4_advance_113 1 rfl ?_
                  refine j_get flX4_advance_34 f5 rfl dX4_advance_114 ?_
                  refine j_iconst (v := nI 1) dX4_advance_117 (by decide) ?_
                  refine j_iaddN dX4_advance_118 ?_
                  refine j_callV (rm := rX4_byteAt) (As := [.int (nI (nx + 1))]) (st := []) (b0 := to) (ci := 4) (na := 1) (c_byteAt (i := (nx + 1)) f5 f6 ht (by omega) (by omega) (by omega)) (by intro E w9 h9; first | exact nomatch h9.1 | (obtain ⟨_, h9, _⟩ := h9; exact nomatch h9) | (obtain ⟨_, _, _, h9, _⟩ := h9; exact nomatch h9)) gX4_advance_X4_byteAt rfl rfl f5 (by decide +kernel) rfl ⟨Nat.le_of_ble_eq_true rfl, Nat.le_of_ble_eq_true rfl⟩ rfl (Nat.le_of_ble_eq_true rfl) dX4_advance_119 ⟨(show 0 + 0 ≤ 0 by omega), (show 0 + 0 ≤ 0 by omega)⟩ (fun v153 w154 h155 => ?_)
                  obtain ⟨h155, h156⟩ := h155
                  cases h155
                  subst w154
                  refine j_after (st' := [.int (bA t ln (nx + 1))]) (k' := 0) (n' := 0) rfl rfl rfl ?_
                  refine j_bipush (v := nI 124) dX4_advance_122 (by decide) ?_
                  refine j_icmp_ne 136 dX4_advance_124 (by decide) (fun c124 => ?_) (fun c124 => ?_)
                  · skip
                    refine j_signs (q := 0) (ht nx) rfl rfl gX4_advance_J0_indexOf_0f7a4 ⟨Nat.le_of_ble_eq_true rfl, Nat.le_of_ble_eq_true rfl⟩ (Nat.le_of_ble_eq_true rfl) ⟨(show 0 ≤ 0 by omega), (show 0 ≤ 0 by omega)⟩ dX4_advance_136 dX4_advance_138 dX4_advance_139 dX4_advance_140 ?_
                    refine j_if_lt 155 dX4_advance_143 (by decide) (fun c143 => ?_) (fun c143 => ?_)
                    · skip
                      refine j_aload_n dX4_advance_155 1 rfl ?_
                      refine j_iconst (v := nI 1) dX4_advance_156 (by decide) ?_
                      refine j_iconst (v := nI 1) dX4_advance_157 (by decide) ?_
                      refine j_callV (rm := rX4_take) (As := [.int (nI 1), .int (nI 1)]) (st := []) (b0 := to) (ci := 4) (na := 2) (c_take (k := 1) (m := 1) f5 f6 ht (by omega) (by omega)) (by intro E w9 h9; first | exact nomatch h9.1 | (obtain ⟨_, h9, _⟩ := h9; exact nomatch h9) | (obtain ⟨_, _, _, h9, _⟩ := h9; exact nomatch h9)) gX4_advance_X4_take rfl rfl f5 (by decide +kernel) rfl ⟨Nat.le_of_ble_eq_true rfl, Nat.le_of_ble_eq_true rfl⟩ rfl (Nat.le_of_ble_eq_true rfl) dX4_advance_158 ⟨(show 0 + 0 ≤ 0 by omega), (show 0 + 0 ≤ 0 by omega)⟩ (fun v157 w158 h159 => ?_)
                      obtain ⟨h159, h160⟩ := h159
                      cases h159
                      -- w158
                      refine j_after (st' := []) (k' := 0) (n' := 0) rfl rfl rfl ?_
                      have f161 : w158 to = some (.inr (4, [.ref tx, .int (nI ln), .int (nI (nx + 1)), .int (nI 1), .int (nI nx), .int (nI 0)])) := by rw [h160]; exact va_up_self _ _ _
                      have f162 : w158 tx = some (.inl (1, tn, .inl (fun j9 => sb_b (t j9)))) := by rw [h160]; exact (va_up_ne _ _ (fk f6 f5 rfl)).trans (f6)
                      exact j_vret rfl ⟨rfl, by rw [h160, hw4, hw1] <;> (try simp only [bx_uu]) <;> rw [tk_bad hs (by omega) (zb_0 c66) (fun q => c94 q.2) (fun q => c124 q.2) c143]⟩ (show 0 ≤ 0 by omega) (show 0 ≤ 0 by omega) dX4_advance_161
                    · skip
                      refine j_aload_n dX4_advance_146 1 rfl ?_
                      refine j_iload_n dX4_advance_147 0 rfl ?_
                      refine j_iconst (v := nI 1) dX4_advance_148 (by decide) ?_
                      refine j_callV (rm := rX4_take) (As := [.int (nI (t nx)), .int (nI 1)]) (st := []) (b0 := to) (ci := 4) (na := 2) (c_take (k := (t nx)) (m := 1) f5 f6 ht (by omega) (by omega)) (by intro E w9 h9; first | exact nomatch h9.1 | (obtain ⟨_, h9, _⟩ := h9; exact nomatch h9) | (obtain ⟨_, _, _, h9, _⟩ := h9; exact nomatch h9)) gX4_advance_X4_take rfl rfl f5 (by decide +kernel) rfl ⟨Nat.le_of_ble_eq_true rfl, Nat.le_of_ble_eq_true rfl⟩ rfl (Nat.le_of_ble_eq_true rfl) dX4_advance_149 ⟨(show 0 + 0 ≤ 0 by omega), (show 0 + 0 ≤ 0 by omega)⟩ (fun v163 w164 h165 => ?_)
                      obtain ⟨h165, h166⟩ := h165
                      cases h165
                      -- w164
                      refine j_after (st' := []) (k' := 0) (n' := 0) rfl rfl rfl ?_
                      have f167 : w164 to = some (.inr (4, [.ref tx, .int (nI ln), .int (nI (nx + 1)), .int (nI (t nx)), .int (nI nx), .int (nI 0)])) := by rw [h166]; exact va_up_self _ _ _
                      have f168 : w164 tx = some (.inl (1, tn, .inl (fun j9 => sb_b (t j9)))) := by rw [h166]; exact (va_up_ne _ _ (fk f6 f5 rfl)).trans (f6)
                      refine j_goto 161 dX4_advance_152 (by decide) ?_
                      exact j_vret rfl ⟨rfl, by rw [h166, hw4, hw1] <;> (try simp only [bx_uu]) <;> rw [tk_sign hs (by omega) (zb_0 c66) (fun q => c94 q.2) (fun q => c124 q.2) c143]⟩ (show 0 ≤ 0 by omega) (show 0 ≤ 0 by omega) dX4_advance_161
                  · skip
                    refine j_aload_n dX4_advance_127 1 rfl ?_
                    refine j_iconst (v := nI 5) dX4_advance_128 (by decide) ?_
                    refine j_iconst (v := nI 2) dX4_advance_129 (by decide) ?_
                    refine j_callV (rm := rX4_take) (As := [.int (nI 5), .int (nI 2)]) (st := []) (b0 := to) (ci := 4) (na := 2) (c_take (k := 5) (m := 2) f5 f6 ht (by omega) (by omega)) (by intro E w9 h9; first | exact nomatch h9.1 | (obtain ⟨_, h9, _⟩ := h9; exact nomatch h9) | (obtain ⟨_, _, _, h9, _⟩ := h9; exact nomatch h9)) gX4_advance_X4_take rfl rfl f5 (by decide +kernel) rfl ⟨Nat.le_of_ble_eq_true rfl, Nat.le_of_ble_eq_true rfl⟩ rfl (Nat.le_of_ble_eq_true rfl) dX4_advance_130 ⟨(show 0 + 0 ≤ 0 by omega), (show 0 + 0 ≤ 0 by omega)⟩ (fun v169 w170 h171 => ?_)
                    obtain ⟨h171, h172⟩ := h171
                    cases h171
                    -- w170
                    refine j_after (st' := []) (k' := 0) (n' := 0) rfl rfl rfl ?_
                    have f173 : w170 to = some (.inr (4, [.ref tx, .int (nI ln), .int (nI (nx + 2)), .int (nI 5), .int (nI nx), .int (nI 0)])) := by rw [h172]; exact va_up_self _ _ _
                    have f174 : w170 tx = some (.inl (1, tn, .inl (fun j9 => sb_b (t j9)))) := by rw [h172]; exact (va_up_ne _ _ (fk f6 f5 rfl)).trans (f6)
                    refine j_goto 161 dX4_advance_133 (by decide) ?_
                    exact j_vret rfl ⟨rfl, by rw [h172, hw4, hw1] <;> (try simp only [bx_uu]) <;> rw [tk_cl hs (by omega) (zb_0 c66) (fun q => c94 q.2) ⟨c109, c124⟩]⟩ (show 0 ≤ 0 by omega) (show 0 ≤ 0 by omega) dX4_advance_161
              · skip
                refine j_aload_n dX4_advance_97 1 rfl ?_
                refine j_iconst (v := nI 4) dX4_advance_98 (by decide) ?_
                refine j_iconst (v := nI 2) dX4_advance_99 (by decide) ?_
                refine j_callV (rm := rX4_take) (As := [.int (nI 4), .int (nI 2)]) (st := []) (b0 := to) (ci := 4) (na := 2) (c_take (k := 4) (m := 2) f5 f6 ht (by omega) (by omega)) (by intro E w9 h9; first | exact nomatch h9.1 | (obtain ⟨_, h9, _⟩ := h9; exact nomatch h9) | (obtain ⟨_, _, _, h9, _⟩ := h9; exact nomatch h9)) gX4_advance_X4_take rfl rfl f5 (by decide +kernel) rfl ⟨Nat.le_of_ble_eq_true rfl, Nat.le_of_ble_eq_true rfl⟩ rfl (Nat.le_of_ble_eq_true rfl) dX4_advance_100 ⟨(show 0 + 0 ≤ 0 by omega), (show 0 + 0 ≤ 0 by omega)⟩ (fun v175 w176 h177 => ?_)
                obtain ⟨h177, h178⟩ := h177
                cases h177
                -- w176
                refine j_after (st' := []) (k' := 0) (n' := 0) rfl rfl rfl ?_
                have f179 : w176 to = some (.inr (4, [.ref tx, .int (nI ln), .int (nI (nx + 2)), .int (nI 4), .int (nI nx), .int (nI 0)])) := by rw [h178]; exact va_up_self _ _ _
                have f180 : w176 tx = some (.inl (1, tn, .inl (fun j9 => sb_b (t j9)))) := by rw [h178]; exact (va_up_ne _ _ (fk f6 f5 rfl)).trans (f6)
                refine j_goto 161 dX4_advance_103 (by decide) ?_
                exact j_vret rfl ⟨rfl, by rw [h178, hw4, hw1] <;> (try simp only [bx_uu]) <;> rw [tk_op hs (by omega) (zb_0 c66) ⟨c79, c94⟩]⟩ (show 0 ≤ 0 by omega) (show 0 ≤ 0 by omega) dX4_advance_161
          · skip
            refine j_aload_n dX4_advance_69 1 rfl ?_
            refine j_callV (rm := rX4_takeNumber) (As := []) (st := []) (b0 := to) (ci := 4) (na := 0) (c_takeNumber f5 f6 ht (by omega) (by omega) (by omega) (by omega)) (by intro E w9 h9; first | exact nomatch h9.1 | (obtain ⟨_, h9, _⟩ := h9; exact nomatch h9) | (obtain ⟨_, _, _, h9, _⟩ := h9; exact nomatch h9)) gX4_advance_X4_takeNumber rfl rfl f5 (by decide +kernel) rfl ⟨Nat.le_of_ble_eq_true rfl, Nat.le_of_ble_eq_true rfl⟩ rfl (Nat.le_of_ble_eq_true rfl) dX4_advance_70 ⟨(show 0 + 0 ≤ 0 by omega), (show 0 + 0 ≤ 0 by omega)⟩ (fun v181 w182 h183 => ?_)
            obtain ⟨h183, h184⟩ := h183
            cases h183
            -- w182
            refine j_after (st' := []) (k' := 0) (n' := 0) rfl rfl rfl ?_
            have f185 : w182 to = some (.inr (4, [.ref tx, .int (nI ln), .int (nI (dgE t ln nx)), .int (nI 3), .int (nI nx), .int (if 3 < dgE t ln nx - nx then nI 0 else nI (nvF t nx (dgE t ln nx - nx)))])) := by rw [h184]; exact va_up_self _ _ _
            have f186 : w182 tx = some (.inl (1, tn, .inl (fun j9 => sb_b (t j9)))) := by rw [h184]; exact (va_up_ne _ _ (fk f6 f5 rfl)).trans (f6)
            refine j_goto 161 dX4_advance_73 (by decide) ?_
            exact j_vret rfl ⟨rfl, by rw [h184, hw4, hw1] <;> (try simp only [bx_uu]) <;> rw [tk_num hs (by omega) (zb_n' c66)]⟩ (show 0 ≤ 0 by omega) (show 0 ≤ 0 by omega) dX4_advance_161
        · skip
          refine j_aload_n dX4_advance_51 1 rfl ?_
          refine j_iload_n dX4_advance_52 0 rfl ?_
          refine j_bipush (v := nI 97) dX4_advance_53 (by decide) ?_
          refine j_isubN (by omega) dX4_advance_55 ?_
          refine j_callV (rm := rX4_takePitch) (As := [.int (nI ((t nx) - 97))]) (st := []) (b0 := to) (ci := 4) (na := 1) (c_takePitch (j := (t nx) - 97) f5 f6 ht (by omega) (by omega) (by omega) (by omega)) (by intro E w9 h9; first | exact nomatch h9.1 | (obtain ⟨_, h9, _⟩ := h9; exact nomatch h9) | (obtain ⟨_, _, _, h9, _⟩ := h9; exact nomatch h9)) gX4_advance_X4_takePitch rfl rfl f5 (by decide +kernel) rfl ⟨Nat.le_of_ble_eq_true rfl, Nat.le_of_ble_eq_true rfl⟩ rfl (Nat.le_of_ble_eq_true rfl) dX4_advance_56 ⟨(show 0 + 0 ≤ 0 by omega), (show 0 + 0 ≤ 0 by omega)⟩ (fun v187 w188 h189 => ?_)
          obtain ⟨h189, h190⟩ := h189
          cases h189
          -- w188
          refine j_after (st' := []) (k' := 0) (n' := 0) rfl rfl rfl ?_
          have f191 : w188 to = some (.inr (4, [.ref tx, .int (nI ln), .int (nI (if ptO t ln (nx + 1 + ptK t ln nx) then nx + (nx + 1 + ptK t ln nx + 1 - nx) else nx + 1)), .int (nI (if ptO t ln (nx + 1 + ptK t ln nx) then 2 else 1)), .int (nI nx), .int (if ptO t ln (nx + 1 + ptK t ln nx) then nI (12 * (t (nx + 1 + ptK t ln nx) - 48)) + bgStep ((t nx) - 97) + ptV t ln nx else nI (0))])) := by rw [h190]; exact va_up_self _ _ _
          have f192 : w188 tx = some (.inl (1, tn, .inl (fun j9 => sb_b (t j9)))) := by rw [h190]; exact (va_up_ne _ _ (fk f6 f5 rfl)).trans (f6)
          refine j_goto 161 dX4_advance_59 (by decide) ?_
          exact j_vret rfl ⟨rfl, by rw [h190, hw4, hw1] <;> (try simp only [bx_uu]) <;> rw [tk_pitch hs ⟨by omega, by omega⟩]⟩ (show 0 ≤ 0 by omega) (show 0 ≤ 0 by omega) dX4_advance_161
    · skip
      exact absurd c28 (nI_m1 (by omega))
  · skip
    refine j_eqi (y := -1) (bA_out hs) ?_
    refine j_istore_n (lv' := [(1, .int ((-1))), (0, .ref to)]) dX4_advance_25 (Nat.le_of_ble_eq_true rfl) rfl ?_
    refine j_iload_n dX4_advance_26 0 rfl ?_
    refine j_iconst (v := (-1)) dX4_advance_27 (by decide) ?_
    refine j_icmp_ne 39 dX4_advance_28 (by decide) (fun c28 => ?_) (fun c28 => ?_)
    · skip
      exact absurd rfl c28
    · skip
      refine j_aload_n dX4_advance_31 1 rfl ?_
      refine j_iconst (v := nI 0) dX4_advance_32 (by decide) ?_
      refine j_put (fs9 := [.ref tx, .int (nI ln), .int (nI nx), .int (nI 0), .int (nI nx), .int (nI 0)]) fsX4_advance_44 f5 rfl rfl (Nat.le_of_ble_eq_true rfl) rfl dX4_advance_33 ?_
      refine j_w (fun w193 hw193 => ?_)
      have f194 : w193 to = some (.inr (4, [.ref tx, .int (nI ln), .int (nI nx), .int (nI 0), .int (nI nx), .int (nI 0)])) := up_at hw193
      have f195 := up_ne hw193 (fk f6 f5 rfl) f6
      refine j_goto 161 dX4_advance_36 (by decide) ?_
      exact j_vret rfl ⟨rfl, by rw [hw193, hw4, hw1] <;> (try simp only [bx_uu]) <;> rw [tk_end hs]⟩ (show 0 ≤ 0 by omega) (show 0 ≤ 0 by omega) dX4_advance_161
set_option maxHeartbeats 4000000 in
set_option maxRecDepth 100000 in
theorem c_advance {w : pW} {to tx : Nat} {ln nx kd sa tn : Nat} {va : Int32} {t : Nat → Nat} (hto : w to = some (.inr (4, [.ref tx, .int (nI ln), .int (nI nx), .int (nI kd), .int (nI sa), .int va]))) (htx : w tx = some (.inl (1, tn, .inl (fun j9 => sb_b (t j9))))) (ht : ∀ j, t j < 256) (hln : ln ≤ tn) (htn : tn ≤ 100000) (hnx : nx ≤ 100000) (hln2 : ln ≤ 2400) : Ct yX4_advance wsX4_advance rX4_advance [.ref to] w (fun o w9 => o = .inl none ∧ w9 = va_up w to (some (.inr (4, [.ref tx, .int (nI ln), .int (nI ((tk t ln (skB t ln nx)).1)), .int (nI ((tk t ln (skB t ln nx)).2.1)), .int (nI ((skB t ln nx))), .int ((tk t ln (skB t ln nx)).2.2)])))) := by
  refine Ct.of (cc := cX4_advance) (own := RX4) (nm := "advance") (nL := 2) (ret := none) (by decide +kernel) rfl rfl rfl (Nat.le_of_ble_eq_true rfl) ?_
  refine j_lvE (lv' := [(0, .ref to)]) rfl ?_
  refine j_aload_n dX4_advance_0 0 rfl ?_
  refine j_callV (rm := rX4_skipBlanks) (As := []) (st := []) (b0 := to) (ci := 4) (na := 0) (c_skipBlanks hto htx ht (by omega) (by omega) (by omega)) (by intro E w9 h9; first | exact nomatch h9.1 | (obtain ⟨_, h9, _⟩ := h9; exact nomatch h9) | (obtain ⟨_, _, _, h9, _⟩ := h9; exact nomatch h9)) gX4_advance_X4_skipBlanks rfl rfl hto (by decide +kernel) rfl ⟨Nat.le_of_ble_eq_true rfl, Nat.le_of_ble_eq_true rfl⟩ rfl (Nat.le_of_ble_eq_true rfl) dX4_advance_1 ⟨(show 0 + 0 ≤ 0 by omega), (show 0 + 0 ≤ 0 by omega)⟩ (fun v1 w2 h3 => ?_)
  obtain ⟨h3, h4⟩ := h3
  cases h3
  -- w2
  refine j_after (st' := []) (k' := 0) (n' := 0) rfl rfl rfl ?_
  have f5 : w2 to = some (.inr (4, [.ref tx, .int (nI ln), .int (nI (skB t ln nx)), .int (nI kd), .int (nI sa), .int va])) := by rw [h4]; exact va_up_self _ _ _
  have f6 : w2 tx = some (.inl (1, tn, .inl (fun j9 => sb_b (t j9)))) := by rw [h4]; exact (va_up_ne _ _ (fk htx hto rfl)).trans (htx)
  refine J.post ?_ (s_adv f5 f6 ht hln htn (by have := whl_bd (q := fun i => isB (bA t ln i)) (k := ln - nx) (p := nx); show whl _ _ _ ≤ _; omega) hln2)
  intro o w9 h9; rw [h4] at h9; rw [h9.2]; exact ⟨h9.1, by simp only [bx_uu]⟩
abbrev rX4_begin : Room := { frames := 5, cells := 0, slots := 0, locals := 112 }
theorem fsX4_begin_9 : FS wsX4_begin RX4 9 4 0 false (.array .byte) := ⟨RX4, TX4, 6, tyX4, rfl, by decide, by decide +kernel, by decide +kernel, tyX4_ok, nmX4, rfl, rfl, rfl⟩
set_option maxRecDepth 100000 in
theorem mX4_begin_0 : Cond.methodLink RX4 15 Lib.Math.min.name ∈ wsX4_begin := by decide +kernel
set_option maxRecDepth 100000 in
theorem mX4_begin_1 : Cond.static Lib.Math.min.name ∈ wsX4_begin := by decide +kernel
set_option maxRecDepth 100000 in
theorem mX4_begin_2 : Cond.initialized "java/lang/Math" ∈ wsX4_begin := by decide +kernel
set_option maxRecDepth 100000 in
theorem mX4_begin_3 : Cond.code Lib.Math.min.name Lib.Math.min.code 2 (some .int) ∈ wsX4_begin := by decide +kernel
theorem fsX4_begin_21 : FS wsX4_begin RX4 21 4 1 false (.int) := ⟨RX4, TX4, 6, tyX4, rfl, by decide, by decide +kernel, by decide +kernel, tyX4_ok, nmX4, rfl, rfl, rfl⟩
theorem fsX4_begin_25 : FS wsX4_begin RX4 25 4 2 false (.int) := ⟨RX4, TX4, 6, tyX4, rfl, by decide, by decide +kernel, by decide +kernel, tyX4_ok, nmX4, rfl, rfl, rfl⟩
set_option maxHeartbeats 4000000 in
set_option maxRecDepth 100000 in
theorem c_beginT {w : pW} {to tx tx0 : Nat} {ln0 nx0 kd sa tn ln : Nat} {va : Int32} {t : Nat → Nat} (hto : w to = some (.inr (4, [.ref tx0, .int (nI ln0), .int (nI nx0), .int (nI kd), .int (nI sa), .int va]))) (htx : w tx = some (.inl (1, tn, .inl (fun j9 => sb_b (t j9))))) (ht : ∀ j, t j < 256) (hln : ln ≤ tn) (hln2 : ln ≤ 2400) (htn : tn ≤ 100000) : Ct yX4_begin wsX4_begin rX4_begin [.ref to, .ref tx, .int (nI ln)] w (fun o w9 => o = .inl none ∧ w9 = va_up w to (some (.inr (4, [.ref tx, .int (nI ln), .int (nI ((tk t ln (skB t ln 0)).1)), .int (nI ((tk t ln (skB t ln 0)).2.1)), .int (nI ((skB t ln 0))), .int ((tk t ln (skB t ln 0)).2.2)])))) := by
  refine Ct.of (cc := cX4_begin) (own := RX4) (nm := "begin") (nL := 3) (ret := none) (by decide +kernel) rfl rfl rfl (Nat.le_of_ble_eq_true rfl) ?_
  refine j_lvE (lv' := [(0, .ref to), (1, .ref tx), (2, .int (nI ln))]) rfl ?_
  refine j_aload_n dX4_begin_0 0 rfl ?_
  refine j_aload_n dX4_begin_1 1 rfl ?_
  refine j_put (fs9 := [.ref tx, .int (nI ln0), .int (nI nx0), .int (nI kd), .int (nI sa), .int va]) fsX4_begin_9 hto rfl rfl (Nat.le_of_ble_eq_true rfl) rfl dX4_begin_2 ?_
  refine j_w (fun w1 hw1 => ?_)
  have f2 : w1 to = some (.inr (4, [.ref tx, .int (nI ln0), .int (nI nx0), .int (nI kd), .int (nI sa), .int va])) := up_at hw1
  have f3 := up_ne hw1 (fk htx hto rfl) htx
  refine j_aload_n dX4_begin_5 0 rfl ?_
  refine j_iload_n dX4_begin_6 2 rfl ?_
  refine j_aload_n dX4_begin_7 1 rfl ?_
  refine j_alen (v := nI tn) (by decide) f3 rfl dX4_begin_8 ?_
  refine j_min mX4_begin_0 mX4_begin_1 mX4_begin_2 mX4_begin_3 (Nat.le_of_ble_eq_true rfl) (Nat.le_of_ble_eq_true rfl) ⟨(show 0 ≤ 0 by omega), (show 0 ≤ 0 by omega)⟩ dX4_begin_9 ?_
  refine j_eqi (y := nI (min ln tn)) (mnN (by omega) (by omega)) ?_
  refine j_eqi (y := nI ln) (by rw [Nat.min_eq_left hln]) ?_
  refine j_put (fs9 := [.ref tx, .int (nI ln), .int (nI nx0), .int (nI kd), .int (nI sa), .int va]) fsX4_begin_21 f2 rfl rfl (Nat.le_of_ble_eq_true rfl) rfl dX4_begin_12 ?_
  refine j_w (fun w4 hw4 => ?_)
  have f5 : w4 to = some (.inr (4, [.ref tx, .int (nI ln), .int (nI nx0), .int (nI kd), .int (nI sa), .int va])) := up_at hw4
  have f6 := up_ne hw4 (fk f3 f2 rfl) f3
  refine j_aload_n dX4_begin_15 0 rfl ?_
  refine j_iconst (v := nI 0) dX4_begin_16 (by decide) ?_
  refine j_put (fs9 := [.ref tx, .int (nI ln), .int (nI 0), .int (nI kd), .int (nI sa), .int va]) fsX4_begin_25 f5 rfl rfl (Nat.le_of_ble_eq_true rfl) rfl dX4_begin_17 ?_
  refine j_w (fun w7 hw7 => ?_)
  have f8 : w7 to = some (.inr (4, [.ref tx, .int (nI ln), .int (nI 0), .int (nI kd), .int (nI sa), .int va])) := up_at hw7
  have f9 := up_ne hw7 (fk f6 f5 rfl) f6
  refine j_aload_n dX4_begin_20 0 rfl ?_
  refine j_callV (rm := rX4_advance) (As := []) (st := []) (b0 := to) (ci := 4) (na := 0) (c_advance f8 f9 ht (by omega) (by omega) (by omega) (by omega)) (by intro E w9 h9; first | exact nomatch h9.1 | (obtain ⟨_, h9, _⟩ := h9; exact nomatch h9) | (obtain ⟨_, _, _, h9, _⟩ := h9; exact nomatch h9)) gX4_begin_X4_advance rfl rfl f8 (by decide +kernel) rfl ⟨Nat.le_of_ble_eq_true rfl, Nat.le_of_ble_eq_true rfl⟩ rfl (Nat.le_of_ble_eq_true rfl) dX4_begin_21 ⟨(show 0 + 0 ≤ 0 by omega), (show 0 + 0 ≤ 0 by omega)⟩ (fun v10 w11 h12 => ?_)
  obtain ⟨h12, h13⟩ := h12
  cases h12
  -- w11
  refine j_after (st' := []) (k' := 0) (n' := 0) rfl rfl rfl ?_
  have f14 : w11 to = some (.inr (4, [.ref tx, .int (nI ln), .int (nI ((tk t ln (skB t ln 0)).1)), .int (nI ((tk t ln (skB t ln 0)).2.1)), .int (nI (skB t ln 0)), .int ((tk t ln (skB t ln 0)).2.2)])) := by rw [h13]; exact va_up_self _ _ _
  have f15 : w11 tx = some (.inl (1, tn, .inl (fun j9 => sb_b (t j9)))) := by rw [h13]; exact (va_up_ne _ _ (fk f9 f8 rfl)).trans (f9)
  exact j_vret rfl ⟨rfl, by rw [h13, hw7, hw4, hw1]; simp only [bx_uu]⟩ (show 0 ≤ 0 by omega) (show 0 ≤ 0 by omega) dX4_begin_24
abbrev rX4_init : Room := { frames := 1, cells := 1, slots := 0, locals := 24 }
set_option maxRecDepth 100000 in
theorem mX4_init_0 : Cond.methodLink RX4 3 objectInit ∈ wsX4_init := by decide +kernel
set_option maxRecDepth 100000 in
theorem mX4_init_1 : Cond.instanceMethod objectInit ∈ wsX4_init := by decide +kernel
set_option maxRecDepth 100000 in
theorem mX4_init_2 : Cond.code objectInit ⟨#[0xb1]⟩ 1 none ∈ wsX4_init := by decide +kernel
set_option maxRecDepth 100000 in
theorem mX4_init_3 : Cond.arrayClass .byte ∈ wsX4_init := by decide +kernel
theorem fsX4_init_9 : FS wsX4_init RX4 9 4 0 false (.array .byte) := ⟨RX4, TX4, 6, tyX4, rfl, by decide, by decide +kernel, by decide +kernel, tyX4_ok, nmX4, rfl, rfl, rfl⟩
set_option maxHeartbeats 4000000 in
set_option maxRecDepth 100000 in
theorem c_initT {w : pW} {to : Nat} (hto : w to = some (.inr (4, [.null, .int (nI 0), .int (nI 0), .int (nI 0), .int (nI 0), .int (nI 0)]))) : Ct yX4_init wsX4_init rX4_init [.ref to] w (fun o w9 => o = .inl none ∧ ∃ q, w q = none ∧ w9 = va_up (va_up w q (some (.inl (1, 0, .inl (fun _ => 0))))) to (some (.inr (4, [.ref q, .int (nI 0), .int (nI 0), .int (nI 0), .int (nI 0), .int (nI 0)])))) := by
  refine Ct.of (cc := cX4_init) (own := RX4) (nm := "<init>") (nL := 1) (ret := none) (by decide +kernel) rfl rfl rfl (Nat.le_of_ble_eq_true rfl) ?_
  refine j_lvE (lv' := [(0, .ref to)]) rfl ?_
  refine j_aload_n dX4_init_0 0 rfl ?_
  refine j_objInit mX4_init_0 mX4_init_1 mX4_init_2 dX4_init_1 (Nat.le_of_ble_eq_true rfl) (Nat.le_of_ble_eq_true rfl) ?_
  refine j_aload_n dX4_init_4 0 rfl ?_
  refine j_iconst (v := nI 0) dX4_init_5 (by decide) ?_
  refine j_newb (N := 0) mX4_init_3 (nI_pos (by omega)) (nI_clamp (by omega)) (by omega) (show 0 + 1 ≤ 1 by omega) (show 0 + 0 ≤ 0 by omega) dX4_init_6 (fun q1 hq1 => ?_)
  refine j_after (st' := [.ref q1, .ref to]) (k' := 1) (n' := 0) rfl (by first | rfl | omega) (by first | rfl | omega) ?_
  refine j_w (fun w2 hw2 => ?_)
  have n4 : to ≠ q1 := fn hto hq1
  have f3 := up_ne hw2 n4 hto
  have f5 : w2 q1 = some (.inl (1, 0, .inl ((fun _ => 0)))) := up_at hw2
  refine j_put (fs9 := [.ref q1, .int (nI 0), .int (nI 0), .int (nI 0), .int (nI 0), .int (nI 0)]) fsX4_init_9 f3 rfl rfl (Nat.le_of_ble_eq_true rfl) rfl dX4_init_8 ?_
  refine j_w (fun w6 hw6 => ?_)
  have f7 : w6 to = some (.inr (4, [.ref q1, .int (nI 0), .int (nI 0), .int (nI 0), .int (nI 0), .int (nI 0)])) := up_at hw6
  have f8 := up_ne hw6 (Ne.symm n4) f5
  exact j_vret rfl ⟨rfl, _, hq1, by rw [hw6, hw2]⟩ (show 1 ≤ 1 by omega) (show 0 ≤ 0 by omega) dX4_init_11
