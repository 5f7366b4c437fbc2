section BD
/-- leaving e, as the model counts it -/
def lvE (o : Nat → Nat) (p n e : Nat) : Nat := mfold (fun b => if o (16 * e + b) < 268435456 then o (16 * e + b) + p * ones (2 ^ n - 1 - b) else 268435456) (2 ^ n) 0 268435456
def alE (o : Nat → Nat) (n e all : Nat) : Nat := mfold (fun b => o (16 * e + b)) (2 ^ n) 0 all
def OKY (c : Nat → Nat) (ev : Nat) (y o : Nat → Nat) : Prop := (∀ j, j < 1600 → (∀ e, e < ev → j ≠ 16 * e) → o j = c j) ∧ ∀ e, e < ev → y e ≤ o (16 * e)
/-- y lies below all that a silent move can bring -/
def StY (c xm : Nat → Nat) (bh : Nat → Option Nat) (mk : Nat → Bool) (p2 p3 ev : Nat) (y : Nat → Nat) : Prop :=
  (∀ e, e < ev → y e ≤ c (16 * e)) ∧ ∀ o, (∀ j, o j ≤ 268435456) → OKY c ev y o → ∀ e, e < ev → (e + 1 < ev → y (e + 1) ≤ lvE o p2 (xm e) e) ∧ (∀ b, bh e = some b → y b ≤ lvE o p2 (xm e) e) ∧ (∀ b, b < 2 ^ xm e → ∀ e', e' < ev → mk e' = true → y e' ≤ o (16 * e + b) + p3)
def INV (c xm : Nat → Nat) (bh : Nat → Option Nat) (mk : Nat → Bool) (p2 p3 ev : Nat) (o : Nat → Nat) : Prop := (∀ j, o j ≤ 268435456) ∧ (∀ j, j < 1600 → (∀ e, e < ev → j ≠ 16 * e) → o j = c j) ∧ (∀ e, e < ev → o (16 * e) ≤ c (16 * e)) ∧ ∀ y, StY c xm bh mk p2 p3 ev y → ∀ e, e < ev → y e ≤ o (16 * e)
def sumO (o : Nat → Nat) : Nat → Nat
  | 0 => 0
  | e + 1 => sumO o e + o (16 * e)
theorem sumO_cg {o o' : Nat → Nat} : ∀ {n : Nat}, (∀ e, e < n → o' (16 * e) = o (16 * e)) → sumO o' n = sumO o n
  | 0, _ => rfl
  | n + 1, h => by simp only [sumO]; rw [sumO_cg (fun e he => h e (by omega)), h n (by omega)]
theorem sumO_up {o : Nat → Nat} {e v : Nat} (hv : v < o (16 * e)) : ∀ {n : Nat}, e < n → sumO (va_up o (16 * e) v) n < sumO o n
  | 0, h => by omega
  | n + 1, h => by
    simp only [sumO]
    by_cases he : e = n
    · subst he
      rw [va_up_self, sumO_cg (fun j hj => va_up_ne _ _ (by omega))]
      omega
    · have := sumO_up hv (show e < n by omega)
      rw [va_up_ne _ _ (by omega)]
      omega
/-- e sends on what it can -/
def clE (o xm : Nat → Nat) (bh : Nat → Option Nat) (p2 ev e : Nat) : Prop := (e + 1 < ev → o (16 * (e + 1)) ≤ lvE o p2 (xm e) e) ∧ ∀ b, bh e = some b → o (16 * b) ≤ lvE o p2 (xm e) e
section
variable {c xm oS o : Nat → Nat} {bh : Nat → Option Nat} {mk : Nat → Bool} {p2 p3 ev e v all i : Nat} {more : Bool} {Q Q' : Prop}
theorem INV.ok (h : INV c xm bh mk p2 p3 ev o) {y : Nat → Nat} (hy : StY c xm bh mk p2 p3 ev y) : OKY c ev y o := ⟨h.2.1, h.2.2.2 y hy⟩
theorem INV.up (h : INV c xm bh mk p2 p3 ev o) (he : e < ev) (hlt : v < o (16 * e)) (hv : ∀ y, StY c xm bh mk p2 p3 ev y → y e ≤ v) : INV c xm bh mk p2 p3 ev (va_up o (16 * e) v) := by
  obtain ⟨h1, h2, h3, h4⟩ := h
  refine ⟨fun j => ?_, fun j hj hne => ?_, fun e' he' => ?_, fun y hy e' he' => ?_⟩
  · by_cases hj : j = 16 * e
    · subst hj; rw [va_up_self]; exact Nat.le_trans (Nat.le_of_lt hlt) (h1 _)
    · rw [va_up_ne _ _ hj]; exact h1 j
  · rw [va_up_ne _ _ (hne e he)]; exact h2 j hj hne
  · by_cases hj : e' = e
    · subst hj; rw [va_up_self]; exact Nat.le_trans (Nat.le_of_lt hlt) (h3 _ he')
    · rw [va_up_ne _ _ (by omega)]; exact h3 e' he'
  · by_cases hj : e' = e
    · subst hj; rw [va_up_self]; exact hv y hy
    · rw [va_up_ne _ _ (by omega)]; exact h4 y hy e' he'
/-- a pass from oS on: where it stands -/
def PS (c xm : Nat → Nat) (bh : Nat → Option Nat) (mk : Nat → Bool) (p2 p3 ev : Nat) (oS o : Nat → Nat) (more : Bool) (Q : Prop) : Prop := INV c xm bh mk p2 p3 ev o ∧ sumO o ev ≤ sumO oS ev ∧ (more = true → sumO o ev < sumO oS ev) ∧ (more = false → o = oS ∧ Q)
theorem PS.ch (h : PS c xm bh mk p2 p3 ev oS o more Q) (he : e < ev) (hlt : v < o (16 * e)) (hv : ∀ y, StY c xm bh mk p2 p3 ev y → y e ≤ v) : PS c xm bh mk p2 p3 ev oS (va_up o (16 * e) v) true Q' := by
  obtain ⟨h1, h2, h3, h4⟩ := h
  have := sumO_up hlt he
  exact ⟨h1.up he hlt hv, by omega, fun _ => by omega, fun q => by cases q⟩
theorem PS.no (h : PS c xm bh mk p2 p3 ev oS o more Q) (hQ : o = oS → Q → Q') : PS c xm bh mk p2 p3 ev oS o more Q' := ⟨h.1, h.2.1, h.2.2.1, fun q => ⟨(h.2.2.2 q).1, hQ (h.2.2.2 q).1 (h.2.2.2 q).2⟩⟩
def ALY (c xm : Nat → Nat) (bh : Nat → Option Nat) (mk : Nat → Bool) (p2 p3 ev all : Nat) : Prop := all ≤ 268435456 ∧ ∀ y, StY c xm bh mk p2 p3 ev y → ∀ e, e < ev → mk e = true → y e ≤ all + p3
theorem mfold_at {g : Nat → Nat} {k i acc : Nat} : acc ≤ mfold g k i acc ∨ ∃ j, i ≤ j ∧ j < i + k ∧ g j ≤ mfold g k i acc := mfold_le.mp (Nat.le_refl _)
theorem mfold_ge {g : Nat → Nat} {k i acc j : Nat} (h1 : i ≤ j) (h2 : j < i + k) : mfold g k i acc ≤ g j := mfold_le.mpr (Or.inr ⟨j, h1, h2, Nat.le_refl _⟩)
theorem ALY.st (h : ALY c xm bh mk p2 p3 ev all) (hI : INV c xm bh mk p2 p3 ev o) (he : e < ev) : ALY c xm bh mk p2 p3 ev (alE o (xm e) e all) := by
  refine ⟨Nat.le_trans mfold_acc h.1, fun y hy e' he' hm => ?_⟩
  rcases mfold_at (g := fun b => o (16 * e + b)) (k := 2 ^ xm e) (i := 0) (acc := all) with q | ⟨j, -, hj, q⟩
  · exact Nat.le_trans (h.2 y hy e' he' hm) (Nat.add_le_add_right q _)
  · have := (hy.2 o hI.1 (hI.ok hy) e he).2.2 j (by omega) e' he' hm
    exact Nat.le_trans this (Nat.add_le_add_right q _)
theorem ALY.N (hc : ∀ j, c j ≤ 268435456) : ALY c xm bh mk p2 p3 ev 268435456 := ⟨Nat.le_refl _, fun y hy e he _ => Nat.le_trans (hy.1 e he) (Nat.le_trans (hc _) (Nat.le_add_right _ _))⟩
/-- what the events below i are found to do -/
def QEv (xm : Nat → Nat) (bh : Nat → Option Nat) (p2 ev : Nat) (oS : Nat → Nat) (all i : Nat) : Prop := (∀ e, e < i → clE oS xm bh p2 ev e) ∧ ∀ e, e < i → ∀ b, b < 2 ^ xm e → all ≤ oS (16 * e + b)
theorem QEv.st (h : QEv xm bh p2 ev oS all i) (hcl : clE oS xm bh p2 ev i) : QEv xm bh p2 ev oS (alE oS (xm i) i all) (i + 1) := by
  refine ⟨fun e he => ?_, fun e he b hb => ?_⟩
  · by_cases q : e = i
    · subst q; exact hcl
    · exact h.1 e (by omega)
  · by_cases q : e = i
    · subst q; exact mfold_ge (g := fun b => oS (16 * e + b)) (Nat.zero_le _) (by omega)
    · exact Nat.le_trans mfold_acc (h.2 e (by omega) b hb)
/-- what bringDown comes to -/
def BDF (c xm : Nat → Nat) (bh : Nat → Option Nat) (mk : Nat → Bool) (p2 p3 ev : Nat) (o : Nat → Nat) : Prop := INV c xm bh mk p2 p3 ev o ∧ (∀ e, e < ev → clE o xm bh p2 ev e) ∧ ∃ all, (∀ e, e < ev → ∀ b, b < 2 ^ xm e → all ≤ o (16 * e + b)) ∧ (all < 268435456 → ∀ e, e < ev → mk e = true → o (16 * e) ≤ all + p3)
end
theorem ntb {n b : Nat} (hn : n ≤ 4) (hb : b < 2 ^ n) : nI (2 ^ n - 1) &&& (nI b ^^^ (-1)) = nI (2 ^ n - 1 - b) := by
  have h4 := pw4 hn
  have : ∀ n : Fin 5, ∀ b : Fin 16, b.1 < 2 ^ n.1 → nI (2 ^ n.1 - 1) &&& (nI b.1 ^^^ (-1)) = nI (2 ^ n.1 - 1 - b.1) := by decide +kernel
  exact this ⟨n, by omega⟩ ⟨b, by omega⟩ hb
theorem ones_st {b : Nat} (hb : b < 16) (h0 : b ≠ 0) : ones (b &&& (b - 1)) + 1 = ones b ∧ b &&& (b - 1) < b := by
  have : ∀ b : Fin 16, b.1 ≠ 0 → ones (b.1 &&& (b.1 - 1)) + 1 = ones b.1 ∧ b.1 &&& (b.1 - 1) < b.1 := by decide +kernel
  exact this ⟨b, hb⟩ h0
theorem lv_step {o : Nat → Nat} {p n e b lev : Nat} {L : Nat} (h : b < 2 ^ n) (hl : mfold (fun b => if o (16 * e + b) < 268435456 then o (16 * e + b) + p * ones (2 ^ n - 1 - b) else 268435456) (2 ^ n - b) b lev = L) (hlev : lev ≤ 268435456) : mfold (fun b => if o (16 * e + b) < 268435456 then o (16 * e + b) + p * ones (2 ^ n - 1 - b) else 268435456) (2 ^ n - (b + 1)) (b + 1) (if o (16 * e + b) < 268435456 then min lev (o (16 * e + b) + p * ones (2 ^ n - 1 - b)) else lev) = L := by
  rw [mf_step h] at hl
  rw [← hl]
  congr 1
  by_cases q : o (16 * e + b) < 268435456
  · simp only [if_pos q]
  · simp only [if_neg q]; omega
theorem al_step {o : Nat → Nat} {n e b all L : Nat} (h : b < 2 ^ n) (hl : mfold (fun b => o (16 * e + b)) (2 ^ n - b) b all = L) (hall : all ≤ 268435456) (ho : o (16 * e + b) ≤ 268435456) : mfold (fun b => o (16 * e + b)) (2 ^ n - (b + 1)) (b + 1) (if o (16 * e + b) < 268435456 then min all (o (16 * e + b)) else all) = L := by
  rw [mf_step h] at hl
  rw [← hl]
  congr 1
  split
  · rfl
  · omega
end BD
abbrev rX6_full : Room := { frames := 0, cells := 0, slots := 0, locals := 0 }
theorem flX6_full_20 : FL wsX6_full RX6 20 6 11 := ⟨RX6, TX6, 45, rfl, by decide, by decide +kernel, by decide +kernel⟩
set_option maxHeartbeats 4000000 in
set_option maxRecDepth 100000 in
theorem m_full {xm : Nat → Nat} {e : Nat} {w : pW} {A : Nat → Nat} {mm : Nat} {fs : List Value} (hAD : AD A mm) (hmm : w mm = some (.inr (6, fs))) (hA : RA A fs) (a11 : w (A 11) = some (.inl (0, 100, .inl (fun j9 => nI (xm j9))))) (he : e < 100) (hm : xm e ≤ 4) : Ct yX6_full wsX6_full rX6_full [.ref mm, .int (nI e)] w (fun o w9 => o = .inl (some (.int (nI (2 ^ xm e - 1)))) ∧ w9 = w) := by
  refine Ct.of (cc := cX6_full) (own := RX6) (nm := "full") (nL := 2) (ret := (some .int)) (by decide +kernel) rfl rfl rfl (Nat.le_of_ble_eq_true rfl) ?_
  refine j_lvE (lv' := [(0, .ref mm), (1, .int (nI e))]) rfl ?_
  have hp4 := pw4 hm
  refine j_iconst (v := nI 1) dX6_full_0 (by decide) ?_
  refine j_aload_n dX6_full_1 0 rfl ?_
  refine j_get (v := .ref (A 11)) flX6_full_20 hmm (hA.2 11 rfl) dX6_full_2 ?_
  refine j_iload_n dX6_full_5 1 rfl ?_
  refine j_ialdN (j := e) a11 rfl (by omega) (by omega) dX6_full_6 ?_
  refine j_ishl dX6_full_7 ?_
  refine j_eqi (y := nI (2 ^ xm e)) (sh4 (by omega)) ?_
  refine j_iconst (v := nI 1) dX6_full_8 (by decide) ?_
  refine j_isubN (by omega) dX6_full_9 ?_
  exact j_iret rfl ⟨rfl, rfl⟩ (show 0 ≤ 0 by omega) (show 0 ≤ 0 by omega) dX6_full_10
abbrev rX6_ones : Room := { frames := 0, cells := 0, slots := 0, locals := 0 }

set_option maxHeartbeats 4000000 in
set_option maxRecDepth 100000 in
theorem l_ones {w : pW} {x : Nat} : ∀ (m9 : Nat) (n : Nat) (b : Nat), b < m9 → (b < 16) → (n + ones b = ones x) → J ((cX6_ones, RX6, 3, wsX6_ones), (rX6_ones, (some .int), "ones", []), fun o w9 => o = .inl (some (.int (nI (ones x)))) ∧ w9 = w, fun _ _ _ => True) 4 [(0, .int (nI x)), (1, .int (nI n)), (2, .int (nI b))] [] w 0 0 := by
  intro m9
  induction m9 with
  | zero => intro n b h9; omega
  | succ m9 ih =>
    intro n b hm9 hb hn
    refine j_iload_n dX6_ones_4 2 rfl ?_
    refine j_if_eqN 20 (by omega) dX6_ones_5 (by decide) (fun c5 => ?_) (fun c5 => ?_)
    · skip
      refine j_iload_n dX6_ones_20 1 rfl ?_
      rw [c5] at hn
      exact j_iret rfl ⟨by rw [← hn]; rfl, rfl⟩ (show 0 ≤ 0 by omega) (show 0 ≤ 0 by omega) dX6_ones_21
    · skip
      refine j_iinc (q := 1) (v := nI (n + 1)) (lv' := [(1, .int (nI (n + 1))), (0, .int (nI x)), (2, .int (nI b))]) dX6_ones_8 rfl (by first | exact nI_1 _ | exact nI_add _ _) (Nat.le_of_ble_eq_true rfl) rfl ?_
      refine j_iload_n dX6_ones_11 2 rfl ?_
      refine j_iload_n dX6_ones_12 2 rfl ?_
      refine j_iconst (v := nI 1) dX6_ones_13 (by decide) ?_
      refine j_isubN (by omega) dX6_ones_14 ?_
      refine j_iand dX6_ones_15 ?_
      refine j_eqi (y := nI (b &&& (b - 1))) (fa_and _ _) ?_
      have ho := ones_st hb (by omega)
      refine j_istore_n (lv' := [(2, .int (nI (b &&& (b - 1)))), (1, .int (nI (n + 1))), (0, .int (nI x))]) dX6_ones_16 (Nat.le_of_ble_eq_true rfl) rfl ?_
      refine j_goto 4 dX6_ones_17 (by decide) ?_
      refine j_lv (lv' := [(0, .int (nI x)), (1, .int (nI (n + 1))), (2, .int (nI (b &&& (b - 1))))]) [2, 1, 0] rfl ?_
      exact ih (n + 1) (b &&& (b - 1)) (by omega) (by omega) (by omega)
set_option maxHeartbeats 4000000 in
set_option maxRecDepth 100000 in
theorem m_ones {w : pW} {x : Nat} (hx : x < 16) : Ct yX6_ones wsX6_ones rX6_ones [.int (nI x)] w (fun o w9 => o = .inl (some (.int (nI (ones x)))) ∧ w9 = w) := by
  refine Ct.of (cc := cX6_ones) (own := RX6) (nm := "ones") (nL := 3) (ret := (some .int)) (by decide +kernel) rfl rfl rfl (Nat.le_of_ble_eq_true rfl) ?_
  refine j_lvE (lv' := [(0, .int (nI x))]) rfl ?_
  refine j_iconst (v := nI 0) dX6_ones_0 (by decide) ?_
  refine j_istore_n (lv' := [(1, .int (nI 0)), (0, .int (nI x))]) dX6_ones_1 (Nat.le_of_ble_eq_true rfl) rfl ?_
  refine j_iload_n dX6_ones_2 1 rfl ?_
  refine j_istore_n (lv' := [(2, .int (nI x)), (1, .int (nI 0)), (0, .int (nI x))]) dX6_ones_3 (Nat.le_of_ble_eq_true rfl) rfl ?_
  refine j_lv (lv' := [(0, .int (nI x)), (1, .int (nI 0)), (2, .int (nI x))]) [2, 1, 0] rfl ?_
  exact l_ones _ 0 x (Nat.lt_succ_self _) hx (by omega)
abbrev rX6_bring : Room := { frames := 0, cells := 0, slots := 0, locals := 0 }
theorem flX6_bring_65 : FL wsX6_bring RX6 65 6 39 := ⟨RX6, TX6, 45, rfl, by decide, by decide +kernel, by decide +kernel⟩
set_option maxHeartbeats 4000000 in
set_option maxRecDepth 100000 in
theorem m_bringN {o : Nat → Nat} {e v : Nat} {w : pW} {A : Nat → Nat} {mm : Nat} {fs : List Value} (hAD : AD A mm) (hmm : w mm = some (.inr (6, fs))) (hA : RA A fs) (a39 : w (A 39) = some (.inl (0, 1600, .inl (fun j9 => nI (o j9))))) (he : e < 100) (hv : v < 2 ^ 31) (hob : o (16 * e) < 2 ^ 31) (hn : ¬ v < o (16 * e)) : Ct yX6_bring wsX6_bring rX6_bring [.ref mm, .int (nI e), .int (nI v)] w (fun o w9 => o = .inl (some (.int (nI 0))) ∧ w9 = w) := by
  refine Ct.of (cc := cX6_bring) (own := RX6) (nm := "bring") (nL := 3) (ret := (some .boolean)) (by decide +kernel) rfl rfl rfl (Nat.le_of_ble_eq_true rfl) ?_
  refine j_lvE (lv' := [(0, .ref mm), (1, .int (nI e)), (2, .int (nI v))]) rfl ?_
  refine j_iload_n dX6_bring_0 2 rfl ?_
  refine j_aload_n dX6_bring_1 0 rfl ?_
  refine j_get (v := .ref (A 39)) flX6_bring_65 hmm (hA.2 39 rfl) dX6_bring_2 ?_
  refine j_bipush (v := nI 16) dX6_bring_5 (by decide) ?_
  refine j_iload_n dX6_bring_7 1 rfl ?_
  refine j_imulN dX6_bring_8 ?_
  refine j_ialdN (j := 16 * e) a39 rfl (by omega) (by omega) dX6_bring_9 ?_
  refine j_icmp_ltN 15 (by omega) (by omega) dX6_bring_10 (by decide) (fun c10 => ?_) (fun c10 => ?_)
  · skip
    exfalso; omega
  · skip
    refine j_iconst (v := nI 0) dX6_bring_13 (by decide) ?_
    exact j_zret rfl (Or.inl rfl) ⟨rfl, rfl⟩ (show 0 ≤ 0 by omega) (show 0 ≤ 0 by omega) dX6_bring_14
set_option maxHeartbeats 4000000 in
set_option maxRecDepth 100000 in
theorem m_bringY {o : Nat → Nat} {e v : Nat} {w : pW} {A : Nat → Nat} {mm : Nat} {fs : List Value} (hAD : AD A mm) (hmm : w mm = some (.inr (6, fs))) (hA : RA A fs) (a39 : w (A 39) = some (.inl (0, 1600, .inl (fun j9 => nI (o j9))))) (he : e < 100) (hv : v < 2 ^ 31) (hob : o (16 * e) < 2 ^ 31) (hy : v < o (16 * e)) : Ct yX6_bring wsX6_bring rX6_bring [.ref mm, .int (nI e), .int (nI v)] w (fun o9 w9 => o9 = .inl (some (.int (nI 1))) ∧ FrI A [] [39] w w9 ∧ w9 (A 39) = some (.inl (0, 1600, .inl (fun j9 => nI ((va_up o (16 * e) v) j9))))) := by
  refine Ct.of (cc := cX6_bring) (own := RX6) (nm := "bring") (nL := 3) (ret := (some .boolean)) (by decide +kernel) rfl rfl rfl (Nat.le_of_ble_eq_true rfl) ?_
  refine j_lvE (lv' := [(0, .ref mm), (1, .int (nI e)), (2, .int (nI v))]) rfl ?_
  refine j_iload_n dX6_bring_0 2 rfl ?_
  refine j_aload_n dX6_bring_1 0 rfl ?_
  refine j_get (v := .ref (A 39)) flX6_bring_65 hmm (hA.2 39 rfl) dX6_bring_2 ?_
  refine j_bipush (v := nI 16) dX6_bring_5 (by decide) ?_
  refine j_iload_n dX6_bring_7 1 rfl ?_
  refine j_imulN dX6_bring_8 ?_
  refine j_ialdN (j := 16 * e) a39 rfl (by omega) (by omega) dX6_bring_9 ?_
  refine j_icmp_ltN 15 (by omega) (by omega) dX6_bring_10 (by decide) (fun c10 => ?_) (fun c10 => ?_)
  · skip
    refine j_aload_n dX6_bring_15 0 rfl ?_
    refine j_get (v := .ref (A 39)) flX6_bring_65 hmm (hA.2 39 rfl) dX6_bring_16 ?_
    refine j_bipush (v := nI 16) dX6_bring_19 (by decide) ?_
    refine j_iload_n dX6_bring_21 1 rfl ?_
    refine j_imulN dX6_bring_22 ?_
    refine j_iload_n dX6_bring_23 2 rfl ?_
    refine j_iastn (j := 16 * e) (x := v) a39 rfl (by omega) (by omega) dX6_bring_24 ?_
    refine j_w (fun w1 hw1 => ?_)
    have f2 : w1 (A 39) = some (.inl (0, 1600, .inl (fun j9 => nI ((va_up o (16 * e) v) j9)))) := up_at hw1
    refine j_iconst (v := nI 1) dX6_bring_25 (by decide) ?_
    exact j_zret rfl (Or.inr rfl) ⟨rfl, ((FrI.refl : FrI A [] [39] w w).trans (FrI.ua hw1 rfl)), f2⟩ (show 0 ≤ 0 by omega) (show 0 ≤ 0 by omega) dX6_bring_26
  · skip
    exfalso; omega
abbrev rX6_bringDown : Room := { frames := 1, cells := 0, slots := 0, locals := 24 }
theorem flX6_bringDown_65 : FL wsX6_bringDown RX6 65 6 39 := ⟨RX6, TX6, 45, rfl, by decide, by decide +kernel, by decide +kernel⟩
set_option maxRecDepth 100000 in
theorem mX6_bringDown_0 : Cond.constant RX6 202 (268435456) ∈ wsX6_bringDown := by decide +kernel
set_option maxRecDepth 100000 in
theorem mX6_bringDown_1 : Cond.methodLink RX6 112 Lib.Math.min.name ∈ wsX6_bringDown := by decide +kernel
set_option maxRecDepth 100000 in
theorem mX6_bringDown_2 : Cond.static Lib.Math.min.name ∈ wsX6_bringDown := by decide +kernel
set_option maxRecDepth 100000 in
theorem mX6_bringDown_3 : Cond.initialized "java/lang/Math" ∈ wsX6_bringDown := by decide +kernel
set_option maxRecDepth 100000 in
theorem mX6_bringDown_4 : Cond.code Lib.Math.min.name Lib.Math.min.code 2 (some .int) ∈ wsX6_bringDown := by decide +kernel
theorem flX6_bringDown_68 : FL wsX6_bringDown RX6 68 6 40 := ⟨RX6, TX6, 45, rfl, by decide, by decide +kernel, by decide +kernel⟩
set_option maxHeartbeats 4000000 in
set_option maxRecDepth 100000 in
theorem l_bdB {c xm p : Nat → Nat} {xl xi : Nat → Int32} {bh : Nat → Option Nat} {mk : Nat → Bool} {ev r : Nat} {w0 : pW} {fs : List Value} {A : Nat → Nat} {mm : Nat} (hAD : AD A mm) (hA : RA A fs) (h5 : fs[5]? = some (.int (nI ev))) (hev : ev ≤ 100) (hm4 : ∀ e, e < ev → xm e ≤ 4) (hpb : ∀ j, p j ≤ 50) (hxl : ∀ e, e < ev → xl e = on1 (bh e) ∧ ∀ b, bh e = some b → b ≤ e) (hxi : ∀ e, e < ev → xi e = zb (mk e)) (hcN : ∀ j, c j ≤ 268435456) {w : pW} {o : Nat → Nat} {e L AL : Nat} {more : Bool} (hmm : w mm = some (.inr (6, fs))) (hfr : FrI A [] [39] w0 w) (a11 : w (A 11) = some (.inl (0, 100, .inl (fun j9 => nI (xm j9))))) (a17 : w (A 17) = some (.inl (0, 100, .inl xl))) (a18 : w (A 18) = some (.inl (2, 100, .inl xi))) (a40 : w (A 40) = some (.inl (0, 4, .inl (fun j9 => nI (p j9))))) (a39 : w (A 39) = some (.inl (0, 1600, .inl (fun j9 => nI (o j9))))) (hob : ∀ j, o j ≤ 268435456) (he : e < ev) (hc : J ((cX6_bringDown, RX6, 8, wsX6_bringDown), (rX6_bringDown, none, "bringDown", []), fun o9 w9 => o9 = .inl none ∧ FrI A [] [39] w0 w9 ∧ ∃ o : Nat → Nat, w9 (A 39) = some (.inl (0, 1600, .inl (fun j9 => nI (o j9)))) ∧ BDF c xm bh mk (p 2) (p 3) ev o, fun _ _ _ => True) 134 [(0, .ref mm), (1, .ref r), (2, .int (zb more)), (3, .int (nI AL)), (4, .int (nI e)), (5, .int (nI L)), (6, .int (nI (2 ^ xm e)))] [] w 0 0) : ∀ (m9 : Nat) (all : Nat) (lev : Nat) (b : Nat), 2 ^ xm e - b < m9 → (b ≤ 2 ^ xm e) → (mfold (fun b => if o (16 * e + b) < 268435456 then o (16 * e + b) + p 2 * ones (2 ^ xm e - 1 - b) else 268435456) (2 ^ xm e - b) b lev = L) → (mfold (fun b => o (16 * e + b)) (2 ^ xm e - b) b all = AL) → (lev ≤ 268435456) → (all ≤ 268435456) → J ((cX6_bringDown, RX6, 8, wsX6_bringDown), (rX6_bringDown, none, "bringDown", []), fun o9 w9 => o9 = .inl none ∧ FrI A [] [39] w0 w9 ∧ ∃ o : Nat → Nat, w9 (A 39) = some (.inl (0, 1600, .inl (fun j9 => nI (o j9)))) ∧ BDF c xm bh mk (p 2) (p 3) ev o, fun _ _ _ => True) 54 [(0, .ref mm), (1, .ref r), (2, .int (zb more)), (3, .int (nI all)), (4, .int (nI e)), (5, .int (nI lev)), (6, .int (nI b))] [] w 0 0 := by
  intro m9
  induction m9 with
  | zero => intro all lev b h9; omega
  | succ m9 ih =>
    intro all lev b hm9 hb hl hal hlev hall
    have hp4 := pw4 (hm4 e he)
    refine j_iload dX6_bringDown_54 6 rfl ?_
    refine j_aload_n dX6_bringDown_56 0 rfl ?_
    refine j_iload dX6_bringDown_57 4 rfl ?_
    refine j_callV (rm := rX6_full) (As := [.int (nI e)]) (st := [.int (nI b)]) (b0 := mm) (ci := 6) (na := 1) (m_full hAD hmm hA a11 (by omega) (hm4 _ (by omega))) (by intro E w9 h9; first | exact nomatch h9.1 | (obtain ⟨_, h9, _⟩ := h9; exact nomatch h9) | (obtain ⟨_, _, _, h9, _⟩ := h9; exact nomatch h9)) gX6_bringDown_X6_full rfl rfl hmm (by decide +kernel) rfl ⟨Nat.le_of_ble_eq_true rfl, Nat.le_of_ble_eq_true rfl⟩ rfl (Nat.le_of_ble_eq_true rfl) dX6_bringDown_59 ⟨(show 0 + 0 ≤ 0 by omega), (show 0 + 0 ≤ 0 by omega)⟩ (fun v1 w2 h3 => ?_)
    obtain ⟨h3, h4⟩ := h3
    cases h3
    subst w2
    refine j_after (st' := [.int (nI (2 ^ xm e - 1)), .int (nI b)]) (k' := 0) (n' := 0) rfl rfl rfl ?_
    refine j_icmp_gtN 134 (by omega) (by omega) dX6_bringDown_62 (by decide) (fun c62 => ?_) (fun c62 => ?_)
    · skip
      refine j_lv (lv' := [(0, .ref mm), (1, .ref r), (2, .int (zb more)), (3, .int (nI all)), (4, .int (nI e)), (5, .int (nI lev)), (6, .int (nI b))]) [0, 1, 2, 3, 4, 5, 6] rfl ?_
      have hbn : b = 2 ^ xm e := by omega
      subst hbn
      rw [Nat.sub_self] at hl hal
      have q1 : lev = L := hl
      have q2 : all = AL := hal
      subst q1 q2
      exact hc
    · skip
      refine j_aload_n dX6_bringDown_65 0 rfl ?_
      refine j_get (v := .ref (A 39)) flX6_bringDown_65 hmm (hA.2 39 rfl) dX6_bringDown_66 ?_
      refine j_bipush (v := nI 16) dX6_bringDown_69 (by decide) ?_
      refine j_iload dX6_bringDown_71 4 rfl ?_
      refine j_imulN dX6_bringDown_73 ?_
      refine j_iload dX6_bringDown_74 6 rfl ?_
      refine j_iaddN dX6_bringDown_76 ?_
      refine j_ialdN (j := (16 * e) + b) a39 rfl (by omega) (by omega) dX6_bringDown_77 ?_
      have hb5 := hob ((16 * e) + b)
      refine j_istore (lv' := [(7, .int (nI (o ((16 * e) + b)))), (0, .ref mm), (1, .ref r), (2, .int (zb more)), (3, .int (nI all)), (4, .int (nI e)), (5, .int (nI lev)), (6, .int (nI b))]) dX6_bringDown_78 (Nat.le_of_ble_eq_true rfl) rfl ?_
      refine j_iload dX6_bringDown_80 0 rfl ?_
      refine j_ldc (v := nI 268435456) dX6_bringDown_82 mX6_bringDown_0 ?_
      refine j_icmp_ltN 90 (by omega) (by omega) dX6_bringDown_84 (by decide) (fun c84 => ?_) (fun c84 => ?_)
      · skip
        refine j_iload_n dX6_bringDown_90 4 rfl ?_
        refine j_iload dX6_bringDown_91 0 rfl ?_
        refine j_min mX6_bringDown_1 mX6_bringDown_2 mX6_bringDown_3 mX6_bringDown_4 (Nat.le_of_ble_eq_true rfl) (Nat.le_of_ble_eq_true rfl) ⟨(show 0 ≤ 0 by omega), (show 0 ≤ 0 by omega)⟩ dX6_bringDown_93 ?_
        refine j_eqi (y := nI (min all (o ((16 * e) + b)))) (mnN (by omega) (by omega)) ?_
        refine j_istore_n (lv' := [(3, .int (nI (min all (o ((16 * e) + b))))), (7, .int (nI (o ((16 * e) + b)))), (0, .ref mm), (1, .ref r), (2, .int (zb more)), (4, .int (nI e)), (5, .int (nI lev)), (6, .int (nI b))]) dX6_bringDown_96 (Nat.le_of_ble_eq_true rfl) rfl ?_
        refine j_iload dX6_bringDown_97 6 rfl ?_
        refine j_iload dX6_bringDown_99 1 rfl ?_
        refine j_aload_n dX6_bringDown_101 2 rfl ?_
        refine j_get (v := .ref (A 40)) flX6_bringDown_68 hmm (hA.2 40 rfl) dX6_bringDown_102 ?_
        refine j_iconst (v := nI 2) dX6_bringDown_105 (by decide) ?_
        refine j_ialdN (j := 2) a40 rfl (by omega) (by omega) dX6_bringDown_106 ?_
        have hb6 := hpb 2
        refine j_aload_n dX6_bringDown_107 2 rfl ?_
        refine j_iload dX6_bringDown_108 5 rfl ?_
        refine j_callV (rm := rX6_full) (As := [.int (nI e)]) (st := [.int (nI (p 2)), .int (nI (o ((16 * e) + b))), .int (nI lev)]) (b0 := mm) (ci := 6) (na := 1) (m_full hAD hmm hA a11 (by omega) (hm4 _ (by omega))) (by intro E w9 h9; first | exact nomatch h9.1 | (obtain ⟨_, h9, _⟩ := h9; exact nomatch h9) | (obtain ⟨_, _, _, h9, _⟩ := h9; exact nomatch h9)) gX6_bringDown_X6_full rfl rfl hmm (by decide +kernel) rfl ⟨Nat.le_of_ble_eq_true rfl, Nat.le_of_ble_eq_true rfl⟩ rfl (Nat.le_of_ble_eq_true rfl) dX6_bringDown_110 ⟨(show 0 + 0 ≤ 0 by omega), (show 0 + 0 ≤ 0 by omega)⟩ (fun v7 w8 h9 => ?_)
        obtain ⟨h9, h10⟩ := h9
        cases h9
        subst w8
        refine j_after (st' := [.int (nI (2 ^ xm e - 1)), .int (nI (p 2)), .int (nI (o ((16 * e) + b))), .int (nI lev)]) (k' := 0) (n' := 0) rfl rfl rfl ?_
        refine j_iload dX6_bringDown_113 7 rfl ?_
        refine j_iconst (v := (-1)) dX6_bringDown_115 (by decide) ?_
        refine j_ixor dX6_bringDown_116 ?_
        refine j_iand dX6_bringDown_117 ?_
        refine j_eqi (y := nI (2 ^ xm e - 1 - b)) (ntb (hm4 e he) (by omega)) ?_
        refine j_callS (rm := rX6_ones) (As := [.int (nI (2 ^ xm e - 1 - b))]) (st := [.int (nI (p 2)), .int (nI (o ((16 * e) + b))), .int (nI lev)]) (na := 1) (m_ones (x := 2 ^ xm e - 1 - b) (by omega)) (by intro E w9 h9; first | exact nomatch h9.1 | (obtain ⟨_, h9, _⟩ := h9; exact nomatch h9) | (obtain ⟨_, _, _, h9, _⟩ := h9; exact nomatch h9)) gX6_bringDown_X6_ones rfl (by decide +kernel) rfl ⟨Nat.le_of_ble_eq_true rfl, Nat.le_of_ble_eq_true rfl⟩ rfl (Nat.le_of_ble_eq_true rfl) dX6_bringDown_118 ⟨(show 0 + 0 ≤ 0 by omega), (show 0 + 0 ≤ 0 by omega)⟩ (fun v11 w12 h13 => ?_)
        obtain ⟨h13, h14⟩ := h13
        cases h13
        subst w12
        refine j_after (st' := [.int (nI (ones (2 ^ xm e - 1 - b))), .int (nI (p 2)), .int (nI (o ((16 * e) + b))), .int (nI lev)]) (k' := 0) (n' := 0) rfl rfl rfl ?_
        have hpo : p 2 * ones (2 ^ xm e - 1 - b) ≤ 200 := Nat.le_trans (Nat.mul_le_mul (hpb 2) (ones_le _)) (by decide)
        refine j_imulN dX6_bringDown_121 ?_
        refine j_iaddN dX6_bringDown_122 ?_
        refine j_min mX6_bringDown_1 mX6_bringDown_2 mX6_bringDown_3 mX6_bringDown_4 (Nat.le_of_ble_eq_true rfl) (Nat.le_of_ble_eq_true rfl) ⟨(show 0 ≤ 0 by omega), (show 0 ≤ 0 by omega)⟩ dX6_bringDown_123 ?_
        refine j_eqi (y := nI (min lev ((o ((16 * e) + b)) + ((p 2) * (ones (2 ^ xm e - 1 - b)))))) (mnN (by omega) (by omega)) ?_
        refine j_istore (lv' := [(5, .int (nI (min lev ((o ((16 * e) + b)) + ((p 2) * (ones (2 ^ xm e - 1 - b))))))), (3, .int (nI (min all (o ((16 * e) + b))))), (7, .int (nI (o ((16 * e) + b)))), (0, .ref mm), (1, .ref r), (2, .int (zb more)), (4, .int (nI e)), (6, .int (nI b))]) dX6_bringDown_126 (Nat.le_of_ble_eq_true rfl) rfl ?_
        refine j_iinc (q := 7) (v := nI (b + 1)) (lv' := [(6, .int (nI (b + 1))), (5, .int (nI (min lev ((o ((16 * e) + b)) + ((p 2) * (ones (2 ^ xm e - 1 - b))))))), (3, .int (nI (min all (o ((16 * e) + b))))), (7, .int (nI (o ((16 * e) + b)))), (0, .ref mm), (1, .ref r), (2, .int (zb more)), (4, .int (nI e))]) dX6_bringDown_128 rfl (by first | exact nI_1 _ | exact nI_add _ _) (Nat.le_of_ble_eq_true rfl) rfl ?_
        refine j_goto 54 dX6_bringDown_131 (by decide) ?_
        refine j_lv (lv' := [(0, .ref mm), (1, .ref r), (2, .int (zb more)), (3, .int (nI (min all (o ((16 * e) + b))))), (4, .int (nI e)), (5, .int (nI (min lev ((o ((16 * e) + b)) + ((p 2) * (ones (2 ^ xm e - 1 - b))))))), (6, .int (nI (b + 1)))]) [4, 5, 6, 2, 7, 1, 0] rfl ?_
        refine ih (min all (o ((16 * e) + b))) (min lev ((o ((16 * e) + b)) + ((p 2) * (ones (2 ^ xm e - 1 - b))))) (b + 1) (by omega) (by omega) ?_ ?_ (by omega) (by omega)
        · have q := lv_step (b := b) (by omega) hl (by omega); rw [if_pos c84] at q; exact q
        · have q := al_step (b := b) (by omega) hal (by omega) (hob _); rw [if_pos c84] at q; exact q
      · skip
        refine j_goto 128 dX6_bringDown_87 (by decide) ?_
        refine j_iinc (q := 7) (v := nI (b + 1)) (lv' := [(6, .int (nI (b + 1))), (7, .int (nI (o ((16 * e) + b)))), (0, .ref mm), (1, .ref r), (2, .int (zb more)), (3, .int (nI all)), (4, .int (nI e)), (5, .int (nI lev))]) dX6_bringDown_128 rfl (by first | exact nI_1 _ | exact nI_add _ _) (Nat.le_of_ble_eq_true rfl) rfl ?_
        refine j_goto 54 dX6_bringDown_131 (by decide) ?_
        refine j_lv (lv' := [(0, .ref mm), (1, .ref r), (2, .int (zb more)), (3, .int (nI all)), (4, .int (nI e)), (5, .int (nI lev)), (6, .int (nI (b + 1)))]) [2, 3, 4, 5, 6, 7, 0] rfl ?_
        refine ih all lev (b + 1) (by omega) (by omega) ?_ ?_ (by omega) (by omega)
        · have q := lv_step (b := b) (by omega) hl (by omega); rw [if_neg (by omega)] at q; exact q
        · have q := al_step (b := b) (by omega) hal (by omega) (hob _); rw [if_neg (by omega)] at q; exact q
theorem flX6_bringDown_144 : FL wsX6_bringDown RX6 144 6 5 := ⟨RX6, TX6, 45, rfl, by decide, by decide +kernel, by decide +kernel⟩
theorem flX6_bringDown_38 : FL wsX6_bringDown RX6 38 6 17 := ⟨RX6, TX6, 45, rfl, by decide, by decide +kernel, by decide +kernel⟩
set_option maxHeartbeats 4000000 in
set_option maxRecDepth 100000 in
theorem l_bd38 {c xm p : Nat → Nat} {xl xi : Nat → Int32} {bh : Nat → Option Nat} {mk : Nat → Bool} {ev r : Nat} {w0 : pW} {fs : List Value} {A : Nat → Nat} {mm : Nat} (hAD : AD A mm) (hA : RA A fs) (h5 : fs[5]? = some (.int (nI ev))) (hev : ev ≤ 100) (hm4 : ∀ e, e < ev → xm e ≤ 4) (hpb : ∀ j, p j ≤ 50) (hxl : ∀ e, e < ev → xl e = on1 (bh e) ∧ ∀ b, bh e = some b → b ≤ e) (hxi : ∀ e, e < ev → xi e = zb (mk e)) (hcN : ∀ j, c j ≤ 268435456) {oS : Nat → Nat} (h221 : ∀ (w : pW) (o : Nat → Nat) (more : Bool) (all : Nat), (w mm = some (.inr (6, fs))) → (FrI A [] [39] w0 w) → (w (A 11) = some (.inl (0, 100, .inl (fun j9 => nI (xm j9))))) → (w (A 17) = some (.inl (0, 100, .inl xl))) → (w (A 18) = some (.inl (2, 100, .inl xi))) → (w (A 40) = some (.inl (0, 4, .inl (fun j9 => nI (p j9))))) → (w (A 39) = some (.inl (0, 1600, .inl (fun j9 => nI (o j9))))) → (PS c xm bh mk (p 2) (p 3) ev oS o more (QEv xm bh (p 2) ev oS all ev)) → (ALY c xm bh mk (p 2) (p 3) ev all) → J ((cX6_bringDown, RX6, 8, wsX6_bringDown), (rX6_bringDown, none, "bringDown", []), fun o9 w9 => o9 = .inl none ∧ FrI A [] [39] w0 w9 ∧ ∃ o : Nat → Nat, w9 (A 39) = some (.inl (0, 1600, .inl (fun j9 => nI (o j9)))) ∧ BDF c xm bh mk (p 2) (p 3) ev o, fun _ _ _ => True) 221 [(0, .ref mm), (1, .ref r), (2, .int (zb more)), (3, .int (nI all)), (4, .int (nI ev))] [] w 0 0) : ∀ (m9 : Nat) (w : pW) (o : Nat → Nat) (i : Nat) (more : Bool) (all : Nat), ev - i < m9 → (w mm = some (.inr (6, fs))) → (FrI A [] [39] w0 w) → (w (A 11) = some (.inl (0, 100, .inl (fun j9 => nI (xm j9))))) → (w (A 17) = some (.inl (0, 100, .inl xl))) → (w (A 18) = some (.inl (2, 100, .inl xi))) → (w (A 40) = some (.inl (0, 4, .inl (fun j9 => nI (p j9))))) → (w (A 39) = some (.inl (0, 1600, .inl (fun j9 => nI (o j9))))) → (PS c xm bh mk (p 2) (p 3) ev oS o more (QEv xm bh (p 2) ev oS all i)) → (ALY c xm bh mk (p 2) (p 3) ev all) → (i ≤ ev) → J ((cX6_bringDown, RX6, 8, wsX6_bringDown), (rX6_bringDown, none, "bringDown", []), fun o9 w9 => o9 = .inl none ∧ FrI A [] [39] w0 w9 ∧ ∃ o : Nat → Nat, w9 (A 39) = some (.inl (0, 1600, .inl (fun j9 => nI (o j9)))) ∧ BDF c xm bh mk (p 2) (p 3) ev o, fun _ _ _ => True) 38 [(0, .ref mm), (1, .ref r), (2, .int (zb more)), (3, .int (nI all)), (4, .int (nI i))] [] w 0 0 := by
  intro m9
  induction m9 with
  | zero => intro w o i more all h9; omega
  | succ m9 ih =>
    intro w o i more all hm9 hmm hfr a11 a17 a18 a40 a39 hPS hAL hi
    have hob := hPS.1.1
    have hALN := hAL.1
    refine j_iload dX6_bringDown_38 4 rfl ?_
    refine j_aload_n dX6_bringDown_40 0 rfl ?_
    refine j_get (v := .int (nI ev)) flX6_bringDown_144 hmm h5 dX6_bringDown_41 ?_
    refine j_icmp_geN 221 (by omega) (by omega) dX6_bringDown_44 (by decide) (fun c44 => ?_) (fun c44 => ?_)
    · skip
      refine j_lv (lv' := [(0, .ref mm), (1, .ref r), (2, .int (zb more)), (3, .int (nI all)), (4, .int (nI i))]) [0, 1, 2, 3, 4] rfl ?_
      have hie : i = ev := by omega
      subst hie
      exact h221 _ _ _ _ hmm (FrI.mono hfr (by simp) rfl : FrI A [] [39] w0 _) a11 a17 a18 a40 a39 hPS hAL
    · skip
      refine j_ldc (v := nI 268435456) dX6_bringDown_47 mX6_bringDown_0 ?_
      refine j_istore (lv' := [(5, .int (nI 268435456)), (0, .ref mm), (1, .ref r), (2, .int (zb more)), (3, .int (nI all)), (4, .int (nI i))]) dX6_bringDown_49 (Nat.le_of_ble_eq_true rfl) rfl ?_
      refine j_iconst (v := nI 0) dX6_bringDown_51 (by decide) ?_
      refine j_istore (lv' := [(6, .int (nI 0)), (5, .int (nI 268435456)), (0, .ref mm), (1, .ref r), (2, .int (zb more)), (3, .int (nI all)), (4, .int (nI i))]) dX6_bringDown_52 (Nat.le_of_ble_eq_true rfl) rfl ?_
      refine j_lv (lv' := [(0, .ref mm), (1, .ref r), (2, .int (zb more)), (3, .int (nI all)), (4, .int (nI i)), (5, .int (nI 268435456)), (6, .int (nI 0))]) [2, 3, 4, 5, 6, 1, 0] rfl ?_
      refine l_bdB (L := lvE o (p 2) (xm i) i) (AL := alE o (xm i) i all) hAD hA h5 hev hm4 hpb hxl hxi hcN hmm (FrI.mono hfr (by simp) rfl : FrI A [] [39] w0 _) a11 a17 a18 a40 a39 hob (by omega) ?_ _ all 268435456 0 (Nat.lt_succ_self _) (Nat.zero_le _) rfl rfl (Nat.le_refl _) hAL.1
      obtain ⟨lev, hlev⟩ : ∃ z, z = lvE o (p 2) (xm i) i := ⟨_, rfl⟩
      obtain ⟨al, hal⟩ : ∃ z, z = alE o (xm i) i all := ⟨_, rfl⟩
      rw [← hlev, ← hal]
      have hAL2 := hAL.st hPS.1 (show i < ev by omega)
      rw [← hal] at hAL2
      have hlN : lev ≤ 268435456 := by rw [hlev]; exact mfold_acc
      have hv1 : ∀ y, StY c xm bh mk (p 2) (p 3) ev y → i + 1 < ev → y (i + 1) ≤ lev := fun y hy => by rw [hlev]; exact (hy.2 o hob (hPS.1.ok hy) i (by omega)).1
      have hv2 : ∀ y, StY c xm bh mk (p 2) (p 3) ev y → ∀ b, bh i = some b → y b ≤ lev := fun y hy => by rw [hlev]; exact (hy.2 o hob (hPS.1.ok hy) i (by omega)).2.1
      have hP1 : PS c xm bh mk (p 2) (p 3) ev oS o more (QEv xm bh (p 2) ev oS all i ∧ lvE oS (p 2) (xm i) i = lev ∧ alE oS (xm i) i all = al) := hPS.no (fun q1 q2 => ⟨q2, by rw [hlev, q1], by rw [hal, q1]⟩)
      refine j_iload dX6_bringDown_134 5 rfl ?_
      refine j_ldc (v := nI 268435456) dX6_bringDown_136 mX6_bringDown_0 ?_
      refine j_icmp_ltN 144 (by omega) (by omega) dX6_bringDown_138 (by decide) (fun c138 => ?_) (fun c138 => ?_)
      · skip
        refine j_iload dX6_bringDown_144 4 rfl ?_
        refine j_iconst (v := nI 1) dX6_bringDown_146 (by decide) ?_
        refine j_iaddN dX6_bringDown_147 ?_
        refine j_aload_n dX6_bringDown_148 0 rfl ?_
        refine j_get (v := .int (nI ev)) flX6_bringDown_144 hmm h5 dX6_bringDown_149 ?_
        refine j_icmp_geN 178 (by omega) (by omega) dX6_bringDown_152 (by decide) (fun c152 => ?_) (fun c152 => ?_)
        · skip
          refine j_aload_n dX6_bringDown_178 0 rfl ?_
          refine j_get (v := .ref (A 17)) flX6_bringDown_38 hmm (hA.2 17 rfl) dX6_bringDown_179 ?_
          refine j_iload dX6_bringDown_182 4 rfl ?_
          refine j_ialdN (j := i) a17 rfl (by omega) (by omega) dX6_bringDown_184 ?_
          cases hq : bh i with
          | none =>
            refine j_eqi (y := (-1)) (by rw [(hxl i (by omega)).1, hq]; rfl) ?_
            refine j_iconst (v := (-1)) dX6_bringDown_185 (by decide) ?_
            refine j_icmp_eq 215 dX6_bringDown_186 (by decide) (fun c186 => ?_) (fun c186 => ?_)
            · skip
              refine j_iinc (q := 4) (v := nI (i + 1)) (lv' := [(4, .int (nI (i + 1))), (0, .ref mm), (1, .ref r), (2, .int (zb more)), (3, .int (nI al)), (5, .int (nI lev)), (6, .int (nI (2 ^ xm i)))]) dX6_bringDown_215 rfl (by first | exact nI_1 _ | exact nI_add _ _) (Nat.le_of_ble_eq_true rfl) rfl ?_
              refine j_goto 38 dX6_bringDown_218 (by decide) ?_
              refine j_lv (lv' := [(0, .ref mm), (1, .ref r), (2, .int (zb more)), (3, .int (nI al)), (4, .int (nI (i + 1)))]) [1, 2, 3, 4, 0] rfl ?_
              have hPf : PS c xm bh mk (p 2) (p 3) ev oS o more (QEv xm bh (p 2) ev oS al (i + 1)) := PS.no hP1 (fun q1 q2 => by rw [← q2.2.2]; exact q2.1.st ⟨fun hb8 => by omega, fun b9 hb9 => by rw [hq] at hb9; cases hb9⟩)
              exact ih _ _ (i + 1) _ _ (by omega) hmm (FrI.mono hfr (by simp) rfl : FrI A [] [39] w0 _) a11 a17 a18 a40 a39 hPf hAL2 (by omega)
            · skip
              exact absurd rfl c186
          | some b =>
            have hbi := (hxl i (by omega)).2 b hq
            refine j_eqi (y := nI b) (by rw [(hxl i (by omega)).1, hq]; rfl) ?_
            refine j_iconst (v := (-1)) dX6_bringDown_185 (by decide) ?_
            refine j_icmp_eq 215 dX6_bringDown_186 (by decide) (fun c186 => ?_) (fun c186 => ?_)
            · skip
              exact absurd c186 (nI_m1 (by omega))
            · skip
              refine j_aload_n dX6_bringDown_189 0 rfl ?_
              refine j_aload_n dX6_bringDown_190 0 rfl ?_
              refine j_get (v := .ref (A 17)) flX6_bringDown_38 hmm (hA.2 17 rfl) dX6_bringDown_191 ?_
              refine j_iload dX6_bringDown_194 4 rfl ?_
              refine j_ialdN (j := i) a17 rfl (by omega) (by omega) dX6_bringDown_196 ?_
              refine j_eqi (y := nI b) (by rw [(hxl i (by omega)).1, hq]; rfl) ?_
              refine j_iload dX6_bringDown_197 5 rfl ?_
              have hbr1b := hob (16 * b)
              by_cases hbr1 : lev < o (16 * b)
              · skip
                refine j_callV (rm := rX6_bring) (As := [.int (nI b), .int (nI lev)]) (st := []) (b0 := mm) (ci := 6) (na := 2) (m_bringY hAD hmm hA a39 (by omega) (by omega) (by omega) hbr1) (by intro E w9 h9; first | exact nomatch h9.1 | (obtain ⟨_, h9, _⟩ := h9; exact nomatch h9) | (obtain ⟨_, _, _, h9, _⟩ := h9; exact nomatch h9)) gX6_bringDown_X6_bring rfl rfl hmm (by decide +kernel) rfl ⟨Nat.le_of_ble_eq_true rfl, Nat.le_of_ble_eq_true rfl⟩ rfl (Nat.le_of_ble_eq_true rfl) dX6_bringDown_199 ⟨(show 0 + 0 ≤ 0 by omega), (show 0 + 0 ≤ 0 by omega)⟩ (fun v5 w6 h7 => ?_)
                obtain ⟨h4, hfr3, f2⟩ := h7
                cases h4
                refine j_after (st' := [.int (nI 1)]) (k' := 0) (n' := 0) rfl rfl rfl ?_
                have hP8 : PS c xm bh mk (p 2) (p 3) ev oS (va_up o (16 * b) lev) true (QEv xm bh (p 2) ev oS all i ∧ lvE oS (p 2) (xm i) i = lev ∧ alE oS (xm i) i all = al ∧ oS (16 * b) ≤ lev) := PS.ch hP1 (by omega) hbr1 (fun y hy => hv2 y hy b hq)
                have hob9 := hP8.1.1
                refine j_if_neN 209 (by decide) dX6_bringDown_202 (by decide) (fun _ => ?_) (fun h9 => absurd h9 (by decide))
                refine j_iconst (v := nI 1) dX6_bringDown_209 (by decide) ?_
                refine j_goto 214 dX6_bringDown_210 (by decide) ?_
                refine j_eqi (y := zb true) rfl ?_
                refine j_istore_n (lv' := [(2, .int (zb true)), (0, .ref mm), (1, .ref r), (3, .int (nI al)), (4, .int (nI i)), (5, .int (nI lev)), (6, .int (nI (2 ^ xm i)))]) dX6_bringDown_214 (Nat.le_of_ble_eq_true rfl) rfl ?_
                refine j_iinc (q := 4) (v := nI (i + 1)) (lv' := [(4, .int (nI (i + 1))), (2, .int (zb true)), (0, .ref mm), (1, .ref r), (3, .int (nI al)), (5, .int (nI lev)), (6, .int (nI (2 ^ xm i)))]) dX6_bringDown_215 rfl (by first | exact nI_1 _ | exact nI_add _ _) (Nat.le_of_ble_eq_true rfl) rfl ?_
                refine j_goto 38 dX6_bringDown_218 (by decide) ?_
                refine j_lv (lv' := [(0, .ref mm), (1, .ref r), (2, .int (zb true)), (3, .int (nI al)), (4, .int (nI (i + 1)))]) [2, 3, 1, 4, 0] rfl ?_
                have hPf : PS c xm bh mk (p 2) (p 3) ev oS (va_up o (16 * b) lev) true (QEv xm bh (p 2) ev oS al (i + 1)) := PS.no hP8 (fun q1 q2 => by rw [← q2.2.2.1]; exact q2.1.st ⟨fun hb8 => by omega, fun b9 hb9 => by rw [hq] at hb9; cases hb9; rw [q2.2.1]; exact q2.2.2.2⟩)
                have f10 := (FrI.gen hfr3 List.not_mem_nil (AD.ml hAD rfl) hmm)
                have f11 := (FrI.gen hfr3 List.not_mem_nil (AD.nl hAD 11 rfl rfl rfl) a11)
                have f12 := (FrI.gen hfr3 List.not_mem_nil (AD.nl hAD 17 rfl rfl rfl) a17)
                have f13 := (FrI.gen hfr3 List.not_mem_nil (AD.nl hAD 18 rfl rfl rfl) a18)
                have f14 := (FrI.gen hfr3 List.not_mem_nil (AD.nl hAD 40 rfl rfl rfl) a40)
                exact ih _ _ (i + 1) _ _ (by omega) f10 ((FrI.mono hfr (by simp) rfl : FrI A [] [39] w0 _).trans (FrI.sub hfr3 rfl)) f11 f12 f13 f14 f2 hPf hAL2 (by omega)
              · skip
                refine j_callV (rm := rX6_bring) (As := [.int (nI b), .int (nI lev)]) (st := []) (b0 := mm) (ci := 6) (na := 2) (m_bringN hAD hmm hA a39 (by omega) (by omega) (by omega) hbr1) (by intro E w9 h9; first | exact nomatch h9.1 | (obtain ⟨_, h9, _⟩ := h9; exact nomatch h9) | (obtain ⟨_, _, _, h9, _⟩ := h9; exact nomatch h9)) gX6_bringDown_X6_bring rfl rfl hmm (by decide +kernel) rfl ⟨Nat.le_of_ble_eq_true rfl, Nat.le_of_ble_eq_true rfl⟩ rfl (Nat.le_of_ble_eq_true rfl) dX6_bringDown_199 ⟨(show 0 + 0 ≤ 0 by omega), (show 0 + 0 ≤ 0 by omega)⟩ (fun v15 w16 h17 => ?_)
                obtain ⟨h17, h18⟩ := h17
                cases h17
                subst w16
                refine j_after (st' := [.int (nI 0)]) (k' := 0) (n' := 0) rfl rfl rfl ?_
                have hP19 : PS c xm bh mk (p 2) (p 3) ev oS o more (QEv xm bh (p 2) ev oS all i ∧ lvE oS (p 2) (xm i) i = lev ∧ alE oS (xm i) i all = al ∧ oS (16 * b) ≤ lev) := PS.no hP1 (fun q1 q2 => ⟨q2.1, q2.2.1, q2.2.2, by rw [← q1]; omega⟩)
                refine j_if_neN 209 (by decide) dX6_bringDown_202 (by decide) (fun h9 => absurd rfl h9) (fun _ => ?_)
                refine j_iload_n dX6_bringDown_205 2 rfl ?_
                refine j_ztern 213 214 dX6_bringDown_206 (by decide) dX6_bringDown_209 dX6_bringDown_210 (by decide) dX6_bringDown_213 rfl ?_
                refine j_istore_n (lv' := [(2, .int (zb more)), (0, .ref mm), (1, .ref r), (3, .int (nI al)), (4, .int (nI i)), (5, .int (nI lev)), (6, .int (nI (2 ^ xm i)))]) dX6_bringDown_214 (Nat.le_of_ble_eq_true rfl) rfl ?_
                refine j_iinc (q := 4) (v := nI (i + 1)) (lv' := [(4, .int (nI (i + 1))), (2, .int (zb more)), (0, .ref mm), (1, .ref r), (3, .int (nI al)), (5, .int (nI lev)), (6, .int (nI (2 ^ xm i)))]) dX6_bringDown_215 rfl (by first | exact nI_1 _ | exact nI_add _ _) (Nat.le_of_ble_eq_true rfl) rfl ?_
                refine j_goto 38 dX6_bringDown_218 (by decide) ?_
                refine j_lv (lv' := [(0, .ref mm), (1, .ref r), (2, .int (zb more)), (3, .int (nI al)), (4, .int (nI (i + 1)))]) [2, 3, 1, 4, 0] rfl ?_
                have hPf : PS c xm bh mk (p 2) (p 3) ev oS o more (QEv xm bh (p 2) ev oS al (i + 1)) := PS.no hP19 (fun q1 q2 => by rw [← q2.2.2.1]; exact q2.1.st ⟨fun hb8 => by omega, fun b9 hb9 => by rw [hq] at hb9; cases hb9; rw [q2.2.1]; exact q2.2.2.2⟩)
                exact ih _ _ (i + 1) _ _ (by omega) hmm (FrI.mono hfr (by simp) rfl : FrI A [] [39] w0 _) a11 a17 a18 a40 a39 hPf hAL2 (by omega)
        · skip
          refine j_aload_n dX6_bringDown_155 0 rfl ?_
          refine j_iload dX6_bringDown_156 4 rfl ?_
          refine j_iconst (v := nI 1) dX6_bringDown_158 (by decide) ?_
          refine j_iaddN dX6_bringDown_159 ?_
          refine j_iload dX6_bringDown_160 5 rfl ?_
          have hbr20b := hob (16 * (i + 1))
          by_cases hbr20 : lev < o (16 * (i + 1))
          · skip
            refine j_callV (rm := rX6_bring) (As := [.int (nI (i + 1)), .int (nI lev)]) (st := []) (b0 := mm) (ci := 6) (na := 2) (m_bringY hAD hmm hA a39 (by omega) (by omega) (by omega) hbr20) (by intro E w9 h9; first | exact nomatch h9.1 | (obtain ⟨_, h9, _⟩ := h9; exact nomatch h9) | (obtain ⟨_, _, _, h9, _⟩ := h9; exact nomatch h9)) gX6_bringDown_X6_bring rfl rfl hmm (by decide +kernel) rfl ⟨Nat.le_of_ble_eq_true rfl, Nat.le_of_ble_eq_true rfl⟩ rfl (Nat.le_of_ble_eq_true rfl) dX6_bringDown_162 ⟨(show 0 + 0 ≤ 0 by omega), (show 0 + 0 ≤ 0 by omega)⟩ (fun v24 w25 h26 => ?_)
            obtain ⟨h23, hfr22, f21⟩ := h26
            cases h23
            refine j_after (st' := [.int (nI 1)]) (k' := 0) (n' := 0) rfl rfl rfl ?_
            have hP27 : PS c xm bh mk (p 2) (p 3) ev oS (va_up o (16 * (i + 1)) lev) true (QEv xm bh (p 2) ev oS all i ∧ lvE oS (p 2) (xm i) i = lev ∧ alE oS (xm i) i all = al ∧ oS (16 * (i + 1)) ≤ lev) := PS.ch hP1 (by omega) hbr20 (fun y hy => hv1 y hy (by omega))
            have hob28 := hP27.1.1
            refine j_if_neN 172 (by decide) dX6_bringDown_165 (by decide) (fun _ => ?_) (fun h9 => absurd h9 (by decide))
            refine j_iconst (v := nI 1) dX6_bringDown_172 (by decide) ?_
            refine j_goto 177 dX6_bringDown_173 (by decide) ?_
            refine j_eqi (y := zb true) rfl ?_
            refine j_istore_n (lv' := [(2, .int (zb true)), (0, .ref mm), (1, .ref r), (3, .int (nI al)), (4, .int (nI i)), (5, .int (nI lev)), (6, .int (nI (2 ^ xm i)))]) dX6_bringDown_177 (Nat.le_of_ble_eq_true rfl) rfl ?_
            refine j_aload_n dX6_bringDown_178 1 rfl ?_
            have f29 := (FrI.gen hfr22 List.not_mem_nil (AD.ml hAD rfl) hmm)
            refine j_get (v := .ref (A 17)) flX6_bringDown_38 f29 (hA.2 17 rfl) dX6_bringDown_179 ?_
            refine j_iload dX6_bringDown_182 4 rfl ?_
            have f30 := (FrI.gen hfr22 List.not_mem_nil (AD.nl hAD 17 rfl rfl rfl) a17)
            refine j_ialdN (j := i) f30 rfl (by omega) (by omega) dX6_bringDown_184 ?_
            cases hq : bh i with
            | none =>
              refine j_eqi (y := (-1)) (by rw [(hxl i (by omega)).1, hq]; rfl) ?_
              refine j_iconst (v := (-1)) dX6_bringDown_185 (by decide) ?_
              refine j_icmp_eq 215 dX6_bringDown_186 (by decide) (fun c186 => ?_) (fun c186 => ?_)
              · skip
                refine j_iinc (q := 4) (v := nI (i + 1)) (lv' := [(4, .int (nI (i + 1))), (2, .int (zb true)), (0, .ref mm), (1, .ref r), (3, .int (nI al)), (5, .int (nI lev)), (6, .int (nI (2 ^ xm i)))]) dX6_bringDown_215 rfl (by first | exact nI_1 _ | exact nI_add _ _) (Nat.le_of_ble_eq_true rfl) rfl ?_
                refine j_goto 38 dX6_bringDown_218 (by decide) ?_
                refine j_lv (lv' := [(0, .ref mm), (1, .ref r), (2, .int (zb true)), (3, .int (nI al)), (4, .int (nI (i + 1)))]) [2, 3, 1, 4, 0] rfl ?_
                have hPf : PS c xm bh mk (p 2) (p 3) ev oS (va_up o (16 * (i + 1)) lev) true (QEv xm bh (p 2) ev oS al (i + 1)) := PS.no hP27 (fun q1 q2 => by rw [← q2.2.2.1]; exact q2.1.st ⟨fun hb8 => by rw [q2.2.1]; exact q2.2.2.2, fun b9 hb9 => by rw [hq] at hb9; cases hb9⟩)
                have f31 := (FrI.gen hfr22 List.not_mem_nil (AD.nl hAD 11 rfl rfl rfl) a11)
                have f32 := (FrI.gen hfr22 List.not_mem_nil (AD.nl hAD 18 rfl rfl rfl) a18)
                have f33 := (FrI.gen hfr22 List.not_mem_nil (AD.nl hAD 40 rfl rfl rfl) a40)
                exact ih _ _ (i + 1) _ _ (by omega) f29 ((FrI.mono hfr (by simp) rfl : FrI A [] [39] w0 _).trans (FrI.sub hfr22 rfl)) f31 f30 f32 f33 f21 hPf hAL2 (by omega)
              · skip
                exact absurd rfl c186
            | some b =>
              have hbi := (hxl i (by omega)).2 b hq
              refine j_eqi (y := nI b) (by rw [(hxl i (by omega)).1, hq]; rfl) ?_
              refine j_iconst (v := (-1)) dX6_bringDown_185 (by decide) ?_
              refine j_icmp_eq 215 dX6_bringDown_186 (by decide) (fun c186 => ?_) (fun c186 => ?_)
              · skip
                exact absurd c186 (nI_m1 (by omega))
              · skip
                refine j_aload_n dX6_bringDown_189 1 rfl ?_
                refine j_aload_n dX6_bringDown_190 1 rfl ?_
                refine j_get (v := .ref (A 17)) flX6_bringDown_38 f29 (hA.2 17 rfl) dX6_bringDown_191 ?_
                refine j_iload dX6_bringDown_194 4 rfl ?_
                refine j_ialdN (j := i) f30 rfl (by omega) (by omega) dX6_bringDown_196 ?_
                refine j_eqi (y := nI b) (by rw [(hxl i (by omega)).1, hq]; rfl) ?_
                refine j_iload dX6_bringDown_197 5 rfl ?_
                have hbr34b := hob28 (16 * b)
                by_cases hbr34 : lev < (va_up o (16 * (i + 1)) lev) (16 * b)
                · skip
                  refine j_callV (rm := rX6_bring) (As := [.int (nI b), .int (nI lev)]) (st := []) (b0 := mm) (ci := 6) (na := 2) (m_bringY hAD f29 hA f21 (by omega) (by omega) (by omega) hbr34) (by intro E w9 h9; first | exact nomatch h9.1 | (obtain ⟨_, h9, _⟩ := h9; exact nomatch h9) | (obtain ⟨_, _, _, h9, _⟩ := h9; exact nomatch h9)) gX6_bringDown_X6_bring rfl rfl f29 (by decide +kernel) rfl ⟨Nat.le_of_ble_eq_true rfl, Nat.le_of_ble_eq_true rfl⟩ rfl (Nat.le_of_ble_eq_true rfl) dX6_bringDown_199 ⟨(show 0 + 0 ≤ 0 by omega), (show 0 + 0 ≤ 0 by omega)⟩ (fun v38 w39 h40 => ?_)
                  obtain ⟨h37, hfr36, f35⟩ := h40
                  cases h37
                  refine j_after (st' := [.int (nI 1)]) (k' := 0) (n' := 0) rfl rfl rfl ?_
                  have hP41 : PS c xm bh mk (p 2) (p 3) ev oS (va_up (va_up o (16 * (i + 1)) lev) (16 * b) lev) true (QEv xm bh (p 2) ev oS all i ∧ lvE oS (p 2) (xm i) i = lev ∧ alE oS (xm i) i all = al ∧ oS (16 * (i + 1)) ≤ lev ∧ oS (16 * b) ≤ lev) := PS.ch hP27 (by omega) hbr34 (fun y hy => hv2 y hy b hq)
                  have hob42 := hP41.1.1
                  refine j_if_neN 209 (by decide) dX6_bringDown_202 (by decide) (fun _ => ?_) (fun h9 => absurd h9 (by decide))
                  refine j_iconst (v := nI 1) dX6_bringDown_209 (by decide) ?_
                  refine j_goto 214 dX6_bringDown_210 (by decide) ?_
                  refine j_eqi (y := zb true) rfl ?_
                  refine j_istore_n (lv' := [(2, .int (zb true)), (0, .ref mm), (1, .ref r), (3, .int (nI al)), (4, .int (nI i)), (5, .int (nI lev)), (6, .int (nI (2 ^ xm i)))]) dX6_bringDown_214 (Nat.le_of_ble_eq_true rfl) rfl ?_
                  refine j_iinc (q := 4) (v := nI (i + 1)) (lv' := [(4, .int (nI (i + 1))), (2, .int (zb true)), (0, .ref mm), (1, .ref r), (3, .int (nI al)), (5, .int (nI lev)), (6, .int (nI (2 ^ xm i)))]) dX6_bringDown_215 rfl (by first | exact nI_1 _ | exact nI_add _ _) (Nat.le_of_ble_eq_true rfl) rfl ?_
                  refine j_goto 38 dX6_bringDown_218 (by decide) ?_
                  refine j_lv (lv' := [(0, .ref mm), (1, .ref r), (2, .int (zb true)), (3, .int (nI al)), (4, .int (nI (i + 1)))]) [2, 3, 1, 4, 0] rfl ?_
                  have hPf : PS c xm bh mk (p 2) (p 3) ev oS (va_up (va_up o (16 * (i + 1)) lev) (16 * b) lev) true (QEv xm bh (p 2) ev oS al (i + 1)) := PS.no hP41 (fun q1 q2 => by rw [← q2.2.2.1]; exact q2.1.st ⟨fun hb8 => by rw [q2.2.1]; exact q2.2.2.2.1, fun b9 hb9 => by rw [hq] at hb9; cases hb9; rw [q2.2.1]; exact q2.2.2.2.2⟩)
                  have f43 := (FrI.gen hfr36 List.not_mem_nil (AD.ml hAD rfl) f29)
                  have f44 := (FrI.gen hfr36 List.not_mem_nil (AD.nl hAD 11 rfl rfl rfl) (FrI.gen hfr22 List.not_mem_nil (AD.nl hAD 11 rfl rfl rfl) a11))
                  have f45 := (FrI.gen hfr36 List.not_mem_nil (AD.nl hAD 17 rfl rfl rfl) f30)
                  have f46 := (FrI.gen hfr36 List.not_mem_nil (AD.nl hAD 18 rfl rfl rfl) (FrI.gen hfr22 List.not_mem_nil (AD.nl hAD 18 rfl rfl rfl) a18))
                  have f47 := (FrI.gen hfr36 List.not_mem_nil (AD.nl hAD 40 rfl rfl rfl) (FrI.gen hfr22 List.not_mem_nil (AD.nl hAD 40 rfl rfl rfl) a40))
                  exact ih _ _ (i + 1) _ _ (by omega) f43 (((FrI.mono hfr (by simp) rfl : FrI A [] [39] w0 _).trans (FrI.sub hfr22 rfl)).trans (FrI.sub hfr36 rfl)) f44 f45 f46 f47 f35 hPf hAL2 (by omega)
                · skip
                  refine j_callV (rm := rX6_bring) (As := [.int (nI b), .int (nI lev)]) (st := []) (b0 := mm) (ci := 6) (na := 2) (m_bringN hAD f29 hA f21 (by omega) (by omega) (by omega) hbr34) (by intro E w9 h9; first | exact nomatch h9.1 | (obtain ⟨_, h9, _⟩ := h9; exact nomatch h9) | (obtain ⟨_, _, _, h9, _⟩ := h9; exact nomatch h9)) gX6_bringDown_X6_bring rfl rfl f29 (by decide +kernel) rfl ⟨Nat.le_of_ble_eq_true rfl, Nat.le_of_ble_eq_true rfl⟩ rfl (Nat.le_of_ble_eq_true rfl) dX6_bringDown_199 ⟨(show 0 + 0 ≤ 0 by omega), (show 0 + 0 ≤ 0 by omega)⟩ (fun v48 w49 h50 => ?_)
                  obtain ⟨h50, h51⟩ := h50
                  cases h50
                  subst w49
                  refine j_after (st' := [.int (nI 0)]) (k' := 0) (n' := 0) rfl rfl rfl ?_
                  have hP52 : PS c xm bh mk (p 2) (p 3) ev oS (va_up o (16 * (i + 1)) lev) true (QEv xm bh (p 2) ev oS all i ∧ lvE oS (p 2) (xm i) i = lev ∧ alE oS (xm i) i all = al ∧ oS (16 * (i + 1)) ≤ lev ∧ oS (16 * b) ≤ lev) := PS.no hP27 (fun q1 q2 => ⟨q2.1, q2.2.1, q2.2.2.1, q2.2.2.2, by rw [← q1]; omega⟩)
                  refine j_if_neN 209 (by decide) dX6_bringDown_202 (by decide) (fun h9 => absurd rfl h9) (fun _ => ?_)
                  refine j_iload_n dX6_bringDown_205 0 rfl ?_
                  refine j_eqi (y := nI 1) rfl ?_
                  refine j_if_eqN 213 (by decide) dX6_bringDown_206 (by decide) (fun h9 => absurd h9 (by decide)) (fun _ => ?_)
                  refine j_iconst (v := nI 1) dX6_bringDown_209 (by decide) ?_
                  refine j_goto 214 dX6_bringDown_210 (by decide) ?_
                  refine j_eqi (y := zb true) rfl ?_
                  refine j_istore_n (lv' := [(2, .int (zb true)), (0, .ref mm), (1, .ref r), (3, .int (nI al)), (4, .int (nI i)), (5, .int (nI lev)), (6, .int (nI (2 ^ xm i)))]) dX6_bringDown_214 (Nat.le_of_ble_eq_true rfl) rfl ?_
                  refine j_iinc (q := 4) (v := nI (i + 1)) (lv' := [(4, .int (nI (i + 1))), (2, .int (zb true)), (0, .ref mm), (1, .ref r), (3, .int (nI al)), (5, .int (nI lev)), (6, .int (nI (2 ^ xm i)))]) dX6_bringDown_215 rfl (by first | exact nI_1 _ | exact nI_add _ _) (Nat.le_of_ble_eq_true rfl) rfl ?_
                  refine j_goto 38 dX6_bringDown_218 (by decide) ?_
                  refine j_lv (lv' := [(0, .ref mm), (1, .ref r), (2, .int (zb true)), (3, .int (nI al)), (4, .int (nI (i + 1)))]) [2, 3, 1, 4, 0] rfl ?_
                  have hPf : PS c xm bh mk (p 2) (p 3) ev oS (va_up o (16 * (i + 1)) lev) true (QEv xm bh (p 2) ev oS al (i + 1)) := PS.no hP52 (fun q1 q2 => by rw [← q2.2.2.1]; exact q2.1.st ⟨fun hb8 => by rw [q2.2.1]; exact q2.2.2.2.1, fun b9 hb9 => by rw [hq] at hb9; cases hb9; rw [q2.2.1]; exact q2.2.2.2.2⟩)
                  have f53 := (FrI.gen hfr22 List.not_mem_nil (AD.nl hAD 11 rfl rfl rfl) a11)
                  have f54 := (FrI.gen hfr22 List.not_mem_nil (AD.nl hAD 18 rfl rfl rfl) a18)
                  have f55 := (FrI.gen hfr22 List.not_mem_nil (AD.nl hAD 40 rfl rfl rfl) a40)
                  exact ih _ _ (i + 1) _ _ (by omega) f29 ((FrI.mono hfr (by simp) rfl : FrI A [] [39] w0 _).trans (FrI.sub hfr22 rfl)) f53 f30 f54 f55 f21 hPf hAL2 (by omega)
          · skip
            refine j_callV (rm := rX6_bring) (As := [.int (nI (i + 1)), .int (nI lev)]) (st := []) (b0 := mm) (ci := 6) (na := 2) (m_bringN hAD hmm hA a39 (by omega) (by omega) (by omega) hbr20) (by intro E w9 h9; first | exact nomatch h9.1 | (obtain ⟨_, h9, _⟩ := h9; exact nomatch h9) | (obtain ⟨_, _, _, h9, _⟩ := h9; exact nomatch h9)) gX6_bringDown_X6_bring rfl rfl hmm (by decide +kernel) rfl ⟨Nat.le_of_ble_eq_true rfl, Nat.le_of_ble_eq_true rfl⟩ rfl (Nat.le_of_ble_eq_true rfl) dX6_bringDown_162 ⟨(show 0 + 0 ≤ 0 by omega), (show 0 + 0 ≤ 0 by omega)⟩ (fun v56 w57 h58 => ?_)
            obtain ⟨h58, h59⟩ := h58
            cases h58
            subst w57
            refine j_after (st' := [.int (nI 0)]) (k' := 0) (n' := 0) rfl rfl rfl ?_
            have hP60 : PS c xm bh mk (p 2) (p 3) ev oS o more (QEv xm bh (p 2) ev oS all i ∧ lvE oS (p 2) (xm i) i = lev ∧ alE oS (xm i) i all = al ∧ oS (16 * (i + 1)) ≤ lev) := PS.no hP1 (fun q1 q2 => ⟨q2.1, q2.2.1, q2.2.2, by rw [← q1]; omega⟩)
            refine j_if_neN 172 (by decide) dX6_bringDown_165 (by decide) (fun h9 => absurd rfl h9) (fun _ => ?_)
            refine j_iload_n dX6_bringDown_168 2 rfl ?_
            refine j_ztern 176 177 dX6_bringDown_169 (by decide) dX6_bringDown_172 dX6_bringDown_173 (by decide) dX6_bringDown_176 rfl ?_
            refine j_istore_n (lv' := [(2, .int (zb more)), (0, .ref mm), (1, .ref r), (3, .int (nI al)), (4, .int (nI i)), (5, .int (nI lev)), (6, .int (nI (2 ^ xm i)))]) dX6_bringDown_177 (Nat.le_of_ble_eq_true rfl) rfl ?_
            refine j_aload_n dX6_bringDown_178 1 rfl ?_
            refine j_get (v := .ref (A 17)) flX6_bringDown_38 hmm (hA.2 17 rfl) dX6_bringDown_179 ?_
            refine j_iload dX6_bringDown_182 4 rfl ?_
            refine j_ialdN (j := i) a17 rfl (by omega) (by omega) dX6_bringDown_184 ?_
            cases hq : bh i with
            | none =>
              refine j_eqi (y := (-1)) (by rw [(hxl i (by omega)).1, hq]; rfl) ?_
              refine j_iconst (v := (-1)) dX6_bringDown_185 (by decide) ?_
              refine j_icmp_eq 215 dX6_bringDown_186 (by decide) (fun c186 => ?_) (fun c186 => ?_)
              · skip
                refine j_iinc (q := 4) (v := nI (i + 1)) (lv' := [(4, .int (nI (i + 1))), (2, .int (zb more)), (0, .ref mm), (1, .ref r), (3, .int (nI al)), (5, .int (nI lev)), (6, .int (nI (2 ^ xm i)))]) dX6_bringDown_215 rfl (by first | exact nI_1 _ | exact nI_add _ _) (Nat.le_of_ble_eq_true rfl) rfl ?_
                refine j_goto 38 dX6_bringDown_218 (by decide) ?_
                refine j_lv (lv' := [(0, .ref mm), (1, .ref r), (2, .int (zb more)), (3, .int (nI al)), (4, .int (nI (i + 1)))]) [2, 3, 1, 4, 0] rfl ?_
                have hPf : PS c xm bh mk (p 2) (p 3) ev oS o more (QEv xm bh (p 2) ev oS al (i + 1)) := PS.no hP60 (fun q1 q2 => by rw [← q2.2.2.1]; exact q2.1.st ⟨fun hb8 => by rw [q2.2.1]; exact q2.2.2.2, fun b9 hb9 => by rw [hq] at hb9; cases hb9⟩)
                exact ih _ _ (i + 1) _ _ (by omega) hmm (FrI.mono hfr (by simp) rfl : FrI A [] [39] w0 _) a11 a17 a18 a40 a39 hPf hAL2 (by omega)
              · skip
                exact absurd rfl c186
            | some b =>
              have hbi := (hxl i (by omega)).2 b hq
              refine j_eqi (y := nI b) (by rw [(hxl i (by omega)).1, hq]; rfl) ?_
              refine j_iconst (v := (-1)) dX6_bringDown_185 (by decide) ?_
              refine j_icmp_eq 215 dX6_bringDown_186 (by decide) (fun c186 => ?_) (fun c186 => ?_)
              · skip
                exact absurd c186 (nI_m1 (by omega))
              · skip
                refine j_aload_n dX6_bringDown_189 1 rfl ?_
                refine j_aload_n dX6_bringDown_190 1 rfl ?_
                refine j_get (v := .ref (A 17)) flX6_bringDown_38 hmm (hA.2 17 rfl) dX6_bringDown_191 ?_
                refine j_iload dX6_bringDown_194 4 rfl ?_
                refine j_ialdN (j := i) a17 rfl (by omega) (by omega) dX6_bringDown_196 ?_
                refine j_eqi (y := nI b) (by rw [(hxl i (by omega)).1, hq]; rfl) ?_
                refine j_iload dX6_bringDown_197 5 rfl ?_
                have hbr61b := hob (16 * b)
                by_cases hbr61 : lev < o (16 * b)
                · skip
                  refine j_callV (rm := rX6_bring) (As := [.int (nI b), .int (nI lev)]) (st := []) (b0 := mm) (ci := 6) (na := 2) (m_bringY hAD hmm hA a39 (by omega) (by omega) (by omega) hbr61) (by intro E w9 h9; first | exact nomatch h9.1 | (obtain ⟨_, h9, _⟩ := h9; exact nomatch h9) | (obtain ⟨_, _, _, h9, _⟩ := h9; exact nomatch h9)) gX6_bringDown_X6_bring rfl rfl hmm (by decide +kernel) rfl ⟨Nat.le_of_ble_eq_true rfl, Nat.le_of_ble_eq_true rfl⟩ rfl (Nat.le_of_ble_eq_true rfl) dX6_bringDown_199 ⟨(show 0 + 0 ≤ 0 by omega), (show 0 + 0 ≤ 0 by omega)⟩ (fun v65 w66 h67 => ?_)
                  obtain ⟨h64, hfr63, f62⟩ := h67
                  cases h64
                  refine j_after (st' := [.int (nI 1)]) (k' := 0) (n' := 0) rfl rfl rfl ?_
                  have hP68 : PS c xm bh mk (p 2) (p 3) ev oS (va_up o (16 * b) lev) true (QEv xm bh (p 2) ev oS all i ∧ lvE oS (p 2) (xm i) i = lev ∧ alE oS (xm i) i all = al ∧ oS (16 * (i + 1)) ≤ lev ∧ oS (16 * b) ≤ lev) := PS.ch hP60 (by omega) hbr61 (fun y hy => hv2 y hy b hq)
                  have hob69 := hP68.1.1
                  refine j_if_neN 209 (by decide) dX6_bringDown_202 (by decide) (fun _ => ?_) (fun h9 => absurd h9 (by decide))
                  refine j_iconst (v := nI 1) dX6_bringDown_209 (by decide) ?_
                  refine j_goto 214 dX6_bringDown_210 (by decide) ?_
                  refine j_eqi (y := zb true) rfl ?_
                  refine j_istore_n (lv' := [(2, .int (zb true)), (0, .ref mm), (1, .ref r), (3, .int (nI al)), (4, .int (nI i)), (5, .int (nI lev)), (6, .int (nI (2 ^ xm i)))]) dX6_bringDown_214 (Nat.le_of_ble_eq_true rfl) rfl ?_
                  refine j_iinc (q := 4) (v := nI (i + 1)) (lv' := [(4, .int (nI (i + 1))), (2, .int (zb true)), (0, .ref mm), (1, .ref r), (3, .int (nI al)), (5, .int (nI lev)), (6, .int (nI (2 ^ xm i)))]) dX6_bringDown_215 rfl (by first | exact nI_1 _ | exact nI_add _ _) (Nat.le_of_ble_eq_true rfl) rfl ?_
                  refine j_goto 38 dX6_bringDown_218 (by decide) ?_
                  refine j_lv (lv' := [(0, .ref mm), (1, .ref r), (2, .int (zb true)), (3, .int (nI al)), (4, .int (nI (i + 1)))]) [2, 3, 1, 4, 0] rfl ?_
                  have hPf : PS c xm bh mk (p 2) (p 3) ev oS (va_up o (16 * b) lev) true (QEv xm bh (p 2) ev oS al (i + 1)) := PS.no hP68 (fun q1 q2 => by rw [← q2.2.2.1]; exact q2.1.st ⟨fun hb8 => by rw [q2.2.1]; exact q2.2.2.2.1, fun b9 hb9 => by rw [hq] at hb9; cases hb9; rw [q2.2.1]; exact q2.2.2.2.2⟩)
                  have f70 := (FrI.gen hfr63 List.not_mem_nil (AD.ml hAD rfl) hmm)
                  have f71 := (FrI.gen hfr63 List.not_mem_nil (AD.nl hAD 11 rfl rfl rfl) a11)
                  have f72 := (FrI.gen hfr63 List.not_mem_nil (AD.nl hAD 17 rfl rfl rfl) a17)
                  have f73 := (FrI.gen hfr63 List.not_mem_nil (AD.nl hAD 18 rfl rfl rfl) a18)
                  have f74 := (FrI.gen hfr63 List.not_mem_nil (AD.nl hAD 40 rfl rfl rfl) a40)
                  exact ih _ _ (i + 1) _ _ (by omega) f70 ((FrI.mono hfr (by simp) rfl : FrI A [] [39] w0 _).trans (FrI.sub hfr63 rfl)) f71 f72 f73 f74 f62 hPf hAL2 (by omega)
                · skip
                  refine j_callV (rm := rX6_bring) (As := [.int (nI b), .int (nI lev)]) (st := []) (b0 := mm) (ci := 6) (na := 2) (m_bringN hAD hmm hA a39 (by omega) (by omega) (by omega) hbr61) (by intro E w9 h9; first | exact nomatch h9.1 | (obtain ⟨_, h9, _⟩ := h9; exact nomatch h9) | (obtain ⟨_, _, _, h9, _⟩ := h9; exact nomatch h9)) gX6_bringDown_X6_bring rfl rfl hmm (by decide +kernel) rfl ⟨Nat.le_of_ble_eq_true rfl, Nat.le_of_ble_eq_true rfl⟩ rfl (Nat.le_of_ble_eq_true rfl) dX6_bringDown_199 ⟨(show 0 + 0 ≤ 0 by omega), (show 0 + 0 ≤ 0 by omega)⟩ (fun v75 w76 h77 => ?_)
                  obtain ⟨h77, h78⟩ := h77
                  cases h77
                  subst w76
                  refine j_after (st' := [.int (nI 0)]) (k' := 0) (n' := 0) rfl rfl rfl ?_
                  have hP79 : PS c xm bh mk (p 2) (p 3) ev oS o more (QEv xm bh (p 2) ev oS all i ∧ lvE oS (p 2) (xm i) i = lev ∧ alE oS (xm i) i all = al ∧ oS (16 * (i + 1)) ≤ lev ∧ oS (16 * b) ≤ lev) := PS.no hP60 (fun q1 q2 => ⟨q2.1, q2.2.1, q2.2.2.1, q2.2.2.2, by rw [← q1]; omega⟩)
                  refine j_if_neN 209 (by decide) dX6_bringDown_202 (by decide) (fun h9 => absurd rfl h9) (fun _ => ?_)
                  refine j_iload_n dX6_bringDown_205 0 rfl ?_
                  refine j_ztern 213 214 dX6_bringDown_206 (by decide) dX6_bringDown_209 dX6_bringDown_210 (by decide) dX6_bringDown_213 rfl ?_
                  refine j_istore_n (lv' := [(2, .int (zb more)), (0, .ref mm), (1, .ref r), (3, .int (nI al)), (4, .int (nI i)), (5, .int (nI lev)), (6, .int (nI (2 ^ xm i)))]) dX6_bringDown_214 (Nat.le_of_ble_eq_true rfl) rfl ?_
                  refine j_iinc (q := 4) (v := nI (i + 1)) (lv' := [(4, .int (nI (i + 1))), (2, .int (zb more)), (0, .ref mm), (1, .ref r), (3, .int (nI al)), (5, .int (nI lev)), (6, .int (nI (2 ^ xm i)))]) dX6_bringDown_215 rfl (by first | exact nI_1 _ | exact nI_add _ _) (Nat.le_of_ble_eq_true rfl) rfl ?_
                  refine j_goto 38 dX6_bringDown_218 (by decide) ?_
                  refine j_lv (lv' := [(0, .ref mm), (1, .ref r), (2, .int (zb more)), (3, .int (nI al)), (4, .int (nI (i + 1)))]) [2, 3, 1, 4, 0] rfl ?_
                  have hPf : PS c xm bh mk (p 2) (p 3) ev oS o more (QEv xm bh (p 2) ev oS al (i + 1)) := PS.no hP79 (fun q1 q2 => by rw [← q2.2.2.1]; exact q2.1.st ⟨fun hb8 => by rw [q2.2.1]; exact q2.2.2.2.1, fun b9 hb9 => by rw [hq] at hb9; cases hb9; rw [q2.2.1]; exact q2.2.2.2.2⟩)
                  exact ih _ _ (i + 1) _ _ (by omega) hmm (FrI.mono hfr (by simp) rfl : FrI A [] [39] w0 _) a11 a17 a18 a40 a39 hPf hAL2 (by omega)
      · skip
        refine j_goto 215 dX6_bringDown_141 (by decide) ?_
        refine j_iinc (q := 4) (v := nI (i + 1)) (lv' := [(4, .int (nI (i + 1))), (0, .ref mm), (1, .ref r), (2, .int (zb more)), (3, .int (nI al)), (5, .int (nI lev)), (6, .int (nI (2 ^ xm i)))]) dX6_bringDown_215 rfl (by first | exact nI_1 _ | exact nI_add _ _) (Nat.le_of_ble_eq_true rfl) rfl ?_
        refine j_goto 38 dX6_bringDown_218 (by decide) ?_
        refine j_lv (lv' := [(0, .ref mm), (1, .ref r), (2, .int (zb more)), (3, .int (nI al)), (4, .int (nI (i + 1)))]) [1, 2, 3, 4, 0] rfl ?_
        have hPf : PS c xm bh mk (p 2) (p 3) ev oS o more (QEv xm bh (p 2) ev oS al (i + 1)) := PS.no hP1 (fun q1 q2 => by rw [← q2.2.2]; exact q2.1.st ⟨fun _ => by rw [q2.2.1]; exact Nat.le_trans (hPS.1.1 _ |> fun z => by rw [q1] at z; exact z) (by omega), fun b _ => by rw [q2.2.1]; exact Nat.le_trans (by have z := hPS.1.1 (16 * b); rw [q1] at z; exact z) (by omega)⟩)
        exact ih _ _ (i + 1) _ _ (by omega) hmm (FrI.mono hfr (by simp) rfl : FrI A [] [39] w0 _) a11 a17 a18 a40 a39 hPf hAL2 (by omega)
section BD2
variable {c xm oS o : Nat → Nat} {bh : Nat → Option Nat} {mk : Nat → Bool} {p2 p3 ev : Nat} {more : Bool}
def QFin (xm : Nat → Nat) (bh : Nat → Option Nat) (mk : Nat → Bool) (p2 p3 ev : Nat) (oS : Nat → Nat) : Prop := ∃ all, QEv xm bh p2 ev oS all ev ∧ (all < 268435456 → ∀ e, e < ev → mk e = true → oS (16 * e) ≤ all + p3)
theorem PS.ms {Q : Prop} (h : PS c xm bh mk p2 p3 ev oS o more Q) : 2 * sumO o ev + (if more then 1 else 0) < 2 * sumO oS ev + 1 := by
  cases more with
  | true => have := h.2.2.1 rfl; simp; omega
  | false => rw [(h.2.2.2 rfl).1]; simp
theorem PS.fin (h : PS c xm bh mk p2 p3 ev oS o more (QFin xm bh mk p2 p3 ev oS)) : (more = true ∧ INV c xm bh mk p2 p3 ev o) ∨ (more = false ∧ BDF c xm bh mk p2 p3 ev o) := by
  cases more with
  | true => exact Or.inl ⟨rfl, h.1⟩
  | false =>
    obtain ⟨e1, all, q1, q2⟩ := h.2.2.2 rfl
    subst e1
    exact Or.inr ⟨rfl, h.1, q1.1, all, q1.2, q2⟩
theorem INV_0 (hc : ∀ j, c j ≤ 268435456) (ho : ∀ j, o j ≤ 268435456) (hev : ev ≤ 100) : INV c xm bh mk p2 p3 ev (fil o c 1600) := by
  have h1 : ∀ j, j < 1600 → fil o c 1600 j = c j := fun j hj => if_pos hj
  refine ⟨fil_le ho (fun j _ => hc j), fun j hj _ => h1 j hj, fun e he => by rw [h1 _ (by omega)]; exact Nat.le_refl _, fun y hy e he => by rw [h1 _ (by omega)]; exact hy.1 e he⟩
end BD2
theorem flX6_bringDown_41 : FL wsX6_bringDown RX6 41 6 18 := ⟨RX6, TX6, 45, rfl, by decide, by decide +kernel, by decide +kernel⟩
set_option maxHeartbeats 4000000 in
set_option maxRecDepth 100000 in
theorem l_bd224 {c xm p : Nat → Nat} {xl xi : Nat → Int32} {bh : Nat → Option Nat} {mk : Nat → Bool} {ev r : Nat} {w0 : pW} {fs : List Value} {A : Nat → Nat} {mm : Nat} (hAD : AD A mm) (hA : RA A fs) (h5 : fs[5]? = some (.int (nI ev))) (hev : ev ≤ 100) (hm4 : ∀ e, e < ev → xm e ≤ 4) (hpb : ∀ j, p j ≤ 50) (hxl : ∀ e, e < ev → xl e = on1 (bh e) ∧ ∀ b, bh e = some b → b ≤ e) (hxi : ∀ e, e < ev → xi e = zb (mk e)) (hcN : ∀ j, c j ≤ 268435456) {oS : Nat → Nat} {all : Nat} (h26 : ∀ (w : pW) (o : Nat → Nat) (more : Bool), (w mm = some (.inr (6, fs))) → (FrI A [] [39] w0 w) → (w (A 11) = some (.inl (0, 100, .inl (fun j9 => nI (xm j9))))) → (w (A 17) = some (.inl (0, 100, .inl xl))) → (w (A 18) = some (.inl (2, 100, .inl xi))) → (w (A 40) = some (.inl (0, 4, .inl (fun j9 => nI (p j9))))) → (w (A 39) = some (.inl (0, 1600, .inl (fun j9 => nI (o j9))))) → (PS c xm bh mk (p 2) (p 3) ev oS o more (QFin xm bh mk (p 2) (p 3) ev oS)) → J ((cX6_bringDown, RX6, 8, wsX6_bringDown), (rX6_bringDown, none, "bringDown", []), fun o9 w9 => o9 = .inl none ∧ FrI A [] [39] w0 w9 ∧ ∃ o : Nat → Nat, w9 (A 39) = some (.inl (0, 1600, .inl (fun j9 => nI (o j9)))) ∧ BDF c xm bh mk (p 2) (p 3) ev o, fun _ _ _ => True) 26 [(0, .ref mm), (1, .ref r), (2, .int (zb more))] [] w 0 0) : ∀ (m9 : Nat) (w : pW) (o : Nat → Nat) (i : Nat) (more : Bool), ev - i < m9 → (w mm = some (.inr (6, fs))) → (FrI A [] [39] w0 w) → (w (A 11) = some (.inl (0, 100, .inl (fun j9 => nI (xm j9))))) → (w (A 17) = some (.inl (0, 100, .inl xl))) → (w (A 18) = some (.inl (2, 100, .inl xi))) → (w (A 40) = some (.inl (0, 4, .inl (fun j9 => nI (p j9))))) → (w (A 39) = some (.inl (0, 1600, .inl (fun j9 => nI (o j9))))) → (PS c xm bh mk (p 2) (p 3) ev oS o more (QEv xm bh (p 2) ev oS all ev ∧ ∀ e, e < i → mk e = true → oS (16 * e) ≤ all + p 3)) → (ALY c xm bh mk (p 2) (p 3) ev all) → (i ≤ ev) → J ((cX6_bringDown, RX6, 8, wsX6_bringDown), (rX6_bringDown, none, "bringDown", []), fun o9 w9 => o9 = .inl none ∧ FrI A [] [39] w0 w9 ∧ ∃ o : Nat → Nat, w9 (A 39) = some (.inl (0, 1600, .inl (fun j9 => nI (o j9)))) ∧ BDF c xm bh mk (p 2) (p 3) ev o, fun _ _ _ => True) 224 [(0, .ref mm), (1, .ref r), (2, .int (zb more)), (3, .int (nI all)), (4, .int (nI i))] [] w 0 0 := by
  intro m9
  induction m9 with
  | zero => intro w o i more h9; omega
  | succ m9 ih =>
    intro w o i more hm9 hmm hfr a11 a17 a18 a40 a39 hPS hAL hi
    have hob := hPS.1.1
    have hALN := hAL.1
    refine j_iload dX6_bringDown_224 4 rfl ?_
    refine j_aload_n dX6_bringDown_226 0 rfl ?_
    refine j_get (v := .int (nI ev)) flX6_bringDown_144 hmm h5 dX6_bringDown_227 ?_
    refine j_icmp_geN 282 (by omega) (by omega) dX6_bringDown_230 (by decide) (fun c230 => ?_) (fun c230 => ?_)
    · skip
      refine j_lv (lv' := [(0, .ref mm), (1, .ref r), (2, .int (zb more)), (3, .int (nI all)), (4, .int (nI i))]) [0, 1, 2, 3, 4] rfl ?_
      have hPf : PS c xm bh mk (p 2) (p 3) ev oS o more (QFin xm bh mk (p 2) (p 3) ev oS) := hPS.no (fun q1 q2 => ⟨all, q2.1, fun _ e he => q2.2 e (by omega)⟩)
      refine j_goto 26 dX6_bringDown_282 (by decide) ?_
      refine j_lv (lv' := [(0, .ref mm), (1, .ref r), (2, .int (zb more))]) [0, 1, 2] rfl ?_
      exact h26 _ _ _ hmm (FrI.mono hfr (by simp) rfl : FrI A [] [39] w0 _) a11 a17 a18 a40 a39 hPf
    · skip
      refine j_iload_n dX6_bringDown_233 3 rfl ?_
      refine j_ldc (v := nI 268435456) dX6_bringDown_234 mX6_bringDown_0 ?_
      refine j_icmp_geN 282 (by omega) (by omega) dX6_bringDown_236 (by decide) (fun c236 => ?_) (fun c236 => ?_)
      · skip
        refine j_lv (lv' := [(0, .ref mm), (1, .ref r), (2, .int (zb more)), (3, .int (nI all)), (4, .int (nI i))]) [0, 1, 2, 3, 4] rfl ?_
        have hPf : PS c xm bh mk (p 2) (p 3) ev oS o more (QFin xm bh mk (p 2) (p 3) ev oS) := hPS.no (fun q1 q2 => ⟨all, q2.1, fun q => by omega⟩)
        refine j_goto 26 dX6_bringDown_282 (by decide) ?_
        refine j_lv (lv' := [(0, .ref mm), (1, .ref r), (2, .int (zb more))]) [0, 1, 2] rfl ?_
        exact h26 _ _ _ hmm (FrI.mono hfr (by simp) rfl : FrI A [] [39] w0 _) a11 a17 a18 a40 a39 hPf
      · skip
        refine j_aload_n dX6_bringDown_239 0 rfl ?_
        refine j_get (v := .ref (A 18)) flX6_bringDown_41 hmm (hA.2 18 rfl) dX6_bringDown_240 ?_
        refine j_iload dX6_bringDown_243 4 rfl ?_
        refine j_zaldN (j := i) a18 rfl (by omega) (by omega) dX6_bringDown_245 ?_
        by_cases hmk : mk i = true
        · skip
          refine j_eqi (y := nI 1) (by rw [hxi i (by omega), hmk]; rfl) ?_
          refine j_if_eqN 276 (by decide) dX6_bringDown_246 (by decide) (fun h9 => absurd h9 (by decide)) (fun _ => ?_)
          refine j_aload_n dX6_bringDown_249 0 rfl ?_
          refine j_iload dX6_bringDown_250 4 rfl ?_
          refine j_iload_n dX6_bringDown_252 3 rfl ?_
          refine j_aload_n dX6_bringDown_253 0 rfl ?_
          refine j_get (v := .ref (A 40)) flX6_bringDown_68 hmm (hA.2 40 rfl) dX6_bringDown_254 ?_
          refine j_iconst (v := nI 3) dX6_bringDown_257 (by decide) ?_
          refine j_ialdN (j := 3) a40 rfl (by omega) (by omega) dX6_bringDown_258 ?_
          have hb1 := hpb 3
          refine j_iaddN dX6_bringDown_259 ?_
          have hbr2b := hob (16 * i)
          by_cases hbr2 : all + (p 3) < o (16 * i)
          · skip
            refine j_callV (rm := rX6_bring) (As := [.int (nI i), .int (nI (all + (p 3)))]) (st := []) (b0 := mm) (ci := 6) (na := 2) (m_bringY hAD hmm hA a39 (by omega) (by omega) (by omega) hbr2) (by intro E w9 h9; first | exact nomatch h9.1 | (obtain ⟨_, h9, _⟩ := h9; exact nomatch h9) | (obtain ⟨_, _, _, h9, _⟩ := h9; exact nomatch h9)) gX6_bringDown_X6_bring rfl rfl hmm (by decide +kernel) rfl ⟨Nat.le_of_ble_eq_true rfl, Nat.le_of_ble_eq_true rfl⟩ rfl (Nat.le_of_ble_eq_true rfl) dX6_bringDown_260 ⟨(show 0 + 0 ≤ 0 by omega), (show 0 + 0 ≤ 0 by omega)⟩ (fun v6 w7 h8 => ?_)
            obtain ⟨h5, hfr4, f3⟩ := h8
            cases h5
            refine j_after (st' := [.int (nI 1)]) (k' := 0) (n' := 0) rfl rfl rfl ?_
            have hP9 : PS c xm bh mk (p 2) (p 3) ev oS (va_up o (16 * i) (all + (p 3))) true (QEv xm bh (p 2) ev oS all ev ∧ ∀ e, e < i + 1 → mk e = true → oS (16 * e) ≤ all + p 3) := PS.ch hPS (by omega) hbr2 (fun y hy => hAL.2 y hy i (by omega) hmk)
            refine j_if_neN 270 (by decide) dX6_bringDown_263 (by decide) (fun _ => ?_) (fun h9 => absurd h9 (by decide))
            refine j_iconst (v := nI 1) dX6_bringDown_270 (by decide) ?_
            refine j_goto 275 dX6_bringDown_271 (by decide) ?_
            refine j_eqi (y := zb true) rfl ?_
            refine j_istore_n (lv' := [(2, .int (zb true)), (0, .ref mm), (1, .ref r), (3, .int (nI all)), (4, .int (nI i))]) dX6_bringDown_275 (Nat.le_of_ble_eq_true rfl) rfl ?_
            refine j_iinc (q := 4) (v := nI (i + 1)) (lv' := [(4, .int (nI (i + 1))), (2, .int (zb true)), (0, .ref mm), (1, .ref r), (3, .int (nI all))]) dX6_bringDown_276 rfl (by first | exact nI_1 _ | exact nI_add _ _) (Nat.le_of_ble_eq_true rfl) rfl ?_
            refine j_goto 224 dX6_bringDown_279 (by decide) ?_
            refine j_lv (lv' := [(0, .ref mm), (1, .ref r), (2, .int (zb true)), (3, .int (nI all)), (4, .int (nI (i + 1)))]) [2, 3, 1, 4, 0] rfl ?_
            have f9 := (FrI.gen hfr4 List.not_mem_nil (AD.ml hAD rfl) hmm)
            have f10 := (FrI.gen hfr4 List.not_mem_nil (AD.nl hAD 11 rfl rfl rfl) a11)
            have f11 := (FrI.gen hfr4 List.not_mem_nil (AD.nl hAD 17 rfl rfl rfl) a17)
            have f12 := (FrI.gen hfr4 List.not_mem_nil (AD.nl hAD 18 rfl rfl rfl) a18)
            have f13 := (FrI.gen hfr4 List.not_mem_nil (AD.nl hAD 40 rfl rfl rfl) a40)
            exact ih _ _ (i + 1) _ (by omega) f9 ((FrI.mono hfr (by simp) rfl : FrI A [] [39] w0 _).trans (FrI.sub hfr4 rfl)) f10 f11 f12 f13 f3 hP9 hAL (by omega)
          · skip
            refine j_callV (rm := rX6_bring) (As := [.int (nI i), .int (nI (all + (p 3)))]) (st := []) (b0 := mm) (ci := 6) (na := 2) (m_bringN hAD hmm hA a39 (by omega) (by omega) (by omega) hbr2) (by intro E w9 h9; first | exact nomatch h9.1 | (obtain ⟨_, h9, _⟩ := h9; exact nomatch h9) | (obtain ⟨_, _, _, h9, _⟩ := h9; exact nomatch h9)) gX6_bringDown_X6_bring rfl rfl hmm (by decide +kernel) rfl ⟨Nat.le_of_ble_eq_true rfl, Nat.le_of_ble_eq_true rfl⟩ rfl (Nat.le_of_ble_eq_true rfl) dX6_bringDown_260 ⟨(show 0 + 0 ≤ 0 by omega), (show 0 + 0 ≤ 0 by omega)⟩ (fun v14 w15 h16 => ?_)
            obtain ⟨h16, h17⟩ := h16
            cases h16
            subst w15
            refine j_after (st' := [.int (nI 0)]) (k' := 0) (n' := 0) rfl rfl rfl ?_
            have hP9 : PS c xm bh mk (p 2) (p 3) ev oS o more (QEv xm bh (p 2) ev oS all ev ∧ ∀ e, e < i + 1 → mk e = true → oS (16 * e) ≤ all + p 3) := PS.no hPS (fun q1 q2 => ⟨q2.1, fun e he hm => if q : e = i then by rw [q, ← q1]; omega else q2.2 e (by omega) hm⟩)
            refine j_if_neN 270 (by decide) dX6_bringDown_263 (by decide) (fun h9 => absurd rfl h9) (fun _ => ?_)
            refine j_iload_n dX6_bringDown_266 2 rfl ?_
            refine j_ztern 274 275 dX6_bringDown_267 (by decide) dX6_bringDown_270 dX6_bringDown_271 (by decide) dX6_bringDown_274 rfl ?_
            refine j_istore_n (lv' := [(2, .int (zb more)), (0, .ref mm), (1, .ref r), (3, .int (nI all)), (4, .int (nI i))]) dX6_bringDown_275 (Nat.le_of_ble_eq_true rfl) rfl ?_
            refine j_iinc (q := 4) (v := nI (i + 1)) (lv' := [(4, .int (nI (i + 1))), (2, .int (zb more)), (0, .ref mm), (1, .ref r), (3, .int (nI all))]) dX6_bringDown_276 rfl (by first | exact nI_1 _ | exact nI_add _ _) (Nat.le_of_ble_eq_true rfl) rfl ?_
            refine j_goto 224 dX6_bringDown_279 (by decide) ?_
            refine j_lv (lv' := [(0, .ref mm), (1, .ref r), (2, .int (zb more)), (3, .int (nI all)), (4, .int (nI (i + 1)))]) [2, 3, 1, 4, 0] rfl ?_
            exact ih _ _ (i + 1) _ (by omega) hmm (FrI.mono hfr (by simp) rfl : FrI A [] [39] w0 _) a11 a17 a18 a40 a39 hP9 hAL (by omega)
        · skip
          have hmk0 : mk i = false := by simpa using hmk
          refine j_eqi (y := nI 0) (by rw [hxi i (by omega), hmk0]; rfl) ?_
          refine j_if_eqN 276 (by decide) dX6_bringDown_246 (by decide) (fun _ => ?_) (fun h9 => absurd rfl h9)
          refine j_iinc (q := 4) (v := nI (i + 1)) (lv' := [(4, .int (nI (i + 1))), (0, .ref mm), (1, .ref r), (2, .int (zb more)), (3, .int (nI all))]) dX6_bringDown_276 rfl (by first | exact nI_1 _ | exact nI_add _ _) (Nat.le_of_ble_eq_true rfl) rfl ?_
          refine j_goto 224 dX6_bringDown_279 (by decide) ?_
          refine j_lv (lv' := [(0, .ref mm), (1, .ref r), (2, .int (zb more)), (3, .int (nI all)), (4, .int (nI (i + 1)))]) [1, 2, 3, 4, 0] rfl ?_
          have hP9 : PS c xm bh mk (p 2) (p 3) ev oS o more (QEv xm bh (p 2) ev oS all ev ∧ ∀ e, e < i + 1 → mk e = true → oS (16 * e) ≤ all + p 3) := PS.no hPS (fun q1 q2 => ⟨q2.1, fun e he hm => if q : e = i then absurd (q ▸ hm) hmk else q2.2 e (by omega) hm⟩)
          exact ih _ _ (i + 1) _ (by omega) hmm (FrI.mono hfr (by simp) rfl : FrI A [] [39] w0 _) a11 a17 a18 a40 a39 hP9 hAL (by omega)
set_option maxHeartbeats 4000000 in
set_option maxRecDepth 100000 in
theorem s_bd221 {c xm p : Nat → Nat} {xl xi : Nat → Int32} {bh : Nat → Option Nat} {mk : Nat → Bool} {ev r : Nat} {w0 : pW} {fs : List Value} {A : Nat → Nat} {mm : Nat} (hAD : AD A mm) (hA : RA A fs) (h5 : fs[5]? = some (.int (nI ev))) (hev : ev ≤ 100) (hm4 : ∀ e, e < ev → xm e ≤ 4) (hpb : ∀ j, p j ≤ 50) (hxl : ∀ e, e < ev → xl e = on1 (bh e) ∧ ∀ b, bh e = some b → b ≤ e) (hxi : ∀ e, e < ev → xi e = zb (mk e)) (hcN : ∀ j, c j ≤ 268435456) {oS : Nat → Nat} {all : Nat} (h26 : ∀ (w : pW) (o : Nat → Nat) (more : Bool), (w mm = some (.inr (6, fs))) → (FrI A [] [39] w0 w) → (w (A 11) = some (.inl (0, 100, .inl (fun j9 => nI (xm j9))))) → (w (A 17) = some (.inl (0, 100, .inl xl))) → (w (A 18) = some (.inl (2, 100, .inl xi))) → (w (A 40) = some (.inl (0, 4, .inl (fun j9 => nI (p j9))))) → (w (A 39) = some (.inl (0, 1600, .inl (fun j9 => nI (o j9))))) → (PS c xm bh mk (p 2) (p 3) ev oS o more (QFin xm bh mk (p 2) (p 3) ev oS)) → J ((cX6_bringDown, RX6, 8, wsX6_bringDown), (rX6_bringDown, none, "bringDown", []), fun o9 w9 => o9 = .inl none ∧ FrI A [] [39] w0 w9 ∧ ∃ o : Nat → Nat, w9 (A 39) = some (.inl (0, 1600, .inl (fun j9 => nI (o j9)))) ∧ BDF c xm bh mk (p 2) (p 3) ev o, fun _ _ _ => True) 26 [(0, .ref mm), (1, .ref r), (2, .int (zb more))] [] w 0 0) {w : pW} {o : Nat → Nat} {more : Bool} (hmm : w mm = some (.inr (6, fs))) (hfr : FrI A [] [39] w0 w) (a11 : w (A 11) = some (.inl (0, 100, .inl (fun j9 => nI (xm j9))))) (a17 : w (A 17) = some (.inl (0, 100, .inl xl))) (a18 : w (A 18) = some (.inl (2, 100, .inl xi))) (a40 : w (A 40) = some (.inl (0, 4, .inl (fun j9 => nI (p j9))))) (a39 : w (A 39) = some (.inl (0, 1600, .inl (fun j9 => nI (o j9))))) (hPS : PS c xm bh mk (p 2) (p 3) ev oS o more (QEv xm bh (p 2) ev oS all ev)) (hAL : ALY c xm bh mk (p 2) (p 3) ev all) : J ((cX6_bringDown, RX6, 8, wsX6_bringDown), (rX6_bringDown, none, "bringDown", []), fun o9 w9 => o9 = .inl none ∧ FrI A [] [39] w0 w9 ∧ ∃ o : Nat → Nat, w9 (A 39) = some (.inl (0, 1600, .inl (fun j9 => nI (o j9)))) ∧ BDF c xm bh mk (p 2) (p 3) ev o, fun _ _ _ => True) 221 [(0, .ref mm), (1, .ref r), (2, .int (zb more)), (3, .int (nI all)), (4, .int (nI ev))] [] w 0 0 := by
  have hob := hPS.1.1
  refine j_iconst (v := nI 0) dX6_bringDown_221 (by decide) ?_
  refine j_istore (lv' := [(4, .int (nI 0)), (0, .ref mm), (1, .ref r), (2, .int (zb more)), (3, .int (nI all))]) dX6_bringDown_222 (Nat.le_of_ble_eq_true rfl) rfl ?_
  refine j_lv (lv' := [(0, .ref mm), (1, .ref r), (2, .int (zb more)), (3, .int (nI all)), (4, .int (nI 0))]) [1, 2, 3, 4, 0] rfl ?_
  exact l_bd224 hAD hA h5 hev hm4 hpb hxl hxi hcN h26 _ _ _ 0 _ (Nat.lt_succ_self _) hmm (FrI.mono hfr (by simp) rfl : FrI A [] [39] w0 _) a11 a17 a18 a40 a39 (hPS.no (fun q1 q2 => ⟨q2, fun e he => by omega⟩)) hAL (Nat.zero_le _)
set_option maxHeartbeats 4000000 in
set_option maxRecDepth 100000 in
theorem l_bd26 {c xm p : Nat → Nat} {xl xi : Nat → Int32} {bh : Nat → Option Nat} {mk : Nat → Bool} {ev r : Nat} {w0 : pW} {fs : List Value} {A : Nat → Nat} {mm : Nat} (hAD : AD A mm) (hA : RA A fs) (h5 : fs[5]? = some (.int (nI ev))) (hev : ev ≤ 100) (hm4 : ∀ e, e < ev → xm e ≤ 4) (hpb : ∀ j, p j ≤ 50) (hxl : ∀ e, e < ev → xl e = on1 (bh e) ∧ ∀ b, bh e = some b → b ≤ e) (hxi : ∀ e, e < ev → xi e = zb (mk e)) (hcN : ∀ j, c j ≤ 268435456) : ∀ (m9 : Nat) (w : pW) (o : Nat → Nat) (more : Bool), (2 * sumO o ev + (if more then 1 else 0)) < m9 → (w mm = some (.inr (6, fs))) → (FrI A [] [39] w0 w) → (w (A 11) = some (.inl (0, 100, .inl (fun j9 => nI (xm j9))))) → (w (A 17) = some (.inl (0, 100, .inl xl))) → (w (A 18) = some (.inl (2, 100, .inl xi))) → (w (A 40) = some (.inl (0, 4, .inl (fun j9 => nI (p j9))))) → (w (A 39) = some (.inl (0, 1600, .inl (fun j9 => nI (o j9))))) → ((more = true ∧ INV c xm bh mk (p 2) (p 3) ev o) ∨ (more = false ∧ BDF c xm bh mk (p 2) (p 3) ev o)) → J ((cX6_bringDown, RX6, 8, wsX6_bringDown), (rX6_bringDown, none, "bringDown", []), fun o9 w9 => o9 = .inl none ∧ FrI A [] [39] w0 w9 ∧ ∃ o : Nat → Nat, w9 (A 39) = some (.inl (0, 1600, .inl (fun j9 => nI (o j9)))) ∧ BDF c xm bh mk (p 2) (p 3) ev o, fun _ _ _ => True) 26 [(0, .ref mm), (1, .ref r), (2, .int (zb more))] [] w 0 0 := by
  intro m9
  induction m9 with
  | zero => intro w o more h9; omega
  | succ m9 ih =>
    intro w o more hm9 hmm hfr a11 a17 a18 a40 a39 hST
    refine j_iload_n dX6_bringDown_26 2 rfl ?_
    rcases hST with ⟨hmo, hIN⟩ | ⟨hmo, hBF⟩
    · skip
      subst hmo
      refine j_eqi (y := nI 1) rfl ?_
      refine j_lv (lv' := [(0, .ref mm), (1, .ref r), (2, .int (zb true))]) [0, 1, 2] rfl ?_
      refine j_if_eqN 285 (by decide) dX6_bringDown_27 (by decide) (fun h9 => absurd h9 (by decide)) (fun _ => ?_)
      refine j_iconst (v := nI 0) dX6_bringDown_30 (by decide) ?_
      refine j_istore_n (lv' := [(2, .int (nI 0)), (0, .ref mm), (1, .ref r)]) dX6_bringDown_31 (Nat.le_of_ble_eq_true rfl) rfl ?_
      refine j_ldc (v := nI 268435456) dX6_bringDown_32 mX6_bringDown_0 ?_
      refine j_istore_n (lv' := [(3, .int (nI 268435456)), (2, .int (nI 0)), (0, .ref mm), (1, .ref r)]) dX6_bringDown_34 (Nat.le_of_ble_eq_true rfl) rfl ?_
      refine j_iconst (v := nI 0) dX6_bringDown_35 (by decide) ?_
      refine j_istore (lv' := [(4, .int (nI 0)), (3, .int (nI 268435456)), (2, .int (nI 0)), (0, .ref mm), (1, .ref r)]) dX6_bringDown_36 (Nat.le_of_ble_eq_true rfl) rfl ?_
      refine j_lv (lv' := [(0, .ref mm), (1, .ref r), (2, .int (nI 0)), (3, .int (nI 268435456)), (4, .int (nI 0))]) [3, 4, 2, 1, 0] rfl ?_
      have h8 := l_bd38 (oS := o) (r := r) hAD hA h5 hev hm4 hpb hxl hxi hcN (fun w2 o2 m2 al2 g0 g1 g2 g3 g4 g5 g6 hP2 hA2 => s_bd221 (oS := o) hAD hA h5 hev hm4 hpb hxl hxi hcN (fun w3 o3 m3 k0 k1 k2 k3 k4 k5 k6 hP3 => ih w3 o3 m3 (by have z := hP3.ms; simp only [if_true] at hm9; omega) k0 k1 k2 k3 k4 k5 k6 hP3.fin) g0 g1 g2 g3 g4 g5 g6 hP2 hA2) _ w o 0 false 268435456 (Nat.lt_succ_self _) hmm (FrI.mono hfr (by simp) rfl : FrI A [] [39] w0 _) a11 a17 a18 a40 a39 ⟨hIN, Nat.le_refl _, (fun q => nomatch q), fun _ => ⟨rfl, fun e he => absurd he (Nat.not_lt_zero _), fun e he => absurd he (Nat.not_lt_zero _)⟩⟩ (ALY.N hcN) (Nat.zero_le _)
      exact h8
    · skip
      subst hmo
      refine j_eqi (y := nI 0) rfl ?_
      refine j_lv (lv' := [(0, .ref mm), (1, .ref r), (2, .int (zb false))]) [0, 1, 2] rfl ?_
      refine j_if_eqN 285 (by decide) dX6_bringDown_27 (by decide) (fun _ => ?_) (fun h9 => absurd rfl h9)
      exact j_vret rfl ⟨rfl, (FrI.mono hfr (by simp) rfl : FrI A [] [39] w0 _), o, a39, hBF⟩ (show 0 ≤ 0 by omega) (show 0 ≤ 0 by omega) dX6_bringDown_285
set_option maxHeartbeats 4000000 in
set_option maxRecDepth 100000 in
theorem l_bd2 {c xm p : Nat → Nat} {xl xi : Nat → Int32} {bh : Nat → Option Nat} {mk : Nat → Bool} {ev r : Nat} {w0 : pW} {fs : List Value} {A : Nat → Nat} {mm : Nat} (hAD : AD A mm) (hA : RA A fs) (h5 : fs[5]? = some (.int (nI ev))) (hev : ev ≤ 100) (hm4 : ∀ e, e < ev → xm e ≤ 4) (hpb : ∀ j, p j ≤ 50) (hxl : ∀ e, e < ev → xl e = on1 (bh e) ∧ ∀ b, bh e = some b → b ≤ e) (hxi : ∀ e, e < ev → xi e = zb (mk e)) (hcN : ∀ j, c j ≤ 268435456) {o0 : Nat → Nat} (hoN : ∀ j, o0 j ≤ 268435456) (hrw : RW A mm r) : ∀ (m9 : Nat) (w : pW) (i : Nat), 1600 - i < m9 → (w mm = some (.inr (6, fs))) → (FrI A [] [39] w0 w) → (w (A 11) = some (.inl (0, 100, .inl (fun j9 => nI (xm j9))))) → (w (A 17) = some (.inl (0, 100, .inl xl))) → (w (A 18) = some (.inl (2, 100, .inl xi))) → (w (A 40) = some (.inl (0, 4, .inl (fun j9 => nI (p j9))))) → (w (A 39) = some (.inl (0, 1600, .inl (fun j9 => nI ((fil o0 c i) j9))))) → (w r = some (.inl (0, 1600, .inl (fun j9 => nI (c j9))))) → (i ≤ 1600) → J ((cX6_bringDown, RX6, 8, wsX6_bringDown), (rX6_bringDown, none, "bringDown", []), fun o9 w9 => o9 = .inl none ∧ FrI A [] [39] w0 w9 ∧ ∃ o : Nat → Nat, w9 (A 39) = some (.inl (0, 1600, .inl (fun j9 => nI (o j9)))) ∧ BDF c xm bh mk (p 2) (p 3) ev o, fun _ _ _ => True) 2 [(0, .ref mm), (1, .ref r), (2, .int (nI i))] [] w 0 0 := by
  intro m9
  induction m9 with
  | zero => intro w i h9; omega
  | succ m9 ih =>
    intro w i hm9 hmm hfr a11 a17 a18 a40 a39 hr0 hi
    refine j_iload_n dX6_bringDown_2 2 rfl ?_
    refine j_sipush (v := nI 1600) dX6_bringDown_3 (by decide) ?_
    refine j_icmp_geN 24 (by omega) (by omega) dX6_bringDown_6 (by decide) (fun c6 => ?_) (fun c6 => ?_)
    · skip
      refine j_iconst (v := nI 1) dX6_bringDown_24 (by decide) ?_
      refine j_istore_n (lv' := [(2, .int (nI 1)), (0, .ref mm), (1, .ref r)]) dX6_bringDown_25 (Nat.le_of_ble_eq_true rfl) rfl ?_
      refine j_lv (lv' := [(0, .ref mm), (1, .ref r), (2, .int (nI 1))]) [1, 2, 0] rfl ?_
      have hin : i = 1600 := by omega
      subst hin
      have h8 := l_bd26 (r := r) hAD hA h5 hev hm4 hpb hxl hxi hcN _ _ _ true (Nat.lt_succ_self _) hmm (FrI.mono hfr (by simp) rfl : FrI A [] [39] w0 _) a11 a17 a18 a40 a39 (Or.inl ⟨rfl, INV_0 hcN hoN hev⟩)
      exact h8
    · skip
      refine j_aload_n dX6_bringDown_9 0 rfl ?_
      refine j_get (v := .ref (A 39)) flX6_bringDown_65 hmm (hA.2 39 rfl) dX6_bringDown_10 ?_
      refine j_iload_n dX6_bringDown_13 2 rfl ?_
      refine j_aload_n dX6_bringDown_14 1 rfl ?_
      refine j_iload_n dX6_bringDown_15 2 rfl ?_
      refine j_ialdN (j := i) hr0 rfl (by omega) (by omega) dX6_bringDown_16 ?_
      refine j_iastn (j := i) (x := c i) a39 rfl (by omega) (by omega) dX6_bringDown_17 ?_
      refine j_w (fun w1 hw1 => ?_)
      have f2 : w1 (A 39) = some (.inl (0, 1600, .inl (fun j9 => nI ((va_up (fil o0 c i) i (c i)) j9)))) := up_at hw1
      refine j_iinc (q := 2) (v := nI (i + 1)) (lv' := [(2, .int (nI (i + 1))), (0, .ref mm), (1, .ref r)]) dX6_bringDown_18 rfl (by first | exact nI_1 _ | exact nI_add _ _) (Nat.le_of_ble_eq_true rfl) rfl ?_
      refine j_goto 2 dX6_bringDown_21 (by decide) ?_
      refine j_lv (lv' := [(0, .ref mm), (1, .ref r), (2, .int (nI (i + 1)))]) [1, 2, 0] rfl ?_
      have f3 := (up_ne hw1 (AD.mn hAD 39 rfl) hmm)
      have f4 := (up_ne hw1 (AD.ne hAD 11 39 rfl rfl rfl) a11)
      have f5 := (up_ne hw1 (AD.ne hAD 17 39 rfl rfl rfl) a17)
      have f6 := (up_ne hw1 (AD.ne hAD 18 39 rfl rfl rfl) a18)
      have f7 := (up_ne hw1 (AD.ne hAD 40 39 rfl rfl rfl) a40)
      have f8 := (up_ne hw1 (hrw.2 39 rfl) hr0)
      exact ih _ (i + 1) (by omega) f3 ((FrI.mono hfr (by simp) rfl : FrI A [] [39] w0 _).trans (FrI.ua hw1 rfl)) f4 f5 f6 f7 (by rw [← fil_s]; exact f2) f8 (by omega)
set_option maxHeartbeats 4000000 in
set_option maxRecDepth 100000 in
theorem m_bringDown {c xm p o0 : Nat → Nat} {xl xi : Nat → Int32} {bh : Nat → Option Nat} {mk : Nat → Bool} {ev r : Nat} {w : pW} {A : Nat → Nat} {mm : Nat} {fs : List Value} (hAD : AD A mm) (hmm : w mm = some (.inr (6, fs))) (hA : RA A fs) (h5 : fs[5]? = some (.int (nI ev))) (a11 : w (A 11) = some (.inl (0, 100, .inl (fun j9 => nI (xm j9))))) (a17 : w (A 17) = some (.inl (0, 100, .inl xl))) (a18 : w (A 18) = some (.inl (2, 100, .inl xi))) (a40 : w (A 40) = some (.inl (0, 4, .inl (fun j9 => nI (p j9))))) (a39 : w (A 39) = some (.inl (0, 1600, .inl (fun j9 => nI (o0 j9))))) (hr0 : w r = some (.inl (0, 1600, .inl (fun j9 => nI (c j9))))) (hrw : RW A mm r) (hev : ev ≤ 100) (hm4 : ∀ e, e < ev → xm e ≤ 4) (hpb : ∀ j, p j ≤ 50) (hxl : ∀ e, e < ev → xl e = on1 (bh e) ∧ ∀ b, bh e = some b → b ≤ e) (hxi : ∀ e, e < ev → xi e = zb (mk e)) (hcN : ∀ j, c j ≤ 268435456) (hoN : ∀ j, o0 j ≤ 268435456) : Ct yX6_bringDown wsX6_bringDown rX6_bringDown [.ref mm, .ref r] w (fun o9 w9 => o9 = .inl none ∧ FrI A [] [39] w w9 ∧ ∃ o : Nat → Nat, w9 (A 39) = some (.inl (0, 1600, .inl (fun j9 => nI (o j9)))) ∧ BDF c xm bh mk (p 2) (p 3) ev o) := by
  refine Ct.of (cc := cX6_bringDown) (own := RX6) (nm := "bringDown") (nL := 8) (ret := none) (by decide +kernel) rfl rfl rfl (Nat.le_of_ble_eq_true rfl) ?_
  refine j_lvE (lv' := [(0, .ref mm), (1, .ref r)]) rfl ?_
  refine j_iconst (v := nI 0) dX6_bringDown_0 (by decide) ?_
  refine j_istore_n (lv' := [(2, .int (nI 0)), (0, .ref mm), (1, .ref r)]) dX6_bringDown_1 (Nat.le_of_ble_eq_true rfl) rfl ?_
  refine j_lv (lv' := [(0, .ref mm), (1, .ref r), (2, .int (nI 0))]) [1, 2, 0] rfl ?_
  exact l_bd2 hAD hA h5 hev hm4 hpb hxl hxi hcN hoN hrw _ _ 0 (Nat.lt_succ_self _) hmm FrI.refl a11 a17 a18 a40 (by rw [fil_0]; exact a39) hr0 (Nat.zero_le _)
