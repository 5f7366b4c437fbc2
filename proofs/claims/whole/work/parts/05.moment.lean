/-- FAR at the first n places -/
def clr (d : Nat → Nat) (n : Nat) : Nat → Nat := fun j => if j < n then 1000000 else d j
theorem clr_0 (d : Nat → Nat) : clr d 0 = d := by funext j; simp [clr]
theorem clr_s (d : Nat → Nat) (i : Nat) : va_up (clr d i) i 1000000 = clr d (i + 1) := by
  funext j
  by_cases h : j = i
  · subst h; rw [va_up_self]; simp [clr]
  · rw [va_up_ne _ _ h]
    by_cases h2 : j < i
    · simp [clr, h2, Nat.lt_succ_of_lt h2]
    · simp [clr, h2, show ¬ j < i + 1 by omega]
theorem clr_lt {d : Nat → Nat} {n j : Nat} (h : j < n) : clr d n j = 1000000 := by simp [clr, h]
/-- a cost is offered to a place -/
def offN (d : Nat → Nat) (cn s c : Nat) : Nat → Nat := if s < cn then va_up d s (min (d s) c) else d
abbrev rX1_init : Room := { frames := 1, cells := 1, slots := 0, locals := 24 }
abbrev rX1_costAt : Room := { frames := 0, cells := 0, slots := 0, locals := 0 }
theorem flX1_costAt_7 : FL wsX1_costAt RX1 7 1 2 := ⟨RX1, TX1, 10, rfl, by decide, by decide +kernel, by decide +kernel⟩
set_option maxHeartbeats 4000000 in
set_option maxRecDepth 100000 in
theorem c_costAt {w : pW} {mo ca : Nat} {bf nx av ah : Option Nat} {cl pe pb pc an cn : Nat} {d : Nat → Nat} (hm : w mo = some (.inr (1, [va_rf bf, va_rf nx, .ref ca, .int (nI cl), .int (nI pe), .int (nI pb), .int (nI pc), .int (nI an), va_rf av, va_rf ah]))) (hc : w ca = some (.inl (0, cn, .inl (fun j9 => nI (d j9))))) (hcn : cn ≤ 100000) {s : Nat} (hs : s < cn) : Ct yX1_costAt wsX1_costAt rX1_costAt [.ref mo, .int (nI s)] w (fun o w9 => o = .inl (some (.int (nI (d s)))) ∧ w9 = w) := by
  refine Ct.of (cc := cX1_costAt) (own := RX1) (nm := "costAt") (nL := 2) (ret := (some .int)) (by decide) rfl rfl rfl (Nat.le_of_ble_eq_true rfl) ?_
  refine j_lvE (lv' := [(0, .ref mo), (1, .int (nI s))]) rfl ?_
  refine j_iload_n dX1_costAt_0 1 rfl ?_
  refine j_if_ltN (by omega) dX1_costAt_1 (by decide : _ = ((22 : Nat) : Int)) ?_
  refine j_iload_n dX1_costAt_4 1 rfl ?_
  refine j_aload_n dX1_costAt_5 0 rfl ?_
  refine j_get flX1_costAt_7 hm rfl dX1_costAt_6 ?_
  refine j_alen (v := nI cn) (by decide) hc rfl dX1_costAt_9 ?_
  refine j_icmp_geN 22 (by omega) (by omega) dX1_costAt_10 (by decide) (fun c10 => ?_) (fun c10 => ?_)
  · skip
    exfalso; omega
  · skip
    refine j_aload_n dX1_costAt_13 0 rfl ?_
    refine j_get flX1_costAt_7 hm rfl dX1_costAt_14 ?_
    refine j_iload_n dX1_costAt_17 1 rfl ?_
    refine j_ialdN (j := s) hc rfl (by omega) (by omega) dX1_costAt_18 ?_
    refine j_goto 24 dX1_costAt_19 (by decide) ?_
    exact j_iret rfl ⟨rfl, rfl⟩ (show 0 ≤ 0 by omega) (show 0 ≤ 0 by omega) dX1_costAt_24
abbrev rX1_offer : Room := { frames := 0, cells := 0, slots := 0, locals := 0 }
theorem flX1_offer_7 : FL wsX1_offer RX1 7 1 2 := ⟨RX1, TX1, 10, rfl, by decide, by decide +kernel, by decide +kernel⟩
set_option maxHeartbeats 4000000 in
set_option maxRecDepth 100000 in
theorem c_offer {w : pW} {mo ca : Nat} {bf nx av ah : Option Nat} {cl pe pb pc an cn : Nat} {d : Nat → Nat} (hm : w mo = some (.inr (1, [va_rf bf, va_rf nx, .ref ca, .int (nI cl), .int (nI pe), .int (nI pb), .int (nI pc), .int (nI an), va_rf av, va_rf ah]))) (hc : w ca = some (.inl (0, cn, .inl (fun j9 => nI (d j9))))) (hcn : cn ≤ 100000) {s c : Nat} (hs : s < 2 ^ 31) (hc2 : c < 2 ^ 31) (hd : ∀ j, d j < 2 ^ 31) : Ct yX1_offer wsX1_offer rX1_offer [.ref mo, .int (nI s), .int (nI c)] w (fun o w9 => o = .inl none ∧ w9 = va_up w ca (some (.inl (0, cn, .inl (fun j9 => nI ((offN d cn s c) j9)))))) := by
  refine Ct.of (cc := cX1_offer) (own := RX1) (nm := "offer") (nL := 3) (ret := none) (by decide) rfl rfl rfl (Nat.le_of_ble_eq_true rfl) ?_
  refine j_lvE (lv' := [(0, .ref mo), (1, .int (nI s)), (2, .int (nI c))]) rfl ?_
  have hds := hd s
  refine j_iload_n dX1_offer_0 1 rfl ?_
  refine j_if_ltN (by omega) dX1_offer_1 (by decide : _ = ((30 : Nat) : Int)) ?_
  refine j_iload_n dX1_offer_4 1 rfl ?_
  refine j_aload_n dX1_offer_5 0 rfl ?_
  refine j_get flX1_offer_7 hm rfl dX1_offer_6 ?_
  refine j_alen (v := nI cn) (by decide) hc rfl dX1_offer_9 ?_
  refine j_icmp_geN 30 (by omega) (by omega) dX1_offer_10 (by decide) (fun c10 => ?_) (fun c10 => ?_)
  · skip
    exact j_vret rfl ⟨rfl, by rw [show offN d cn s c = d by (simp only [offN]; split <;> first | rfl | (rw [Nat.min_eq_left (by omega)]; funext q; by_cases hq : q = s <;> simp [va_up, hq]))]; exact (up_same hc).symm⟩ (show 0 ≤ 0 by omega) (show 0 ≤ 0 by omega) dX1_offer_30
  · skip
    refine j_iload_n dX1_offer_13 2 rfl ?_
    refine j_aload_n dX1_offer_14 0 rfl ?_
    refine j_get flX1_offer_7 hm rfl dX1_offer_15 ?_
    refine j_iload_n dX1_offer_18 1 rfl ?_
    refine j_ialdN (j := s) hc rfl (by omega) (by omega) dX1_offer_19 ?_
    refine j_icmp_geN 30 (by omega) (by omega) dX1_offer_20 (by decide) (fun c20 => ?_) (fun c20 => ?_)
    · skip
      exact j_vret rfl ⟨rfl, by rw [show offN d cn s c = d by (simp only [offN]; split <;> first | rfl | (rw [Nat.min_eq_left (by omega)]; funext q; by_cases hq : q = s <;> simp [va_up, hq]))]; exact (up_same hc).symm⟩ (show 0 ≤ 0 by omega) (show 0 ≤ 0 by omega) dX1_offer_30
    · skip
      refine j_aload_n dX1_offer_23 0 rfl ?_
      refine j_get flX1_offer_7 hm rfl dX1_offer_24 ?_
      refine j_iload_n dX1_offer_27 1 rfl ?_
      refine j_iload_n dX1_offer_28 2 rfl ?_
      refine j_iastn (j := s) (x := c) hc rfl (by omega) (by omega) dX1_offer_29 ?_
      refine j_w (fun w1 hw1 => ?_)
      have f2 := up_ne hw1 (fk hm hc rfl) hm
      have f3 : w1 ca = some (.inl (0, cn, .inl (fun j9 => nI ((va_up d s c) j9)))) := up_at hw1
      exact j_vret rfl ⟨rfl, by rw [hw1]; simp only [offN]; rw [if_pos (by omega), Nat.min_eq_right (by omega)]⟩ (show 0 ≤ 0 by omega) (show 0 ≤ 0 by omega) dX1_offer_30
