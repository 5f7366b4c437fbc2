/-! the law's entry -/
set_option maxRecDepth 100000 in
theorem muL_law_X5 : ∀ w ∈ u_ws RX5 TX5 6, w ∈ wsL_law := by decide +kernel
set_option maxRecDepth 100000 in
theorem muL_law_X6 : ∀ w ∈ u_ws RX6 TX6 45, w ∈ wsL_law := by decide +kernel
set_option maxRecDepth 100000 in
theorem mL_law_0 : Cond.classLink RL 8 RX5 ∈ wsL_law := by decide +kernel
set_option maxRecDepth 100000 in
theorem mL_law_1 : Cond.instantiable RX5 6 ∈ wsL_law := by decide +kernel
set_option maxRecDepth 100000 in
theorem mL_law_2 : Cond.initialized RX5 ∈ wsL_law := by decide +kernel
set_option maxRecDepth 100000 in
theorem mL_law_3 : Cond.classLink RL 51 RX6 ∈ wsL_law := by decide +kernel
set_option maxRecDepth 100000 in
theorem mL_law_4 : Cond.instantiable RX6 45 ∈ wsL_law := by decide +kernel
set_option maxRecDepth 100000 in
theorem mL_law_5 : Cond.initialized RX6 ∈ wsL_law := by decide +kernel
set_option maxRecDepth 100000 in
theorem mL_law_6 : Cond.arrayClass .long ∈ wsL_law := by decide +kernel
set_option maxRecDepth 100000 in
theorem mL_law_7 : Cond.methodLink RL 50 yX5_init ∈ wsL_law := by decide +kernel
set_option maxRecDepth 100000 in
theorem mL_law_8 : Cond.instanceMethod yX5_init ∈ wsL_law := by decide +kernel
set_option maxRecDepth 100000 in
theorem mL_law_9 : Cond.methodLink RL 53 yX6_init ∈ wsL_law := by decide +kernel
set_option maxRecDepth 100000 in
theorem mL_law_10 : Cond.instanceMethod yX6_init ∈ wsL_law := by decide +kernel
/-- the state of both at first -/
def st0 (f : Nat → Int32) : St := (fun _ => 0, 0, 1000, 0, -1, (1, 0, 0, false, false, 0, 0, 0, f, 0, 0, 0, 0, 0, 0), pr0, 0, fun _ => 0, fun _ => 0, fun _ => 0, fun _ => 0, fun _ _ => 0)
theorem PU_0 {f : Nat → Int32} : PU (st0 f) (fun _ _ => 0) (fun _ _ => 0) := by
  refine ⟨⟨RJ_0 f, ⟨fun e he => absurd he (Nat.not_lt_zero _), fun q => absurd q (by decide)⟩, ⟨by decide, rfl, fun e he => absurd he (Nat.not_lt_zero _)⟩⟩, ⟨Nat.zero_le _, fun _ => rfl, rfl, rfl, rfl⟩, ⟨fun _ => (by decide : 0 < 100), fun _ => (by decide : 0 < 16), fun _ => Nat.zero_le _, pr0_le, fun _ => (by decide : 0 < 256), Nat.zero_le _, fun _ _ => Nat.zero_le _⟩, fun i j _ _ _ => Nat.le_refl _, fun i _ => ⟨fun e he => absurd he (Nat.not_lt_zero _), fun e he => absurd he (Nat.not_lt_zero _), Nat.zero_le _, fun z => absurd z (Nat.lt_irrefl _), rfl, fun e he => absurd he (Nat.not_lt_zero _), Nat.zero_le _⟩, fun z => absurd z (Nat.lt_irrefl _)⟩
theorem rRead_0 {f : Nat → Int32} : rRead (fun _ => 0) 0 f = (0, 0, (1, 0, 0, false, false, 0, 0, 0, f, 0, 0, 0, 0, 0, 0)) := by
  simp [rRead, rRun, rS0, skB, whl, tkK, tkV, tk, rFault, stA, tooM]
set_option maxHeartbeats 4000000 in
set_option maxRecDepth 100000 in
theorem w_entry {bs L : Nat} {xs : Nat → Int32} (hL : L ≤ 3072) : J (lwP bs L xs) 0 [(0, .ref bs)] [] (fun _ => none) 0 0 := by
  refine j_new (ci := 5) (fs := [.null, .int (nI 0), .null, .null, .null, .int (nI 0)]) tyX5 rfl muL_law_X5 tyX5_ok mL_law_0 mL_law_1 mL_law_2 (by decide +kernel) (show 0 + 1 ≤ 601024 by omega) (show 0 + 6 ≤ 7293033 by omega) dL_law_0 (fun pt _ => ?_)
  refine j_w (fun w1 hw1 => ?_)
  have hp1 : w1 pt = some (.inr (5, [.null, .int (nI 0), .null, .null, .null, .int (nI 0)])) := up_at hw1
  refine j_dup dL_law_3 rfl ?_
  refine j_callI (na := 0) (As := []) (st := [.ref pt]) (c_initW hp1) (fun E w9 h => nomatch h.1) gL_law_X5_init rfl mL_law_2 mL_law_7 mL_law_8 rfl (by decide +kernel) rfl ⟨Nat.le_of_ble_eq_true rfl, Nat.le_of_ble_eq_true rfl⟩ rfl (Nat.le_of_ble_eq_true rfl) dL_law_4 ⟨(show 1 + 14 ≤ 601024 by omega), (show 6 + 5451 ≤ 7293033 by omega)⟩ (fun v w2 h2 => ?_)
  obtain ⟨ho, ⟨tx, rd, to, sd, fd, sc, fa, fo, pr, ar, de, f, ml, ca, hCW⟩, -⟩ := h2
  cases ho
  refine j_after (st' := [.ref pt]) (k' := 15) (n' := 5457) rfl rfl rfl ?_
  refine j_astore_n (lv' := [(1, .ref pt), (0, .ref bs)]) dL_law_7 (Nat.le_of_ble_eq_true rfl) rfl ?_
  refine j_new (ci := 6) (fs := fs00) tyX6 rfl muL_law_X6 tyX6_ok mL_law_3 mL_law_4 mL_law_5 (by decide +kernel) (show 15 + 1 ≤ 601024 by omega) (show 5457 + 45 ≤ 7293033 by omega) dL_law_8 (fun mm hmm => ?_)
  refine j_w (fun w3 hw3 => ?_)
  have hm3 : w3 mm = some (.inr (6, fs00)) := up_at hw3
  have hk3 : ∀ x c, w2 x = some c → w3 x = some c := fun x c hx => up_ne hw3 (fun z => by rw [z, hmm] at hx; cases hx) hx
  refine j_dup dL_law_11 rfl ?_
  refine j_callI (na := 0) (As := []) (st := [.ref mm]) (m_init hm3) (fun E w9 h => by obtain ⟨_, _, _, h, _⟩ := h; cases h) gL_law_X6_init rfl mL_law_5 mL_law_9 mL_law_10 rfl (by decide +kernel) rfl ⟨Nat.le_of_ble_eq_true rfl, Nat.le_of_ble_eq_true rfl⟩ rfl (Nat.le_of_ble_eq_true rfl) dL_law_12 ⟨(show 16 + 421 ≤ 601024 by omega), (show 5502 + 651707 ≤ 7293033 by omega)⟩ (fun v w4 h4 => ?_)
  obtain ⟨A, cr, fs9, ho, hRA, hAD, hff, f4, f44, hm4, hAn, hcr, hinj, hTA, a1, a20, a35, a36, a37, a38, a39, a40, a41, a42, hKS⟩ := h4
  cases ho
  have hS : MS A cr mm := ⟨hAD, fun i hi => (hcr i hi).2.1, hinj⟩
  refine j_after (st' := [.ref mm]) (k' := 437) (n' := 657209) rfl rfl rfl ?_
  refine j_astore_n (lv' := [(2, .ref mm), (1, .ref pt), (0, .ref bs)]) dL_law_15 (Nat.le_of_ble_eq_true rfl) rfl ?_
  refine j_iconst (v := 1) dL_law_16 (by decide) ?_
  refine j_newl (N := 1) mL_law_6 (by decide) (by decide) (by omega) (show 437 + 1 ≤ 601024 by omega) (show 657209 + 1 ≤ 7293033 by omega) dL_law_17 (fun ou hou => ?_)
  refine j_w (fun w5 hw5 => ?_)
  have ho5 : w5 ou = some (.inl (3, 1, .inr (.inl (fun _ => 0)))) := up_at hw5
  have hk5 : ∀ x c, w4 x = some c → w5 x = some c := fun x c hx => up_ne hw5 (fun z => by rw [z, hou] at hx; cases hx) hx
  refine j_astore_n (lv' := [(3, .ref ou), (2, .ref mm), (1, .ref pt), (0, .ref bs)]) dL_law_19 (Nat.le_of_ble_eq_true rfl) rfl ?_
  refine j_iconst (v := nI 0) dL_law_20 (by decide) ?_
  refine j_istore (lv' := [(4, .int (nI 0)), (3, .ref ou), (2, .ref mm), (1, .ref pt), (0, .ref bs)]) dL_law_21 (Nat.le_of_ble_eq_true rfl) rfl ?_
  have hMI4 : MI A cr mm w4 (st0 f) (fun _ _ => 0) (fun _ _ => 0) 0 := by
    obtain ⟨b1, b2, b3, b4, b5, b6, b7, b8, b9, b10⟩ := hTA
    refine ⟨fs9, 0, 0, nI 0, fun _ => 0, f, 0, fun _ => 0, fun _ => 0, fun _ => 0, fun _ => 0, fun _ => 0, fun _ => 0, fun _ => 0, fun _ => 0, ⟨hm4, hRA⟩, ⟨hff.at rfl rfl, hff.at rfl rfl, hff.at rfl rfl, f4⟩, ⟨hff.at rfl rfl, hff.at rfl rfl, hff.at rfl rfl, hff.at rfl rfl, hff.at rfl rfl⟩, ⟨hff.at rfl rfl, hff.at rfl rfl, hff.at rfl rfl, hff.at rfl rfl, f44⟩, ⟨⟨b1, b2, b3, b4, b5, b6, b7, b8, b9, b10⟩, fun e he => absurd he (Nat.not_lt_zero _), ⟨fun _ => rfl, fun z => absurd z (Nat.lt_irrefl _)⟩⟩, ⟨a1, a20, fun j hj => rfl, fun _ => (by decide : 0 < 256)⟩, ⟨a35, a36, a37, a38, a39, a40⟩, ⟨a41, a42, (fun i a z => nomatch z)⟩, fun i hi => (hcr i hi).2.2, ⟨rRead_0, Or.inl rfl, rfl, rfl, fun _ => (by decide : 0 < 256), Nat.zero_le _, fun _ => Nat.zero_le _⟩⟩
  have hMI : MI A cr mm w5 (st0 f) (fun _ _ => 0) (fun _ _ => 0) 0 := hMI4.fr (fun x hx => by
    obtain ⟨c, hc, -⟩ := hMI4.held x hx
    rw [hc, hk5 x c hc])
  have hnew : ∀ x c, w2 x = some c → ¬ MO A cr mm ou x := fun x c hx hq => by
    have h3 := hk3 x c hx
    rcases hq with (z | ⟨i, hi, z⟩ | ⟨i, hi, z⟩) | z
    · rw [z, hmm] at hx; cases hx
    · rw [z, hAn i hi] at h3; cases h3
    · rw [z, (hcr i hi).1] at h3; cases h3
    · have h4 := hKS x c (fun y => by rw [y, hmm] at hx; cases hx) h3
      rw [z, hou] at h4; cases h4
  have hou2 : ¬ OW A cr mm ou := fun q => by
    obtain ⟨c, hc, -⟩ := hMI4.held ou q
    rw [hou] at hc
    cases hc
  have hCI : CI (MO A cr mm ou) w5 pt (st0 f) := by
    have hCW5 := hCW.fr (w9 := w5) (fun x c hx _ => hk5 x c (hKS x c (fun y => by rw [y, hmm] at hx; cases hx) (hk3 x c hx)))
    obtain ⟨⟨e1, e2, e3, e4⟩, ⟨_, _, _, _, _, _, e5⟩, ⟨_, _, _, _, _, _, _, e6, e7⟩, ⟨_, _, _, _, _, _, e8⟩, ⟨e9, e10, e11⟩, ⟨e12, e13, e14, e15, e16⟩, e17, e18, e19⟩ := hCW
    refine ⟨tx, rd, to, sd, fd, sc, fa, fo, pr, ar, de, _, _, ml, ca, _, _, hCW5, ⟨fun x hx => ?_, fun i hi => hnew _ _ (e17.2.2.1 i hi).1⟩, fun i hi => Nat.zero_le _⟩
    simp only [List.mem_cons, List.not_mem_nil, or_false] at hx
    rcases hx with rfl | rfl | rfl | rfl | rfl | rfl
    · exact hnew _ _ e2
    · exact hnew _ _ e7
    · exact hnew _ _ e10
    · exact hnew _ _ e13
    · exact hnew _ _ e14
    · exact hnew _ _ e15
  refine j_after (st' := []) (k' := 438 + 4 * 0) (n' := 657210 + 1616 * 0) rfl rfl rfl ?_
  exact w_loop hS hou2 hL (L + 1) 0 0 w5 (by omega) rfl (Nat.zero_le _) ⟨st0 f, _, _, 0, _, hCI, hMI, PU_0, ho5⟩
