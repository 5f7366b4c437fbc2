abbrev rL_music : Room := { frames := 8, cells := 2, slots := 1606, locals := 179 }
set_option maxRecDepth 100000 in
theorem mL_music_0 : Cond.classLink RL 13 "java/lang/IllegalArgumentException" ∈ wsL_music := by decide +kernel
set_option maxHeartbeats 4000000 in
set_option maxRecDepth 100000 in
theorem l_music {w : pW} {pt ou : Nat} {fsP : List Value} {fo : Nat → Int64} {x0 : Int32} {Q : pO → pW → Prop} (hpt : w pt = some (.inr (5, fsP))) (hM : Ct yX5_music wsX5_music rX5_music [.ref pt, .int x0] w Q) (hE : ∀ E w9, Q (.inr E) w9 → E = "java/lang/IllegalArgumentException") (hI : ∀ v w9, Q (.inl v) w9 → (∃ r : Int32, v = some (.int r)) ∧ w9 ou = some (.inl (3, 1, .inr (.inl fo)))) : Ct yL_music wsL_music rL_music [.ref pt, .int x0, .ref ou] w (fun o w9 => (∃ (r : Int32) (w8 : pW), Q (.inl (some (.int r))) w8 ∧ o = .inl (some (.int (nI 0))) ∧ w9 = va_up w8 ou (some (.inl (3, 1, .inr (.inl (vp_updL fo 0 (r.toInt64))))))) ∨ (Q (.inr "java/lang/IllegalArgumentException") w9 ∧ o = .inl (some (.int (nI 1))))) := by
  refine Ct.ofC (cc := cL_music) (own := RL) (nm := "music") (nL := 4) (ret := (some .int)) (hh := [(0, 9, 12, 13)]) (by decide +kernel) rfl rfl rfl (Nat.le_of_ble_eq_true rfl) ?_
  refine j_lvE (lv' := [(0, .ref pt), (1, .int x0), (2, .ref ou)]) rfl ?_
  refine j_aload_n dL_music_0 2 rfl ?_
  refine j_iconst (v := nI 0) dL_music_1 (by decide) ?_
  refine j_aload_n dL_music_2 0 rfl ?_
  refine j_iload_n dL_music_3 1 rfl ?_
  refine j_callVC (rm := rX5_music) (As := [.int x0]) (st := [.int (nI 0), .ref ou]) (b0 := pt) (ci := 5) (na := 1) (ct := 13) (hp9 := 12) (E9 := "java/lang/IllegalArgumentException") hM hE (Or.inl rfl) rfl rfl rfl (by decide) rfl mL_music_0 gL_music_X5_music rfl rfl hpt (by decide +kernel) rfl ⟨Nat.le_of_ble_eq_true rfl, Nat.le_of_ble_eq_true rfl⟩ rfl (Nat.le_of_ble_eq_true rfl) dL_music_4 ⟨(show 0 + 2 ≤ 2 by omega), (show 0 + 1606 ≤ 1606 by omega)⟩ (fun v w1 h1 => ?_) (fun q w1 h1 => ?_)
  · skip
    obtain ⟨⟨r, rfl⟩, ho⟩ := hI v w1 h1
    refine j_after (st' := [.int r, .int (nI 0), .ref ou]) (k' := 2) (n' := 1606) rfl (by first | rfl | omega) (by first | rfl | omega) ?_
    refine j_i2l dL_music_7 rfl ?_
    refine j_lastN (j := 0) ho rfl (by omega) (by omega) dL_music_8 ?_
    refine j_goto 15 dL_music_9 (by decide) ?_
    refine j_iconst (v := nI 0) dL_music_15 (by decide) ?_
    exact j_iret rfl (Or.inl ⟨r, w1, h1, rfl, rfl⟩) (show 2 ≤ 2 by omega) (show 1606 ≤ 1606 by omega) dL_music_16
  · skip
    refine j_after (st' := [.ref q]) (k' := 2) (n' := 1606) rfl (by first | rfl | omega) (by first | rfl | omega) ?_
    refine j_astore_n (lv' := [(3, .ref q), (0, .ref pt), (1, .int x0), (2, .ref ou)]) dL_music_12 (Nat.le_of_ble_eq_true rfl) rfl ?_
    refine j_iconst (v := nI 1) dL_music_13 (by decide) ?_
    exact j_iret rfl (Or.inr ⟨h1, rfl⟩) (show 2 ≤ 2 by omega) (show 1606 ≤ 1606 by omega) dL_music_14
abbrev rL_fault : Room := { frames := 7, cells := 1, slots := 6, locals := 111 }
set_option maxRecDepth 100000 in
theorem mL_fault_0 : Cond.classLink RL 18 "java/util/NoSuchElementException" ∈ wsL_fault := by decide +kernel
set_option maxHeartbeats 4000000 in
set_option maxRecDepth 100000 in
theorem l_fault {w : pW} {pt ou : Nat} {fsP : List Value} {fo : Nat → Int64} {x0 : Int32} {Q : pO → pW → Prop} (hpt : w pt = some (.inr (5, fsP))) (hM : Ct yX5_fault wsX5_fault rX5_fault [.ref pt, .int x0] w Q) (hE : ∀ E w9, Q (.inr E) w9 → E = "java/util/NoSuchElementException") (hI : ∀ v w9, Q (.inl v) w9 → (∃ r : Int32, v = some (.int r)) ∧ w9 ou = some (.inl (3, 1, .inr (.inl fo)))) : Ct yL_fault wsL_fault rL_fault [.ref pt, .int x0, .ref ou] w (fun o w9 => (∃ (r : Int32) (w8 : pW), Q (.inl (some (.int r))) w8 ∧ o = .inl (some (.int (nI 0))) ∧ w9 = va_up w8 ou (some (.inl (3, 1, .inr (.inl (vp_updL fo 0 (r.toInt64))))))) ∨ (Q (.inr "java/util/NoSuchElementException") w9 ∧ o = .inl (some (.int (nI 1))))) := by
  refine Ct.ofC (cc := cL_fault) (own := RL) (nm := "fault") (nL := 4) (ret := (some .int)) (hh := [(0, 9, 12, 18)]) (by decide +kernel) rfl rfl rfl (Nat.le_of_ble_eq_true rfl) ?_
  refine j_lvE (lv' := [(0, .ref pt), (1, .int x0), (2, .ref ou)]) rfl ?_
  refine j_aload_n dL_fault_0 2 rfl ?_
  refine j_iconst (v := nI 0) dL_fault_1 (by decide) ?_
  refine j_aload_n dL_fault_2 0 rfl ?_
  refine j_iload_n dL_fault_3 1 rfl ?_
  refine j_callVC (rm := rX5_fault) (As := [.int x0]) (st := [.int (nI 0), .ref ou]) (b0 := pt) (ci := 5) (na := 1) (ct := 18) (hp9 := 12) (E9 := "java/util/NoSuchElementException") hM hE (Or.inr rfl) rfl rfl rfl (by decide) rfl mL_fault_0 gL_fault_X5_fault rfl rfl hpt (by decide +kernel) rfl ⟨Nat.le_of_ble_eq_true rfl, Nat.le_of_ble_eq_true rfl⟩ rfl (Nat.le_of_ble_eq_true rfl) dL_fault_4 ⟨(show 0 + 1 ≤ 1 by omega), (show 0 + 6 ≤ 6 by omega)⟩ (fun v w1 h1 => ?_) (fun q w1 h1 => ?_)
  · skip
    obtain ⟨⟨r, rfl⟩, ho⟩ := hI v w1 h1
    refine j_after (st' := [.int r, .int (nI 0), .ref ou]) (k' := 1) (n' := 6) rfl (by first | rfl | omega) (by first | rfl | omega) ?_
    refine j_i2l dL_fault_7 rfl ?_
    refine j_lastN (j := 0) ho rfl (by omega) (by omega) dL_fault_8 ?_
    refine j_goto 15 dL_fault_9 (by decide) ?_
    refine j_iconst (v := nI 0) dL_fault_15 (by decide) ?_
    exact j_iret rfl (Or.inl ⟨r, w1, h1, rfl, rfl⟩) (show 1 ≤ 1 by omega) (show 6 ≤ 6 by omega) dL_fault_16
  · skip
    refine j_after (st' := [.ref q]) (k' := 1) (n' := 6) rfl (by first | rfl | omega) (by first | rfl | omega) ?_
    refine j_astore_n (lv' := [(3, .ref q), (0, .ref pt), (1, .int x0), (2, .ref ou)]) dL_fault_12 (Nat.le_of_ble_eq_true rfl) rfl ?_
    refine j_iconst (v := nI 1) dL_fault_13 (by decide) ?_
    exact j_iret rfl (Or.inr ⟨h1, rfl⟩) (show 1 ≤ 1 by omega) (show 6 ≤ 6 by omega) dL_fault_14
abbrev rL_count : Room := { frames := 7, cells := 1, slots := 6, locals := 111 }
set_option maxRecDepth 100000 in
theorem mL_count_0 : Cond.classLink RL 18 "java/util/NoSuchElementException" ∈ wsL_count := by decide +kernel
set_option maxHeartbeats 4000000 in
set_option maxRecDepth 100000 in
theorem l_count {w : pW} {pt ou : Nat} {fsP : List Value} {fo : Nat → Int64} {x0 : Int32} {Q : pO → pW → Prop} (hpt : w pt = some (.inr (5, fsP))) (hM : Ct yX5_count wsX5_count rX5_count [.ref pt, .int x0] w Q) (hE : ∀ E w9, Q (.inr E) w9 → E = "java/util/NoSuchElementException") (hI : ∀ v w9, Q (.inl v) w9 → (∃ r : Int32, v = some (.int r)) ∧ w9 ou = some (.inl (3, 1, .inr (.inl fo)))) : Ct yL_count wsL_count rL_count [.ref pt, .int x0, .ref ou] w (fun o w9 => (∃ (r : Int32) (w8 : pW), Q (.inl (some (.int r))) w8 ∧ o = .inl (some (.int (nI 0))) ∧ w9 = va_up w8 ou (some (.inl (3, 1, .inr (.inl (vp_updL fo 0 (r.toInt64))))))) ∨ (Q (.inr "java/util/NoSuchElementException") w9 ∧ o = .inl (some (.int (nI 1))))) := by
  refine Ct.ofC (cc := cL_count) (own := RL) (nm := "count") (nL := 4) (ret := (some .int)) (hh := [(0, 9, 12, 18)]) (by decide +kernel) rfl rfl rfl (Nat.le_of_ble_eq_true rfl) ?_
  refine j_lvE (lv' := [(0, .ref pt), (1, .int x0), (2, .ref ou)]) rfl ?_
  refine j_aload_n dL_count_0 2 rfl ?_
  refine j_iconst (v := nI 0) dL_count_1 (by decide) ?_
  refine j_aload_n dL_count_2 0 rfl ?_
  refine j_iload_n dL_count_3 1 rfl ?_
  refine j_callVC (rm := rX5_count) (As := [.int x0]) (st := [.int (nI 0), .ref ou]) (b0 := pt) (ci := 5) (na := 1) (ct := 18) (hp9 := 12) (E9 := "java/util/NoSuchElementException") hM hE (Or.inr rfl) rfl rfl rfl (by decide) rfl mL_count_0 gL_count_X5_count rfl rfl hpt (by decide +kernel) rfl ⟨Nat.le_of_ble_eq_true rfl, Nat.le_of_ble_eq_true rfl⟩ rfl (Nat.le_of_ble_eq_true rfl) dL_count_4 ⟨(show 0 + 1 ≤ 1 by omega), (show 0 + 6 ≤ 6 by omega)⟩ (fun v w1 h1 => ?_) (fun q w1 h1 => ?_)
  · skip
    obtain ⟨⟨r, rfl⟩, ho⟩ := hI v w1 h1
    refine j_after (st' := [.int r, .int (nI 0), .ref ou]) (k' := 1) (n' := 6) rfl (by first | rfl | omega) (by first | rfl | omega) ?_
    refine j_i2l dL_count_7 rfl ?_
    refine j_lastN (j := 0) ho rfl (by omega) (by omega) dL_count_8 ?_
    refine j_goto 15 dL_count_9 (by decide) ?_
    refine j_iconst (v := nI 0) dL_count_15 (by decide) ?_
    exact j_iret rfl (Or.inl ⟨r, w1, h1, rfl, rfl⟩) (show 1 ≤ 1 by omega) (show 6 ≤ 6 by omega) dL_count_16
  · skip
    refine j_after (st' := [.ref q]) (k' := 1) (n' := 6) rfl (by first | rfl | omega) (by first | rfl | omega) ?_
    refine j_astore_n (lv' := [(3, .ref q), (0, .ref pt), (1, .int x0), (2, .ref ou)]) dL_count_12 (Nat.le_of_ble_eq_true rfl) rfl ?_
    refine j_iconst (v := nI 1) dL_count_13 (by decide) ?_
    exact j_iret rfl (Or.inr ⟨h1, rfl⟩) (show 1 ≤ 1 by omega) (show 6 ≤ 6 by omega) dL_count_14
abbrev rL_event : Room := { frames := 7, cells := 1, slots := 6, locals := 112 }
set_option maxRecDepth 100000 in
theorem mL_event_0 : Cond.classLink RL 18 "java/util/NoSuchElementException" ∈ wsL_event := by decide +kernel
set_option maxHeartbeats 4000000 in
set_option maxRecDepth 100000 in
theorem l_event {w : pW} {pt ou : Nat} {fsP : List Value} {fo : Nat → Int64} {x0 x1 : Int32} {Q : pO → pW → Prop} (hpt : w pt = some (.inr (5, fsP))) (hM : Ct yX5_event wsX5_event rX5_event [.ref pt, .int x0, .int x1] w Q) (hE : ∀ E w9, Q (.inr E) w9 → E = "java/util/NoSuchElementException") (hI : ∀ v w9, Q (.inl v) w9 → (∃ r : Int32, v = some (.int r)) ∧ w9 ou = some (.inl (3, 1, .inr (.inl fo)))) : Ct yL_event wsL_event rL_event [.ref pt, .int x0, .int x1, .ref ou] w (fun o w9 => (∃ (r : Int32) (w8 : pW), Q (.inl (some (.int r))) w8 ∧ o = .inl (some (.int (nI 0))) ∧ w9 = va_up w8 ou (some (.inl (3, 1, .inr (.inl (vp_updL fo 0 (r.toInt64))))))) ∨ (Q (.inr "java/util/NoSuchElementException") w9 ∧ o = .inl (some (.int (nI 1))))) := by
  refine Ct.ofC (cc := cL_event) (own := RL) (nm := "event") (nL := 5) (ret := (some .int)) (hh := [(0, 10, 13, 18)]) (by decide +kernel) rfl rfl rfl (Nat.le_of_ble_eq_true rfl) ?_
  refine j_lvE (lv' := [(0, .ref pt), (1, .int x0), (2, .int x1), (3, .ref ou)]) rfl ?_
  refine j_aload_n dL_event_0 3 rfl ?_
  refine j_iconst (v := nI 0) dL_event_1 (by decide) ?_
  refine j_aload_n dL_event_2 0 rfl ?_
  refine j_iload_n dL_event_3 1 rfl ?_
  refine j_iload_n dL_event_4 2 rfl ?_
  refine j_callVC (rm := rX5_event) (As := [.int x0, .int x1]) (st := [.int (nI 0), .ref ou]) (b0 := pt) (ci := 5) (na := 2) (ct := 18) (hp9 := 13) (E9 := "java/util/NoSuchElementException") hM hE (Or.inr rfl) rfl rfl rfl (by decide) rfl mL_event_0 gL_event_X5_event rfl rfl hpt (by decide +kernel) rfl ⟨Nat.le_of_ble_eq_true rfl, Nat.le_of_ble_eq_true rfl⟩ rfl (Nat.le_of_ble_eq_true rfl) dL_event_5 ⟨(show 0 + 1 ≤ 1 by omega), (show 0 + 6 ≤ 6 by omega)⟩ (fun v w1 h1 => ?_) (fun q w1 h1 => ?_)
  · skip
    obtain ⟨⟨r, rfl⟩, ho⟩ := hI v w1 h1
    refine j_after (st' := [.int r, .int (nI 0), .ref ou]) (k' := 1) (n' := 6) rfl (by first | rfl | omega) (by first | rfl | omega) ?_
    refine j_i2l dL_event_8 rfl ?_
    refine j_lastN (j := 0) ho rfl (by omega) (by omega) dL_event_9 ?_
    refine j_goto 17 dL_event_10 (by decide) ?_
    refine j_iconst (v := nI 0) dL_event_17 (by decide) ?_
    exact j_iret rfl (Or.inl ⟨r, w1, h1, rfl, rfl⟩) (show 1 ≤ 1 by omega) (show 6 ≤ 6 by omega) dL_event_18
  · skip
    refine j_after (st' := [.ref q]) (k' := 1) (n' := 6) rfl (by first | rfl | omega) (by first | rfl | omega) ?_
    refine j_astore (lv' := [(4, .ref q), (0, .ref pt), (1, .int x0), (2, .int x1), (3, .ref ou)]) dL_event_13 (Nat.le_of_ble_eq_true rfl) rfl ?_
    refine j_iconst (v := nI 1) dL_event_15 (by decide) ?_
    exact j_iret rfl (Or.inr ⟨h1, rfl⟩) (show 1 ≤ 1 by omega) (show 6 ≤ 6 by omega) dL_event_16
abbrev rL_price : Room := { frames := 7, cells := 1, slots := 6, locals := 112 }
set_option maxRecDepth 100000 in
theorem mL_price_0 : Cond.classLink RL 13 "java/lang/IllegalArgumentException" ∈ wsL_price := by decide +kernel
set_option maxHeartbeats 4000000 in
set_option maxRecDepth 100000 in
theorem l_price {w : pW} {pt ou : Nat} {fsP : List Value} {fo : Nat → Int64} {x0 x1 : Int32} {Q : pO → pW → Prop} (hpt : w pt = some (.inr (5, fsP))) (hM : Ct yX5_price wsX5_price rX5_price [.ref pt, .int x0, .int x1] w Q) (hE : ∀ E w9, Q (.inr E) w9 → E = "java/lang/IllegalArgumentException") (hI : ∀ v w9, Q (.inl v) w9 → (∃ r : Int32, v = some (.int r)) ∧ w9 ou = some (.inl (3, 1, .inr (.inl fo)))) : Ct yL_price wsL_price rL_price [.ref pt, .int x0, .int x1, .ref ou] w (fun o w9 => (∃ (r : Int32) (w8 : pW), Q (.inl (some (.int r))) w8 ∧ o = .inl (some (.int (nI 0))) ∧ w9 = va_up w8 ou (some (.inl (3, 1, .inr (.inl (vp_updL fo 0 (r.toInt64))))))) ∨ (Q (.inr "java/lang/IllegalArgumentException") w9 ∧ o = .inl (some (.int (nI 1))))) := by
  refine Ct.ofC (cc := cL_price) (own := RL) (nm := "price") (nL := 5) (ret := (some .int)) (hh := [(0, 10, 13, 13)]) (by decide +kernel) rfl rfl rfl (Nat.le_of_ble_eq_true rfl) ?_
  refine j_lvE (lv' := [(0, .ref pt), (1, .int x0), (2, .int x1), (3, .ref ou)]) rfl ?_
  refine j_aload_n dL_price_0 3 rfl ?_
  refine j_iconst (v := nI 0) dL_price_1 (by decide) ?_
  refine j_aload_n dL_price_2 0 rfl ?_
  refine j_iload_n dL_price_3 1 rfl ?_
  refine j_iload_n dL_price_4 2 rfl ?_
  refine j_callVC (rm := rX5_price) (As := [.int x0, .int x1]) (st := [.int (nI 0), .ref ou]) (b0 := pt) (ci := 5) (na := 2) (ct := 13) (hp9 := 13) (E9 := "java/lang/IllegalArgumentException") hM hE (Or.inl rfl) rfl rfl rfl (by decide) rfl mL_price_0 gL_price_X5_price rfl rfl hpt (by decide +kernel) rfl ⟨Nat.le_of_ble_eq_true rfl, Nat.le_of_ble_eq_true rfl⟩ rfl (Nat.le_of_ble_eq_true rfl) dL_price_5 ⟨(show 0 + 1 ≤ 1 by omega), (show 0 + 6 ≤ 6 by omega)⟩ (fun v w1 h1 => ?_) (fun q w1 h1 => ?_)
  · skip
    obtain ⟨⟨r, rfl⟩, ho⟩ := hI v w1 h1
    refine j_after (st' := [.int r, .int (nI 0), .ref ou]) (k' := 1) (n' := 6) rfl (by first | rfl | omega) (by first | rfl | omega) ?_
    refine j_i2l dL_price_8 rfl ?_
    refine j_lastN (j := 0) ho rfl (by omega) (by omega) dL_price_9 ?_
    refine j_goto 17 dL_price_10 (by decide) ?_
    refine j_iconst (v := nI 0) dL_price_17 (by decide) ?_
    exact j_iret rfl (Or.inl ⟨r, w1, h1, rfl, rfl⟩) (show 1 ≤ 1 by omega) (show 6 ≤ 6 by omega) dL_price_18
  · skip
    refine j_after (st' := [.ref q]) (k' := 1) (n' := 6) rfl (by first | rfl | omega) (by first | rfl | omega) ?_
    refine j_astore (lv' := [(4, .ref q), (0, .ref pt), (1, .int x0), (2, .int x1), (3, .ref ou)]) dL_price_13 (Nat.le_of_ble_eq_true rfl) rfl ?_
    refine j_iconst (v := nI 1) dL_price_15 (by decide) ?_
    exact j_iret rfl (Or.inr ⟨h1, rfl⟩) (show 1 ≤ 1 by omega) (show 6 ≤ 6 by omega) dL_price_16
abbrev rL_heard : Room := { frames := 7, cells := 4, slots := 1616, locals := 140 }
set_option maxRecDepth 100000 in
theorem mL_heard_0 : Cond.classLink RL 13 "java/lang/IllegalArgumentException" ∈ wsL_heard := by decide +kernel
set_option maxHeartbeats 4000000 in
set_option maxRecDepth 100000 in
theorem l_heard {w : pW} {pt ou : Nat} {fsP : List Value} {fo : Nat → Int64} {x0 x1 : Int32} {Q : pO → pW → Prop} (hpt : w pt = some (.inr (5, fsP))) (hM : Ct yX5_heard wsX5_heard rX5_heard [.ref pt, .int x0, .int x1] w Q) (hE : ∀ E w9, Q (.inr E) w9 → E = "java/lang/IllegalArgumentException") (hI : ∀ v w9, Q (.inl v) w9 → (∃ r : Int32, v = some (.int r)) ∧ w9 ou = some (.inl (3, 1, .inr (.inl fo)))) : Ct yL_heard wsL_heard rL_heard [.ref pt, .int x0, .int x1, .ref ou] w (fun o w9 => (∃ (r : Int32) (w8 : pW), Q (.inl (some (.int r))) w8 ∧ o = .inl (some (.int (nI 0))) ∧ w9 = va_up w8 ou (some (.inl (3, 1, .inr (.inl (vp_updL fo 0 (r.toInt64))))))) ∨ (Q (.inr "java/lang/IllegalArgumentException") w9 ∧ o = .inl (some (.int (nI 1))))) := by
  refine Ct.ofC (cc := cL_heard) (own := RL) (nm := "heard") (nL := 5) (ret := (some .int)) (hh := [(0, 10, 13, 13)]) (by decide +kernel) rfl rfl rfl (Nat.le_of_ble_eq_true rfl) ?_
  refine j_lvE (lv' := [(0, .ref pt), (1, .int x0), (2, .int x1), (3, .ref ou)]) rfl ?_
  refine j_aload_n dL_heard_0 3 rfl ?_
  refine j_iconst (v := nI 0) dL_heard_1 (by decide) ?_
  refine j_aload_n dL_heard_2 0 rfl ?_
  refine j_iload_n dL_heard_3 1 rfl ?_
  refine j_iload_n dL_heard_4 2 rfl ?_
  refine j_callVC (rm := rX5_heard) (As := [.int x0, .int x1]) (st := [.int (nI 0), .ref ou]) (b0 := pt) (ci := 5) (na := 2) (ct := 13) (hp9 := 13) (E9 := "java/lang/IllegalArgumentException") hM hE (Or.inl rfl) rfl rfl rfl (by decide) rfl mL_heard_0 gL_heard_X5_heard rfl rfl hpt (by decide +kernel) rfl ⟨Nat.le_of_ble_eq_true rfl, Nat.le_of_ble_eq_true rfl⟩ rfl (Nat.le_of_ble_eq_true rfl) dL_heard_5 ⟨(show 0 + 4 ≤ 4 by omega), (show 0 + 1616 ≤ 1616 by omega)⟩ (fun v w1 h1 => ?_) (fun q w1 h1 => ?_)
  · skip
    obtain ⟨⟨r, rfl⟩, ho⟩ := hI v w1 h1
    refine j_after (st' := [.int r, .int (nI 0), .ref ou]) (k' := 4) (n' := 1616) rfl (by first | rfl | omega) (by first | rfl | omega) ?_
    refine j_i2l dL_heard_8 rfl ?_
    refine j_lastN (j := 0) ho rfl (by omega) (by omega) dL_heard_9 ?_
    refine j_goto 17 dL_heard_10 (by decide) ?_
    refine j_iconst (v := nI 0) dL_heard_17 (by decide) ?_
    exact j_iret rfl (Or.inl ⟨r, w1, h1, rfl, rfl⟩) (show 4 ≤ 4 by omega) (show 1616 ≤ 1616 by omega) dL_heard_18
  · skip
    refine j_after (st' := [.ref q]) (k' := 4) (n' := 1616) rfl (by first | rfl | omega) (by first | rfl | omega) ?_
    refine j_astore (lv' := [(4, .ref q), (0, .ref pt), (1, .int x0), (2, .int x1), (3, .ref ou)]) dL_heard_13 (Nat.le_of_ble_eq_true rfl) rfl ?_
    refine j_iconst (v := nI 1) dL_heard_15 (by decide) ?_
    exact j_iret rfl (Or.inr ⟨h1, rfl⟩) (show 4 ≤ 4 by omega) (show 1616 ≤ 1616 by omega) dL_heard_16
abbrev rL_place : Room := { frames := 7, cells := 1, slots := 6, locals := 111 }
set_option maxRecDepth 100000 in
theorem mL_place_0 : Cond.classLink RL 18 "java/util/NoSuchElementException" ∈ wsL_place := by decide +kernel
set_option maxHeartbeats 4000000 in
set_option maxRecDepth 100000 in
theorem l_place {w : pW} {pt ou : Nat} {fsP : List Value} {fo : Nat → Int64} {x0 : Int32} {Q : pO → pW → Prop} (hpt : w pt = some (.inr (5, fsP))) (hM : Ct yX5_place wsX5_place rX5_place [.ref pt, .int x0] w Q) (hE : ∀ E w9, Q (.inr E) w9 → E = "java/util/NoSuchElementException") (hI : ∀ v w9, Q (.inl v) w9 → (∃ r : Int32, v = some (.int r)) ∧ w9 ou = some (.inl (3, 1, .inr (.inl fo)))) : Ct yL_place wsL_place rL_place [.ref pt, .int x0, .ref ou] w (fun o w9 => (∃ (r : Int32) (w8 : pW), Q (.inl (some (.int r))) w8 ∧ o = .inl (some (.int (nI 0))) ∧ w9 = va_up w8 ou (some (.inl (3, 1, .inr (.inl (vp_updL fo 0 (r.toInt64))))))) ∨ (Q (.inr "java/util/NoSuchElementException") w9 ∧ o = .inl (some (.int (nI 1))))) := by
  refine Ct.ofC (cc := cL_place) (own := RL) (nm := "place") (nL := 4) (ret := (some .int)) (hh := [(0, 9, 12, 18)]) (by decide +kernel) rfl rfl rfl (Nat.le_of_ble_eq_true rfl) ?_
  refine j_lvE (lv' := [(0, .ref pt), (1, .int x0), (2, .ref ou)]) rfl ?_
  refine j_aload_n dL_place_0 2 rfl ?_
  refine j_iconst (v := nI 0) dL_place_1 (by decide) ?_
  refine j_aload_n dL_place_2 0 rfl ?_
  refine j_iload_n dL_place_3 1 rfl ?_
  refine j_callVC (rm := rX5_place) (As := [.int x0]) (st := [.int (nI 0), .ref ou]) (b0 := pt) (ci := 5) (na := 1) (ct := 18) (hp9 := 12) (E9 := "java/util/NoSuchElementException") hM hE (Or.inr rfl) rfl rfl rfl (by decide) rfl mL_place_0 gL_place_X5_place rfl rfl hpt (by decide +kernel) rfl ⟨Nat.le_of_ble_eq_true rfl, Nat.le_of_ble_eq_true rfl⟩ rfl (Nat.le_of_ble_eq_true rfl) dL_place_4 ⟨(show 0 + 1 ≤ 1 by omega), (show 0 + 6 ≤ 6 by omega)⟩ (fun v w1 h1 => ?_) (fun q w1 h1 => ?_)
  · skip
    obtain ⟨⟨r, rfl⟩, ho⟩ := hI v w1 h1
    refine j_after (st' := [.int r, .int (nI 0), .ref ou]) (k' := 1) (n' := 6) rfl (by first | rfl | omega) (by first | rfl | omega) ?_
    refine j_i2l dL_place_7 rfl ?_
    refine j_lastN (j := 0) ho rfl (by omega) (by omega) dL_place_8 ?_
    refine j_goto 15 dL_place_9 (by decide) ?_
    refine j_iconst (v := nI 0) dL_place_15 (by decide) ?_
    exact j_iret rfl (Or.inl ⟨r, w1, h1, rfl, rfl⟩) (show 1 ≤ 1 by omega) (show 6 ≤ 6 by omega) dL_place_16
  · skip
    refine j_after (st' := [.ref q]) (k' := 1) (n' := 6) rfl (by first | rfl | omega) (by first | rfl | omega) ?_
    refine j_astore_n (lv' := [(3, .ref q), (0, .ref pt), (1, .int x0), (2, .ref ou)]) dL_place_12 (Nat.le_of_ble_eq_true rfl) rfl ?_
    refine j_iconst (v := nI 1) dL_place_13 (by decide) ?_
    exact j_iret rfl (Or.inr ⟨h1, rfl⟩) (show 1 ≤ 1 by omega) (show 6 ≤ 6 by omega) dL_place_14
abbrev rL_cost : Room := { frames := 7, cells := 1, slots := 6, locals := 112 }
set_option maxRecDepth 100000 in
theorem mL_cost_0 : Cond.classLink RL 18 "java/util/NoSuchElementException" ∈ wsL_cost := by decide +kernel
set_option maxHeartbeats 4000000 in
set_option maxRecDepth 100000 in
theorem l_cost {w : pW} {pt ou : Nat} {fsP : List Value} {fo : Nat → Int64} {x0 x1 : Int32} {Q : pO → pW → Prop} (hpt : w pt = some (.inr (5, fsP))) (hM : Ct yX5_cost wsX5_cost rX5_cost [.ref pt, .int x0, .int x1] w Q) (hE : ∀ E w9, Q (.inr E) w9 → E = "java/util/NoSuchElementException") (hI : ∀ v w9, Q (.inl v) w9 → (∃ r : Int32, v = some (.int r)) ∧ w9 ou = some (.inl (3, 1, .inr (.inl fo)))) : Ct yL_cost wsL_cost rL_cost [.ref pt, .int x0, .int x1, .ref ou] w (fun o w9 => (∃ (r : Int32) (w8 : pW), Q (.inl (some (.int r))) w8 ∧ o = .inl (some (.int (nI 0))) ∧ w9 = va_up w8 ou (some (.inl (3, 1, .inr (.inl (vp_updL fo 0 (r.toInt64))))))) ∨ (Q (.inr "java/util/NoSuchElementException") w9 ∧ o = .inl (some (.int (nI 1))))) := by
  refine Ct.ofC (cc := cL_cost) (own := RL) (nm := "cost") (nL := 5) (ret := (some .int)) (hh := [(0, 10, 13, 18)]) (by decide +kernel) rfl rfl rfl (Nat.le_of_ble_eq_true rfl) ?_
  refine j_lvE (lv' := [(0, .ref pt), (1, .int x0), (2, .int x1), (3, .ref ou)]) rfl ?_
  refine j_aload_n dL_cost_0 3 rfl ?_
  refine j_iconst (v := nI 0) dL_cost_1 (by decide) ?_
  refine j_aload_n dL_cost_2 0 rfl ?_
  refine j_iload_n dL_cost_3 1 rfl ?_
  refine j_iload_n dL_cost_4 2 rfl ?_
  refine j_callVC (rm := rX5_cost) (As := [.int x0, .int x1]) (st := [.int (nI 0), .ref ou]) (b0 := pt) (ci := 5) (na := 2) (ct := 18) (hp9 := 13) (E9 := "java/util/NoSuchElementException") hM hE (Or.inr rfl) rfl rfl rfl (by decide) rfl mL_cost_0 gL_cost_X5_cost rfl rfl hpt (by decide +kernel) rfl ⟨Nat.le_of_ble_eq_true rfl, Nat.le_of_ble_eq_true rfl⟩ rfl (Nat.le_of_ble_eq_true rfl) dL_cost_5 ⟨(show 0 + 1 ≤ 1 by omega), (show 0 + 6 ≤ 6 by omega)⟩ (fun v w1 h1 => ?_) (fun q w1 h1 => ?_)
  · skip
    obtain ⟨⟨r, rfl⟩, ho⟩ := hI v w1 h1
    refine j_after (st' := [.int r, .int (nI 0), .ref ou]) (k' := 1) (n' := 6) rfl (by first | rfl | omega) (by first | rfl | omega) ?_
    refine j_i2l dL_cost_8 rfl ?_
    refine j_lastN (j := 0) ho rfl (by omega) (by omega) dL_cost_9 ?_
    refine j_goto 17 dL_cost_10 (by decide) ?_
    refine j_iconst (v := nI 0) dL_cost_17 (by decide) ?_
    exact j_iret rfl (Or.inl ⟨r, w1, h1, rfl, rfl⟩) (show 1 ≤ 1 by omega) (show 6 ≤ 6 by omega) dL_cost_18
  · skip
    refine j_after (st' := [.ref q]) (k' := 1) (n' := 6) rfl (by first | rfl | omega) (by first | rfl | omega) ?_
    refine j_astore (lv' := [(4, .ref q), (0, .ref pt), (1, .int x0), (2, .int x1), (3, .ref ou)]) dL_cost_13 (Nat.le_of_ble_eq_true rfl) rfl ?_
    refine j_iconst (v := nI 1) dL_cost_15 (by decide) ?_
    exact j_iret rfl (Or.inr ⟨h1, rfl⟩) (show 1 ≤ 1 by omega) (show 6 ≤ 6 by omega) dL_cost_16
abbrev rL_sure : Room := { frames := 7, cells := 1, slots := 6, locals := 112 }
set_option maxRecDepth 100000 in
theorem mL_sure_0 : Cond.classLink RL 18 "java/util/NoSuchElementException" ∈ wsL_sure := by decide +kernel
set_option maxHeartbeats 4000000 in
set_option maxRecDepth 100000 in
theorem l_sure {w : pW} {pt ou : Nat} {fsP : List Value} {fo : Nat → Int64} {Q : pO → pW → Prop} (hpt : w pt = some (.inr (5, fsP))) (hM : Ct yX5_sure wsX5_sure rX5_sure [.ref pt] w Q) (hE : ∀ E w9, Q (.inr E) w9 → E = "java/util/NoSuchElementException") (hI : ∀ v w9, Q (.inl v) w9 → (∃ r : Int32, v = some (.int r)) ∧ w9 ou = some (.inl (3, 1, .inr (.inl fo)))) : Ct yL_sure wsL_sure rL_sure [.ref pt, .ref ou] w (fun o w9 => (∃ (r : Int32) (w8 : pW), Q (.inl (some (.int r))) w8 ∧ o = .inl (some (.int (nI 0))) ∧ w9 = va_up w8 ou (some (.inl (3, 1, .inr (.inl (vp_updL fo 0 (r.toInt64))))))) ∨ (Q (.inr "java/util/NoSuchElementException") w9 ∧ o = .inl (some (.int (nI 1))))) := by
  refine Ct.ofC (cc := cL_sure) (own := RL) (nm := "sure") (nL := 3) (ret := (some .int)) (hh := [(0, 8, 11, 18)]) (by decide +kernel) rfl rfl rfl (Nat.le_of_ble_eq_true rfl) ?_
  refine j_lvE (lv' := [(0, .ref pt), (1, .ref ou)]) rfl ?_
  refine j_aload_n dL_sure_0 1 rfl ?_
  refine j_iconst (v := nI 0) dL_sure_1 (by decide) ?_
  refine j_aload_n dL_sure_2 0 rfl ?_
  refine j_callVC (rm := rX5_sure) (As := []) (st := [.int (nI 0), .ref ou]) (b0 := pt) (ci := 5) (na := 0) (ct := 18) (hp9 := 11) (E9 := "java/util/NoSuchElementException") hM hE (Or.inr rfl) rfl rfl rfl (by decide) rfl mL_sure_0 gL_sure_X5_sure rfl rfl hpt (by decide +kernel) rfl ⟨Nat.le_of_ble_eq_true rfl, Nat.le_of_ble_eq_true rfl⟩ rfl (Nat.le_of_ble_eq_true rfl) dL_sure_3 ⟨(show 0 + 1 ≤ 1 by omega), (show 0 + 6 ≤ 6 by omega)⟩ (fun v w1 h1 => ?_) (fun q w1 h1 => ?_)
  · skip
    obtain ⟨⟨r, rfl⟩, ho⟩ := hI v w1 h1
    refine j_after (st' := [.int r, .int (nI 0), .ref ou]) (k' := 1) (n' := 6) rfl (by first | rfl | omega) (by first | rfl | omega) ?_
    refine j_i2l dL_sure_6 rfl ?_
    refine j_lastN (j := 0) ho rfl (by omega) (by omega) dL_sure_7 ?_
    refine j_goto 14 dL_sure_8 (by decide) ?_
    refine j_iconst (v := nI 0) dL_sure_14 (by decide) ?_
    exact j_iret rfl (Or.inl ⟨r, w1, h1, rfl, rfl⟩) (show 1 ≤ 1 by omega) (show 6 ≤ 6 by omega) dL_sure_15
  · skip
    refine j_after (st' := [.ref q]) (k' := 1) (n' := 6) rfl (by first | rfl | omega) (by first | rfl | omega) ?_
    refine j_astore_n (lv' := [(2, .ref q), (0, .ref pt), (1, .ref ou)]) dL_sure_11 (Nat.le_of_ble_eq_true rfl) rfl ?_
    refine j_iconst (v := nI 1) dL_sure_12 (by decide) ?_
    exact j_iret rfl (Or.inr ⟨h1, rfl⟩) (show 1 ≤ 1 by omega) (show 6 ≤ 6 by omega) dL_sure_13
abbrev rL_time : Room := { frames := 7, cells := 1, slots := 6, locals := 112 }
set_option maxRecDepth 100000 in
theorem mL_time_0 : Cond.classLink RL 13 "java/lang/IllegalArgumentException" ∈ wsL_time := by decide +kernel
set_option maxHeartbeats 4000000 in
set_option maxRecDepth 100000 in
theorem l_time {w : pW} {pt ou : Nat} {fsP : List Value} {fo : Nat → Int64} {x0 : Int32} {Q : pO → pW → Prop} (hpt : w pt = some (.inr (5, fsP))) (hM : Ct yX5_time wsX5_time rX5_time [.ref pt, .int x0] w Q) (hE : ∀ E w9, Q (.inr E) w9 → E = "java/lang/IllegalArgumentException") (hI : ∀ v w9, Q (.inl v) w9 → (∃ r : Int64, v = some (.long r)) ∧ w9 ou = some (.inl (3, 1, .inr (.inl fo)))) : Ct yL_time wsL_time rL_time [.ref pt, .int x0, .ref ou] w (fun o w9 => (∃ (r : Int64) (w8 : pW), Q (.inl (some (.long r))) w8 ∧ o = .inl (some (.int (nI 0))) ∧ w9 = va_up w8 ou (some (.inl (3, 1, .inr (.inl (vp_updL fo 0 (r))))))) ∨ (Q (.inr "java/lang/IllegalArgumentException") w9 ∧ o = .inl (some (.int (nI 1))))) := by
  refine Ct.ofC (cc := cL_time) (own := RL) (nm := "time") (nL := 4) (ret := (some .int)) (hh := [(0, 8, 11, 13)]) (by decide +kernel) rfl rfl rfl (Nat.le_of_ble_eq_true rfl) ?_
  refine j_lvE (lv' := [(0, .ref pt), (1, .int x0), (2, .ref ou)]) rfl ?_
  refine j_aload_n dL_time_0 2 rfl ?_
  refine j_iconst (v := nI 0) dL_time_1 (by decide) ?_
  refine j_aload_n dL_time_2 0 rfl ?_
  refine j_iload_n dL_time_3 1 rfl ?_
  refine j_callVC (rm := rX5_time) (As := [.int x0]) (st := [.int (nI 0), .ref ou]) (b0 := pt) (ci := 5) (na := 1) (ct := 13) (hp9 := 11) (E9 := "java/lang/IllegalArgumentException") hM hE (Or.inl rfl) rfl rfl rfl (by decide) rfl mL_time_0 gL_time_X5_time rfl rfl hpt (by decide +kernel) rfl ⟨Nat.le_of_ble_eq_true rfl, Nat.le_of_ble_eq_true rfl⟩ rfl (Nat.le_of_ble_eq_true rfl) dL_time_4 ⟨(show 0 + 1 ≤ 1 by omega), (show 0 + 6 ≤ 6 by omega)⟩ (fun v w1 h1 => ?_) (fun q w1 h1 => ?_)
  · skip
    obtain ⟨⟨r, rfl⟩, ho⟩ := hI v w1 h1
    refine j_after (st' := [.long r, .int (nI 0), .ref ou]) (k' := 1) (n' := 6) rfl (by first | rfl | omega) (by first | rfl | omega) ?_
    refine j_lastN (j := 0) ho rfl (by omega) (by omega) dL_time_7 ?_
    refine j_goto 14 dL_time_8 (by decide) ?_
    refine j_iconst (v := nI 0) dL_time_14 (by decide) ?_
    exact j_iret rfl (Or.inl ⟨r, w1, h1, rfl, rfl⟩) (show 1 ≤ 1 by omega) (show 6 ≤ 6 by omega) dL_time_15
  · skip
    refine j_after (st' := [.ref q]) (k' := 1) (n' := 6) rfl (by first | rfl | omega) (by first | rfl | omega) ?_
    refine j_astore_n (lv' := [(3, .ref q), (0, .ref pt), (1, .int x0), (2, .ref ou)]) dL_time_11 (Nat.le_of_ble_eq_true rfl) rfl ?_
    refine j_iconst (v := nI 1) dL_time_12 (by decide) ?_
    exact j_iret rfl (Or.inr ⟨h1, rfl⟩) (show 1 ≤ 1 by omega) (show 6 ≤ 6 by omega) dL_time_13
abbrev rL_lead : Room := { frames := 7, cells := 1, slots := 6, locals := 112 }
set_option maxRecDepth 100000 in
theorem mL_lead_0 : Cond.classLink RL 13 "java/lang/IllegalArgumentException" ∈ wsL_lead := by decide +kernel
set_option maxHeartbeats 4000000 in
set_option maxRecDepth 100000 in
theorem l_lead {w : pW} {pt ou : Nat} {fsP : List Value} {fo : Nat → Int64} {x0 : Int32} {Q : pO → pW → Prop} (hpt : w pt = some (.inr (5, fsP))) (hM : Ct yX5_lead wsX5_lead rX5_lead [.ref pt, .int x0] w Q) (hE : ∀ E w9, Q (.inr E) w9 → E = "java/lang/IllegalArgumentException") (hI : ∀ v w9, Q (.inl v) w9 → (∃ r : Int32, v = some (.int r)) ∧ w9 ou = some (.inl (3, 1, .inr (.inl fo)))) : Ct yL_lead wsL_lead rL_lead [.ref pt, .int x0, .ref ou] w (fun o w9 => (∃ (r : Int32) (w8 : pW), Q (.inl (some (.int r))) w8 ∧ o = .inl (some (.int (nI 0))) ∧ w9 = va_up w8 ou (some (.inl (3, 1, .inr (.inl (vp_updL fo 0 (r.toInt64))))))) ∨ (Q (.inr "java/lang/IllegalArgumentException") w9 ∧ o = .inl (some (.int (nI 1))))) := by
  refine Ct.ofC (cc := cL_lead) (own := RL) (nm := "lead") (nL := 4) (ret := (some .int)) (hh := [(0, 9, 12, 13)]) (by decide +kernel) rfl rfl rfl (Nat.le_of_ble_eq_true rfl) ?_
  refine j_lvE (lv' := [(0, .ref pt), (1, .int x0), (2, .ref ou)]) rfl ?_
  refine j_aload_n dL_lead_0 2 rfl ?_
  refine j_iconst (v := nI 0) dL_lead_1 (by decide) ?_
  refine j_aload_n dL_lead_2 0 rfl ?_
  refine j_iload_n dL_lead_3 1 rfl ?_
  refine j_callVC (rm := rX5_lead) (As := [.int x0]) (st := [.int (nI 0), .ref ou]) (b0 := pt) (ci := 5) (na := 1) (ct := 13) (hp9 := 12) (E9 := "java/lang/IllegalArgumentException") hM hE (Or.inl rfl) rfl rfl rfl (by decide) rfl mL_lead_0 gL_lead_X5_lead rfl rfl hpt (by decide +kernel) rfl ⟨Nat.le_of_ble_eq_true rfl, Nat.le_of_ble_eq_true rfl⟩ rfl (Nat.le_of_ble_eq_true rfl) dL_lead_4 ⟨(show 0 + 1 ≤ 1 by omega), (show 0 + 6 ≤ 6 by omega)⟩ (fun v w1 h1 => ?_) (fun q w1 h1 => ?_)
  · skip
    obtain ⟨⟨r, rfl⟩, ho⟩ := hI v w1 h1
    refine j_after (st' := [.int r, .int (nI 0), .ref ou]) (k' := 1) (n' := 6) rfl (by first | rfl | omega) (by first | rfl | omega) ?_
    refine j_i2l dL_lead_7 rfl ?_
    refine j_lastN (j := 0) ho rfl (by omega) (by omega) dL_lead_8 ?_
    refine j_goto 15 dL_lead_9 (by decide) ?_
    refine j_iconst (v := nI 0) dL_lead_15 (by decide) ?_
    exact j_iret rfl (Or.inl ⟨r, w1, h1, rfl, rfl⟩) (show 1 ≤ 1 by omega) (show 6 ≤ 6 by omega) dL_lead_16
  · skip
    refine j_after (st' := [.ref q]) (k' := 1) (n' := 6) rfl (by first | rfl | omega) (by first | rfl | omega) ?_
    refine j_astore_n (lv' := [(3, .ref q), (0, .ref pt), (1, .int x0), (2, .ref ou)]) dL_lead_12 (Nat.le_of_ble_eq_true rfl) rfl ?_
    refine j_iconst (v := nI 1) dL_lead_13 (by decide) ?_
    exact j_iret rfl (Or.inr ⟨h1, rfl⟩) (show 1 ≤ 1 by omega) (show 6 ≤ 6 by omega) dL_lead_14
