/-! the law's loop -/
set_option maxHeartbeats 4000000 in
set_option maxRecDepth 100000 in
theorem w_loop {bs L : Nat} {xs : Nat → Int32} {A cr : Nat → Nat} {pt mm ou : Nat} (hS : MS A cr mm) (hou : ¬ OW A cr mm ou) (hL : L ≤ 3072) : ∀ (m9 i c : Nat) (w : pW), L - i < m9 → i = 6 * c → i ≤ L → JI A cr pt mm ou w → J (lwP bs L xs) 23 [(4, .int (nI i)), (3, .ref ou), (2, .ref mm), (1, .ref pt), (0, .ref bs)] [] w (438 + 4 * c) (657210 + 1616 * c) := by
  intro m9
  induction m9 with
  | zero => intro i c w h; omega
  | succ m9 ih =>
    intro i c w hm hic hiL hJ
    refine j_iload dL_law_23 0 rfl ?_
    refine j_aload_n dL_law_25 4 rfl ?_
    refine j_slen rfl dL_law_26 ?_
    refine j_bipush (v := nI 6) dL_law_27 (by decide) ?_
    refine j_isub dL_law_29 ?_
    refine j_icmp_gt 949 dL_law_30 (by decide) (fun _ => ?_) (fun q => ?_)
    · refine j_iconst (v := 1) dL_law_949 (by decide) ?_
      exact j_zret rfl (Or.inr rfl) rfl (show 438 + 4 * c ≤ 601024 by omega) (show 657210 + 1616 * c ≤ 7293033 by omega) dL_law_950
    · have hi : i + 6 ≤ L := by
        have := mt (sub6 (i := i) hL (by omega)).mpr q
        omega
      have hgo : ∀ w9, JI A cr pt mm ou w9 → J (lwP bs L xs) 943 [(4, .int (nI i)), (3, .ref ou), (2, .ref mm), (1, .ref pt), (0, .ref bs)] [] w9 (438 + 4 * c + 4) (657210 + 1616 * c + 1616) := fun w9 h9 => by
        refine j_iinc (q := 0) (x := nI i) (v := nI (i + 6)) (lv' := [(4, .int (nI (i + 6))), (3, .ref ou), (2, .ref mm), (1, .ref pt), (0, .ref bs)]) dL_law_943 rfl (nI_add i 6) (Nat.le_of_ble_eq_true rfl) rfl ?_
        refine j_goto 23 dL_law_946 (by decide) ?_
        refine j_after (st' := []) (k' := 438 + 4 * (c + 1)) (n' := 657210 + 1616 * (c + 1)) rfl (by omega) (by omega) ?_
        exact ih (i + 6) (c + 1) w9 (by omega) (by omega) hi h9
      have hk : 438 + 4 * c + 4 ≤ 601024 := by omega
      have hn : 657210 + 1616 * c + 1616 ≤ 7293033 := by omega
      refine j_aload_n dL_law_33 4 rfl ?_
      refine j_iload dL_law_34 0 rfl ?_
      refine j_sld rfl (show i < L by omega) hL dL_law_36 ?_
      refine j_bipush (v := nI 31) dL_law_37 (by decide) ?_
      refine j_iand dL_law_39 ?_
      obtain ⟨kq, hkq, he⟩ := and31 (xs i)
      refine j_eqi he ?_
      by_cases h16 : 16 < kq
      · refine j_tableOut 943 dL_law_40 (Or.inr ?_) (by decide) ?_
        · rw [nI_toInt (by omega)]; omega
        · exact j_widen (by omega) (by omega) (hgo w hJ)
      · rcases (show kq = 0 ∨ kq = 1 ∨ kq = 2 ∨ kq = 3 ∨ kq = 4 ∨ kq = 5 ∨ kq = 6 ∨ kq = 7 ∨ kq = 8 ∨ kq = 9 ∨ kq = 10 ∨ kq = 11 ∨ kq = 12 ∨ kq = 13 ∨ kq = 14 ∨ kq = 15 ∨ kq = 16 by omega) with rfl | rfl | rfl | rfl | rfl | rfl | rfl | rfl | rfl | rfl | rfl | rfl | rfl | rfl | rfl | rfl | rfl
        · exact j_tableIn 124 dL_law_40 (by decide) (by decide) rfl (by decide) (w_feed hS hou hL hi hk hn hJ hgo)
        · exact j_tableIn 197 dL_law_40 (by decide) (by decide) rfl (by decide) (w_music hS hou hL hi hk hn hJ hgo)
        · exact j_tableIn 253 dL_law_40 (by decide) (by decide) rfl (by decide) (w_fault hS hou hL hi hk hn hJ hgo)
        · exact j_tableIn 309 dL_law_40 (by decide) (by decide) rfl (by decide) (w_count hS hou hL hi hk hn hJ hgo)
        · exact j_tableIn 365 dL_law_40 (by decide) (by decide) rfl (by decide) (w_event hS hou hL hi hk hn hJ hgo)
        · exact j_tableIn 433 dL_law_40 (by decide) (by decide) rfl (by decide) (w_price hS hou hL hi hk hn hJ hgo)
        · exact j_tableIn 501 dL_law_40 (by decide) (by decide) rfl (by decide) (w_heard hS hou hL hi hk hn hJ hgo)
        · exact j_tableIn 569 dL_law_40 (by decide) (by decide) rfl (by decide) (w_back hS hou hL hi hk hn hJ hgo)
        · exact j_tableIn 582 dL_law_40 (by decide) (by decide) rfl (by decide) (w_again hS hou hL hi hk hn hJ hgo)
        · exact j_tableIn 595 dL_law_40 (by decide) (by decide) rfl (by decide) (w_place hS hou hL hi hk hn hJ hgo)
        · exact j_tableIn 651 dL_law_40 (by decide) (by decide) rfl (by decide) (w_cost hS hou hL hi hk hn hJ hgo)
        · exact j_tableIn 719 dL_law_40 (by decide) (by decide) rfl (by decide) (w_sure hS hou hL hi hk hn hJ hgo)
        · exact j_tableIn 763 dL_law_40 (by decide) (by decide) rfl (by decide) (w_tempo hS hou hL hi hk hn hJ hgo)
        · exact j_tableIn 804 dL_law_40 (by decide) (by decide) rfl (by decide) (w_time hS hou hL hi hk hn hJ hgo)
        · exact j_tableIn 859 dL_law_40 (by decide) (by decide) rfl (by decide) (w_turnsAt hS hou hL hi hk hn hJ hgo)
        · exact j_tableIn 873 dL_law_40 (by decide) (by decide) rfl (by decide) (w_cue hS hou hL hi hk hn hJ hgo)
        · exact j_tableIn 887 dL_law_40 (by decide) (by decide) rfl (by decide) (w_lead hS hou hL hi hk hn hJ hgo)
