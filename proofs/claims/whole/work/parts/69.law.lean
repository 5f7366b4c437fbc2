/-! the law, call by call -/
abbrev lwP (bs L : Nat) (xs : Nat → Int32) : JP := ((cL_law, RL, 8, wsL_law), (room_1, some .boolean, "law", []), (fun o _ => o = .inl (some (.int 1))), lwX bs L xs)
set_option maxHeartbeats 4000000 in
set_option maxRecDepth 100000 in
theorem w_music {bs L : Nat} {xs : Nat → Int32} {A cr : Nat → Nat} {pt mm ou : Nat} {w : pW} {i k n : Nat} (hS : MS A cr mm) (hou : ¬ OW A cr mm ou) (hL : L ≤ 3072) (hi : i + 6 ≤ L) (hk : k + 4 ≤ 601024) (hn : n + 1616 ≤ 7293033) (hJ : JI A cr pt mm ou w) (hgo : ∀ w9, JI A cr pt mm ou w9 → J (lwP bs L xs) 943 [(4, .int (nI i)), (3, .ref ou), (2, .ref mm), (1, .ref pt), (0, .ref bs)] [] w9 (k + 4) (n + 1616)) : J (lwP bs L xs) 197 [(4, .int (nI i)), (3, .ref ou), (2, .ref mm), (1, .ref pt), (0, .ref bs)] [] w k n := by
  obtain ⟨σ, u, cs, th, fo, hC, hM, hP, hO⟩ := hJ
  obtain ⟨fsP, hpt⟩ := hC.atp
  obtain ⟨G, hd, hc, hm⟩ := S_music (x := xs (i + 1)) hS hC hP (MO.mk hM hO)
  refine j_aload_n dL_law_197 3 rfl ?_
  refine j_aload_n dL_law_198 4 rfl ?_
  refine j_iload dL_law_199 0 rfl ?_
  refine j_iconst (v := nI 1) dL_law_201 (by decide) ?_
  refine j_iaddN dL_law_202 ?_
  refine j_sld rfl (show i + 1 < L by omega) hL dL_law_203 ?_
  refine j_aload_n dL_law_204 1 rfl ?_
  refine j_callSW (na := 3) (As := [.ref pt, .int (xs (i + 1)), .ref ou]) (st := []) (l_music (fo := fo) hpt hc ?_ ?_) ?_ gL_law_L_music rfl (by decide +kernel) rfl ⟨Nat.le_of_ble_eq_true rfl, Nat.le_of_ble_eq_true rfl⟩ rfl (Nat.le_of_ble_eq_true rfl) dL_law_205 ⟨(show k + 2 ≤ 601024 by omega), (show n + 1606 ≤ 7293033 by omega)⟩ (fun v w1 h1 => ?_)
  · rintro E w9 ⟨a, σ9, ha, -⟩
    cases a with
    | none => cases ha; rfl
    | some r => cases ha
  · rintro v w9 ⟨a, σ9, ha, -, h2, -⟩
    refine ⟨?_, h2 ou _ (Or.inr rfl) hO⟩
    cases a with
    | some r => cases ha; exact ⟨r, rfl⟩
    | none => cases ha
  · rintro E w9 (⟨_, _, _, h, _⟩ | ⟨_, h⟩) <;> cases h
  obtain ⟨a, σ9, fo9, kk, ho, hG, hC1, hM1, hO1, hkk⟩ := lq_int hou hM hO h1
  cases ho
  refine j_after (st' := [.int (nI kk)]) (k' := k + 2) (n' := n + 1606) rfl (by first | rfl | omega) (by first | rfl | omega) ?_
  refine j_istore (lv' := [(5, .int (nI kk)), (4, .int (nI i)), (3, .ref ou), (2, .ref mm), (1, .ref pt), (0, .ref bs)]) dL_law_208 (Nat.le_of_ble_eq_true rfl) rfl ?_
  refine j_aload_n dL_law_210 3 rfl ?_
  refine j_aload_n dL_law_211 5 rfl ?_
  refine j_iload dL_law_212 1 rfl ?_
  refine j_iconst (v := nI 1) dL_law_214 (by decide) ?_
  refine j_iaddN dL_law_215 ?_
  refine j_sld rfl (show i + 1 < L by omega) hL dL_law_216 ?_
  obtain ⟨fs, hmm, -, -⟩ := hM1.atm
  refine j_callV (na := 1) (As := [.int (xs (i + 1))]) (st := []) (b0 := mm) (ci := 6) (hm a σ9 hG w1 th hM1) ?_ gL_law_X6_music rfl rfl hmm (by decide +kernel) rfl ⟨Nat.le_of_ble_eq_true rfl, Nat.le_of_ble_eq_true rfl⟩ rfl (Nat.le_of_ble_eq_true rfl) dL_law_217 ⟨(show k + 2 + 0 ≤ 601024 by omega), (show n + 1606 + 0 ≤ 7293033 by omega)⟩ (fun v w2 h2 => ?_)
  · rintro E w9 ⟨r, th9, u9, cs9, ho, -⟩; cases ho
  obtain ⟨r, th9, u9, cs9, ho2, har, hM2, hP2, hK2⟩ := h2
  cases ho2
  obtain ⟨hJ2, hO2⟩ := JI.of hou hC1 hM1 hO1 hM2 hP2 hK2
  have hth : th9 = kk ∧ (kk = 0 → fo9 0 = r.toInt64) ∧ kk ≤ 1 := by
    rcases har with ⟨z1, z2⟩ | ⟨z1, z2⟩
    · rcases hkk with ⟨r9, y1, y2, y3⟩ | ⟨y1, y2⟩
      · rw [z1] at y1; cases y1; exact ⟨z2.trans y2.symm, fun _ => y3, by omega⟩
      · rw [z1] at y1; cases y1
    · rcases hkk with ⟨r9, y1, y2, y3⟩ | ⟨y1, y2⟩
      · rw [z1] at y1; cases y1
      · exact ⟨z2.trans y2.symm, fun z => by omega, by omega⟩
  refine j_after (st' := [.int r]) (k' := k + 2) (n' := n + 1606) rfl (by first | rfl | omega) (by first | rfl | omega) ?_
  refine j_istore (lv' := [(6, .int r), (5, .int (nI kk)), (4, .int (nI i)), (3, .ref ou), (2, .ref mm), (1, .ref pt), (0, .ref bs)]) dL_law_220 (Nat.le_of_ble_eq_true rfl) rfl ?_
  refine j_aload_n dL_law_222 4 rfl ?_
  obtain ⟨fs2, hmm2, hA2, h02⟩ := hM2.atm
  refine j_callV (na := 0) (As := []) (st := []) (b0 := mm) (ci := 6) (m_thrown hS.1 hmm2 hA2 h02) ?_ gL_law_X6_thrown rfl rfl hmm2 (by decide +kernel) rfl ⟨Nat.le_of_ble_eq_true rfl, Nat.le_of_ble_eq_true rfl⟩ rfl (Nat.le_of_ble_eq_true rfl) dL_law_223 ⟨(show k + 2 + 0 ≤ 601024 by omega), (show n + 1606 + 0 ≤ 7293033 by omega)⟩ (fun v w3 h3 => ?_)
  · rintro E w9 ⟨ho, -⟩; cases ho
  obtain ⟨ho3, rfl⟩ := h3
  cases ho3
  refine j_after (st' := [.int (nI th9)]) (k' := k + 2) (n' := n + 1606) rfl (by first | rfl | omega) (by first | rfl | omega) ?_
  refine j_iload dL_law_226 1 rfl ?_
  refine j_icmp_eq 233 dL_law_228 (by decide) (fun _ => ?_) (fun q => absurd (by rw [hth.1]) q)
  refine j_iload dL_law_233 1 rfl ?_
  have hend : J (lwP bs L xs) 250 [(6, .int r), (5, .int (nI kk)), (4, .int (nI i)), (3, .ref ou), (2, .ref mm), (1, .ref pt), (0, .ref bs)] [] w3 (k + 2) (n + 1606) := by
    refine j_goto 943 dL_law_250 (by decide) ?_
    refine j_lv [2, 3, 4, 5, 6] rfl ?_
    exact j_widen (by omega) (by omega) (hgo _ hJ2)
  refine j_if_ne 250 dL_law_235 (by decide) (fun _ => hend) (fun q => ?_)
  have hk0 : kk = 0 := by
    rcases (show kk = 0 ∨ kk = 1 by omega) with z | z
    · exact z
    · rw [z] at q; exact absurd q (by decide)
  refine j_aload_n dL_law_238 3 rfl ?_
  refine j_iconst (v := nI 0) dL_law_239 (by decide) ?_
  refine j_laldN hO2 rfl (by omega) (by omega) dL_law_240 ?_
  refine j_iload dL_law_241 0 rfl ?_
  refine j_i2l dL_law_243 rfl ?_
  refine j_lcmp dL_law_244 ?_
  exact j_if_eq 250 dL_law_245 (by decide) (fun _ => hend) (fun q => absurd ((lg_cmp_eq _ _).mpr (hth.2.1 hk0)) q)
set_option maxHeartbeats 4000000 in
set_option maxRecDepth 100000 in
theorem w_fault {bs L : Nat} {xs : Nat → Int32} {A cr : Nat → Nat} {pt mm ou : Nat} {w : pW} {i k n : Nat} (hS : MS A cr mm) (hou : ¬ OW A cr mm ou) (hL : L ≤ 3072) (hi : i + 6 ≤ L) (hk : k + 4 ≤ 601024) (hn : n + 1616 ≤ 7293033) (hJ : JI A cr pt mm ou w) (hgo : ∀ w9, JI A cr pt mm ou w9 → J (lwP bs L xs) 943 [(4, .int (nI i)), (3, .ref ou), (2, .ref mm), (1, .ref pt), (0, .ref bs)] [] w9 (k + 4) (n + 1616)) : J (lwP bs L xs) 253 [(4, .int (nI i)), (3, .ref ou), (2, .ref mm), (1, .ref pt), (0, .ref bs)] [] w k n := by
  obtain ⟨σ, u, cs, th, fo, hC, hM, hP, hO⟩ := hJ
  obtain ⟨fsP, hpt⟩ := hC.atp
  obtain ⟨G, hd, hc, hm⟩ := S_fault (x := xs (i + 1)) hS hC hP
  refine j_aload_n dL_law_253 3 rfl ?_
  refine j_aload_n dL_law_254 4 rfl ?_
  refine j_iload dL_law_255 0 rfl ?_
  refine j_iconst (v := nI 1) dL_law_257 (by decide) ?_
  refine j_iaddN dL_law_258 ?_
  refine j_sld rfl (show i + 1 < L by omega) hL dL_law_259 ?_
  refine j_aload_n dL_law_260 1 rfl ?_
  refine j_callSW (na := 3) (As := [.ref pt, .int (xs (i + 1)), .ref ou]) (st := []) (l_fault (fo := fo) hpt hc ?_ ?_) ?_ gL_law_L_fault rfl (by decide +kernel) rfl ⟨Nat.le_of_ble_eq_true rfl, Nat.le_of_ble_eq_true rfl⟩ rfl (Nat.le_of_ble_eq_true rfl) dL_law_261 ⟨(show k + 1 ≤ 601024 by omega), (show n + 6 ≤ 7293033 by omega)⟩ (fun v w1 h1 => ?_)
  · rintro E w9 ⟨a, σ9, ha, -⟩
    cases a with
    | none => cases ha; rfl
    | some r => cases ha
  · rintro v w9 ⟨a, σ9, ha, -, h2, -⟩
    refine ⟨?_, h2 ou _ (Or.inr rfl) hO⟩
    cases a with
    | some r => cases ha; exact ⟨r, rfl⟩
    | none => cases ha
  · rintro E w9 (⟨_, _, _, h, _⟩ | ⟨_, h⟩) <;> cases h
  obtain ⟨a, σ9, fo9, kk, ho, hG, hC1, hM1, hO1, hkk⟩ := lq_int hou hM hO h1
  cases ho
  refine j_after (st' := [.int (nI kk)]) (k' := k + 1) (n' := n + 6) rfl (by first | rfl | omega) (by first | rfl | omega) ?_
  refine j_istore (lv' := [(5, .int (nI kk)), (4, .int (nI i)), (3, .ref ou), (2, .ref mm), (1, .ref pt), (0, .ref bs)]) dL_law_264 (Nat.le_of_ble_eq_true rfl) rfl ?_
  refine j_aload_n dL_law_266 3 rfl ?_
  refine j_aload_n dL_law_267 5 rfl ?_
  refine j_iload dL_law_268 1 rfl ?_
  refine j_iconst (v := nI 1) dL_law_270 (by decide) ?_
  refine j_iaddN dL_law_271 ?_
  refine j_sld rfl (show i + 1 < L by omega) hL dL_law_272 ?_
  obtain ⟨fs, hmm, -, -⟩ := hM1.atm
  refine j_callV (na := 1) (As := [.int (xs (i + 1))]) (st := []) (b0 := mm) (ci := 6) (hm a σ9 hG w1 th hM1) ?_ gL_law_X6_fault rfl rfl hmm (by decide +kernel) rfl ⟨Nat.le_of_ble_eq_true rfl, Nat.le_of_ble_eq_true rfl⟩ rfl (Nat.le_of_ble_eq_true rfl) dL_law_273 ⟨(show k + 1 + 0 ≤ 601024 by omega), (show n + 6 + 0 ≤ 7293033 by omega)⟩ (fun v w2 h2 => ?_)
  · rintro E w9 ⟨r, th9, u9, cs9, ho, -⟩; cases ho
  obtain ⟨r, th9, u9, cs9, ho2, har, hM2, hP2, hK2⟩ := h2
  cases ho2
  obtain ⟨hJ2, hO2⟩ := JI.of hou hC1 hM1 hO1 hM2 hP2 hK2
  have hth : th9 = kk ∧ (kk = 0 → fo9 0 = r.toInt64) ∧ kk ≤ 1 := by
    rcases har with ⟨z1, z2⟩ | ⟨z1, z2⟩
    · rcases hkk with ⟨r9, y1, y2, y3⟩ | ⟨y1, y2⟩
      · rw [z1] at y1; cases y1; exact ⟨z2.trans y2.symm, fun _ => y3, by omega⟩
      · rw [z1] at y1; cases y1
    · rcases hkk with ⟨r9, y1, y2, y3⟩ | ⟨y1, y2⟩
      · rw [z1] at y1; cases y1
      · exact ⟨z2.trans y2.symm, fun z => by omega, by omega⟩
  refine j_after (st' := [.int r]) (k' := k + 1) (n' := n + 6) rfl (by first | rfl | omega) (by first | rfl | omega) ?_
  refine j_istore (lv' := [(6, .int r), (5, .int (nI kk)), (4, .int (nI i)), (3, .ref ou), (2, .ref mm), (1, .ref pt), (0, .ref bs)]) dL_law_276 (Nat.le_of_ble_eq_true rfl) rfl ?_
  refine j_aload_n dL_law_278 4 rfl ?_
  obtain ⟨fs2, hmm2, hA2, h02⟩ := hM2.atm
  refine j_callV (na := 0) (As := []) (st := []) (b0 := mm) (ci := 6) (m_thrown hS.1 hmm2 hA2 h02) ?_ gL_law_X6_thrown rfl rfl hmm2 (by decide +kernel) rfl ⟨Nat.le_of_ble_eq_true rfl, Nat.le_of_ble_eq_true rfl⟩ rfl (Nat.le_of_ble_eq_true rfl) dL_law_279 ⟨(show k + 1 + 0 ≤ 601024 by omega), (show n + 6 + 0 ≤ 7293033 by omega)⟩ (fun v w3 h3 => ?_)
  · rintro E w9 ⟨ho, -⟩; cases ho
  obtain ⟨ho3, rfl⟩ := h3
  cases ho3
  refine j_after (st' := [.int (nI th9)]) (k' := k + 1) (n' := n + 6) rfl (by first | rfl | omega) (by first | rfl | omega) ?_
  refine j_iload dL_law_282 1 rfl ?_
  refine j_icmp_eq 289 dL_law_284 (by decide) (fun _ => ?_) (fun q => absurd (by rw [hth.1]) q)
  refine j_iload dL_law_289 1 rfl ?_
  have hend : J (lwP bs L xs) 306 [(6, .int r), (5, .int (nI kk)), (4, .int (nI i)), (3, .ref ou), (2, .ref mm), (1, .ref pt), (0, .ref bs)] [] w3 (k + 1) (n + 6) := by
    refine j_goto 943 dL_law_306 (by decide) ?_
    refine j_lv [2, 3, 4, 5, 6] rfl ?_
    exact j_widen (by omega) (by omega) (hgo _ hJ2)
  refine j_if_ne 306 dL_law_291 (by decide) (fun _ => hend) (fun q => ?_)
  have hk0 : kk = 0 := by
    rcases (show kk = 0 ∨ kk = 1 by omega) with z | z
    · exact z
    · rw [z] at q; exact absurd q (by decide)
  refine j_aload_n dL_law_294 3 rfl ?_
  refine j_iconst (v := nI 0) dL_law_295 (by decide) ?_
  refine j_laldN hO2 rfl (by omega) (by omega) dL_law_296 ?_
  refine j_iload dL_law_297 0 rfl ?_
  refine j_i2l dL_law_299 rfl ?_
  refine j_lcmp dL_law_300 ?_
  exact j_if_eq 306 dL_law_301 (by decide) (fun _ => hend) (fun q => absurd ((lg_cmp_eq _ _).mpr (hth.2.1 hk0)) q)
set_option maxHeartbeats 4000000 in
set_option maxRecDepth 100000 in
theorem w_count {bs L : Nat} {xs : Nat → Int32} {A cr : Nat → Nat} {pt mm ou : Nat} {w : pW} {i k n : Nat} (hS : MS A cr mm) (hou : ¬ OW A cr mm ou) (hL : L ≤ 3072) (hi : i + 6 ≤ L) (hk : k + 4 ≤ 601024) (hn : n + 1616 ≤ 7293033) (hJ : JI A cr pt mm ou w) (hgo : ∀ w9, JI A cr pt mm ou w9 → J (lwP bs L xs) 943 [(4, .int (nI i)), (3, .ref ou), (2, .ref mm), (1, .ref pt), (0, .ref bs)] [] w9 (k + 4) (n + 1616)) : J (lwP bs L xs) 309 [(4, .int (nI i)), (3, .ref ou), (2, .ref mm), (1, .ref pt), (0, .ref bs)] [] w k n := by
  obtain ⟨σ, u, cs, th, fo, hC, hM, hP, hO⟩ := hJ
  obtain ⟨fsP, hpt⟩ := hC.atp
  obtain ⟨G, hd, hc, hm⟩ := S_count (x := xs (i + 1)) hS hC hP
  refine j_aload_n dL_law_309 3 rfl ?_
  refine j_aload_n dL_law_310 4 rfl ?_
  refine j_iload dL_law_311 0 rfl ?_
  refine j_iconst (v := nI 1) dL_law_313 (by decide) ?_
  refine j_iaddN dL_law_314 ?_
  refine j_sld rfl (show i + 1 < L by omega) hL dL_law_315 ?_
  refine j_aload_n dL_law_316 1 rfl ?_
  refine j_callSW (na := 3) (As := [.ref pt, .int (xs (i + 1)), .ref ou]) (st := []) (l_count (fo := fo) hpt hc ?_ ?_) ?_ gL_law_L_count rfl (by decide +kernel) rfl ⟨Nat.le_of_ble_eq_true rfl, Nat.le_of_ble_eq_true rfl⟩ rfl (Nat.le_of_ble_eq_true rfl) dL_law_317 ⟨(show k + 1 ≤ 601024 by omega), (show n + 6 ≤ 7293033 by omega)⟩ (fun v w1 h1 => ?_)
  · rintro E w9 ⟨a, σ9, ha, -⟩
    cases a with
    | none => cases ha; rfl
    | some r => cases ha
  · rintro v w9 ⟨a, σ9, ha, -, h2, -⟩
    refine ⟨?_, h2 ou _ (Or.inr rfl) hO⟩
    cases a with
    | some r => cases ha; exact ⟨r, rfl⟩
    | none => cases ha
  · rintro E w9 (⟨_, _, _, h, _⟩ | ⟨_, h⟩) <;> cases h
  obtain ⟨a, σ9, fo9, kk, ho, hG, hC1, hM1, hO1, hkk⟩ := lq_int hou hM hO h1
  cases ho
  refine j_after (st' := [.int (nI kk)]) (k' := k + 1) (n' := n + 6) rfl (by first | rfl | omega) (by first | rfl | omega) ?_
  refine j_istore (lv' := [(5, .int (nI kk)), (4, .int (nI i)), (3, .ref ou), (2, .ref mm), (1, .ref pt), (0, .ref bs)]) dL_law_320 (Nat.le_of_ble_eq_true rfl) rfl ?_
  refine j_aload_n dL_law_322 3 rfl ?_
  refine j_aload_n dL_law_323 5 rfl ?_
  refine j_iload dL_law_324 1 rfl ?_
  refine j_iconst (v := nI 1) dL_law_326 (by decide) ?_
  refine j_iaddN dL_law_327 ?_
  refine j_sld rfl (show i + 1 < L by omega) hL dL_law_328 ?_
  obtain ⟨fs, hmm, -, -⟩ := hM1.atm
  refine j_callV (na := 1) (As := [.int (xs (i + 1))]) (st := []) (b0 := mm) (ci := 6) (hm a σ9 hG w1 th hM1) ?_ gL_law_X6_count rfl rfl hmm (by decide +kernel) rfl ⟨Nat.le_of_ble_eq_true rfl, Nat.le_of_ble_eq_true rfl⟩ rfl (Nat.le_of_ble_eq_true rfl) dL_law_329 ⟨(show k + 1 + 0 ≤ 601024 by omega), (show n + 6 + 0 ≤ 7293033 by omega)⟩ (fun v w2 h2 => ?_)
  · rintro E w9 ⟨r, th9, u9, cs9, ho, -⟩; cases ho
  obtain ⟨r, th9, u9, cs9, ho2, har, hM2, hP2, hK2⟩ := h2
  cases ho2
  obtain ⟨hJ2, hO2⟩ := JI.of hou hC1 hM1 hO1 hM2 hP2 hK2
  have hth : th9 = kk ∧ (kk = 0 → fo9 0 = r.toInt64) ∧ kk ≤ 1 := by
    rcases har with ⟨z1, z2⟩ | ⟨z1, z2⟩
    · rcases hkk with ⟨r9, y1, y2, y3⟩ | ⟨y1, y2⟩
      · rw [z1] at y1; cases y1; exact ⟨z2.trans y2.symm, fun _ => y3, by omega⟩
      · rw [z1] at y1; cases y1
    · rcases hkk with ⟨r9, y1, y2, y3⟩ | ⟨y1, y2⟩
      · rw [z1] at y1; cases y1
      · exact ⟨z2.trans y2.symm, fun z => by omega, by omega⟩
  refine j_after (st' := [.int r]) (k' := k + 1) (n' := n + 6) rfl (by first | rfl | omega) (by first | rfl | omega) ?_
  refine j_istore (lv' := [(6, .int r), (5, .int (nI kk)), (4, .int (nI i)), (3, .ref ou), (2, .ref mm), (1, .ref pt), (0, .ref bs)]) dL_law_332 (Nat.le_of_ble_eq_true rfl) rfl ?_
  refine j_aload_n dL_law_334 4 rfl ?_
  obtain ⟨fs2, hmm2, hA2, h02⟩ := hM2.atm
  refine j_callV (na := 0) (As := []) (st := []) (b0 := mm) (ci := 6) (m_thrown hS.1 hmm2 hA2 h02) ?_ gL_law_X6_thrown rfl rfl hmm2 (by decide +kernel) rfl ⟨Nat.le_of_ble_eq_true rfl, Nat.le_of_ble_eq_true rfl⟩ rfl (Nat.le_of_ble_eq_true rfl) dL_law_335 ⟨(show k + 1 + 0 ≤ 601024 by omega), (show n + 6 + 0 ≤ 7293033 by omega)⟩ (fun v w3 h3 => ?_)
  · rintro E w9 ⟨ho, -⟩; cases ho
  obtain ⟨ho3, rfl⟩ := h3
  cases ho3
  refine j_after (st' := [.int (nI th9)]) (k' := k + 1) (n' := n + 6) rfl (by first | rfl | omega) (by first | rfl | omega) ?_
  refine j_iload dL_law_338 1 rfl ?_
  refine j_icmp_eq 345 dL_law_340 (by decide) (fun _ => ?_) (fun q => absurd (by rw [hth.1]) q)
  refine j_iload dL_law_345 1 rfl ?_
  have hend : J (lwP bs L xs) 362 [(6, .int r), (5, .int (nI kk)), (4, .int (nI i)), (3, .ref ou), (2, .ref mm), (1, .ref pt), (0, .ref bs)] [] w3 (k + 1) (n + 6) := by
    refine j_goto 943 dL_law_362 (by decide) ?_
    refine j_lv [2, 3, 4, 5, 6] rfl ?_
    exact j_widen (by omega) (by omega) (hgo _ hJ2)
  refine j_if_ne 362 dL_law_347 (by decide) (fun _ => hend) (fun q => ?_)
  have hk0 : kk = 0 := by
    rcases (show kk = 0 ∨ kk = 1 by omega) with z | z
    · exact z
    · rw [z] at q; exact absurd q (by decide)
  refine j_aload_n dL_law_350 3 rfl ?_
  refine j_iconst (v := nI 0) dL_law_351 (by decide) ?_
  refine j_laldN hO2 rfl (by omega) (by omega) dL_law_352 ?_
  refine j_iload dL_law_353 0 rfl ?_
  refine j_i2l dL_law_355 rfl ?_
  refine j_lcmp dL_law_356 ?_
  exact j_if_eq 362 dL_law_357 (by decide) (fun _ => hend) (fun q => absurd ((lg_cmp_eq _ _).mpr (hth.2.1 hk0)) q)
set_option maxHeartbeats 4000000 in
set_option maxRecDepth 100000 in
theorem w_event {bs L : Nat} {xs : Nat → Int32} {A cr : Nat → Nat} {pt mm ou : Nat} {w : pW} {i k n : Nat} (hS : MS A cr mm) (hou : ¬ OW A cr mm ou) (hL : L ≤ 3072) (hi : i + 6 ≤ L) (hk : k + 4 ≤ 601024) (hn : n + 1616 ≤ 7293033) (hJ : JI A cr pt mm ou w) (hgo : ∀ w9, JI A cr pt mm ou w9 → J (lwP bs L xs) 943 [(4, .int (nI i)), (3, .ref ou), (2, .ref mm), (1, .ref pt), (0, .ref bs)] [] w9 (k + 4) (n + 1616)) : J (lwP bs L xs) 365 [(4, .int (nI i)), (3, .ref ou), (2, .ref mm), (1, .ref pt), (0, .ref bs)] [] w k n := by
  obtain ⟨σ, u, cs, th, fo, hC, hM, hP, hO⟩ := hJ
  obtain ⟨fsP, hpt⟩ := hC.atp
  obtain ⟨G, hd, hc, hm⟩ := S_event (x := xs (i + 1)) (y := xs (i + 2)) hS hC hP
  refine j_aload_n dL_law_365 3 rfl ?_
  refine j_aload_n dL_law_366 4 rfl ?_
  refine j_iload dL_law_367 0 rfl ?_
  refine j_iconst (v := nI 1) dL_law_369 (by decide) ?_
  refine j_iaddN dL_law_370 ?_
  refine j_sld rfl (show i + 1 < L by omega) hL dL_law_371 ?_
  refine j_aload_n dL_law_372 4 rfl ?_
  refine j_iload dL_law_373 0 rfl ?_
  refine j_iconst (v := nI 2) dL_law_375 (by decide) ?_
  refine j_iaddN dL_law_376 ?_
  refine j_sld rfl (show i + 2 < L by omega) hL dL_law_377 ?_
  refine j_aload_n dL_law_378 1 rfl ?_
  refine j_callSW (na := 4) (As := [.ref pt, .int (xs (i + 1)), .int (xs (i + 2)), .ref ou]) (st := []) (l_event (fo := fo) hpt hc ?_ ?_) ?_ gL_law_L_event rfl (by decide +kernel) rfl ⟨Nat.le_of_ble_eq_true rfl, Nat.le_of_ble_eq_true rfl⟩ rfl (Nat.le_of_ble_eq_true rfl) dL_law_379 ⟨(show k + 1 ≤ 601024 by omega), (show n + 6 ≤ 7293033 by omega)⟩ (fun v w1 h1 => ?_)
  · rintro E w9 ⟨a, σ9, ha, -⟩
    cases a with
    | none => cases ha; rfl
    | some r => cases ha
  · rintro v w9 ⟨a, σ9, ha, -, h2, -⟩
    refine ⟨?_, h2 ou _ (Or.inr rfl) hO⟩
    cases a with
    | some r => cases ha; exact ⟨r, rfl⟩
    | none => cases ha
  · rintro E w9 (⟨_, _, _, h, _⟩ | ⟨_, h⟩) <;> cases h
  obtain ⟨a, σ9, fo9, kk, ho, hG, hC1, hM1, hO1, hkk⟩ := lq_int hou hM hO h1
  cases ho
  refine j_after (st' := [.int (nI kk)]) (k' := k + 1) (n' := n + 6) rfl (by first | rfl | omega) (by first | rfl | omega) ?_
  refine j_istore (lv' := [(5, .int (nI kk)), (4, .int (nI i)), (3, .ref ou), (2, .ref mm), (1, .ref pt), (0, .ref bs)]) dL_law_382 (Nat.le_of_ble_eq_true rfl) rfl ?_
  refine j_aload_n dL_law_384 3 rfl ?_
  refine j_aload_n dL_law_385 5 rfl ?_
  refine j_iload dL_law_386 1 rfl ?_
  refine j_iconst (v := nI 1) dL_law_388 (by decide) ?_
  refine j_iaddN dL_law_389 ?_
  refine j_sld rfl (show i + 1 < L by omega) hL dL_law_390 ?_
  refine j_aload_n dL_law_391 5 rfl ?_
  refine j_iload dL_law_392 1 rfl ?_
  refine j_iconst (v := nI 2) dL_law_394 (by decide) ?_
  refine j_iaddN dL_law_395 ?_
  refine j_sld rfl (show i + 2 < L by omega) hL dL_law_396 ?_
  obtain ⟨fs, hmm, -, -⟩ := hM1.atm
  refine j_callV (na := 2) (As := [.int (xs (i + 1)), .int (xs (i + 2))]) (st := []) (b0 := mm) (ci := 6) (hm a σ9 hG w1 th hM1) ?_ gL_law_X6_event rfl rfl hmm (by decide +kernel) rfl ⟨Nat.le_of_ble_eq_true rfl, Nat.le_of_ble_eq_true rfl⟩ rfl (Nat.le_of_ble_eq_true rfl) dL_law_397 ⟨(show k + 1 + 0 ≤ 601024 by omega), (show n + 6 + 0 ≤ 7293033 by omega)⟩ (fun v w2 h2 => ?_)
  · rintro E w9 ⟨r, th9, u9, cs9, ho, -⟩; cases ho
  obtain ⟨r, th9, u9, cs9, ho2, har, hM2, hP2, hK2⟩ := h2
  cases ho2
  obtain ⟨hJ2, hO2⟩ := JI.of hou hC1 hM1 hO1 hM2 hP2 hK2
  have hth : th9 = kk ∧ (kk = 0 → fo9 0 = r.toInt64) ∧ kk ≤ 1 := by
    rcases har with ⟨z1, z2⟩ | ⟨z1, z2⟩
    · rcases hkk with ⟨r9, y1, y2, y3⟩ | ⟨y1, y2⟩
      · rw [z1] at y1; cases y1; exact ⟨z2.trans y2.symm, fun _ => y3, by omega⟩
      · rw [z1] at y1; cases y1
    · rcases hkk with ⟨r9, y1, y2, y3⟩ | ⟨y1, y2⟩
      · rw [z1] at y1; cases y1
      · exact ⟨z2.trans y2.symm, fun z => by omega, by omega⟩
  refine j_after (st' := [.int r]) (k' := k + 1) (n' := n + 6) rfl (by first | rfl | omega) (by first | rfl | omega) ?_
  refine j_istore (lv' := [(6, .int r), (5, .int (nI kk)), (4, .int (nI i)), (3, .ref ou), (2, .ref mm), (1, .ref pt), (0, .ref bs)]) dL_law_400 (Nat.le_of_ble_eq_true rfl) rfl ?_
  refine j_aload_n dL_law_402 4 rfl ?_
  obtain ⟨fs2, hmm2, hA2, h02⟩ := hM2.atm
  refine j_callV (na := 0) (As := []) (st := []) (b0 := mm) (ci := 6) (m_thrown hS.1 hmm2 hA2 h02) ?_ gL_law_X6_thrown rfl rfl hmm2 (by decide +kernel) rfl ⟨Nat.le_of_ble_eq_true rfl, Nat.le_of_ble_eq_true rfl⟩ rfl (Nat.le_of_ble_eq_true rfl) dL_law_403 ⟨(show k + 1 + 0 ≤ 601024 by omega), (show n + 6 + 0 ≤ 7293033 by omega)⟩ (fun v w3 h3 => ?_)
  · rintro E w9 ⟨ho, -⟩; cases ho
  obtain ⟨ho3, rfl⟩ := h3
  cases ho3
  refine j_after (st' := [.int (nI th9)]) (k' := k + 1) (n' := n + 6) rfl (by first | rfl | omega) (by first | rfl | omega) ?_
  refine j_iload dL_law_406 1 rfl ?_
  refine j_icmp_eq 413 dL_law_408 (by decide) (fun _ => ?_) (fun q => absurd (by rw [hth.1]) q)
  refine j_iload dL_law_413 1 rfl ?_
  have hend : J (lwP bs L xs) 430 [(6, .int r), (5, .int (nI kk)), (4, .int (nI i)), (3, .ref ou), (2, .ref mm), (1, .ref pt), (0, .ref bs)] [] w3 (k + 1) (n + 6) := by
    refine j_goto 943 dL_law_430 (by decide) ?_
    refine j_lv [2, 3, 4, 5, 6] rfl ?_
    exact j_widen (by omega) (by omega) (hgo _ hJ2)
  refine j_if_ne 430 dL_law_415 (by decide) (fun _ => hend) (fun q => ?_)
  have hk0 : kk = 0 := by
    rcases (show kk = 0 ∨ kk = 1 by omega) with z | z
    · exact z
    · rw [z] at q; exact absurd q (by decide)
  refine j_aload_n dL_law_418 3 rfl ?_
  refine j_iconst (v := nI 0) dL_law_419 (by decide) ?_
  refine j_laldN hO2 rfl (by omega) (by omega) dL_law_420 ?_
  refine j_iload dL_law_421 0 rfl ?_
  refine j_i2l dL_law_423 rfl ?_
  refine j_lcmp dL_law_424 ?_
  exact j_if_eq 430 dL_law_425 (by decide) (fun _ => hend) (fun q => absurd ((lg_cmp_eq _ _).mpr (hth.2.1 hk0)) q)
set_option maxHeartbeats 4000000 in
set_option maxRecDepth 100000 in
theorem w_price {bs L : Nat} {xs : Nat → Int32} {A cr : Nat → Nat} {pt mm ou : Nat} {w : pW} {i k n : Nat} (hS : MS A cr mm) (hou : ¬ OW A cr mm ou) (hL : L ≤ 3072) (hi : i + 6 ≤ L) (hk : k + 4 ≤ 601024) (hn : n + 1616 ≤ 7293033) (hJ : JI A cr pt mm ou w) (hgo : ∀ w9, JI A cr pt mm ou w9 → J (lwP bs L xs) 943 [(4, .int (nI i)), (3, .ref ou), (2, .ref mm), (1, .ref pt), (0, .ref bs)] [] w9 (k + 4) (n + 1616)) : J (lwP bs L xs) 433 [(4, .int (nI i)), (3, .ref ou), (2, .ref mm), (1, .ref pt), (0, .ref bs)] [] w k n := by
  obtain ⟨σ, u, cs, th, fo, hC, hM, hP, hO⟩ := hJ
  obtain ⟨fsP, hpt⟩ := hC.atp
  obtain ⟨G, hd, hc, hm⟩ := S_price (x := xs (i + 1)) (y := xs (i + 2)) hS hC hP (MO.mk hM hO)
  refine j_aload_n dL_law_433 3 rfl ?_
  refine j_aload_n dL_law_434 4 rfl ?_
  refine j_iload dL_law_435 0 rfl ?_
  refine j_iconst (v := nI 1) dL_law_437 (by decide) ?_
  refine j_iaddN dL_law_438 ?_
  refine j_sld rfl (show i + 1 < L by omega) hL dL_law_439 ?_
  refine j_aload_n dL_law_440 4 rfl ?_
  refine j_iload dL_law_441 0 rfl ?_
  refine j_iconst (v := nI 2) dL_law_443 (by decide) ?_
  refine j_iaddN dL_law_444 ?_
  refine j_sld rfl (show i + 2 < L by omega) hL dL_law_445 ?_
  refine j_aload_n dL_law_446 1 rfl ?_
  refine j_callSW (na := 4) (As := [.ref pt, .int (xs (i + 1)), .int (xs (i + 2)), .ref ou]) (st := []) (l_price (fo := fo) hpt hc ?_ ?_) ?_ gL_law_L_price rfl (by decide +kernel) rfl ⟨Nat.le_of_ble_eq_true rfl, Nat.le_of_ble_eq_true rfl⟩ rfl (Nat.le_of_ble_eq_true rfl) dL_law_447 ⟨(show k + 1 ≤ 601024 by omega), (show n + 6 ≤ 7293033 by omega)⟩ (fun v w1 h1 => ?_)
  · rintro E w9 ⟨a, σ9, ha, -⟩
    cases a with
    | none => cases ha; rfl
    | some r => cases ha
  · rintro v w9 ⟨a, σ9, ha, -, h2, -⟩
    refine ⟨?_, h2 ou _ (Or.inr rfl) hO⟩
    cases a with
    | some r => cases ha; exact ⟨r, rfl⟩
    | none => cases ha
  · rintro E w9 (⟨_, _, _, h, _⟩ | ⟨_, h⟩) <;> cases h
  obtain ⟨a, σ9, fo9, kk, ho, hG, hC1, hM1, hO1, hkk⟩ := lq_int hou hM hO h1
  cases ho
  refine j_after (st' := [.int (nI kk)]) (k' := k + 1) (n' := n + 6) rfl (by first | rfl | omega) (by first | rfl | omega) ?_
  refine j_istore (lv' := [(5, .int (nI kk)), (4, .int (nI i)), (3, .ref ou), (2, .ref mm), (1, .ref pt), (0, .ref bs)]) dL_law_450 (Nat.le_of_ble_eq_true rfl) rfl ?_
  refine j_aload_n dL_law_452 3 rfl ?_
  refine j_aload_n dL_law_453 5 rfl ?_
  refine j_iload dL_law_454 1 rfl ?_
  refine j_iconst (v := nI 1) dL_law_456 (by decide) ?_
  refine j_iaddN dL_law_457 ?_
  refine j_sld rfl (show i + 1 < L by omega) hL dL_law_458 ?_
  refine j_aload_n dL_law_459 5 rfl ?_
  refine j_iload dL_law_460 1 rfl ?_
  refine j_iconst (v := nI 2) dL_law_462 (by decide) ?_
  refine j_iaddN dL_law_463 ?_
  refine j_sld rfl (show i + 2 < L by omega) hL dL_law_464 ?_
  obtain ⟨fs, hmm, -, -⟩ := hM1.atm
  refine j_callV (na := 2) (As := [.int (xs (i + 1)), .int (xs (i + 2))]) (st := []) (b0 := mm) (ci := 6) (hm a σ9 hG w1 th hM1) ?_ gL_law_X6_price rfl rfl hmm (by decide +kernel) rfl ⟨Nat.le_of_ble_eq_true rfl, Nat.le_of_ble_eq_true rfl⟩ rfl (Nat.le_of_ble_eq_true rfl) dL_law_465 ⟨(show k + 1 + 0 ≤ 601024 by omega), (show n + 6 + 0 ≤ 7293033 by omega)⟩ (fun v w2 h2 => ?_)
  · rintro E w9 ⟨r, th9, u9, cs9, ho, -⟩; cases ho
  obtain ⟨r, th9, u9, cs9, ho2, har, hM2, hP2, hK2⟩ := h2
  cases ho2
  obtain ⟨hJ2, hO2⟩ := JI.of hou hC1 hM1 hO1 hM2 hP2 hK2
  have hth : th9 = kk ∧ (kk = 0 → fo9 0 = r.toInt64) ∧ kk ≤ 1 := by
    rcases har with ⟨z1, z2⟩ | ⟨z1, z2⟩
    · rcases hkk with ⟨r9, y1, y2, y3⟩ | ⟨y1, y2⟩
      · rw [z1] at y1; cases y1; exact ⟨z2.trans y2.symm, fun _ => y3, by omega⟩
      · rw [z1] at y1; cases y1
    · rcases hkk with ⟨r9, y1, y2, y3⟩ | ⟨y1, y2⟩
      · rw [z1] at y1; cases y1
      · exact ⟨z2.trans y2.symm, fun z => by omega, by omega⟩
  refine j_after (st' := [.int r]) (k' := k + 1) (n' := n + 6) rfl (by first | rfl | omega) (by first | rfl | omega) ?_
  refine j_istore (lv' := [(6, .int r), (5, .int (nI kk)), (4, .int (nI i)), (3, .ref ou), (2, .ref mm), (1, .ref pt), (0, .ref bs)]) dL_law_468 (Nat.le_of_ble_eq_true rfl) rfl ?_
  refine j_aload_n dL_law_470 4 rfl ?_
  obtain ⟨fs2, hmm2, hA2, h02⟩ := hM2.atm
  refine j_callV (na := 0) (As := []) (st := []) (b0 := mm) (ci := 6) (m_thrown hS.1 hmm2 hA2 h02) ?_ gL_law_X6_thrown rfl rfl hmm2 (by decide +kernel) rfl ⟨Nat.le_of_ble_eq_true rfl, Nat.le_of_ble_eq_true rfl⟩ rfl (Nat.le_of_ble_eq_true rfl) dL_law_471 ⟨(show k + 1 + 0 ≤ 601024 by omega), (show n + 6 + 0 ≤ 7293033 by omega)⟩ (fun v w3 h3 => ?_)
  · rintro E w9 ⟨ho, -⟩; cases ho
  obtain ⟨ho3, rfl⟩ := h3
  cases ho3
  refine j_after (st' := [.int (nI th9)]) (k' := k + 1) (n' := n + 6) rfl (by first | rfl | omega) (by first | rfl | omega) ?_
  refine j_iload dL_law_474 1 rfl ?_
  refine j_icmp_eq 481 dL_law_476 (by decide) (fun _ => ?_) (fun q => absurd (by rw [hth.1]) q)
  refine j_iload dL_law_481 1 rfl ?_
  have hend : J (lwP bs L xs) 498 [(6, .int r), (5, .int (nI kk)), (4, .int (nI i)), (3, .ref ou), (2, .ref mm), (1, .ref pt), (0, .ref bs)] [] w3 (k + 1) (n + 6) := by
    refine j_goto 943 dL_law_498 (by decide) ?_
    refine j_lv [2, 3, 4, 5, 6] rfl ?_
    exact j_widen (by omega) (by omega) (hgo _ hJ2)
  refine j_if_ne 498 dL_law_483 (by decide) (fun _ => hend) (fun q => ?_)
  have hk0 : kk = 0 := by
    rcases (show kk = 0 ∨ kk = 1 by omega) with z | z
    · exact z
    · rw [z] at q; exact absurd q (by decide)
  refine j_aload_n dL_law_486 3 rfl ?_
  refine j_iconst (v := nI 0) dL_law_487 (by decide) ?_
  refine j_laldN hO2 rfl (by omega) (by omega) dL_law_488 ?_
  refine j_iload dL_law_489 0 rfl ?_
  refine j_i2l dL_law_491 rfl ?_
  refine j_lcmp dL_law_492 ?_
  exact j_if_eq 498 dL_law_493 (by decide) (fun _ => hend) (fun q => absurd ((lg_cmp_eq _ _).mpr (hth.2.1 hk0)) q)
set_option maxHeartbeats 4000000 in
set_option maxRecDepth 100000 in
theorem w_heard {bs L : Nat} {xs : Nat → Int32} {A cr : Nat → Nat} {pt mm ou : Nat} {w : pW} {i k n : Nat} (hS : MS A cr mm) (hou : ¬ OW A cr mm ou) (hL : L ≤ 3072) (hi : i + 6 ≤ L) (hk : k + 4 ≤ 601024) (hn : n + 1616 ≤ 7293033) (hJ : JI A cr pt mm ou w) (hgo : ∀ w9, JI A cr pt mm ou w9 → J (lwP bs L xs) 943 [(4, .int (nI i)), (3, .ref ou), (2, .ref mm), (1, .ref pt), (0, .ref bs)] [] w9 (k + 4) (n + 1616)) : J (lwP bs L xs) 501 [(4, .int (nI i)), (3, .ref ou), (2, .ref mm), (1, .ref pt), (0, .ref bs)] [] w k n := by
  obtain ⟨σ, u, cs, th, fo, hC, hM, hP, hO⟩ := hJ
  obtain ⟨fsP, hpt⟩ := hC.atp
  obtain ⟨G, hd, hc, hm⟩ := S_heard (x := xs (i + 1)) (y := xs (i + 2)) hS hC hP (MO.mk hM hO)
  refine j_aload_n dL_law_501 3 rfl ?_
  refine j_aload_n dL_law_502 4 rfl ?_
  refine j_iload dL_law_503 0 rfl ?_
  refine j_iconst (v := nI 1) dL_law_505 (by decide) ?_
  refine j_iaddN dL_law_506 ?_
  refine j_sld rfl (show i + 1 < L by omega) hL dL_law_507 ?_
  refine j_aload_n dL_law_508 4 rfl ?_
  refine j_iload dL_law_509 0 rfl ?_
  refine j_iconst (v := nI 2) dL_law_511 (by decide) ?_
  refine j_iaddN dL_law_512 ?_
  refine j_sld rfl (show i + 2 < L by omega) hL dL_law_513 ?_
  refine j_aload_n dL_law_514 1 rfl ?_
  refine j_callSW (na := 4) (As := [.ref pt, .int (xs (i + 1)), .int (xs (i + 2)), .ref ou]) (st := []) (l_heard (fo := fo) hpt hc ?_ ?_) ?_ gL_law_L_heard rfl (by decide +kernel) rfl ⟨Nat.le_of_ble_eq_true rfl, Nat.le_of_ble_eq_true rfl⟩ rfl (Nat.le_of_ble_eq_true rfl) dL_law_515 ⟨(show k + 4 ≤ 601024 by omega), (show n + 1616 ≤ 7293033 by omega)⟩ (fun v w1 h1 => ?_)
  · rintro E w9 ⟨a, σ9, ha, -⟩
    cases a with
    | none => cases ha; rfl
    | some r => cases ha
  · rintro v w9 ⟨a, σ9, ha, -, h2, -⟩
    refine ⟨?_, h2 ou _ (Or.inr rfl) hO⟩
    cases a with
    | some r => cases ha; exact ⟨r, rfl⟩
    | none => cases ha
  · rintro E w9 (⟨_, _, _, h, _⟩ | ⟨_, h⟩) <;> cases h
  obtain ⟨a, σ9, fo9, kk, ho, hG, hC1, hM1, hO1, hkk⟩ := lq_int hou hM hO h1
  cases ho
  refine j_after (st' := [.int (nI kk)]) (k' := k + 4) (n' := n + 1616) rfl (by first | rfl | omega) (by first | rfl | omega) ?_
  refine j_istore (lv' := [(5, .int (nI kk)), (4, .int (nI i)), (3, .ref ou), (2, .ref mm), (1, .ref pt), (0, .ref bs)]) dL_law_518 (Nat.le_of_ble_eq_true rfl) rfl ?_
  refine j_aload_n dL_law_520 3 rfl ?_
  refine j_aload_n dL_law_521 5 rfl ?_
  refine j_iload dL_law_522 1 rfl ?_
  refine j_iconst (v := nI 1) dL_law_524 (by decide) ?_
  refine j_iaddN dL_law_525 ?_
  refine j_sld rfl (show i + 1 < L by omega) hL dL_law_526 ?_
  refine j_aload_n dL_law_527 5 rfl ?_
  refine j_iload dL_law_528 1 rfl ?_
  refine j_iconst (v := nI 2) dL_law_530 (by decide) ?_
  refine j_iaddN dL_law_531 ?_
  refine j_sld rfl (show i + 2 < L by omega) hL dL_law_532 ?_
  obtain ⟨fs, hmm, -, -⟩ := hM1.atm
  refine j_callV (na := 2) (As := [.int (xs (i + 1)), .int (xs (i + 2))]) (st := []) (b0 := mm) (ci := 6) (hm a σ9 hG w1 th hM1) ?_ gL_law_X6_heard rfl rfl hmm (by decide +kernel) rfl ⟨Nat.le_of_ble_eq_true rfl, Nat.le_of_ble_eq_true rfl⟩ rfl (Nat.le_of_ble_eq_true rfl) dL_law_533 ⟨(show k + 4 + 0 ≤ 601024 by omega), (show n + 1616 + 0 ≤ 7293033 by omega)⟩ (fun v w2 h2 => ?_)
  · rintro E w9 ⟨r, th9, u9, cs9, ho, -⟩; cases ho
  obtain ⟨r, th9, u9, cs9, ho2, har, hM2, hP2, hK2⟩ := h2
  cases ho2
  obtain ⟨hJ2, hO2⟩ := JI.of hou hC1 hM1 hO1 hM2 hP2 hK2
  have hth : th9 = kk ∧ (kk = 0 → fo9 0 = r.toInt64) ∧ kk ≤ 1 := by
    rcases har with ⟨z1, z2⟩ | ⟨z1, z2⟩
    · rcases hkk with ⟨r9, y1, y2, y3⟩ | ⟨y1, y2⟩
      · rw [z1] at y1; cases y1; exact ⟨z2.trans y2.symm, fun _ => y3, by omega⟩
      · rw [z1] at y1; cases y1
    · rcases hkk with ⟨r9, y1, y2, y3⟩ | ⟨y1, y2⟩
      · rw [z1] at y1; cases y1
      · exact ⟨z2.trans y2.symm, fun z => by omega, by omega⟩
  refine j_after (st' := [.int r]) (k' := k + 4) (n' := n + 1616) rfl (by first | rfl | omega) (by first | rfl | omega) ?_
  refine j_istore (lv' := [(6, .int r), (5, .int (nI kk)), (4, .int (nI i)), (3, .ref ou), (2, .ref mm), (1, .ref pt), (0, .ref bs)]) dL_law_536 (Nat.le_of_ble_eq_true rfl) rfl ?_
  refine j_aload_n dL_law_538 4 rfl ?_
  obtain ⟨fs2, hmm2, hA2, h02⟩ := hM2.atm
  refine j_callV (na := 0) (As := []) (st := []) (b0 := mm) (ci := 6) (m_thrown hS.1 hmm2 hA2 h02) ?_ gL_law_X6_thrown rfl rfl hmm2 (by decide +kernel) rfl ⟨Nat.le_of_ble_eq_true rfl, Nat.le_of_ble_eq_true rfl⟩ rfl (Nat.le_of_ble_eq_true rfl) dL_law_539 ⟨(show k + 4 + 0 ≤ 601024 by omega), (show n + 1616 + 0 ≤ 7293033 by omega)⟩ (fun v w3 h3 => ?_)
  · rintro E w9 ⟨ho, -⟩; cases ho
  obtain ⟨ho3, rfl⟩ := h3
  cases ho3
  refine j_after (st' := [.int (nI th9)]) (k' := k + 4) (n' := n + 1616) rfl (by first | rfl | omega) (by first | rfl | omega) ?_
  refine j_iload dL_law_542 1 rfl ?_
  refine j_icmp_eq 549 dL_law_544 (by decide) (fun _ => ?_) (fun q => absurd (by rw [hth.1]) q)
  refine j_iload dL_law_549 1 rfl ?_
  have hend : J (lwP bs L xs) 566 [(6, .int r), (5, .int (nI kk)), (4, .int (nI i)), (3, .ref ou), (2, .ref mm), (1, .ref pt), (0, .ref bs)] [] w3 (k + 4) (n + 1616) := by
    refine j_goto 943 dL_law_566 (by decide) ?_
    refine j_lv [2, 3, 4, 5, 6] rfl ?_
    exact j_widen (by omega) (by omega) (hgo _ hJ2)
  refine j_if_ne 566 dL_law_551 (by decide) (fun _ => hend) (fun q => ?_)
  have hk0 : kk = 0 := by
    rcases (show kk = 0 ∨ kk = 1 by omega) with z | z
    · exact z
    · rw [z] at q; exact absurd q (by decide)
  refine j_aload_n dL_law_554 3 rfl ?_
  refine j_iconst (v := nI 0) dL_law_555 (by decide) ?_
  refine j_laldN hO2 rfl (by omega) (by omega) dL_law_556 ?_
  refine j_iload dL_law_557 0 rfl ?_
  refine j_i2l dL_law_559 rfl ?_
  refine j_lcmp dL_law_560 ?_
  exact j_if_eq 566 dL_law_561 (by decide) (fun _ => hend) (fun q => absurd ((lg_cmp_eq _ _).mpr (hth.2.1 hk0)) q)
set_option maxHeartbeats 4000000 in
set_option maxRecDepth 100000 in
theorem w_place {bs L : Nat} {xs : Nat → Int32} {A cr : Nat → Nat} {pt mm ou : Nat} {w : pW} {i k n : Nat} (hS : MS A cr mm) (hou : ¬ OW A cr mm ou) (hL : L ≤ 3072) (hi : i + 6 ≤ L) (hk : k + 4 ≤ 601024) (hn : n + 1616 ≤ 7293033) (hJ : JI A cr pt mm ou w) (hgo : ∀ w9, JI A cr pt mm ou w9 → J (lwP bs L xs) 943 [(4, .int (nI i)), (3, .ref ou), (2, .ref mm), (1, .ref pt), (0, .ref bs)] [] w9 (k + 4) (n + 1616)) : J (lwP bs L xs) 595 [(4, .int (nI i)), (3, .ref ou), (2, .ref mm), (1, .ref pt), (0, .ref bs)] [] w k n := by
  obtain ⟨σ, u, cs, th, fo, hC, hM, hP, hO⟩ := hJ
  obtain ⟨fsP, hpt⟩ := hC.atp
  obtain ⟨G, hd, hc, hm⟩ := S_place (x := xs (i + 1)) hS hC hP
  refine j_aload_n dL_law_595 3 rfl ?_
  refine j_aload_n dL_law_596 4 rfl ?_
  refine j_iload dL_law_597 0 rfl ?_
  refine j_iconst (v := nI 1) dL_law_599 (by decide) ?_
  refine j_iaddN dL_law_600 ?_
  refine j_sld rfl (show i + 1 < L by omega) hL dL_law_601 ?_
  refine j_aload_n dL_law_602 1 rfl ?_
  refine j_callSW (na := 3) (As := [.ref pt, .int (xs (i + 1)), .ref ou]) (st := []) (l_place (fo := fo) hpt hc ?_ ?_) ?_ gL_law_L_place rfl (by decide +kernel) rfl ⟨Nat.le_of_ble_eq_true rfl, Nat.le_of_ble_eq_true rfl⟩ rfl (Nat.le_of_ble_eq_true rfl) dL_law_603 ⟨(show k + 1 ≤ 601024 by omega), (show n + 6 ≤ 7293033 by omega)⟩ (fun v w1 h1 => ?_)
  · rintro E w9 ⟨a, σ9, ha, -⟩
    cases a with
    | none => cases ha; rfl
    | some r => cases ha
  · rintro v w9 ⟨a, σ9, ha, -, h2, -⟩
    refine ⟨?_, h2 ou _ (Or.inr rfl) hO⟩
    cases a with
    | some r => cases ha; exact ⟨r, rfl⟩
    | none => cases ha
  · rintro E w9 (⟨_, _, _, h, _⟩ | ⟨_, h⟩) <;> cases h
  obtain ⟨a, σ9, fo9, kk, ho, hG, hC1, hM1, hO1, hkk⟩ := lq_int hou hM hO h1
  cases ho
  refine j_after (st' := [.int (nI kk)]) (k' := k + 1) (n' := n + 6) rfl (by first | rfl | omega) (by first | rfl | omega) ?_
  refine j_istore (lv' := [(5, .int (nI kk)), (4, .int (nI i)), (3, .ref ou), (2, .ref mm), (1, .ref pt), (0, .ref bs)]) dL_law_606 (Nat.le_of_ble_eq_true rfl) rfl ?_
  refine j_aload_n dL_law_608 3 rfl ?_
  refine j_aload_n dL_law_609 5 rfl ?_
  refine j_iload dL_law_610 1 rfl ?_
  refine j_iconst (v := nI 1) dL_law_612 (by decide) ?_
  refine j_iaddN dL_law_613 ?_
  refine j_sld rfl (show i + 1 < L by omega) hL dL_law_614 ?_
  obtain ⟨fs, hmm, -, -⟩ := hM1.atm
  refine j_callV (na := 1) (As := [.int (xs (i + 1))]) (st := []) (b0 := mm) (ci := 6) (hm a σ9 hG w1 th hM1) ?_ gL_law_X6_place rfl rfl hmm (by decide +kernel) rfl ⟨Nat.le_of_ble_eq_true rfl, Nat.le_of_ble_eq_true rfl⟩ rfl (Nat.le_of_ble_eq_true rfl) dL_law_615 ⟨(show k + 1 + 0 ≤ 601024 by omega), (show n + 6 + 0 ≤ 7293033 by omega)⟩ (fun v w2 h2 => ?_)
  · rintro E w9 ⟨r, th9, u9, cs9, ho, -⟩; cases ho
  obtain ⟨r, th9, u9, cs9, ho2, har, hM2, hP2, hK2⟩ := h2
  cases ho2
  obtain ⟨hJ2, hO2⟩ := JI.of hou hC1 hM1 hO1 hM2 hP2 hK2
  have hth : th9 = kk ∧ (kk = 0 → fo9 0 = r.toInt64) ∧ kk ≤ 1 := by
    rcases har with ⟨z1, z2⟩ | ⟨z1, z2⟩
    · rcases hkk with ⟨r9, y1, y2, y3⟩ | ⟨y1, y2⟩
      · rw [z1] at y1; cases y1; exact ⟨z2.trans y2.symm, fun _ => y3, by omega⟩
      · rw [z1] at y1; cases y1
    · rcases hkk with ⟨r9, y1, y2, y3⟩ | ⟨y1, y2⟩
      · rw [z1] at y1; cases y1
      · exact ⟨z2.trans y2.symm, fun z => by omega, by omega⟩
  refine j_after (st' := [.int r]) (k' := k + 1) (n' := n + 6) rfl (by first | rfl | omega) (by first | rfl | omega) ?_
  refine j_istore (lv' := [(6, .int r), (5, .int (nI kk)), (4, .int (nI i)), (3, .ref ou), (2, .ref mm), (1, .ref pt), (0, .ref bs)]) dL_law_618 (Nat.le_of_ble_eq_true rfl) rfl ?_
  refine j_aload_n dL_law_620 4 rfl ?_
  obtain ⟨fs2, hmm2, hA2, h02⟩ := hM2.atm
  refine j_callV (na := 0) (As := []) (st := []) (b0 := mm) (ci := 6) (m_thrown hS.1 hmm2 hA2 h02) ?_ gL_law_X6_thrown rfl rfl hmm2 (by decide +kernel) rfl ⟨Nat.le_of_ble_eq_true rfl, Nat.le_of_ble_eq_true rfl⟩ rfl (Nat.le_of_ble_eq_true rfl) dL_law_621 ⟨(show k + 1 + 0 ≤ 601024 by omega), (show n + 6 + 0 ≤ 7293033 by omega)⟩ (fun v w3 h3 => ?_)
  · rintro E w9 ⟨ho, -⟩; cases ho
  obtain ⟨ho3, rfl⟩ := h3
  cases ho3
  refine j_after (st' := [.int (nI th9)]) (k' := k + 1) (n' := n + 6) rfl (by first | rfl | omega) (by first | rfl | omega) ?_
  refine j_iload dL_law_624 1 rfl ?_
  refine j_icmp_eq 631 dL_law_626 (by decide) (fun _ => ?_) (fun q => absurd (by rw [hth.1]) q)
  refine j_iload dL_law_631 1 rfl ?_
  have hend : J (lwP bs L xs) 648 [(6, .int r), (5, .int (nI kk)), (4, .int (nI i)), (3, .ref ou), (2, .ref mm), (1, .ref pt), (0, .ref bs)] [] w3 (k + 1) (n + 6) := by
    refine j_goto 943 dL_law_648 (by decide) ?_
    refine j_lv [2, 3, 4, 5, 6] rfl ?_
    exact j_widen (by omega) (by omega) (hgo _ hJ2)
  refine j_if_ne 648 dL_law_633 (by decide) (fun _ => hend) (fun q => ?_)
  have hk0 : kk = 0 := by
    rcases (show kk = 0 ∨ kk = 1 by omega) with z | z
    · exact z
    · rw [z] at q; exact absurd q (by decide)
  refine j_aload_n dL_law_636 3 rfl ?_
  refine j_iconst (v := nI 0) dL_law_637 (by decide) ?_
  refine j_laldN hO2 rfl (by omega) (by omega) dL_law_638 ?_
  refine j_iload dL_law_639 0 rfl ?_
  refine j_i2l dL_law_641 rfl ?_
  refine j_lcmp dL_law_642 ?_
  exact j_if_eq 648 dL_law_643 (by decide) (fun _ => hend) (fun q => absurd ((lg_cmp_eq _ _).mpr (hth.2.1 hk0)) q)
set_option maxHeartbeats 4000000 in
set_option maxRecDepth 100000 in
theorem w_cost {bs L : Nat} {xs : Nat → Int32} {A cr : Nat → Nat} {pt mm ou : Nat} {w : pW} {i k n : Nat} (hS : MS A cr mm) (hou : ¬ OW A cr mm ou) (hL : L ≤ 3072) (hi : i + 6 ≤ L) (hk : k + 4 ≤ 601024) (hn : n + 1616 ≤ 7293033) (hJ : JI A cr pt mm ou w) (hgo : ∀ w9, JI A cr pt mm ou w9 → J (lwP bs L xs) 943 [(4, .int (nI i)), (3, .ref ou), (2, .ref mm), (1, .ref pt), (0, .ref bs)] [] w9 (k + 4) (n + 1616)) : J (lwP bs L xs) 651 [(4, .int (nI i)), (3, .ref ou), (2, .ref mm), (1, .ref pt), (0, .ref bs)] [] w k n := by
  obtain ⟨σ, u, cs, th, fo, hC, hM, hP, hO⟩ := hJ
  obtain ⟨fsP, hpt⟩ := hC.atp
  obtain ⟨G, hd, hc, hm⟩ := S_cost (x := xs (i + 1)) (y := xs (i + 2)) hS hC hP
  refine j_aload_n dL_law_651 3 rfl ?_
  refine j_aload_n dL_law_652 4 rfl ?_
  refine j_iload dL_law_653 0 rfl ?_
  refine j_iconst (v := nI 1) dL_law_655 (by decide) ?_
  refine j_iaddN dL_law_656 ?_
  refine j_sld rfl (show i + 1 < L by omega) hL dL_law_657 ?_
  refine j_aload_n dL_law_658 4 rfl ?_
  refine j_iload dL_law_659 0 rfl ?_
  refine j_iconst (v := nI 2) dL_law_661 (by decide) ?_
  refine j_iaddN dL_law_662 ?_
  refine j_sld rfl (show i + 2 < L by omega) hL dL_law_663 ?_
  refine j_aload_n dL_law_664 1 rfl ?_
  refine j_callSW (na := 4) (As := [.ref pt, .int (xs (i + 1)), .int (xs (i + 2)), .ref ou]) (st := []) (l_cost (fo := fo) hpt hc ?_ ?_) ?_ gL_law_L_cost rfl (by decide +kernel) rfl ⟨Nat.le_of_ble_eq_true rfl, Nat.le_of_ble_eq_true rfl⟩ rfl (Nat.le_of_ble_eq_true rfl) dL_law_665 ⟨(show k + 1 ≤ 601024 by omega), (show n + 6 ≤ 7293033 by omega)⟩ (fun v w1 h1 => ?_)
  · rintro E w9 ⟨a, σ9, ha, -⟩
    cases a with
    | none => cases ha; rfl
    | some r => cases ha
  · rintro v w9 ⟨a, σ9, ha, -, h2, -⟩
    refine ⟨?_, h2 ou _ (Or.inr rfl) hO⟩
    cases a with
    | some r => cases ha; exact ⟨r, rfl⟩
    | none => cases ha
  · rintro E w9 (⟨_, _, _, h, _⟩ | ⟨_, h⟩) <;> cases h
  obtain ⟨a, σ9, fo9, kk, ho, hG, hC1, hM1, hO1, hkk⟩ := lq_int hou hM hO h1
  cases ho
  refine j_after (st' := [.int (nI kk)]) (k' := k + 1) (n' := n + 6) rfl (by first | rfl | omega) (by first | rfl | omega) ?_
  refine j_istore (lv' := [(5, .int (nI kk)), (4, .int (nI i)), (3, .ref ou), (2, .ref mm), (1, .ref pt), (0, .ref bs)]) dL_law_668 (Nat.le_of_ble_eq_true rfl) rfl ?_
  refine j_aload_n dL_law_670 3 rfl ?_
  refine j_aload_n dL_law_671 5 rfl ?_
  refine j_iload dL_law_672 1 rfl ?_
  refine j_iconst (v := nI 1) dL_law_674 (by decide) ?_
  refine j_iaddN dL_law_675 ?_
  refine j_sld rfl (show i + 1 < L by omega) hL dL_law_676 ?_
  refine j_aload_n dL_law_677 5 rfl ?_
  refine j_iload dL_law_678 1 rfl ?_
  refine j_iconst (v := nI 2) dL_law_680 (by decide) ?_
  refine j_iaddN dL_law_681 ?_
  refine j_sld rfl (show i + 2 < L by omega) hL dL_law_682 ?_
  obtain ⟨fs, hmm, -, -⟩ := hM1.atm
  refine j_callV (na := 2) (As := [.int (xs (i + 1)), .int (xs (i + 2))]) (st := []) (b0 := mm) (ci := 6) (hm a σ9 hG w1 th hM1) ?_ gL_law_X6_cost rfl rfl hmm (by decide +kernel) rfl ⟨Nat.le_of_ble_eq_true rfl, Nat.le_of_ble_eq_true rfl⟩ rfl (Nat.le_of_ble_eq_true rfl) dL_law_683 ⟨(show k + 1 + 0 ≤ 601024 by omega), (show n + 6 + 0 ≤ 7293033 by omega)⟩ (fun v w2 h2 => ?_)
  · rintro E w9 ⟨r, th9, u9, cs9, ho, -⟩; cases ho
  obtain ⟨r, th9, u9, cs9, ho2, har, hM2, hP2, hK2⟩ := h2
  cases ho2
  obtain ⟨hJ2, hO2⟩ := JI.of hou hC1 hM1 hO1 hM2 hP2 hK2
  have hth : th9 = kk ∧ (kk = 0 → fo9 0 = r.toInt64) ∧ kk ≤ 1 := by
    rcases har with ⟨z1, z2⟩ | ⟨z1, z2⟩
    · rcases hkk with ⟨r9, y1, y2, y3⟩ | ⟨y1, y2⟩
      · rw [z1] at y1; cases y1; exact ⟨z2.trans y2.symm, fun _ => y3, by omega⟩
      · rw [z1] at y1; cases y1
    · rcases hkk with ⟨r9, y1, y2, y3⟩ | ⟨y1, y2⟩
      · rw [z1] at y1; cases y1
      · exact ⟨z2.trans y2.symm, fun z => by omega, by omega⟩
  refine j_after (st' := [.int r]) (k' := k + 1) (n' := n + 6) rfl (by first | rfl | omega) (by first | rfl | omega) ?_
  refine j_istore (lv' := [(6, .int r), (5, .int (nI kk)), (4, .int (nI i)), (3, .ref ou), (2, .ref mm), (1, .ref pt), (0, .ref bs)]) dL_law_686 (Nat.le_of_ble_eq_true rfl) rfl ?_
  refine j_aload_n dL_law_688 4 rfl ?_
  obtain ⟨fs2, hmm2, hA2, h02⟩ := hM2.atm
  refine j_callV (na := 0) (As := []) (st := []) (b0 := mm) (ci := 6) (m_thrown hS.1 hmm2 hA2 h02) ?_ gL_law_X6_thrown rfl rfl hmm2 (by decide +kernel) rfl ⟨Nat.le_of_ble_eq_true rfl, Nat.le_of_ble_eq_true rfl⟩ rfl (Nat.le_of_ble_eq_true rfl) dL_law_689 ⟨(show k + 1 + 0 ≤ 601024 by omega), (show n + 6 + 0 ≤ 7293033 by omega)⟩ (fun v w3 h3 => ?_)
  · rintro E w9 ⟨ho, -⟩; cases ho
  obtain ⟨ho3, rfl⟩ := h3
  cases ho3
  refine j_after (st' := [.int (nI th9)]) (k' := k + 1) (n' := n + 6) rfl (by first | rfl | omega) (by first | rfl | omega) ?_
  refine j_iload dL_law_692 1 rfl ?_
  refine j_icmp_eq 699 dL_law_694 (by decide) (fun _ => ?_) (fun q => absurd (by rw [hth.1]) q)
  refine j_iload dL_law_699 1 rfl ?_
  have hend : J (lwP bs L xs) 716 [(6, .int r), (5, .int (nI kk)), (4, .int (nI i)), (3, .ref ou), (2, .ref mm), (1, .ref pt), (0, .ref bs)] [] w3 (k + 1) (n + 6) := by
    refine j_goto 943 dL_law_716 (by decide) ?_
    refine j_lv [2, 3, 4, 5, 6] rfl ?_
    exact j_widen (by omega) (by omega) (hgo _ hJ2)
  refine j_if_ne 716 dL_law_701 (by decide) (fun _ => hend) (fun q => ?_)
  have hk0 : kk = 0 := by
    rcases (show kk = 0 ∨ kk = 1 by omega) with z | z
    · exact z
    · rw [z] at q; exact absurd q (by decide)
  refine j_aload_n dL_law_704 3 rfl ?_
  refine j_iconst (v := nI 0) dL_law_705 (by decide) ?_
  refine j_laldN hO2 rfl (by omega) (by omega) dL_law_706 ?_
  refine j_iload dL_law_707 0 rfl ?_
  refine j_i2l dL_law_709 rfl ?_
  refine j_lcmp dL_law_710 ?_
  exact j_if_eq 716 dL_law_711 (by decide) (fun _ => hend) (fun q => absurd ((lg_cmp_eq _ _).mpr (hth.2.1 hk0)) q)
set_option maxHeartbeats 4000000 in
set_option maxRecDepth 100000 in
theorem w_sure {bs L : Nat} {xs : Nat → Int32} {A cr : Nat → Nat} {pt mm ou : Nat} {w : pW} {i k n : Nat} (hS : MS A cr mm) (hou : ¬ OW A cr mm ou) (hL : L ≤ 3072) (hi : i + 6 ≤ L) (hk : k + 4 ≤ 601024) (hn : n + 1616 ≤ 7293033) (hJ : JI A cr pt mm ou w) (hgo : ∀ w9, JI A cr pt mm ou w9 → J (lwP bs L xs) 943 [(4, .int (nI i)), (3, .ref ou), (2, .ref mm), (1, .ref pt), (0, .ref bs)] [] w9 (k + 4) (n + 1616)) : J (lwP bs L xs) 719 [(4, .int (nI i)), (3, .ref ou), (2, .ref mm), (1, .ref pt), (0, .ref bs)] [] w k n := by
  obtain ⟨σ, u, cs, th, fo, hC, hM, hP, hO⟩ := hJ
  obtain ⟨fsP, hpt⟩ := hC.atp
  obtain ⟨G, hd, hc, hm⟩ := S_sure hS hC hP
  refine j_aload_n dL_law_719 3 rfl ?_
  refine j_aload_n dL_law_720 1 rfl ?_
  refine j_callSW (na := 2) (As := [.ref pt, .ref ou]) (st := []) (l_sure (fo := fo) hpt hc ?_ ?_) ?_ gL_law_L_sure rfl (by decide +kernel) rfl ⟨Nat.le_of_ble_eq_true rfl, Nat.le_of_ble_eq_true rfl⟩ rfl (Nat.le_of_ble_eq_true rfl) dL_law_721 ⟨(show k + 1 ≤ 601024 by omega), (show n + 6 ≤ 7293033 by omega)⟩ (fun v w1 h1 => ?_)
  · rintro E w9 ⟨a, σ9, ha, -⟩
    cases a with
    | none => cases ha; rfl
    | some r => cases ha
  · rintro v w9 ⟨a, σ9, ha, -, h2, -⟩
    refine ⟨?_, h2 ou _ (Or.inr rfl) hO⟩
    cases a with
    | some r => cases ha; exact ⟨r, rfl⟩
    | none => cases ha
  · rintro E w9 (⟨_, _, _, h, _⟩ | ⟨_, h⟩) <;> cases h
  obtain ⟨a, σ9, fo9, kk, ho, hG, hC1, hM1, hO1, hkk⟩ := lq_int hou hM hO h1
  cases ho
  refine j_after (st' := [.int (nI kk)]) (k' := k + 1) (n' := n + 6) rfl (by first | rfl | omega) (by first | rfl | omega) ?_
  refine j_istore (lv' := [(5, .int (nI kk)), (4, .int (nI i)), (3, .ref ou), (2, .ref mm), (1, .ref pt), (0, .ref bs)]) dL_law_724 (Nat.le_of_ble_eq_true rfl) rfl ?_
  refine j_aload_n dL_law_726 3 rfl ?_
  obtain ⟨fs, hmm, -, -⟩ := hM1.atm
  refine j_callV (na := 0) (As := []) (st := []) (b0 := mm) (ci := 6) (hm a σ9 hG w1 th hM1) ?_ gL_law_X6_sure rfl rfl hmm (by decide +kernel) rfl ⟨Nat.le_of_ble_eq_true rfl, Nat.le_of_ble_eq_true rfl⟩ rfl (Nat.le_of_ble_eq_true rfl) dL_law_727 ⟨(show k + 1 + 0 ≤ 601024 by omega), (show n + 6 + 0 ≤ 7293033 by omega)⟩ (fun v w2 h2 => ?_)
  · rintro E w9 ⟨r, th9, u9, cs9, ho, -⟩; cases ho
  obtain ⟨r, th9, u9, cs9, ho2, har, hM2, hP2, hK2⟩ := h2
  cases ho2
  obtain ⟨hJ2, hO2⟩ := JI.of hou hC1 hM1 hO1 hM2 hP2 hK2
  have hth : th9 = kk ∧ (kk = 0 → fo9 0 = r.toInt64) ∧ kk ≤ 1 := by
    rcases har with ⟨z1, z2⟩ | ⟨z1, z2⟩
    · rcases hkk with ⟨r9, y1, y2, y3⟩ | ⟨y1, y2⟩
      · rw [z1] at y1; cases y1; exact ⟨z2.trans y2.symm, fun _ => y3, by omega⟩
      · rw [z1] at y1; cases y1
    · rcases hkk with ⟨r9, y1, y2, y3⟩ | ⟨y1, y2⟩
      · rw [z1] at y1; cases y1
      · exact ⟨z2.trans y2.symm, fun z => by omega, by omega⟩
  refine j_after (st' := [.int r]) (k' := k + 1) (n' := n + 6) rfl (by first | rfl | omega) (by first | rfl | omega) ?_
  refine j_istore (lv' := [(6, .int r), (5, .int (nI kk)), (4, .int (nI i)), (3, .ref ou), (2, .ref mm), (1, .ref pt), (0, .ref bs)]) dL_law_730 (Nat.le_of_ble_eq_true rfl) rfl ?_
  refine j_aload_n dL_law_732 4 rfl ?_
  obtain ⟨fs2, hmm2, hA2, h02⟩ := hM2.atm
  refine j_callV (na := 0) (As := []) (st := []) (b0 := mm) (ci := 6) (m_thrown hS.1 hmm2 hA2 h02) ?_ gL_law_X6_thrown rfl rfl hmm2 (by decide +kernel) rfl ⟨Nat.le_of_ble_eq_true rfl, Nat.le_of_ble_eq_true rfl⟩ rfl (Nat.le_of_ble_eq_true rfl) dL_law_733 ⟨(show k + 1 + 0 ≤ 601024 by omega), (show n + 6 + 0 ≤ 7293033 by omega)⟩ (fun v w3 h3 => ?_)
  · rintro E w9 ⟨ho, -⟩; cases ho
  obtain ⟨ho3, rfl⟩ := h3
  cases ho3
  refine j_after (st' := [.int (nI th9)]) (k' := k + 1) (n' := n + 6) rfl (by first | rfl | omega) (by first | rfl | omega) ?_
  refine j_iload dL_law_736 1 rfl ?_
  refine j_icmp_eq 743 dL_law_738 (by decide) (fun _ => ?_) (fun q => absurd (by rw [hth.1]) q)
  refine j_iload dL_law_743 1 rfl ?_
  have hend : J (lwP bs L xs) 760 [(6, .int r), (5, .int (nI kk)), (4, .int (nI i)), (3, .ref ou), (2, .ref mm), (1, .ref pt), (0, .ref bs)] [] w3 (k + 1) (n + 6) := by
    refine j_goto 943 dL_law_760 (by decide) ?_
    refine j_lv [2, 3, 4, 5, 6] rfl ?_
    exact j_widen (by omega) (by omega) (hgo _ hJ2)
  refine j_if_ne 760 dL_law_745 (by decide) (fun _ => hend) (fun q => ?_)
  have hk0 : kk = 0 := by
    rcases (show kk = 0 ∨ kk = 1 by omega) with z | z
    · exact z
    · rw [z] at q; exact absurd q (by decide)
  refine j_aload_n dL_law_748 3 rfl ?_
  refine j_iconst (v := nI 0) dL_law_749 (by decide) ?_
  refine j_laldN hO2 rfl (by omega) (by omega) dL_law_750 ?_
  refine j_iload dL_law_751 0 rfl ?_
  refine j_i2l dL_law_753 rfl ?_
  refine j_lcmp dL_law_754 ?_
  exact j_if_eq 760 dL_law_755 (by decide) (fun _ => hend) (fun q => absurd ((lg_cmp_eq _ _).mpr (hth.2.1 hk0)) q)
set_option maxHeartbeats 4000000 in
set_option maxRecDepth 100000 in
theorem w_time {bs L : Nat} {xs : Nat → Int32} {A cr : Nat → Nat} {pt mm ou : Nat} {w : pW} {i k n : Nat} (hS : MS A cr mm) (hou : ¬ OW A cr mm ou) (hL : L ≤ 3072) (hi : i + 6 ≤ L) (hk : k + 4 ≤ 601024) (hn : n + 1616 ≤ 7293033) (hJ : JI A cr pt mm ou w) (hgo : ∀ w9, JI A cr pt mm ou w9 → J (lwP bs L xs) 943 [(4, .int (nI i)), (3, .ref ou), (2, .ref mm), (1, .ref pt), (0, .ref bs)] [] w9 (k + 4) (n + 1616)) : J (lwP bs L xs) 804 [(4, .int (nI i)), (3, .ref ou), (2, .ref mm), (1, .ref pt), (0, .ref bs)] [] w k n := by
  obtain ⟨σ, u, cs, th, fo, hC, hM, hP, hO⟩ := hJ
  obtain ⟨fsP, hpt⟩ := hC.atp
  obtain ⟨G, hd, hc, hm⟩ := S_time (x := xs (i + 1)) hS hC hP
  refine j_aload_n dL_law_804 3 rfl ?_
  refine j_aload_n dL_law_805 4 rfl ?_
  refine j_iload dL_law_806 0 rfl ?_
  refine j_iconst (v := nI 1) dL_law_808 (by decide) ?_
  refine j_iaddN dL_law_809 ?_
  refine j_sld rfl (show i + 1 < L by omega) hL dL_law_810 ?_
  refine j_aload_n dL_law_811 1 rfl ?_
  refine j_callSW (na := 3) (As := [.ref pt, .int (xs (i + 1)), .ref ou]) (st := []) (l_time (fo := fo) hpt hc ?_ ?_) ?_ gL_law_L_time rfl (by decide +kernel) rfl ⟨Nat.le_of_ble_eq_true rfl, Nat.le_of_ble_eq_true rfl⟩ rfl (Nat.le_of_ble_eq_true rfl) dL_law_812 ⟨(show k + 1 ≤ 601024 by omega), (show n + 6 ≤ 7293033 by omega)⟩ (fun v w1 h1 => ?_)
  · rintro E w9 ⟨a, σ9, ha, -⟩
    cases a with
    | none => cases ha; rfl
    | some r => cases ha
  · rintro v w9 ⟨a, σ9, ha, -, h2, -⟩
    refine ⟨?_, h2 ou _ (Or.inr rfl) hO⟩
    cases a with
    | some r => cases ha; exact ⟨r, rfl⟩
    | none => cases ha
  · rintro E w9 (⟨_, _, _, h, _⟩ | ⟨_, h⟩) <;> cases h
  obtain ⟨a, σ9, fo9, kk, ho, hG, hC1, hM1, hO1, hkk⟩ := lq_long hou hM hO h1
  cases ho
  refine j_after (st' := [.int (nI kk)]) (k' := k + 1) (n' := n + 6) rfl (by first | rfl | omega) (by first | rfl | omega) ?_
  refine j_istore (lv' := [(5, .int (nI kk)), (4, .int (nI i)), (3, .ref ou), (2, .ref mm), (1, .ref pt), (0, .ref bs)]) dL_law_815 (Nat.le_of_ble_eq_true rfl) rfl ?_
  refine j_aload_n dL_law_817 3 rfl ?_
  refine j_aload_n dL_law_818 5 rfl ?_
  refine j_iload dL_law_819 1 rfl ?_
  refine j_iconst (v := nI 1) dL_law_821 (by decide) ?_
  refine j_iaddN dL_law_822 ?_
  refine j_sld rfl (show i + 1 < L by omega) hL dL_law_823 ?_
  obtain ⟨fs, hmm, -, -⟩ := hM1.atm
  refine j_callV (na := 1) (As := [.int (xs (i + 1))]) (st := []) (b0 := mm) (ci := 6) (hm a σ9 hG w1 th hM1) ?_ gL_law_X6_time rfl rfl hmm (by decide +kernel) rfl ⟨Nat.le_of_ble_eq_true rfl, Nat.le_of_ble_eq_true rfl⟩ rfl (Nat.le_of_ble_eq_true rfl) dL_law_824 ⟨(show k + 1 + 0 ≤ 601024 by omega), (show n + 6 + 0 ≤ 7293033 by omega)⟩ (fun v w2 h2 => ?_)
  · rintro E w9 ⟨r, th9, u9, cs9, ho, -⟩; cases ho
  obtain ⟨r, th9, u9, cs9, ho2, har, hM2, hP2, hK2⟩ := h2
  cases ho2
  obtain ⟨hJ2, hO2⟩ := JI.of hou hC1 hM1 hO1 hM2 hP2 hK2
  have hth : th9 = kk ∧ (kk = 0 → fo9 0 = r) ∧ kk ≤ 1 := by
    rcases har with ⟨z1, z2⟩ | ⟨z1, z2⟩
    · rcases hkk with ⟨r9, y1, y2, y3⟩ | ⟨y1, y2⟩
      · rw [z1] at y1; cases y1; exact ⟨z2.trans y2.symm, fun _ => y3, by omega⟩
      · rw [z1] at y1; cases y1
    · rcases hkk with ⟨r9, y1, y2, y3⟩ | ⟨y1, y2⟩
      · rw [z1] at y1; cases y1
      · exact ⟨z2.trans y2.symm, fun z => by omega, by omega⟩
  refine j_after (st' := [.long r]) (k' := k + 1) (n' := n + 6) rfl (by first | rfl | omega) (by first | rfl | omega) ?_
  refine j_lstore (lv' := [(6, .long r), (5, .int (nI kk)), (4, .int (nI i)), (3, .ref ou), (2, .ref mm), (1, .ref pt), (0, .ref bs)]) dL_law_827 (Nat.le_of_ble_eq_true rfl) rfl ?_
  refine j_aload_n dL_law_829 4 rfl ?_
  obtain ⟨fs2, hmm2, hA2, h02⟩ := hM2.atm
  refine j_callV (na := 0) (As := []) (st := []) (b0 := mm) (ci := 6) (m_thrown hS.1 hmm2 hA2 h02) ?_ gL_law_X6_thrown rfl rfl hmm2 (by decide +kernel) rfl ⟨Nat.le_of_ble_eq_true rfl, Nat.le_of_ble_eq_true rfl⟩ rfl (Nat.le_of_ble_eq_true rfl) dL_law_830 ⟨(show k + 1 + 0 ≤ 601024 by omega), (show n + 6 + 0 ≤ 7293033 by omega)⟩ (fun v w3 h3 => ?_)
  · rintro E w9 ⟨ho, -⟩; cases ho
  obtain ⟨ho3, rfl⟩ := h3
  cases ho3
  refine j_after (st' := [.int (nI th9)]) (k' := k + 1) (n' := n + 6) rfl (by first | rfl | omega) (by first | rfl | omega) ?_
  refine j_iload dL_law_833 1 rfl ?_
  refine j_icmp_eq 840 dL_law_835 (by decide) (fun _ => ?_) (fun q => absurd (by rw [hth.1]) q)
  refine j_iload dL_law_840 1 rfl ?_
  have hend : J (lwP bs L xs) 856 [(6, .long r), (5, .int (nI kk)), (4, .int (nI i)), (3, .ref ou), (2, .ref mm), (1, .ref pt), (0, .ref bs)] [] w3 (k + 1) (n + 6) := by
    refine j_goto 943 dL_law_856 (by decide) ?_
    refine j_lv [2, 3, 4, 5, 6] rfl ?_
    exact j_widen (by omega) (by omega) (hgo _ hJ2)
  refine j_if_ne 856 dL_law_842 (by decide) (fun _ => hend) (fun q => ?_)
  have hk0 : kk = 0 := by
    rcases (show kk = 0 ∨ kk = 1 by omega) with z | z
    · exact z
    · rw [z] at q; exact absurd q (by decide)
  refine j_aload_n dL_law_845 3 rfl ?_
  refine j_iconst (v := nI 0) dL_law_846 (by decide) ?_
  refine j_laldN hO2 rfl (by omega) (by omega) dL_law_847 ?_
  refine j_lload dL_law_848 0 rfl ?_
  refine j_lcmp dL_law_850 ?_
  exact j_if_eq 856 dL_law_851 (by decide) (fun _ => hend) (fun q => absurd ((lg_cmp_eq _ _).mpr (hth.2.1 hk0)) q)
set_option maxHeartbeats 4000000 in
set_option maxRecDepth 100000 in
theorem w_lead {bs L : Nat} {xs : Nat → Int32} {A cr : Nat → Nat} {pt mm ou : Nat} {w : pW} {i k n : Nat} (hS : MS A cr mm) (hou : ¬ OW A cr mm ou) (hL : L ≤ 3072) (hi : i + 6 ≤ L) (hk : k + 4 ≤ 601024) (hn : n + 1616 ≤ 7293033) (hJ : JI A cr pt mm ou w) (hgo : ∀ w9, JI A cr pt mm ou w9 → J (lwP bs L xs) 943 [(4, .int (nI i)), (3, .ref ou), (2, .ref mm), (1, .ref pt), (0, .ref bs)] [] w9 (k + 4) (n + 1616)) : J (lwP bs L xs) 887 [(4, .int (nI i)), (3, .ref ou), (2, .ref mm), (1, .ref pt), (0, .ref bs)] [] w k n := by
  obtain ⟨σ, u, cs, th, fo, hC, hM, hP, hO⟩ := hJ
  obtain ⟨fsP, hpt⟩ := hC.atp
  obtain ⟨G, hd, hc, hm⟩ := S_lead (x := xs (i + 1)) hS hC hP (MO.mk hM hO)
  refine j_aload_n dL_law_887 3 rfl ?_
  refine j_aload_n dL_law_888 4 rfl ?_
  refine j_iload dL_law_889 0 rfl ?_
  refine j_iconst (v := nI 1) dL_law_891 (by decide) ?_
  refine j_iaddN dL_law_892 ?_
  refine j_sld rfl (show i + 1 < L by omega) hL dL_law_893 ?_
  refine j_aload_n dL_law_894 1 rfl ?_
  refine j_callSW (na := 3) (As := [.ref pt, .int (xs (i + 1)), .ref ou]) (st := []) (l_lead (fo := fo) hpt hc ?_ ?_) ?_ gL_law_L_lead rfl (by decide +kernel) rfl ⟨Nat.le_of_ble_eq_true rfl, Nat.le_of_ble_eq_true rfl⟩ rfl (Nat.le_of_ble_eq_true rfl) dL_law_895 ⟨(show k + 1 ≤ 601024 by omega), (show n + 6 ≤ 7293033 by omega)⟩ (fun v w1 h1 => ?_)
  · rintro E w9 ⟨a, σ9, ha, -⟩
    cases a with
    | none => cases ha; rfl
    | some r => cases ha
  · rintro v w9 ⟨a, σ9, ha, -, h2, -⟩
    refine ⟨?_, h2 ou _ (Or.inr rfl) hO⟩
    cases a with
    | some r => cases ha; exact ⟨r, rfl⟩
    | none => cases ha
  · rintro E w9 (⟨_, _, _, h, _⟩ | ⟨_, h⟩) <;> cases h
  obtain ⟨a, σ9, fo9, kk, ho, hG, hC1, hM1, hO1, hkk⟩ := lq_int hou hM hO h1
  cases ho
  refine j_after (st' := [.int (nI kk)]) (k' := k + 1) (n' := n + 6) rfl (by first | rfl | omega) (by first | rfl | omega) ?_
  refine j_istore (lv' := [(5, .int (nI kk)), (4, .int (nI i)), (3, .ref ou), (2, .ref mm), (1, .ref pt), (0, .ref bs)]) dL_law_898 (Nat.le_of_ble_eq_true rfl) rfl ?_
  refine j_aload_n dL_law_900 3 rfl ?_
  refine j_aload_n dL_law_901 5 rfl ?_
  refine j_iload dL_law_902 1 rfl ?_
  refine j_iconst (v := nI 1) dL_law_904 (by decide) ?_
  refine j_iaddN dL_law_905 ?_
  refine j_sld rfl (show i + 1 < L by omega) hL dL_law_906 ?_
  obtain ⟨fs, hmm, -, -⟩ := hM1.atm
  refine j_callV (na := 1) (As := [.int (xs (i + 1))]) (st := []) (b0 := mm) (ci := 6) (hm a σ9 hG w1 th hM1) ?_ gL_law_X6_lead rfl rfl hmm (by decide +kernel) rfl ⟨Nat.le_of_ble_eq_true rfl, Nat.le_of_ble_eq_true rfl⟩ rfl (Nat.le_of_ble_eq_true rfl) dL_law_907 ⟨(show k + 1 + 0 ≤ 601024 by omega), (show n + 6 + 0 ≤ 7293033 by omega)⟩ (fun v w2 h2 => ?_)
  · rintro E w9 ⟨r, th9, u9, cs9, ho, -⟩; cases ho
  obtain ⟨r, th9, u9, cs9, ho2, har, hM2, hP2, hK2⟩ := h2
  cases ho2
  obtain ⟨hJ2, hO2⟩ := JI.of hou hC1 hM1 hO1 hM2 hP2 hK2
  have hth : th9 = kk ∧ (kk = 0 → fo9 0 = r.toInt64) ∧ kk ≤ 1 := by
    rcases har with ⟨z1, z2⟩ | ⟨z1, z2⟩
    · rcases hkk with ⟨r9, y1, y2, y3⟩ | ⟨y1, y2⟩
      · rw [z1] at y1; cases y1; exact ⟨z2.trans y2.symm, fun _ => y3, by omega⟩
      · rw [z1] at y1; cases y1
    · rcases hkk with ⟨r9, y1, y2, y3⟩ | ⟨y1, y2⟩
      · rw [z1] at y1; cases y1
      · exact ⟨z2.trans y2.symm, fun z => by omega, by omega⟩
  refine j_after (st' := [.int r]) (k' := k + 1) (n' := n + 6) rfl (by first | rfl | omega) (by first | rfl | omega) ?_
  refine j_istore (lv' := [(6, .int r), (5, .int (nI kk)), (4, .int (nI i)), (3, .ref ou), (2, .ref mm), (1, .ref pt), (0, .ref bs)]) dL_law_910 (Nat.le_of_ble_eq_true rfl) rfl ?_
  refine j_aload_n dL_law_912 4 rfl ?_
  obtain ⟨fs2, hmm2, hA2, h02⟩ := hM2.atm
  refine j_callV (na := 0) (As := []) (st := []) (b0 := mm) (ci := 6) (m_thrown hS.1 hmm2 hA2 h02) ?_ gL_law_X6_thrown rfl rfl hmm2 (by decide +kernel) rfl ⟨Nat.le_of_ble_eq_true rfl, Nat.le_of_ble_eq_true rfl⟩ rfl (Nat.le_of_ble_eq_true rfl) dL_law_913 ⟨(show k + 1 + 0 ≤ 601024 by omega), (show n + 6 + 0 ≤ 7293033 by omega)⟩ (fun v w3 h3 => ?_)
  · rintro E w9 ⟨ho, -⟩; cases ho
  obtain ⟨ho3, rfl⟩ := h3
  cases ho3
  refine j_after (st' := [.int (nI th9)]) (k' := k + 1) (n' := n + 6) rfl (by first | rfl | omega) (by first | rfl | omega) ?_
  refine j_iload dL_law_916 1 rfl ?_
  refine j_icmp_eq 923 dL_law_918 (by decide) (fun _ => ?_) (fun q => absurd (by rw [hth.1]) q)
  refine j_iload dL_law_923 1 rfl ?_
  have hend : J (lwP bs L xs) 940 [(6, .int r), (5, .int (nI kk)), (4, .int (nI i)), (3, .ref ou), (2, .ref mm), (1, .ref pt), (0, .ref bs)] [] w3 (k + 1) (n + 6) := by
    refine j_goto 943 dL_law_940 (by decide) ?_
    refine j_lv [2, 3, 4, 5, 6] rfl ?_
    exact j_widen (by omega) (by omega) (hgo _ hJ2)
  refine j_if_ne 940 dL_law_925 (by decide) (fun _ => hend) (fun q => ?_)
  have hk0 : kk = 0 := by
    rcases (show kk = 0 ∨ kk = 1 by omega) with z | z
    · exact z
    · rw [z] at q; exact absurd q (by decide)
  refine j_aload_n dL_law_928 3 rfl ?_
  refine j_iconst (v := nI 0) dL_law_929 (by decide) ?_
  refine j_laldN hO2 rfl (by omega) (by omega) dL_law_930 ?_
  refine j_iload dL_law_931 0 rfl ?_
  refine j_i2l dL_law_933 rfl ?_
  refine j_lcmp dL_law_934 ?_
  exact j_if_eq 940 dL_law_935 (by decide) (fun _ => hend) (fun q => absurd ((lg_cmp_eq _ _).mpr (hth.2.1 hk0)) q)
set_option maxHeartbeats 4000000 in
set_option maxRecDepth 100000 in
theorem w_feed {bs L : Nat} {xs : Nat → Int32} {A cr : Nat → Nat} {pt mm ou : Nat} {w : pW} {i k n : Nat} (hS : MS A cr mm) (hou : ¬ OW A cr mm ou) (hL : L ≤ 3072) (hi : i + 6 ≤ L) (hk : k + 4 ≤ 601024) (hn : n + 1616 ≤ 7293033) (hJ : JI A cr pt mm ou w) (hgo : ∀ w9, JI A cr pt mm ou w9 → J (lwP bs L xs) 943 [(4, .int (nI i)), (3, .ref ou), (2, .ref mm), (1, .ref pt), (0, .ref bs)] [] w9 (k + 4) (n + 1616)) : J (lwP bs L xs) 124 [(4, .int (nI i)), (3, .ref ou), (2, .ref mm), (1, .ref pt), (0, .ref bs)] [] w k n := by
  obtain ⟨σ, u, cs, th, fo, hC, hM, hP, hO⟩ := hJ
  obtain ⟨fsP, hpt⟩ := hC.atp
  obtain ⟨G, hd, hc, hm⟩ := S_feed (za := xs (i + 1)) (zb := xs (i + 2)) (zc := xs (i + 3)) (zd := xs (i + 4)) (ze := xs (i + 5)) hS hC hP (MO.mk hM hO)
  refine j_aload_n dL_law_124 3 rfl ?_
  refine j_aload_n dL_law_125 4 rfl ?_
  refine j_iload dL_law_126 0 rfl ?_
  refine j_iconst (v := nI 1) dL_law_128 (by decide) ?_
  refine j_iaddN dL_law_129 ?_
  refine j_sld rfl (show i + 1 < L by omega) hL dL_law_130 ?_
  refine j_aload_n dL_law_131 4 rfl ?_
  refine j_iload dL_law_132 0 rfl ?_
  refine j_iconst (v := nI 2) dL_law_134 (by decide) ?_
  refine j_iaddN dL_law_135 ?_
  refine j_sld rfl (show i + 2 < L by omega) hL dL_law_136 ?_
  refine j_aload_n dL_law_137 4 rfl ?_
  refine j_iload dL_law_138 0 rfl ?_
  refine j_iconst (v := nI 3) dL_law_140 (by decide) ?_
  refine j_iaddN dL_law_141 ?_
  refine j_sld rfl (show i + 3 < L by omega) hL dL_law_142 ?_
  refine j_aload_n dL_law_143 4 rfl ?_
  refine j_iload dL_law_144 0 rfl ?_
  refine j_iconst (v := nI 4) dL_law_146 (by decide) ?_
  refine j_iaddN dL_law_147 ?_
  refine j_sld rfl (show i + 4 < L by omega) hL dL_law_148 ?_
  refine j_aload_n dL_law_149 4 rfl ?_
  refine j_iload dL_law_150 0 rfl ?_
  refine j_iconst (v := nI 5) dL_law_152 (by decide) ?_
  refine j_iaddN dL_law_153 ?_
  refine j_sld rfl (show i + 5 < L by omega) hL dL_law_154 ?_
  refine j_callV (na := 5) (As := [.int (xs (i + 1)), .int (xs (i + 2)), .int (xs (i + 3)), .int (xs (i + 4)), .int (xs (i + 5))]) (st := []) (b0 := pt) (ci := 5) hc ?_ gL_law_X5_feed rfl rfl hpt (by decide +kernel) rfl ⟨Nat.le_of_ble_eq_true rfl, Nat.le_of_ble_eq_true rfl⟩ rfl (Nat.le_of_ble_eq_true rfl) dL_law_155 ⟨(show k + 0 ≤ 601024 by omega), (show n + 0 ≤ 7293033 by omega)⟩ (fun v w1 h1 => ?_)
  · rintro E w9 ⟨a, σ9, ha, -, -, hG⟩
    cases a with
    | none => exact hd rfl _ _ hG rfl
    | some r => cases ha
  obtain ⟨a, σ9, ho, hC1, hK1, hG⟩ := h1
  cases a with
  | none => exact absurd rfl (hd rfl _ _ hG)
  | some r =>
    cases ho
    have hM1 := hM.kp hK1
    have hO1 := hK1 ou _ (Or.inr rfl) hO
    refine j_after (st' := [.int r]) (k' := k + 0) (n' := n + 0) rfl (by first | rfl | omega) (by first | rfl | omega) ?_
    refine j_aload_n dL_law_158 2 rfl ?_
    refine j_aload_n dL_law_159 4 rfl ?_
    refine j_iload dL_law_160 0 rfl ?_
    refine j_iconst (v := nI 1) dL_law_162 (by decide) ?_
    refine j_iaddN dL_law_163 ?_
    refine j_sld rfl (show i + 1 < L by omega) hL dL_law_164 ?_
    refine j_aload_n dL_law_165 4 rfl ?_
    refine j_iload dL_law_166 0 rfl ?_
    refine j_iconst (v := nI 2) dL_law_168 (by decide) ?_
    refine j_iaddN dL_law_169 ?_
    refine j_sld rfl (show i + 2 < L by omega) hL dL_law_170 ?_
    refine j_aload_n dL_law_171 4 rfl ?_
    refine j_iload dL_law_172 0 rfl ?_
    refine j_iconst (v := nI 3) dL_law_174 (by decide) ?_
    refine j_iaddN dL_law_175 ?_
    refine j_sld rfl (show i + 3 < L by omega) hL dL_law_176 ?_
    refine j_aload_n dL_law_177 4 rfl ?_
    refine j_iload dL_law_178 0 rfl ?_
    refine j_iconst (v := nI 4) dL_law_180 (by decide) ?_
    refine j_iaddN dL_law_181 ?_
    refine j_sld rfl (show i + 4 < L by omega) hL dL_law_182 ?_
    refine j_aload_n dL_law_183 4 rfl ?_
    refine j_iload dL_law_184 0 rfl ?_
    refine j_iconst (v := nI 5) dL_law_186 (by decide) ?_
    refine j_iaddN dL_law_187 ?_
    refine j_sld rfl (show i + 5 < L by omega) hL dL_law_188 ?_
    obtain ⟨fs, hmm, -, -⟩ := hM1.atm
    refine j_callV (na := 5) (As := [.int (xs (i + 1)), .int (xs (i + 2)), .int (xs (i + 3)), .int (xs (i + 4)), .int (xs (i + 5))]) (st := [.int r]) (b0 := mm) (ci := 6) (hm (some r) σ9 hG w1 th hM1) ?_ gL_law_X6_feed rfl rfl hmm (by decide +kernel) rfl ⟨Nat.le_of_ble_eq_true rfl, Nat.le_of_ble_eq_true rfl⟩ rfl (Nat.le_of_ble_eq_true rfl) dL_law_189 ⟨(show k + 0 + 0 ≤ 601024 by omega), (show n + 0 + 0 ≤ 7293033 by omega)⟩ (fun v w2 h2 => ?_)
    · rintro E w9 ⟨r, th9, u9, cs9, ho, -⟩; cases ho
    obtain ⟨r2, th9, u9, cs9, ho2, har, hM2, hP2, hK2⟩ := h2
    cases ho2
    obtain ⟨hJ2, hO2⟩ := JI.of hou hC1 hM1 hO1 hM2 hP2 hK2
    have hr : r = r2 := by
      rcases har with ⟨z1, z2⟩ | ⟨z1, z2⟩
      · cases z1; rfl
      · cases z1
    refine j_after (st' := [.int r2, .int r]) (k' := k + 0) (n' := n + 0) rfl (by first | rfl | omega) (by first | rfl | omega) ?_
    refine j_icmp_eq 943 dL_law_192 (by decide) (fun _ => ?_) (fun q => absurd hr q)
    exact j_widen (by omega) (by omega) (hgo _ hJ2)
set_option maxHeartbeats 4000000 in
set_option maxRecDepth 100000 in
theorem w_back {bs L : Nat} {xs : Nat → Int32} {A cr : Nat → Nat} {pt mm ou : Nat} {w : pW} {i k n : Nat} (hS : MS A cr mm) (hou : ¬ OW A cr mm ou) (hL : L ≤ 3072) (hi : i + 6 ≤ L) (hk : k + 4 ≤ 601024) (hn : n + 1616 ≤ 7293033) (hJ : JI A cr pt mm ou w) (hgo : ∀ w9, JI A cr pt mm ou w9 → J (lwP bs L xs) 943 [(4, .int (nI i)), (3, .ref ou), (2, .ref mm), (1, .ref pt), (0, .ref bs)] [] w9 (k + 4) (n + 1616)) : J (lwP bs L xs) 569 [(4, .int (nI i)), (3, .ref ou), (2, .ref mm), (1, .ref pt), (0, .ref bs)] [] w k n := by
  obtain ⟨σ, u, cs, th, fo, hC, hM, hP, hO⟩ := hJ
  obtain ⟨fsP, hpt⟩ := hC.atp
  obtain ⟨G, hd, hc, hm⟩ := S_back hS hC hP (MO.mk hM hO)
  refine j_aload_n dL_law_569 3 rfl ?_
  refine j_callV (na := 0) (As := []) (st := []) (b0 := pt) (ci := 5) hc ?_ gL_law_X5_back rfl rfl hpt (by decide +kernel) rfl ⟨Nat.le_of_ble_eq_true rfl, Nat.le_of_ble_eq_true rfl⟩ rfl (Nat.le_of_ble_eq_true rfl) dL_law_570 ⟨(show k + 0 ≤ 601024 by omega), (show n + 0 ≤ 7293033 by omega)⟩ (fun v w1 h1 => ?_)
  · rintro E w9 ⟨a, σ9, ha, -, -, hG⟩
    cases a with
    | none => exact hd rfl _ _ hG rfl
    | some r => cases ha
  obtain ⟨a, σ9, ho, hC1, hK1, hG⟩ := h1
  cases a with
  | none => exact absurd rfl (hd rfl _ _ hG)
  | some r =>
    cases ho
    have hM1 := hM.kp hK1
    have hO1 := hK1 ou _ (Or.inr rfl) hO
    refine j_after (st' := [.int r]) (k' := k + 0) (n' := n + 0) rfl (by first | rfl | omega) (by first | rfl | omega) ?_
    refine j_aload_n dL_law_573 2 rfl ?_
    obtain ⟨fs, hmm, -, -⟩ := hM1.atm
    refine j_callV (na := 0) (As := []) (st := [.int r]) (b0 := mm) (ci := 6) (hm (some r) σ9 hG w1 th hM1) ?_ gL_law_X6_back rfl rfl hmm (by decide +kernel) rfl ⟨Nat.le_of_ble_eq_true rfl, Nat.le_of_ble_eq_true rfl⟩ rfl (Nat.le_of_ble_eq_true rfl) dL_law_574 ⟨(show k + 0 + 0 ≤ 601024 by omega), (show n + 0 + 0 ≤ 7293033 by omega)⟩ (fun v w2 h2 => ?_)
    · rintro E w9 ⟨r, th9, u9, cs9, ho, -⟩; cases ho
    obtain ⟨r2, th9, u9, cs9, ho2, har, hM2, hP2, hK2⟩ := h2
    cases ho2
    obtain ⟨hJ2, hO2⟩ := JI.of hou hC1 hM1 hO1 hM2 hP2 hK2
    have hr : r = r2 := by
      rcases har with ⟨z1, z2⟩ | ⟨z1, z2⟩
      · cases z1; rfl
      · cases z1
    refine j_after (st' := [.int r2, .int r]) (k' := k + 0) (n' := n + 0) rfl (by first | rfl | omega) (by first | rfl | omega) ?_
    refine j_icmp_eq 943 dL_law_577 (by decide) (fun _ => ?_) (fun q => absurd hr q)
    exact j_widen (by omega) (by omega) (hgo _ hJ2)
set_option maxHeartbeats 4000000 in
set_option maxRecDepth 100000 in
theorem w_again {bs L : Nat} {xs : Nat → Int32} {A cr : Nat → Nat} {pt mm ou : Nat} {w : pW} {i k n : Nat} (hS : MS A cr mm) (hou : ¬ OW A cr mm ou) (hL : L ≤ 3072) (hi : i + 6 ≤ L) (hk : k + 4 ≤ 601024) (hn : n + 1616 ≤ 7293033) (hJ : JI A cr pt mm ou w) (hgo : ∀ w9, JI A cr pt mm ou w9 → J (lwP bs L xs) 943 [(4, .int (nI i)), (3, .ref ou), (2, .ref mm), (1, .ref pt), (0, .ref bs)] [] w9 (k + 4) (n + 1616)) : J (lwP bs L xs) 582 [(4, .int (nI i)), (3, .ref ou), (2, .ref mm), (1, .ref pt), (0, .ref bs)] [] w k n := by
  obtain ⟨σ, u, cs, th, fo, hC, hM, hP, hO⟩ := hJ
  obtain ⟨fsP, hpt⟩ := hC.atp
  obtain ⟨G, hd, hc, hm⟩ := S_again hS hC hP (MO.mk hM hO)
  refine j_aload_n dL_law_582 3 rfl ?_
  refine j_callV (na := 0) (As := []) (st := []) (b0 := pt) (ci := 5) hc ?_ gL_law_X5_again rfl rfl hpt (by decide +kernel) rfl ⟨Nat.le_of_ble_eq_true rfl, Nat.le_of_ble_eq_true rfl⟩ rfl (Nat.le_of_ble_eq_true rfl) dL_law_583 ⟨(show k + 0 ≤ 601024 by omega), (show n + 0 ≤ 7293033 by omega)⟩ (fun v w1 h1 => ?_)
  · rintro E w9 ⟨a, σ9, ha, -, -, hG⟩
    cases a with
    | none => exact hd rfl _ _ hG rfl
    | some r => cases ha
  obtain ⟨a, σ9, ho, hC1, hK1, hG⟩ := h1
  cases a with
  | none => exact absurd rfl (hd rfl _ _ hG)
  | some r =>
    cases ho
    have hM1 := hM.kp hK1
    have hO1 := hK1 ou _ (Or.inr rfl) hO
    refine j_after (st' := [.int r]) (k' := k + 0) (n' := n + 0) rfl (by first | rfl | omega) (by first | rfl | omega) ?_
    refine j_aload_n dL_law_586 2 rfl ?_
    obtain ⟨fs, hmm, -, -⟩ := hM1.atm
    refine j_callV (na := 0) (As := []) (st := [.int r]) (b0 := mm) (ci := 6) (hm (some r) σ9 hG w1 th hM1) ?_ gL_law_X6_again rfl rfl hmm (by decide +kernel) rfl ⟨Nat.le_of_ble_eq_true rfl, Nat.le_of_ble_eq_true rfl⟩ rfl (Nat.le_of_ble_eq_true rfl) dL_law_587 ⟨(show k + 0 + 0 ≤ 601024 by omega), (show n + 0 + 0 ≤ 7293033 by omega)⟩ (fun v w2 h2 => ?_)
    · rintro E w9 ⟨r, th9, u9, cs9, ho, -⟩; cases ho
    obtain ⟨r2, th9, u9, cs9, ho2, har, hM2, hP2, hK2⟩ := h2
    cases ho2
    obtain ⟨hJ2, hO2⟩ := JI.of hou hC1 hM1 hO1 hM2 hP2 hK2
    have hr : r = r2 := by
      rcases har with ⟨z1, z2⟩ | ⟨z1, z2⟩
      · cases z1; rfl
      · cases z1
    refine j_after (st' := [.int r2, .int r]) (k' := k + 0) (n' := n + 0) rfl (by first | rfl | omega) (by first | rfl | omega) ?_
    refine j_icmp_eq 943 dL_law_590 (by decide) (fun _ => ?_) (fun q => absurd hr q)
    exact j_widen (by omega) (by omega) (hgo _ hJ2)
set_option maxHeartbeats 4000000 in
set_option maxRecDepth 100000 in
theorem w_turnsAt {bs L : Nat} {xs : Nat → Int32} {A cr : Nat → Nat} {pt mm ou : Nat} {w : pW} {i k n : Nat} (hS : MS A cr mm) (hou : ¬ OW A cr mm ou) (hL : L ≤ 3072) (hi : i + 6 ≤ L) (hk : k + 4 ≤ 601024) (hn : n + 1616 ≤ 7293033) (hJ : JI A cr pt mm ou w) (hgo : ∀ w9, JI A cr pt mm ou w9 → J (lwP bs L xs) 943 [(4, .int (nI i)), (3, .ref ou), (2, .ref mm), (1, .ref pt), (0, .ref bs)] [] w9 (k + 4) (n + 1616)) : J (lwP bs L xs) 859 [(4, .int (nI i)), (3, .ref ou), (2, .ref mm), (1, .ref pt), (0, .ref bs)] [] w k n := by
  obtain ⟨σ, u, cs, th, fo, hC, hM, hP, hO⟩ := hJ
  obtain ⟨fsP, hpt⟩ := hC.atp
  obtain ⟨G, hd, hc, hm⟩ := S_turnsAt hS hC hP
  refine j_aload_n dL_law_859 3 rfl ?_
  refine j_callV (na := 0) (As := []) (st := []) (b0 := pt) (ci := 5) hc ?_ gL_law_X5_turnsAt rfl rfl hpt (by decide +kernel) rfl ⟨Nat.le_of_ble_eq_true rfl, Nat.le_of_ble_eq_true rfl⟩ rfl (Nat.le_of_ble_eq_true rfl) dL_law_860 ⟨(show k + 0 ≤ 601024 by omega), (show n + 0 ≤ 7293033 by omega)⟩ (fun v w1 h1 => ?_)
  · rintro E w9 ⟨a, σ9, ha, -, -, hG⟩
    cases a with
    | none => exact hd rfl _ _ hG rfl
    | some r => cases ha
  obtain ⟨a, σ9, ho, hC1, hK1, hG⟩ := h1
  cases a with
  | none => exact absurd rfl (hd rfl _ _ hG)
  | some r =>
    cases ho
    have hM1 := hM.kp hK1
    have hO1 := hK1 ou _ (Or.inr rfl) hO
    refine j_after (st' := [.long r]) (k' := k + 0) (n' := n + 0) rfl (by first | rfl | omega) (by first | rfl | omega) ?_
    refine j_aload_n dL_law_863 2 rfl ?_
    obtain ⟨fs, hmm, -, -⟩ := hM1.atm
    refine j_callV (na := 0) (As := []) (st := [.long r]) (b0 := mm) (ci := 6) (hm (some r) σ9 hG w1 th hM1) ?_ gL_law_X6_turnsAt rfl rfl hmm (by decide +kernel) rfl ⟨Nat.le_of_ble_eq_true rfl, Nat.le_of_ble_eq_true rfl⟩ rfl (Nat.le_of_ble_eq_true rfl) dL_law_864 ⟨(show k + 0 + 0 ≤ 601024 by omega), (show n + 0 + 0 ≤ 7293033 by omega)⟩ (fun v w2 h2 => ?_)
    · rintro E w9 ⟨r, th9, u9, cs9, ho, -⟩; cases ho
    obtain ⟨r2, th9, u9, cs9, ho2, har, hM2, hP2, hK2⟩ := h2
    cases ho2
    obtain ⟨hJ2, hO2⟩ := JI.of hou hC1 hM1 hO1 hM2 hP2 hK2
    have hr : r = r2 := by
      rcases har with ⟨z1, z2⟩ | ⟨z1, z2⟩
      · cases z1; rfl
      · cases z1
    refine j_after (st' := [.long r2, .long r]) (k' := k + 0) (n' := n + 0) rfl (by first | rfl | omega) (by first | rfl | omega) ?_
    refine j_lcmp dL_law_867 ?_
    refine j_if_eq 943 dL_law_868 (by decide) (fun _ => ?_) (fun q => absurd ((lg_cmp_eq _ _).mpr hr) q)
    exact j_widen (by omega) (by omega) (hgo _ hJ2)
set_option maxHeartbeats 4000000 in
set_option maxRecDepth 100000 in
theorem w_cue {bs L : Nat} {xs : Nat → Int32} {A cr : Nat → Nat} {pt mm ou : Nat} {w : pW} {i k n : Nat} (hS : MS A cr mm) (hou : ¬ OW A cr mm ou) (hL : L ≤ 3072) (hi : i + 6 ≤ L) (hk : k + 4 ≤ 601024) (hn : n + 1616 ≤ 7293033) (hJ : JI A cr pt mm ou w) (hgo : ∀ w9, JI A cr pt mm ou w9 → J (lwP bs L xs) 943 [(4, .int (nI i)), (3, .ref ou), (2, .ref mm), (1, .ref pt), (0, .ref bs)] [] w9 (k + 4) (n + 1616)) : J (lwP bs L xs) 873 [(4, .int (nI i)), (3, .ref ou), (2, .ref mm), (1, .ref pt), (0, .ref bs)] [] w k n := by
  obtain ⟨σ, u, cs, th, fo, hC, hM, hP, hO⟩ := hJ
  obtain ⟨fsP, hpt⟩ := hC.atp
  obtain ⟨G, hd, hc, hm⟩ := S_cue hS hC hP
  refine j_aload_n dL_law_873 3 rfl ?_
  refine j_callV (na := 0) (As := []) (st := []) (b0 := pt) (ci := 5) hc ?_ gL_law_X5_cue rfl rfl hpt (by decide +kernel) rfl ⟨Nat.le_of_ble_eq_true rfl, Nat.le_of_ble_eq_true rfl⟩ rfl (Nat.le_of_ble_eq_true rfl) dL_law_874 ⟨(show k + 0 ≤ 601024 by omega), (show n + 0 ≤ 7293033 by omega)⟩ (fun v w1 h1 => ?_)
  · rintro E w9 ⟨a, σ9, ha, -, -, hG⟩
    cases a with
    | none => exact hd rfl _ _ hG rfl
    | some r => cases ha
  obtain ⟨a, σ9, ho, hC1, hK1, hG⟩ := h1
  cases a with
  | none => exact absurd rfl (hd rfl _ _ hG)
  | some r =>
    cases ho
    have hM1 := hM.kp hK1
    have hO1 := hK1 ou _ (Or.inr rfl) hO
    refine j_after (st' := [.long r]) (k' := k + 0) (n' := n + 0) rfl (by first | rfl | omega) (by first | rfl | omega) ?_
    refine j_aload_n dL_law_877 2 rfl ?_
    obtain ⟨fs, hmm, -, -⟩ := hM1.atm
    refine j_callV (na := 0) (As := []) (st := [.long r]) (b0 := mm) (ci := 6) (hm (some r) σ9 hG w1 th hM1) ?_ gL_law_X6_cue rfl rfl hmm (by decide +kernel) rfl ⟨Nat.le_of_ble_eq_true rfl, Nat.le_of_ble_eq_true rfl⟩ rfl (Nat.le_of_ble_eq_true rfl) dL_law_878 ⟨(show k + 0 + 0 ≤ 601024 by omega), (show n + 0 + 0 ≤ 7293033 by omega)⟩ (fun v w2 h2 => ?_)
    · rintro E w9 ⟨r, th9, u9, cs9, ho, -⟩; cases ho
    obtain ⟨r2, th9, u9, cs9, ho2, har, hM2, hP2, hK2⟩ := h2
    cases ho2
    obtain ⟨hJ2, hO2⟩ := JI.of hou hC1 hM1 hO1 hM2 hP2 hK2
    have hr : r = r2 := by
      rcases har with ⟨z1, z2⟩ | ⟨z1, z2⟩
      · cases z1; rfl
      · cases z1
    refine j_after (st' := [.long r2, .long r]) (k' := k + 0) (n' := n + 0) rfl (by first | rfl | omega) (by first | rfl | omega) ?_
    refine j_lcmp dL_law_881 ?_
    refine j_if_eq 943 dL_law_882 (by decide) (fun _ => ?_) (fun q => absurd ((lg_cmp_eq _ _).mpr hr) q)
    exact j_widen (by omega) (by omega) (hgo _ hJ2)
set_option maxHeartbeats 4000000 in
set_option maxRecDepth 100000 in
theorem w_tempo {bs L : Nat} {xs : Nat → Int32} {A cr : Nat → Nat} {pt mm ou : Nat} {w : pW} {i k n : Nat} (hS : MS A cr mm) (hou : ¬ OW A cr mm ou) (hL : L ≤ 3072) (hi : i + 6 ≤ L) (hk : k + 4 ≤ 601024) (hn : n + 1616 ≤ 7293033) (hJ : JI A cr pt mm ou w) (hgo : ∀ w9, JI A cr pt mm ou w9 → J (lwP bs L xs) 943 [(4, .int (nI i)), (3, .ref ou), (2, .ref mm), (1, .ref pt), (0, .ref bs)] [] w9 (k + 4) (n + 1616)) : J (lwP bs L xs) 763 [(4, .int (nI i)), (3, .ref ou), (2, .ref mm), (1, .ref pt), (0, .ref bs)] [] w k n := by
  by_cases hx : xs (i + 1) = 0
  · obtain ⟨σ, u, cs, th, fo, hC, hM, hP, hO⟩ := hJ
    obtain ⟨fsP, hpt⟩ := hC.atp
    obtain ⟨G, hd, hc, hm⟩ := S_tempo (bl := false) hS hC hP
    refine j_aload_n dL_law_763 3 rfl ?_
    refine j_aload_n dL_law_764 4 rfl ?_
    refine j_iload dL_law_765 0 rfl ?_
    refine j_iconst (v := nI 1) dL_law_767 (by decide) ?_
    refine j_iaddN dL_law_768 ?_
    refine j_sld rfl (show i + 1 < L by omega) hL dL_law_769 ?_
    refine j_if_eq 777 dL_law_770 (by decide) (fun _ => ?_) (fun q => absurd hx q)
    refine j_iconst (v := zb false) dL_law_777 (by decide) ?_
    refine j_callV (na := 1) (As := [.int (zb false)]) (st := []) (b0 := pt) (ci := 5) hc ?_ gL_law_X5_tempo rfl rfl hpt (by decide +kernel) rfl ⟨Nat.le_of_ble_eq_true rfl, Nat.le_of_ble_eq_true rfl⟩ rfl (Nat.le_of_ble_eq_true rfl) dL_law_778 ⟨(show k + 0 ≤ 601024 by omega), (show n + 0 ≤ 7293033 by omega)⟩ (fun v w1 h1 => ?_)
    · rintro E w9 ⟨a, σ9, ha, -, -, hG⟩
      cases a with
      | none => exact hd rfl _ _ hG rfl
      | some r => cases ha
    obtain ⟨a, σ9, ho, hC1, hK1, hG⟩ := h1
    cases a with
    | none => exact absurd rfl (hd rfl _ _ hG)
    | some r =>
      cases ho
      have hM1 := hM.kp hK1
      have hO1 := hK1 ou _ (Or.inr rfl) hO
      refine j_after (st' := [.int r]) (k' := k + 0) (n' := n + 0) rfl (by first | rfl | omega) (by first | rfl | omega) ?_
      refine j_aload_n dL_law_781 2 rfl ?_
      refine j_aload_n dL_law_782 4 rfl ?_
      refine j_iload dL_law_783 0 rfl ?_
      refine j_iconst (v := nI 1) dL_law_785 (by decide) ?_
      refine j_iaddN dL_law_786 ?_
      refine j_sld rfl (show i + 1 < L by omega) hL dL_law_787 ?_
      refine j_if_eq 795 dL_law_788 (by decide) (fun _ => ?_) (fun q => absurd hx q)
      refine j_iconst (v := zb false) dL_law_795 (by decide) ?_
      obtain ⟨fs, hmm, -, -⟩ := hM1.atm
      refine j_callV (na := 1) (As := [.int (zb false)]) (st := [.int r]) (b0 := mm) (ci := 6) (hm (some r) σ9 hG w1 th hM1) ?_ gL_law_X6_tempo rfl rfl hmm (by decide +kernel) rfl ⟨Nat.le_of_ble_eq_true rfl, Nat.le_of_ble_eq_true rfl⟩ rfl (Nat.le_of_ble_eq_true rfl) dL_law_796 ⟨(show k + 0 + 0 ≤ 601024 by omega), (show n + 0 + 0 ≤ 7293033 by omega)⟩ (fun v w2 h2 => ?_)
      · rintro E w9 ⟨r, th9, u9, cs9, ho, -⟩; cases ho
      obtain ⟨r2, th9, u9, cs9, ho2, har, hM2, hP2, hK2⟩ := h2
      cases ho2
      obtain ⟨hJ2, hO2⟩ := JI.of hou hC1 hM1 hO1 hM2 hP2 hK2
      have hr : r = r2 := by
        rcases har with ⟨z1, z2⟩ | ⟨z1, z2⟩
        · cases z1; rfl
        · cases z1
      refine j_after (st' := [.int r2, .int r]) (k' := k + 0) (n' := n + 0) rfl (by first | rfl | omega) (by first | rfl | omega) ?_
      refine j_icmp_eq 943 dL_law_799 (by decide) (fun _ => ?_) (fun q => absurd hr q)
      exact j_widen (by omega) (by omega) (hgo _ hJ2)
  · obtain ⟨σ, u, cs, th, fo, hC, hM, hP, hO⟩ := hJ
    obtain ⟨fsP, hpt⟩ := hC.atp
    obtain ⟨G, hd, hc, hm⟩ := S_tempo (bl := true) hS hC hP
    refine j_aload_n dL_law_763 3 rfl ?_
    refine j_aload_n dL_law_764 4 rfl ?_
    refine j_iload dL_law_765 0 rfl ?_
    refine j_iconst (v := nI 1) dL_law_767 (by decide) ?_
    refine j_iaddN dL_law_768 ?_
    refine j_sld rfl (show i + 1 < L by omega) hL dL_law_769 ?_
    refine j_if_eq 777 dL_law_770 (by decide) (fun q => absurd q hx) (fun _ => ?_)
    refine j_iconst (v := zb true) dL_law_773 (by decide) ?_
    refine j_goto 778 dL_law_774 (by decide) ?_
    refine j_callV (na := 1) (As := [.int (zb true)]) (st := []) (b0 := pt) (ci := 5) hc ?_ gL_law_X5_tempo rfl rfl hpt (by decide +kernel) rfl ⟨Nat.le_of_ble_eq_true rfl, Nat.le_of_ble_eq_true rfl⟩ rfl (Nat.le_of_ble_eq_true rfl) dL_law_778 ⟨(show k + 0 ≤ 601024 by omega), (show n + 0 ≤ 7293033 by omega)⟩ (fun v w1 h1 => ?_)
    · rintro E w9 ⟨a, σ9, ha, -, -, hG⟩
      cases a with
      | none => exact hd rfl _ _ hG rfl
      | some r => cases ha
    obtain ⟨a, σ9, ho, hC1, hK1, hG⟩ := h1
    cases a with
    | none => exact absurd rfl (hd rfl _ _ hG)
    | some r =>
      cases ho
      have hM1 := hM.kp hK1
      have hO1 := hK1 ou _ (Or.inr rfl) hO
      refine j_after (st' := [.int r]) (k' := k + 0) (n' := n + 0) rfl (by first | rfl | omega) (by first | rfl | omega) ?_
      refine j_aload_n dL_law_781 2 rfl ?_
      refine j_aload_n dL_law_782 4 rfl ?_
      refine j_iload dL_law_783 0 rfl ?_
      refine j_iconst (v := nI 1) dL_law_785 (by decide) ?_
      refine j_iaddN dL_law_786 ?_
      refine j_sld rfl (show i + 1 < L by omega) hL dL_law_787 ?_
      refine j_if_eq 795 dL_law_788 (by decide) (fun q => absurd q hx) (fun _ => ?_)
      refine j_iconst (v := zb true) dL_law_791 (by decide) ?_
      refine j_goto 796 dL_law_792 (by decide) ?_
      obtain ⟨fs, hmm, -, -⟩ := hM1.atm
      refine j_callV (na := 1) (As := [.int (zb true)]) (st := [.int r]) (b0 := mm) (ci := 6) (hm (some r) σ9 hG w1 th hM1) ?_ gL_law_X6_tempo rfl rfl hmm (by decide +kernel) rfl ⟨Nat.le_of_ble_eq_true rfl, Nat.le_of_ble_eq_true rfl⟩ rfl (Nat.le_of_ble_eq_true rfl) dL_law_796 ⟨(show k + 0 + 0 ≤ 601024 by omega), (show n + 0 + 0 ≤ 7293033 by omega)⟩ (fun v w2 h2 => ?_)
      · rintro E w9 ⟨r, th9, u9, cs9, ho, -⟩; cases ho
      obtain ⟨r2, th9, u9, cs9, ho2, har, hM2, hP2, hK2⟩ := h2
      cases ho2
      obtain ⟨hJ2, hO2⟩ := JI.of hou hC1 hM1 hO1 hM2 hP2 hK2
      have hr : r = r2 := by
        rcases har with ⟨z1, z2⟩ | ⟨z1, z2⟩
        · cases z1; rfl
        · cases z1
      refine j_after (st' := [.int r2, .int r]) (k' := k + 0) (n' := n + 0) rfl (by first | rfl | omega) (by first | rfl | omega) ?_
      refine j_icmp_eq 943 dL_law_799 (by decide) (fun _ => ?_) (fun q => absurd hr q)
      exact j_widen (by omega) (by omega) (hgo _ hJ2)
