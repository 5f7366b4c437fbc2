section RJ
def cl (f : Nat → Int32) (c e : Nat) : Nat := (f (e * 14 + c)).toNatClampNeg
theorem cl_at {f : Nat → Int32} {c e x : Nat} (h : f (e * 14 + c) = nI x) (hx : x < 2 ^ 31) : cl f c e = x := by unfold cl; rw [h, nI_clamp hx]
theorem cl_nI {f : Nat → Int32} {c e x : Nat} (h : f (e * 14 + c) = nI x) (hx : x < 2 ^ 31) : f (e * 14 + c) = nI (cl f c e) := by rw [cl_at h hx]; exact h
theorem cl_cg {f f' : Nat → Int32} {c e : Nat} (h : f' (e * 14 + c) = f (e * 14 + c)) : cl f' c e = cl f c e := by unfold cl; rw [h]
theorem sumP_cg {p q : Nat → Nat} : ∀ {e : Nat}, (∀ j, j < e → p j = q j) → sumP p e = sumP q e
  | 0, _ => rfl
  | e + 1, h => by
    simp only [sumP]
    rw [sumP_cg (fun j hj => h j (by omega)), h e (by omega)]
/-- kind and number of pitches of an event -/
def kO (k n : Nat) : Prop := (k = 0 ∧ n = 1) ∨ (k = 1 ∧ 1 ≤ n ∧ n ≤ 4) ∨ (k = 2 ∧ n = 1) ∨ (k = 3 ∧ n = 0)
/-- a row of the table, open or whole -/
def rowB (f : Nat → Int32) (e : Nat) : Prop := (f (e * 14 + 0) = nI (cl f 0 e) ∧ f (e * 14 + 1) = nI (cl f 1 e) ∧ f (e * 14 + 2) = nI (cl f 2 e) ∧ f (e * 14 + 4) = nI (cl f 4 e) ∧ f (e * 14 + 5) = nI (cl f 5 e) ∧ f (e * 14 + 6) = nI (cl f 6 e) ∧ f (e * 14 + 7) = nI (cl f 7 e)) ∧ cl f 6 e ≤ 1 ∧ cl f 7 e ≤ 1 ∧ cl f 1 e ≤ 4 ∧ f (e * 14 + 13) = nI (sumP (cl f 1) e) ∧ (∀ i j, i < j → j < cl f 1 e → f (e * 14 + (9 + i)) ≠ f (e * 14 + (9 + j)))
/-- a whole row -/
def rowC (f : Nat → Int32) (e : Nat) : Prop := rowB f e ∧ kO (cl f 0 e) (cl f 1 e) ∧ f (e * 14 + 3) = nI (cl f 3 e) ∧ (1 ≤ cl f 3 e ∧ cl f 3 e ≤ 999 ∧ cl f 2 e ≤ 999 * e ∧ cl f 4 e ≤ e ∧ cl f 5 e ≤ e) ∧ (f (e * 14 + 8) = -1 ∨ ∃ b, b ≤ e ∧ f (e * 14 + 8) = nI b)
theorem rowB.cg {f f' : Nat → Int32} {e : Nat} (hc : ∀ c, c < 14 → c ≠ 3 → c ≠ 8 → f' (e * 14 + c) = f (e * 14 + c)) (hs : ∀ j, j < e → cl f' 1 j = cl f 1 j) (h : rowB f e) : rowB f' e := by
  obtain ⟨⟨g0, g1, g2, g4, g5, g6, g7⟩, k6, k7, k1, k13, kd⟩ := h
  unfold rowB
  rw [cl_cg (hc 0 (by omega) (by omega) (by omega)), cl_cg (hc 1 (by omega) (by omega) (by omega)), cl_cg (hc 2 (by omega) (by omega) (by omega)), cl_cg (hc 4 (by omega) (by omega) (by omega)), cl_cg (hc 5 (by omega) (by omega) (by omega)), cl_cg (hc 6 (by omega) (by omega) (by omega)), cl_cg (hc 7 (by omega) (by omega) (by omega)), sumP_cg hs, hc 0 (by omega) (by omega) (by omega), hc 1 (by omega) (by omega) (by omega), hc 2 (by omega) (by omega) (by omega), hc 4 (by omega) (by omega) (by omega), hc 5 (by omega) (by omega) (by omega), hc 6 (by omega) (by omega) (by omega), hc 7 (by omega) (by omega) (by omega), hc 13 (by omega) (by omega) (by omega)]
  refine ⟨⟨g0, g1, g2, g4, g5, g6, g7⟩, k6, k7, k1, k13, fun i j hij hj => ?_⟩
  rw [hc (9 + i) (by omega) (by omega) (by omega), hc (9 + j) (by omega) (by omega) (by omega)]
  exact kd i j hij hj
theorem rowC.cg {f f' : Nat → Int32} {e : Nat} (hc : ∀ c, c < 14 → f' (e * 14 + c) = f (e * 14 + c)) (hs : ∀ j, j < e → cl f' 1 j = cl f 1 j) (h : rowC f e) : rowC f' e := by
  obtain ⟨hb, h1, h2, h3, h4⟩ := h
  refine ⟨hb.cg (fun c h _ _ => hc c h) hs, ?_⟩
  rw [cl_cg (hc 0 (by omega)), cl_cg (hc 1 (by omega)), cl_cg (hc 2 (by omega)), cl_cg (hc 3 (by omega)), cl_cg (hc 4 (by omega)), cl_cg (hc 5 (by omega)), hc 3 (by omega), hc 8 (by omega)]
  exact ⟨h1, h2, h3, h4⟩
/-- neighbours: the beats add up, pages don't fall -/
def lnk (f : Nat → Int32) (e : Nat) : Prop := cl f 2 e + cl f 3 e = cl f 2 (e + 1) ∧ cl f 5 e ≤ cl f 5 (e + 1)
theorem lnk.cg {f f' : Nat → Int32} {e : Nat} (h2 : f' (e * 14 + 2) = f (e * 14 + 2)) (h3 : f' (e * 14 + 3) = f (e * 14 + 3)) (h5 : f' (e * 14 + 5) = f (e * 14 + 5)) (h2' : f' ((e + 1) * 14 + 2) = f ((e + 1) * 14 + 2)) (h5' : f' ((e + 1) * 14 + 5) = f ((e + 1) * 14 + 5)) (h : lnk f e) : lnk f' e := by
  unfold lnk
  rw [cl_cg h2, cl_cg h3, cl_cg h5, cl_cg h2', cl_cg h5']
  exact h
/-- all that is whole in the table of ev events -/
def RT (f : Nat → Int32) (ev be st : Nat) : Prop := (∀ e, e < ev → rowC f e) ∧ (∀ e, e + 1 < ev → lnk f e) ∧ (0 < ev → be = cl f 2 (ev - 1) + cl f 3 (ev - 1)) ∧ (ev = 0 → be = 0) ∧ be ≤ 999 * ev ∧ st = sumP (cl f 1) ev
theorem RT.lo {f f' : Nat → Int32} {ev be st : Nat} (h : RT f ev be st) (hl : ∀ i, i < ev * 14 → f' i = f i) : RT f' ev be st := by
  obtain ⟨h1, h2, h3, h4, h5, h6⟩ := h
  refine ⟨fun e he => (h1 e he).cg (fun c hc => hl _ (by omega)) (fun j hj => cl_cg (hl _ (by omega))), fun e he => (h2 e he).cg (hl _ (by omega)) (hl _ (by omega)) (hl _ (by omega)) (hl _ (by omega)) (hl _ (by omega)), fun h => ?_, h4, h5, ?_⟩
  · rw [cl_cg (hl _ (by omega)), cl_cg (hl _ (by omega))]; exact h3 h
  · rw [h6]; exact (sumP_cg (fun j hj => cl_cg (hl _ (by omega)))).symm
/-- the open row -/
def RO (f : Nat → Int32) (sd np oc ev be st me pa : Nat) : Prop := rowB f ev ∧ cl f 1 ev = np ∧ cl f 2 ev = be ∧ cl f 4 ev = me ∧ cl f 5 ev = pa ∧ cl f 7 ev = oc ∧ f (ev * 14 + 8) = -1 ∧ (sd = 64 → cl f 0 ev = 2 ∧ np = 0) ∧ (sd = 128 → cl f 0 ev = 1 ∧ np = 0) ∧ (sd = 256 → cl f 0 ev = 1 ∧ 1 ≤ np) ∧ (512 ≤ sd → kO (cl f 0 ev) np)
/-- what else holds of the reader's state while nothing was faulty -/
def RI2 : RSt → Prop
  | (sd, _, cu, mkd, cud, _, np, oc, f, ev, be, cq, st, me, pa) => RT f ev be st ∧ (64 ≤ sd → RO f sd np oc ev be st me pa) ∧ (pa ≤ me ∧ me ≤ ev ∧ (sd = 2 → pa + 1 ≤ me) ∧ (0 < ev → cl f 5 (ev - 1) ≤ pa)) ∧ (sd = 8 → me + 1 ≤ ev ∧ cl f 4 (ev - 1) = me ∧ cl f 5 (ev - 1) = pa) ∧ (sd = 1 ∨ sd = 2 ∨ sd = 4 → 0 < ev → cl f 4 (ev - 1) + 1 = me) ∧ ((sd < 32 → cq = cu) ∧ (sd = 32 → cq + 1 = cu) ∧ (64 ≤ sd → cq + oc = cu)) ∧ ((sd < 16 → mkd = false) ∧ (sd < 32 → cud = false) ∧ (sd = 32 → cud = true) ∧ (64 ≤ sd → mkd = false ∧ cud = false))
theorem RI2_0 (f : Nat → Int32) : RI2 (rS0 f) := ⟨⟨fun e he => by omega, fun e he => by omega, fun h => by omega, fun _ => rfl, by omega, rfl⟩, fun h => by omega, ⟨by omega, by omega, fun h => by omega, fun h => by omega⟩, fun h => by omega, fun _ h => by omega, ⟨fun _ => rfl, fun h => by omega, fun h => by omega⟩, ⟨fun _ => rfl, fun _ => rfl, fun h => by omega, fun h => by omega⟩⟩
theorem zb_le (b : Bool) : ∃ x : Nat, x ≤ 1 ∧ zb b = nI x ∧ x = (if b then 1 else 0) := ⟨if b then 1 else 0, by cases b <;> decide, by cases b <;> rfl, rfl⟩
/-- an event is opened -/
theorem RO_open {f : Nat → Int32} {sd k ev be st me pa : Nat} {mkd cud : Bool} (h : RT f ev be st) (hev : ev < 100) (hme : me ≤ ev) (hpa : pa ≤ me) (hk : (sd = 64 ∧ k = 2) ∨ (sd = 128 ∧ k = 1) ∨ (sd = 512 ∧ k = 3) ∨ (sd = 1 ∧ k = 0)) : RO (opF f ev k be me pa st (zb mkd) (zb cud)) sd 0 (if cud then 1 else 0) ev be st me pa := by
  obtain ⟨x6, hx6, e6, -⟩ := zb_le mkd
  obtain ⟨x7, hx7, e7, d7⟩ := zb_le cud
  have hbe := h.2.2.2.2.1
  have q0 : opF f ev k be me pa st (zb mkd) (zb cud) (ev * 14 + 0) = nI k := by unfold opF; simp only [upd]; simp
  have q1 : opF f ev k be me pa st (zb mkd) (zb cud) (ev * 14 + 1) = nI 0 := opF_1 f
  have q2 : opF f ev k be me pa st (zb mkd) (zb cud) (ev * 14 + 2) = nI be := by unfold opF; simp only [upd]; simp
  have q4 : opF f ev k be me pa st (zb mkd) (zb cud) (ev * 14 + 4) = nI me := by unfold opF; simp only [upd]; simp
  have q5 : opF f ev k be me pa st (zb mkd) (zb cud) (ev * 14 + 5) = nI pa := by unfold opF; simp only [upd]; simp
  have q6 : opF f ev k be me pa st (zb mkd) (zb cud) (ev * 14 + 6) = nI x6 := by rw [← e6]; unfold opF; simp only [upd]; simp
  have q7 : opF f ev k be me pa st (zb mkd) (zb cud) (ev * 14 + 7) = nI x7 := (opF_7 f).trans e7
  have q8 : opF f ev k be me pa st (zb mkd) (zb cud) (ev * 14 + 8) = -1 := by unfold opF; simp only [upd]; simp
  have q13 : opF f ev k be me pa st (zb mkd) (zb cud) (ev * 14 + 13) = nI st := by unfold opF; rw [pk_us]
  have hkb : k < 2 ^ 31 := by omega
  have c1 := cl_at q1 (by omega)
  refine ⟨⟨⟨cl_nI q0 hkb, cl_nI q1 (by omega), cl_nI q2 (by omega), cl_nI q4 (by omega), cl_nI q5 (by omega), cl_nI q6 (by omega), cl_nI q7 (by omega)⟩, ?_, ?_, ?_, ?_, fun i j hij hj => ?_⟩, c1, cl_at q2 (by omega), cl_at q4 (by omega), cl_at q5 (by omega), ?_, q8, fun h => ⟨?_, rfl⟩, fun h => ⟨?_, rfl⟩, fun h => by omega, fun h => ?_⟩
  · rw [cl_at q6 (by omega)]; exact hx6
  · rw [cl_at q7 (by omega)]; exact hx7
  · omega
  · rw [q13, h.2.2.2.2.2]
    exact congrArg nI (sumP_cg (fun j hj => (cl_cg (opF_lo (by omega))).symm))
  · omega
  · rw [cl_at q7 (by omega)]; exact d7
  · rw [cl_at q0 hkb]; omega
  · rw [cl_at q0 hkb]; omega
  · rw [cl_at q0 hkb]; unfold kO; omega
/-- a pitch is added -/
theorem RO_add {f : Nat → Int32} {sd sd' np oc ev be st me pa : Nat} {va : Int32} (h : RO f sd np oc ev be st me pa) (hnp : np < 4) (hno : ∀ i, i < np → f (ev * 14 + (9 + i)) ≠ va) (hs : (sd' = 256 ∧ cl f 0 ev = 1) ∨ (sd' = 512 ∧ kO (cl f 0 ev) (np + 1))) : RO (adF f ev np va) sd' (np + 1) oc ev be st me pa := by
  obtain ⟨⟨⟨g0, g1, g2, g4, g5, g6, g7⟩, k6, k7, k1, k13, kd⟩, c1, c2, c4, c5, c7, c8, -⟩ := h
  have hne : ∀ c, c < 14 → c ≠ 1 → c ≠ 9 + np → adF f ev np va (ev * 14 + c) = f (ev * 14 + c) := fun c h1 h2 h3 => by unfold adF; rw [pk_un (by omega), pk_un (by omega)]
  have hlo : ∀ j, j < ev → cl (adF f ev np va) 1 j = cl f 1 j := fun j hj => cl_cg (adF_lo (by omega))
  have q1 : adF f ev np va (ev * 14 + 1) = nI (np + 1) := adF_1 f
  have e1 := cl_at q1 (by omega)
  have e0 := cl_cg (hne 0 (by omega) (by omega) (by omega))
  refine ⟨⟨⟨?_, cl_nI q1 (by omega), ?_, ?_, ?_, ?_, ?_⟩, ?_, ?_, by omega, ?_, fun i j hij hj => ?_⟩, e1, ?_, ?_, ?_, ?_, ?_, fun q => by omega, fun q => by omega, fun q => ?_, fun q => ?_⟩
  · rw [e0, hne 0 (by omega) (by omega) (by omega)]; exact g0
  · rw [cl_cg (hne 2 (by omega) (by omega) (by omega)), hne 2 (by omega) (by omega) (by omega)]; exact g2
  · rw [cl_cg (hne 4 (by omega) (by omega) (by omega)), hne 4 (by omega) (by omega) (by omega)]; exact g4
  · rw [cl_cg (hne 5 (by omega) (by omega) (by omega)), hne 5 (by omega) (by omega) (by omega)]; exact g5
  · rw [cl_cg (hne 6 (by omega) (by omega) (by omega)), hne 6 (by omega) (by omega) (by omega)]; exact g6
  · rw [cl_cg (hne 7 (by omega) (by omega) (by omega)), hne 7 (by omega) (by omega) (by omega)]; exact g7
  · rw [cl_cg (hne 6 (by omega) (by omega) (by omega))]; exact k6
  · rw [cl_cg (hne 7 (by omega) (by omega) (by omega))]; exact k7
  · rw [hne 13 (by omega) (by omega) (by omega), sumP_cg hlo]; exact k13
  · rw [e1] at hj
    have hi9 : adF f ev np va (ev * 14 + (9 + i)) = f (ev * 14 + (9 + i)) := hne (9 + i) (by omega) (by omega) (by omega)
    rw [hi9]
    by_cases hj2 : j = np
    · subst hj2
      have : adF f ev j va (ev * 14 + (9 + j)) = va := by unfold adF; rw [pk_un (by omega), pk_us]
      rw [this]
      exact hno i hij
    · rw [hne (9 + j) (by omega) (by omega) (by omega)]
      exact kd i j hij (by omega)
  · rw [cl_cg (hne 2 (by omega) (by omega) (by omega))]; exact c2
  · rw [cl_cg (hne 4 (by omega) (by omega) (by omega))]; exact c4
  · rw [cl_cg (hne 5 (by omega) (by omega) (by omega))]; exact c5
  · rw [cl_cg (hne 7 (by omega) (by omega) (by omega))]; exact c7
  · rw [hne 8 (by omega) (by omega) (by omega)]; exact c8
  · rw [e0]; omega
  · rw [e0]
    rcases hs with hs | hs
    · omega
    · exact hs.2
/-- an event is closed -/
theorem RT_close {f : Nat → Int32} {sd np oc ev be st me pa x : Nat} (h : RT f ev be st) (ho : RO f sd np oc ev be st me pa) (hsd : 512 ≤ sd) (hx : 1 ≤ x ∧ x ≤ 999) (hme : me ≤ ev) (hpa : pa ≤ me) (hpl : 0 < ev → cl f 5 (ev - 1) ≤ pa) : RT (upd f (ev * 14 + 3) (nI x)) (ev + 1) (be + x) (st + (2 ^ np - 1 + 1)) ∧ cl (upd f (ev * 14 + 3) (nI x)) 4 ev = me ∧ cl (upd f (ev * 14 + 3) (nI x)) 5 ev = pa := by
  obtain ⟨hB, c1, c2, c4, c5, c7, c8, -, -, -, hkO⟩ := ho
  have hne : ∀ c, c ≠ 3 → upd f (ev * 14 + 3) (nI x) (ev * 14 + c) = f (ev * 14 + c) := fun c hc => pk_un (by omega)
  have hlo : ∀ i, i < ev * 14 → upd f (ev * 14 + 3) (nI x) i = f i := fun i hi => pk_un (by omega)
  obtain ⟨h1, h2, h3, h4, h5, h6⟩ := h.lo hlo
  have e3 : cl (upd f (ev * 14 + 3) (nI x)) 3 ev = x := cl_at pk_us (by omega)
  have e1 := cl_cg (hne 1 (by omega))
  have e2 := cl_cg (hne 2 (by omega))
  have e4 := cl_cg (hne 4 (by omega))
  have e5 := cl_cg (hne 5 (by omega))
  have e0 := cl_cg (hne 0 (by omega))
  have hbe := h.2.2.2.2.1
  refine ⟨⟨fun e he => ?_, fun e he => ?_, fun _ => ?_, fun q => by omega, by omega, ?_⟩, e4.trans c4, e5.trans c5⟩
  · by_cases hee : e = ev
    · subst hee
      refine ⟨hB.cg (fun c _ h3 _ => hne c h3) (fun j hj => cl_cg (hlo _ (by omega))), ?_, ?_, ?_, ?_⟩
      · rw [e0, e1, c1]; exact hkO hsd
      · rw [e3, pk_us]
      · rw [e3, e2, e4, e5, c2, c4, c5]; omega
      · rw [hne 8 (by omega)]; exact Or.inl c8
    · exact h1 e (by omega)
  · by_cases hee : e + 1 = ev
    · have q3 := h3 (by omega)
      have q5 := hpl (by omega)
      unfold lnk
      rw [hee, e2, e5, c2, c5]
      have : e = ev - 1 := by omega
      rw [this]
      refine ⟨q3.symm, ?_⟩
      rw [cl_cg (hlo _ (by omega))]
      exact q5
    · exact h2 e (by omega)
  · rw [Nat.add_sub_cancel, e2, e3, c2]
  · rw [h6]
    simp only [sumP]
    rw [e1, c1]
    have := Nat.two_pow_pos np
    omega
/-- the last event leads back -/
theorem RT_rep {f : Nat → Int32} {ev be st rep : Nat} (h : RT f ev be st) (hr : rep < ev) : RT (upd f ((ev - 1) * 14 + 8) (nI rep)) ev be st := by
  obtain ⟨h1, h2, h3, h4, h5, h6⟩ := h
  have hne : ∀ e c, c < 14 → c ≠ 8 → upd f ((ev - 1) * 14 + 8) (nI rep) (e * 14 + c) = f (e * 14 + c) := fun e c h h8 => pk_un (by omega)
  refine ⟨fun e he => ?_, fun e he => (h2 e he).cg (hne e 2 (by omega) (by omega)) (hne e 3 (by omega) (by omega)) (hne e 5 (by omega) (by omega)) (hne (e + 1) 2 (by omega) (by omega)) (hne (e + 1) 5 (by omega) (by omega)), fun q => ?_, h4, h5, ?_⟩
  · obtain ⟨hb, g1, g2, g3, g4⟩ := h1 e he
    refine ⟨hb.cg (fun c hc _ h8 => hne e c hc h8) (fun j hj => cl_cg (hne j 1 (by omega) (by omega))), ?_⟩
    rw [cl_cg (hne e 0 (by omega) (by omega)), cl_cg (hne e 1 (by omega) (by omega)), cl_cg (hne e 2 (by omega) (by omega)), cl_cg (hne e 3 (by omega) (by omega)), cl_cg (hne e 4 (by omega) (by omega)), cl_cg (hne e 5 (by omega) (by omega)), hne e 3 (by omega) (by omega)]
    refine ⟨g1, g2, g3, ?_⟩
    by_cases hee : e = ev - 1
    · subst hee; exact Or.inr ⟨rep, by omega, pk_us⟩
    · rw [pk_un (by omega)]; exact g4
  · rw [cl_cg (hne _ 2 (by omega) (by omega)), cl_cg (hne _ 3 (by omega) (by omega))]; exact h3 q
  · rw [h6]; exact (sumP_cg (fun j hj => cl_cg (hne j 1 (by omega) (by omega)))).symm
theorem opF_0 (f : Nat → Int32) {ev k be me pa st : Nat} {a b : Int32} : opF f ev k be me pa st a b (ev * 14 + 0) = nI k := by unfold opF; simp only [upd]; simp
theorem cqO {cq cu sd : Nat} {cud : Bool} (hs : sd = 1 ∨ sd = 2 ∨ sd = 4 ∨ sd = 8 ∨ sd = 16 ∨ sd = 32) (q1 : sd < 32 → cq = cu) (q2 : sd = 32 → cq + 1 = cu) (r2 : sd < 32 → cud = false) (r3 : sd = 32 → cud = true) : cq + (if cud then 1 else 0) = cu := by
  by_cases h : sd = 32
  · rw [r3 h]; exact q2 h
  · rw [r2 (by omega)]; exact q1 (by omega)
theorem RI2_take {s : RSt} {kd : Nat} {va : Int32} (h : RI s) (h2 : RI2 s) (hf : rFault kd va s = 0) (hk0 : kd ≠ 0) (hva : kd = 3 → va ≠ 0 → ∃ x, x ≤ 999 ∧ va = nI x) : RI2 (rTake kd va s) := by
  obtain ⟨hfit, hto⟩ := rF0 hf
  obtain ⟨sd, mr, cu, mkd, cud, rep, np, oc, f, ev, be, cq, st, me, pa⟩ := s
  obtain ⟨h1, i2, i3, i4, i5, i6, i7⟩ := h
  obtain ⟨hT, hO, ⟨p1, p2, p3, p4⟩, h8, h124, ⟨q1, q2, q3⟩, ⟨r1, r2, r3, r4⟩⟩ := h2
  replace hfit : sd &&& stA kd ≠ 0 := hfit
  have hTo : ∀ k, RT (opF f ev k be me pa st (zb mkd) (zb cud)) ev be st := fun k => hT.lo (fun i hi => opF_lo hi)
  have hpo : ∀ k, 0 < ev → cl (opF f ev k be me pa st (zb mkd) (zb cud)) 5 (ev - 1) ≤ pa := fun k hq => by rw [cl_cg (opF_lo (by omega))]; exact p4 hq
  rcases kd_of hfit with rfl | rfl | rfl | rfl | rfl | rfl | rfl | rfl | rfl | rfl | rfl | rfl | rfl | rfl
  · exact absurd rfl hk0
  · by_cases hz : sd &&& 63 = 0
    · have hs3 : sd = 64 ∨ sd = 128 ∨ sd = 256 := by
        rcases h1 with rfl | rfl | rfl | rfl | rfl | rfl | rfl | rfl | rfl | rfl | rfl <;> first | omega | exact absurd hz (by decide) | exact absurd (by decide) hfit
      have hf3 := (fPit rfl hs3).symm.trans hf
      have hn4 : ¬ 4 ≤ np := fun q => by rw [if_pos q] at hf3; cases hf3
      rw [if_neg hn4] at hf3
      have hro := hO (by omega)
      by_cases h64 : sd = 64
      · subst h64
        rw [tPitN rfl]
        have hk2 := hro.2.2.2.2.2.2.2.1 rfl
        have hnp : np = 0 := hk2.2
        subst hnp
        refine ⟨hT.lo (fun i hi => adF_lo hi), fun _ => RO_add hro (by omega) (fun i hi => by omega) (Or.inr ⟨rfl, by rw [hk2.1]; unfold kO; omega⟩), ⟨p1, p2, fun q => by omega, fun q => by rw [cl_cg (adF_lo (by omega))]; exact p4 q⟩, fun q => by omega, fun q => by omega, ⟨fun q => by omega, fun q => by omega, fun _ => q3 (by omega)⟩, ⟨fun q => by omega, fun q => by omega, fun q => by omega, fun _ => r4 (by omega)⟩⟩
      · have hs2 : sd = 128 ∨ sd = 256 := by omega
        rw [tPitC rfl hs2]
        have hno : ∀ i, i < np → f (ev * 14 + (9 + i)) ≠ va := by
          intro i hi he
          have hn : ¬ ((hasP f ev np va).isSome = true) := fun q => by rw [if_pos ⟨h64, q⟩] at hf3; cases hf3
          cases hq : hasP f ev np va with
          | some j => rw [hq] at hn; exact hn rfl
          | none =>
            have := fstN_none hq i (by omega) (by omega)
            rw [he] at this
            simp at this
        have hc0 : cl f 0 ev = 1 := by
          rcases hs2 with q | q
          · exact (hro.2.2.2.2.2.2.2.2.1 q).1
          · exact (hro.2.2.2.2.2.2.2.2.2.1 q).1
        refine ⟨hT.lo (fun i hi => adF_lo hi), fun _ => RO_add hro (by omega) hno (Or.inl ⟨rfl, hc0⟩), ⟨p1, p2, fun q => by omega, fun q => by rw [cl_cg (adF_lo (by omega))]; exact p4 q⟩, fun q => by omega, fun q => by omega, ⟨fun q => by omega, fun q => by omega, fun _ => q3 (by omega)⟩, ⟨fun q => by omega, fun q => by omega, fun q => by omega, fun _ => r4 (by omega)⟩⟩
    · have hs6 : sd = 1 ∨ sd = 2 ∨ sd = 4 ∨ sd = 8 ∨ sd = 16 ∨ sd = 32 := by
        rcases h1 with rfl | rfl | rfl | rfl | rfl | rfl | rfl | rfl | rfl | rfl | rfl <;> first | omega | exact absurd (by decide) hz
      have hev := tooM_a hto rfl hz
      rw [tPitO rfl hs6]
      have hro := RO_open (sd := 1) (k := 0) (mkd := mkd) (cud := cud) hT hev p2 p1 (by omega)
      refine ⟨(hTo 0).lo (fun i hi => adF_lo hi), fun _ => RO_add hro (by omega) (fun i hi => by omega) (Or.inr ⟨rfl, by rw [cl_at (opF_0 f) (by omega)]; unfold kO; omega⟩), ⟨p1, p2, fun q => by omega, fun q => by rw [cl_cg (adF_lo (by omega))]; exact hpo 0 q⟩, fun q => by omega, fun q => by omega, ⟨fun q => by omega, fun q => by omega, fun _ => cqO hs6 q1 q2 r2 r3⟩, ⟨fun q => by omega, fun q => by omega, fun q => by omega, fun _ => ⟨rfl, rfl⟩⟩⟩
  · have e := sd1024 h1 hfit
    subst e
    have hf3 := (fNum rfl).symm.trans hf
    have hv0 : va ≠ 0 := fun q => by rw [if_pos q] at hf3; cases hf3
    obtain ⟨x, hx, hvx⟩ := hva rfl hv0
    have hx0 : x ≠ 0 := fun q => by rw [q] at hvx; exact hv0 hvx
    rw [tNum rfl hvx (by omega)]
    obtain ⟨c1, c2, c3⟩ := RT_close (x := x) hT (hO (by omega)) (by omega) (by omega) p2 p1 p4
    refine ⟨c1, fun q => by omega, ⟨p1, by omega, fun q => by omega, fun _ => ?_⟩, fun _ => ⟨by omega, c2, c3⟩, fun q => by omega, ⟨fun _ => q3 (by omega), fun q => by omega, fun q => by omega⟩, ⟨fun _ => (r4 (by omega)).1, fun _ => (r4 (by omega)).2, fun q => by omega, fun q => by omega⟩⟩
    rw [Nat.add_sub_cancel, c3]
    exact Nat.le_refl _
  · have hs : sd = 1 ∨ sd = 2 := by
      rcases h1 with rfl | rfl | rfl | rfl | rfl | rfl | rfl | rfl | rfl | rfl | rfl <;> first | omega | exact absurd (by decide) hfit
    exact ⟨hT, fun q => by omega, ⟨p1, p2, fun q => by omega, p4⟩, fun q => by omega, fun _ => h124 (by omega), ⟨fun _ => q1 (by omega), fun q => by omega, fun q => by omega⟩, ⟨fun _ => r1 (by omega), fun _ => r2 (by omega), fun q => by omega, fun q => by omega⟩⟩
  · have hs : sd = 8 := by
      rcases h1 with rfl | rfl | rfl | rfl | rfl | rfl | rfl | rfl | rfl | rfl | rfl <;> first | omega | exact absurd (by decide) hfit
    obtain ⟨g1, g2, g3⟩ := h8 hs
    have hne : ∀ c, c < 14 → c ≠ 8 → upd f ((ev - 1) * 14 + 8) (nI rep) ((ev - 1) * 14 + c) = f ((ev - 1) * 14 + c) := fun c h h8 => pk_un (by omega)
    refine ⟨RT_rep hT (i4 hs), fun q => by omega, ⟨by omega, by omega, fun _ => by omega, fun _ => ?_⟩, fun q => by omega, fun _ _ => ?_, ⟨fun _ => q1 (by omega), fun q => by omega, fun q => by omega⟩, ⟨fun _ => r1 (by omega), fun _ => r2 (by omega), fun q => by omega, fun q => by omega⟩⟩
    · rw [cl_cg (hne 5 (by omega) (by omega))]; omega
    · rw [cl_cg (hne 4 (by omega) (by omega))]; omega
  · have hs : sd = 1 ∨ sd = 2 ∨ sd = 4 ∨ sd = 8 ∨ sd = 16 := by
      rcases h1 with rfl | rfl | rfl | rfl | rfl | rfl | rfl | rfl | rfl | rfl | rfl <;> first | omega | exact absurd (by decide) hfit
    have hq1 := q1 (by omega)
    exact ⟨hT, fun q => by omega, ⟨p1, p2, fun q => by omega, p4⟩, fun q => by omega, fun q => by omega, ⟨fun q => by omega, fun q => by omega, fun q => by omega⟩, ⟨fun q => by omega, fun q => by omega, fun _ => rfl, fun q => by omega⟩⟩
  · have hs : sd = 2 := by
      rcases h1 with rfl | rfl | rfl | rfl | rfl | rfl | rfl | rfl | rfl | rfl | rfl <;> first | omega | exact absurd (by decide) hfit
    have hp3 := p3 hs
    exact ⟨hT, fun q => by omega, ⟨by omega, p2, fun q => by omega, fun q => by have := p4 q; omega⟩, fun q => by omega, fun _ => h124 (by omega), ⟨fun _ => q1 (by omega), fun q => by omega, fun q => by omega⟩, ⟨fun _ => r1 (by omega), fun _ => r2 (by omega), fun q => by omega, fun q => by omega⟩⟩
  · have hs6 : sd = 1 ∨ sd = 2 ∨ sd = 4 ∨ sd = 8 ∨ sd = 16 ∨ sd = 32 := by
      rcases h1 with rfl | rfl | rfl | rfl | rfl | rfl | rfl | rfl | rfl | rfl | rfl <;> first | omega | exact absurd (by decide) hfit
    have hev := tooM_c hto (by simp)
    exact ⟨hTo 1, fun _ => RO_open hT hev p2 p1 (by omega), ⟨p1, p2, fun q => by omega, hpo 1⟩, fun q => by omega, fun q => by omega, ⟨fun q => by omega, fun q => by omega, fun _ => cqO hs6 q1 q2 r2 r3⟩, ⟨fun q => by omega, fun q => by omega, fun q => by omega, fun _ => ⟨rfl, rfl⟩⟩⟩
  · have hs : sd = 256 := by
      rcases h1 with rfl | rfl | rfl | rfl | rfl | rfl | rfl | rfl | rfl | rfl | rfl <;> first | omega | exact absurd (by decide) hfit
    subst hs
    obtain ⟨hB, c1, c2, c4, c5, c7, c8, -, -, c256, -⟩ := hO (by omega)
    have hk4 := hB.2.2.2.1
    obtain ⟨c0, c01⟩ := c256 rfl
    exact ⟨hT, fun _ => ⟨hB, c1, c2, c4, c5, c7, c8, fun q => by omega, fun q => by omega, fun q => by omega, fun _ => by rw [c0]; unfold kO; omega⟩, ⟨p1, p2, fun q => by omega, p4⟩, fun q => by omega, fun q => by omega, ⟨fun q => by omega, fun q => by omega, fun _ => q3 (by omega)⟩, ⟨fun q => by omega, fun q => by omega, fun q => by omega, fun _ => r4 (by omega)⟩⟩
  · have hs : sd = 512 := by
      rcases h1 with rfl | rfl | rfl | rfl | rfl | rfl | rfl | rfl | rfl | rfl | rfl <;> first | omega | exact absurd (by decide) hfit
    subst hs
    obtain ⟨hB, c1, c2, c4, c5, c7, c8, -, -, -, c512⟩ := hO (by omega)
    exact ⟨hT, fun _ => ⟨hB, c1, c2, c4, c5, c7, c8, fun q => by omega, fun q => by omega, fun q => by omega, fun _ => c512 (by omega)⟩, ⟨p1, p2, fun q => by omega, p4⟩, fun q => by omega, fun q => by omega, ⟨fun q => by omega, fun q => by omega, fun _ => q3 (by omega)⟩, ⟨fun q => by omega, fun q => by omega, fun q => by omega, fun _ => r4 (by omega)⟩⟩
  · have hs : sd = 1 ∨ sd = 2 ∨ sd = 4 ∨ sd = 8 := by
      rcases h1 with rfl | rfl | rfl | rfl | rfl | rfl | rfl | rfl | rfl | rfl | rfl <;> first | omega | exact absurd (by decide) hfit
    exact ⟨hT, fun q => by omega, ⟨p1, p2, fun q => by omega, p4⟩, fun q => by omega, fun q => by omega, ⟨fun _ => q1 (by omega), fun q => by omega, fun q => by omega⟩, ⟨fun q => by omega, fun _ => r2 (by omega), fun q => by omega, fun q => by omega⟩⟩
  · have hs6 : sd = 1 ∨ sd = 2 ∨ sd = 4 ∨ sd = 8 ∨ sd = 16 ∨ sd = 32 := by
      rcases h1 with rfl | rfl | rfl | rfl | rfl | rfl | rfl | rfl | rfl | rfl | rfl <;> first | omega | exact absurd (by decide) hfit
    have hev := tooM_c hto (by simp)
    exact ⟨hTo 3, fun _ => RO_open hT hev p2 p1 (by omega), ⟨p1, p2, fun q => by omega, hpo 3⟩, fun q => by omega, fun q => by omega, ⟨fun q => by omega, fun q => by omega, fun _ => cqO hs6 q1 q2 r2 r3⟩, ⟨fun q => by omega, fun q => by omega, fun q => by omega, fun _ => ⟨rfl, rfl⟩⟩⟩
  · have hs : sd = 8 := by
      rcases h1 with rfl | rfl | rfl | rfl | rfl | rfl | rfl | rfl | rfl | rfl | rfl <;> first | omega | exact absurd (by decide) hfit
    obtain ⟨g1, g2, g3⟩ := h8 hs
    exact ⟨hT, fun q => by omega, ⟨by omega, by omega, fun _ => by omega, fun _ => by omega⟩, fun q => by omega, fun _ _ => by omega, ⟨fun _ => q1 (by omega), fun q => by omega, fun q => by omega⟩, ⟨fun _ => r1 (by omega), fun _ => r2 (by omega), fun q => by omega, fun q => by omega⟩⟩
  · have hs6 : sd = 1 ∨ sd = 2 ∨ sd = 4 ∨ sd = 8 ∨ sd = 16 ∨ sd = 32 := by
      rcases h1 with rfl | rfl | rfl | rfl | rfl | rfl | rfl | rfl | rfl | rfl | rfl <;> first | omega | exact absurd (by decide) hfit
    have hev := tooM_c hto (by simp)
    exact ⟨hTo 2, fun _ => RO_open hT hev p2 p1 (by omega), ⟨p1, p2, fun q => by omega, hpo 2⟩, fun q => by omega, fun q => by omega, ⟨fun q => by omega, fun q => by omega, fun _ => cqO hs6 q1 q2 r2 r3⟩, ⟨fun q => by omega, fun q => by omega, fun q => by omega, fun _ => ⟨rfl, rfl⟩⟩⟩
/-- the value of a number's token -/
theorem tkV3 {t : Nat → Nat} {ln a : Nat} (ht : ∀ j, t j < 256) (hk : tkK t ln a = 3) (hv : tkV t ln a ≠ 0) : ∃ x, x ≤ 999 ∧ tkV t ln a = nI x := by
  have ha : a < ln := tk0 (by rw [hk]; decide)
  unfold tkK at hk
  unfold tkV at hv ⊢
  by_cases h1 : 97 ≤ t a ∧ t a ≤ 103
  · rw [tk_pitch ha h1] at hk
    simp only at hk
    split at hk <;> cases hk
  · by_cases h2 : isD (nI (t a)) = true
    · rw [tk_num ha h1 h2] at hv ⊢
      by_cases h3 : 3 < dgE t ln a - a
      · simp only [if_pos h3] at hv; exact absurd rfl hv
      · simp only [if_neg h3] at hv ⊢
        refine ⟨_, ?_, rfl⟩
        have hd : ∀ i, i < dgE t ln a - a → 48 ≤ t (a + i) ∧ t (a + i) ≤ 57 := fun i hi => dg_bd (a := a) (ln := ln) ht (by omega) (by omega)
        generalize dgE t ln a - a = k at h3 hd
        rcases (show k = 0 ∨ k = 1 ∨ k = 2 ∨ k = 3 by omega) with rfl | rfl | rfl | rfl
        · simp [nvF]
        · have := hd 0 (by omega); simp only [nvF]; omega
        · have := hd 0 (by omega); have := hd 1 (by omega); simp only [nvF]; omega
        · have := hd 0 (by omega); have := hd 1 (by omega); have := hd 2 (by omega); simp only [nvF]; omega
    · have h2 : isD (nI (t a)) = false := by simpa using h2
      by_cases h3 : t a = 124 ∧ bA t ln (a + 1) = nI 58
      · rw [tk_op ha h1 h2 h3] at hk; cases hk
      · by_cases h4 : t a = 58 ∧ bA t ln (a + 1) = nI 124
        · rw [tk_cl ha h1 h2 h3 h4] at hk; cases hk
        · by_cases h5 : ixS (t a) < 0
          · rw [tk_bad ha h1 h2 h3 h4 h5] at hk; cases hk
          · rw [tk_sign ha h1 h2 h3 h4 h5] at hv; exact absurd rfl hv
/-- all that holds of the reader's state -/
def RJ (s : RSt) : Prop := RI s ∧ RI2 s
theorem RJ_0 (f : Nat → Int32) : RJ (rS0 f) := ⟨RI_0 f, RI2_0 f⟩
theorem rR_go {t : Nat → Nat} {ln a : Nat} {s s1 : RSt} {R : Nat × Nat × RSt} (ht : ∀ j, t j < 256) (hR : R = rR t ln a s) (h : rFault (tkK t ln a) (tkV t ln a) s = 0) (hk : tkK t ln a ≠ 0) (he : rTake (tkK t ln a) (tkV t ln a) s = s1) (hI : RJ s) (ha : a ≤ ln + 1) : R = rR t ln (tkN t ln a) s1 ∧ RJ s1 ∧ tkN t ln a ≤ ln + 1 ∧ a < tkN t ln a := ⟨hR.trans (rR_step h hk he), he ▸ ⟨RI_take hI.1 h hk, RI2_take hI.1 hI.2 h hk (fun q => tkV3 ht q)⟩, (tkN_bd ha).1, tkN_lt (tk0 hk)⟩
end RJ
