section RM
theorem tk0 {t : Nat → Nat} {ln a : Nat} (h : tkK t ln a ≠ 0) : a < ln := by
  apply Decidable.byContradiction
  intro q
  exact h (by unfold tkK; rw [tk_end (by omega)])
theorem tkN_lt {t : Nat → Nat} {ln a : Nat} (h : a < ln) : a < tkN t ln a := by
  have h1 := tk_bd (t := t) (ln := ln) (s := a)
  have h2 := skB_bd (t := t) (ln := ln) (p := (tk t ln a).1)
  have := h1.2.1 h
  unfold tkN
  omega
theorem rRun_eq {t : Nat → Nat} {ln : Nat} : ∀ {k k' a : Nat} {s : RSt}, ln ≤ a + k → ln ≤ a + k' → rRun t ln k a s = rRun t ln k' a s
  | 0, k', a, s, h1, h2 => by
    have hk : tkK t ln a = 0 := Decidable.byContradiction fun q => by have := tk0 q; omega
    rw [rRun_stop (k := 0) (fun q => q.2 hk), rRun_stop (k := k') (fun q => q.2 hk)]
  | k + 1, k', a, s, h1, h2 => by
    by_cases hc : rFault (tkK t ln a) (tkV t ln a) s = 0 ∧ tkK t ln a ≠ 0
    · have ha := tk0 hc.2
      have hn := tkN_lt (t := t) ha
      obtain ⟨k2, rfl⟩ : ∃ k2, k' = k2 + 1 := ⟨k' - 1, by omega⟩
      show (if _ then _ else _) = (if _ then _ else _)
      rw [if_pos hc, if_pos hc]
      exact rRun_eq (by omega) (by omega)
    · rw [rRun_stop hc, rRun_stop hc]
/-- the reading from the token at a on -/
def rR (t : Nat → Nat) (ln a : Nat) (s : RSt) : Nat × Nat × RSt := rRun t ln ln a s
theorem rR_step {t : Nat → Nat} {ln a : Nat} {s s1 : RSt} (h : rFault (tkK t ln a) (tkV t ln a) s = 0) (hk : tkK t ln a ≠ 0) (he : rTake (tkK t ln a) (tkV t ln a) s = s1) : rR t ln a s = rR t ln (tkN t ln a) s1 := by
  subst he
  have ha := tk0 hk
  have hn := tkN_lt (t := t) ha
  unfold rR
  have e1 := rRun_step (i := 0) (a := a) (s := s) (show 0 < ln by omega) h hk
  rw [Nat.sub_zero] at e1
  rw [e1]
  exact rRun_eq (by omega) (by omega)
theorem rR_stop {t : Nat → Nat} {ln a b : Nat} {s : RSt} (h : rFault (tkK t ln a) (tkV t ln a) s = b) (hb : b ≠ 0) : rR t ln a s = (b, a, s) := by
  unfold rR
  rw [rRun_stop (fun q => hb (h.symm.trans q.1)), h]
theorem rR_end {t : Nat → Nat} {ln a : Nat} {s : RSt} (hk : tkK t ln a = 0) : rR t ln a s = (rFault (tkK t ln a) (tkV t ln a) s, a, s) := by
  unfold rR
  rw [rRun_stop (fun q => q.2 hk)]
/-- which tokens do not fit -/
theorem rf_1 {kd : Nat} {va : Int32} {s : RSt} (h : s.1 &&& stA kd = 0) : rFault kd va s = 1 := if_pos h
theorem f1_16 {kd : Nat} (hb : kd < 256) (h : kd ≠ 33 ∧ kd ≠ 2 ∧ kd ≠ 40 ∧ kd ≠ 126 ∧ kd ≠ 114) : 16 &&& stA kd = 0 := (by decide +kernel : ∀ kd : Fin 256, (kd.1 ≠ 33 ∧ kd.1 ≠ 2 ∧ kd.1 ≠ 40 ∧ kd.1 ≠ 126 ∧ kd.1 ≠ 114) → 16 &&& stA kd.1 = 0) ⟨kd, hb⟩ h
theorem f1_32 {kd : Nat} (hb : kd < 256) (h : kd ≠ 2 ∧ kd ≠ 40 ∧ kd ≠ 126 ∧ kd ≠ 114) : 32 &&& stA kd = 0 := (by decide +kernel : ∀ kd : Fin 256, (kd.1 ≠ 2 ∧ kd.1 ≠ 40 ∧ kd.1 ≠ 126 ∧ kd.1 ≠ 114) → 32 &&& stA kd.1 = 0) ⟨kd, hb⟩ h
theorem f1_64 {kd : Nat} (hb : kd < 256) (h : kd ≠ 2) : 64 &&& stA kd = 0 := (by decide +kernel : ∀ kd : Fin 256, (kd.1 ≠ 2) → 64 &&& stA kd.1 = 0) ⟨kd, hb⟩ h
theorem f1_128 {kd : Nat} (hb : kd < 256) (h : kd ≠ 2) : 128 &&& stA kd = 0 := (by decide +kernel : ∀ kd : Fin 256, (kd.1 ≠ 2) → 128 &&& stA kd.1 = 0) ⟨kd, hb⟩ h
theorem f1_256 {kd : Nat} (hb : kd < 256) (h : kd ≠ 2 ∧ kd ≠ 41) : 256 &&& stA kd = 0 := (by decide +kernel : ∀ kd : Fin 256, (kd.1 ≠ 2 ∧ kd.1 ≠ 41) → 256 &&& stA kd.1 = 0) ⟨kd, hb⟩ h
theorem f1_512 {kd : Nat} (hb : kd < 256) (h : kd ≠ 58) : 512 &&& stA kd = 0 := (by decide +kernel : ∀ kd : Fin 256, (kd.1 ≠ 58) → 512 &&& stA kd.1 = 0) ⟨kd, hb⟩ h
theorem f1_1024 {kd : Nat} (hb : kd < 256) (h : kd ≠ 3) : 1024 &&& stA kd = 0 := (by decide +kernel : ∀ kd : Fin 256, (kd.1 ≠ 3) → 1024 &&& stA kd.1 = 0) ⟨kd, hb⟩ h
theorem f1_8 {kd : Nat} (hb : kd < 256) (h : bM kd = false ∧ kd ≠ 124 ∧ kd ≠ 5) : 8 &&& stA kd = 0 := (by decide +kernel : ∀ kd : Fin 256, (bM kd.1 = false ∧ kd.1 ≠ 124 ∧ kd.1 ≠ 5) → 8 &&& stA kd.1 = 0) ⟨kd, hb⟩ h
theorem f1_4 {kd : Nat} (hb : kd < 256) (h : bM kd = false) : 4 &&& stA kd = 0 := (by decide +kernel : ∀ kd : Fin 256, (bM kd.1 = false) → 4 &&& stA kd.1 = 0) ⟨kd, hb⟩ h
theorem f1_1 {kd : Nat} (hb : kd < 256) (h : bM kd = false ∧ kd ≠ 0 ∧ kd ≠ 4) : 1 &&& stA kd = 0 := (by decide +kernel : ∀ kd : Fin 256, (bM kd.1 = false ∧ kd.1 ≠ 0 ∧ kd.1 ≠ 4) → 1 &&& stA kd.1 = 0) ⟨kd, hb⟩ h
theorem f1_2 {kd : Nat} (hb : kd < 256) (h : bM kd = false ∧ kd ≠ 0 ∧ kd ≠ 4 ∧ kd ≠ 37) : 2 &&& stA kd = 0 := (by decide +kernel : ∀ kd : Fin 256, (bM kd.1 = false ∧ kd.1 ≠ 0 ∧ kd.1 ≠ 4 ∧ kd.1 ≠ 37) → 2 &&& stA kd.1 = 0) ⟨kd, hb⟩ h
section
variable {kd mr cu rep np oc ev be cq st me pa sd : Nat} {mkd cud : Bool} {va : Int32} {f : Nat → Int32}
theorem f64 (hk : kd = 64) (hs : sd = 1 ∨ sd = 2 ∨ sd = 4 ∨ sd = 8) : rFault kd va (sd, mr, cu, mkd, cud, rep, np, oc, f, ev, be, cq, st, me, pa) = if 10 ≤ mr then 2 else 0 := by
  subst hk
  unfold rFault
  rw [if_neg (show ¬ (sd &&& stA 64 = 0) by rcases hs with rfl | rfl | rfl | rfl <;> decide)]
  show (if decide (10 ≤ mr) = true then 2 else _) = _
  by_cases h : 10 ≤ mr
  · rw [if_pos (decide_eq_true h), if_pos h]
  · rw [if_neg (by simpa using h), if_neg h, if_neg (fun q => absurd q.1 (by decide))]
theorem f33 (hk : kd = 33) (hs : sd = 1 ∨ sd = 2 ∨ sd = 4 ∨ sd = 8 ∨ sd = 16) : rFault kd va (sd, mr, cu, mkd, cud, rep, np, oc, f, ev, be, cq, st, me, pa) = if 20 ≤ cu then 2 else 0 := by
  subst hk
  unfold rFault
  rw [if_neg (show ¬ (sd &&& stA 33 = 0) by rcases hs with rfl | rfl | rfl | rfl | rfl <;> decide)]
  show (if decide (20 ≤ cu) = true then 2 else _) = _
  by_cases h : 20 ≤ cu
  · rw [if_pos (decide_eq_true h), if_pos h]
  · rw [if_neg (by simpa using h), if_neg h, if_neg (fun q => absurd q.1 (by decide))]
theorem fOpen (hk : kd = 2 ∨ kd = 40 ∨ kd = 126 ∨ kd = 114) (hs : sd = 1 ∨ sd = 2 ∨ sd = 4 ∨ sd = 8 ∨ sd = 16 ∨ sd = 32) : rFault kd va (sd, mr, cu, mkd, cud, rep, np, oc, f, ev, be, cq, st, me, pa) = if 100 ≤ ev then 2 else 0 := by
  unfold rFault
  rw [if_neg (show ¬ (sd &&& stA kd = 0) by rcases hk with rfl | rfl | rfl | rfl <;> rcases hs with rfl | rfl | rfl | rfl | rfl | rfl <;> decide)]
  have ht : tooM kd va (sd, mr, cu, mkd, cud, rep, np, oc, f, ev, be, cq, st, me, pa) = decide (100 ≤ ev) := by
    rcases hk with rfl | rfl | rfl | rfl
    · show (if sd &&& 63 = 0 then _ else _) = _
      rw [if_neg (by rcases hs with rfl | rfl | rfl | rfl | rfl | rfl <;> decide)]
    · rfl
    · rfl
    · rfl
  rw [ht]
  by_cases h : 100 ≤ ev
  · rw [if_pos (decide_eq_true h), if_pos h]
  · rw [if_neg (by simpa using h), if_neg h, if_neg (fun q => q.2.1 (show sd &&& 384 = 0 by rcases hs with rfl | rfl | rfl | rfl | rfl | rfl <;> decide))]
theorem fPit (hk : kd = 2) (hs : sd = 64 ∨ sd = 128 ∨ sd = 256) : rFault kd va (sd, mr, cu, mkd, cud, rep, np, oc, f, ev, be, cq, st, me, pa) = if 4 ≤ np then 2 else if sd ≠ 64 ∧ (hasP f ev np va).isSome then 3 else 0 := by
  subst hk
  unfold rFault
  rw [if_neg (show ¬ (sd &&& stA 2 = 0) by rcases hs with rfl | rfl | rfl <;> decide)]
  have ht : tooM 2 va (sd, mr, cu, mkd, cud, rep, np, oc, f, ev, be, cq, st, me, pa) = decide (4 ≤ np) := by
    show (if sd &&& 63 = 0 then _ else _) = _
    rw [if_pos (by rcases hs with rfl | rfl | rfl <;> decide)]
  rw [ht]
  by_cases h : 4 ≤ np
  · rw [if_pos (decide_eq_true h), if_pos h]
  · rw [if_neg (by simpa using h), if_neg h]
    rcases hs with rfl | rfl | rfl
    · rw [if_neg (fun q => q.2.1 (show 64 &&& 384 = 0 by decide)), if_neg (fun q => absurd rfl q.1)]
    · by_cases h3 : (hasP f ev np va).isSome
      · rw [if_pos ⟨rfl, show 128 &&& 384 ≠ 0 by decide, h3⟩, if_pos ⟨by decide, h3⟩]
      · rw [if_neg (fun q => h3 q.2.2), if_neg (fun q => h3 q.2)]
    · by_cases h3 : (hasP f ev np va).isSome
      · rw [if_pos ⟨rfl, show 256 &&& 384 ≠ 0 by decide, h3⟩, if_pos ⟨by decide, h3⟩]
      · rw [if_neg (fun q => h3 q.2.2), if_neg (fun q => h3 q.2)]
theorem f0 {kd0 : Nat} (hk : kd = kd0) (hs : sd &&& stA kd0 ≠ 0) (h2 : kd0 = 41 ∨ kd0 = 58 ∨ kd0 = 4 ∨ kd0 = 5 ∨ kd0 = 37 ∨ kd0 = 124) : rFault kd va (sd, mr, cu, mkd, cud, rep, np, oc, f, ev, be, cq, st, me, pa) = 0 := by
  subst hk
  unfold rFault
  rw [if_neg hs]
  rcases h2 with rfl | rfl | rfl | rfl | rfl | rfl <;> (rw [if_neg (by show ¬ (false = true); decide), if_neg (fun q => absurd q.1 (by decide))])
theorem fNum (hk : kd = 3) : rFault kd va (1024, mr, cu, mkd, cud, rep, np, oc, f, ev, be, cq, st, me, pa) = if va = 0 then 2 else 0 := by
  subst hk
  unfold rFault
  rw [if_neg (show ¬ (1024 &&& stA 3 = 0) by decide)]
  show (if decide (va = 0) = true then 2 else _) = _
  by_cases h : va = 0
  · rw [if_pos (decide_eq_true h), if_pos h]
  · rw [if_neg (by simpa using h), if_neg h, if_neg (fun q => absurd q.1 (by decide))]
theorem fEnd (hk : kd = 0) (hs : sd = 1 ∨ sd = 2) : rFault kd va (sd, mr, cu, mkd, cud, rep, np, oc, f, ev, be, cq, st, me, pa) = 0 := by
  subst hk
  unfold rFault
  rw [if_neg (show ¬ (sd &&& stA 0 = 0) by rcases hs with rfl | rfl <;> decide), if_neg (by show ¬ (false = true); decide), if_neg (fun q => absurd q.1 (by decide))]
theorem tPitO (hk : kd = 2) (hs : sd = 1 ∨ sd = 2 ∨ sd = 4 ∨ sd = 8 ∨ sd = 16 ∨ sd = 32) : rTake kd va (sd, mr, cu, mkd, cud, rep, np, oc, f, ev, be, cq, st, me, pa) = rAdd va 512 (rOpen 0 512 (sd, mr, cu, mkd, cud, rep, np, oc, f, ev, be, cq, st, me, pa)) := by
  subst hk
  show rAdd va (if sd &&& 384 = 0 then 512 else 256) (if sd &&& 63 = 0 then _ else _) = _
  rw [if_pos (by rcases hs with rfl | rfl | rfl | rfl | rfl | rfl <;> decide), if_neg (by rcases hs with rfl | rfl | rfl | rfl | rfl | rfl <;> decide)]
theorem tPitC (hk : kd = 2) (hs : sd = 128 ∨ sd = 256) : rTake kd va (sd, mr, cu, mkd, cud, rep, np, oc, f, ev, be, cq, st, me, pa) = rAdd va 256 (sd, mr, cu, mkd, cud, rep, np, oc, f, ev, be, cq, st, me, pa) := by
  subst hk
  show rAdd va (if sd &&& 384 = 0 then 512 else 256) (if sd &&& 63 = 0 then _ else _) = _
  rw [if_neg (by rcases hs with rfl | rfl <;> decide), if_pos (by rcases hs with rfl | rfl <;> decide)]
theorem tPitN (hk : kd = 2) : rTake kd va (64, mr, cu, mkd, cud, rep, np, oc, f, ev, be, cq, st, me, pa) = rAdd va 512 (64, mr, cu, mkd, cud, rep, np, oc, f, ev, be, cq, st, me, pa) := by
  subst hk; rfl
end
/-- what the model's arrays and the class's table hold alike: an open event; a whole one -/
def opA (xk xm : Nat → Nat) (xp : Nat → Int32) (xb xe xg : Nat → Nat) (xl xi xc f : Nat → Int32) (e : Nat) : Prop := f (e * 14 + 0) = nI (xk e) ∧ f (e * 14 + 1) = nI (xm e) ∧ f (e * 14 + 2) = nI (xb e) ∧ f (e * 14 + 4) = nI (xe e) ∧ f (e * 14 + 5) = nI (xg e) ∧ f (e * 14 + 6) = xi e ∧ f (e * 14 + 7) = xc e ∧ f (e * 14 + 8) = xl e ∧ ∀ k, k < xm e → f (e * 14 + (9 + k)) = xp (4 * e + k)
def TBL (xk xm : Nat → Nat) (xp : Nat → Int32) (xb xs xe xg : Nat → Nat) (xl xi xc f : Nat → Int32) (ev : Nat) : Prop := ∀ e, e < ev → xm e ≤ 4 ∧ opA xk xm xp xb xe xg xl xi xc f e ∧ f (e * 14 + 3) = nI (xs e)
def TA (A : Nat → Nat) (w : pW) (xk xm : Nat → Nat) (xp : Nat → Int32) (xb xs xe xg : Nat → Nat) (xl xi xc : Nat → Int32) : Prop := w (A 10) = some (.inl (0, 100, .inl (fun j9 => nI (xk j9)))) ∧ w (A 11) = some (.inl (0, 100, .inl (fun j9 => nI (xm j9)))) ∧ w (A 12) = some (.inl (0, 400, .inl xp)) ∧ w (A 13) = some (.inl (0, 100, .inl (fun j9 => nI (xb j9)))) ∧ w (A 14) = some (.inl (0, 100, .inl (fun j9 => nI (xs j9)))) ∧ w (A 15) = some (.inl (0, 100, .inl (fun j9 => nI (xe j9)))) ∧ w (A 16) = some (.inl (0, 100, .inl (fun j9 => nI (xg j9)))) ∧ w (A 17) = some (.inl (0, 100, .inl xl)) ∧ w (A 18) = some (.inl (2, 100, .inl xi)) ∧ w (A 19) = some (.inl (2, 100, .inl xc))
section
variable {xk xm xb xs xe xg xk' xm' xb' xs' xe' xg' : Nat → Nat} {xp xl xi xc f xp' xl' xi' xc' f' : Nat → Int32} {ev be me pa st np k : Nat} {va mk cq : Int32}
/-- rows below ev stay, where nothing below is written -/
theorem TBL.fr (h : TBL xk xm xp xb xs xe xg xl xi xc f ev) (hn : ∀ e, e < ev → xk' e = xk e ∧ xm' e = xm e ∧ xb' e = xb e ∧ xs' e = xs e ∧ xe' e = xe e ∧ xg' e = xg e ∧ xl' e = xl e ∧ xi' e = xi e ∧ xc' e = xc e) (hp : ∀ i, i < 4 * ev → xp' i = xp i) (hf : ∀ i, i < ev * 14 → f' i = f i) : TBL xk' xm' xp' xb' xs' xe' xg' xl' xi' xc' f' ev := by
  intro e he
  obtain ⟨g0, ⟨g1, g2, g3, g4, g5, g6, g7, g8, g9⟩, g10⟩ := h e he
  obtain ⟨n1, n2, n3, n4, n5, n6, n7, n8, n9⟩ := hn e he
  unfold opA
  rw [n1, n2, n3, n4, n5, n6, n7, n8, n9, hf _ (by omega), hf _ (by omega), hf _ (by omega), hf _ (by omega), hf _ (by omega), hf _ (by omega), hf _ (by omega), hf _ (by omega), hf _ (by omega)]
  refine ⟨g0, ⟨g1, g2, g3, g4, g5, g6, g7, g8, fun k hk => ?_⟩, g10⟩
  rw [hf _ (by omega), hp _ (by omega)]
  exact g9 k hk
theorem opF_lo {i : Nat} (hi : i < ev * 14) : opF f ev k be me pa st mk cq i = f i := by
  unfold opF
  rw [pk_un (by omega), pk_un (by omega), pk_un (by omega), pk_un (by omega), pk_un (by omega), pk_un (by omega), pk_un (by omega), pk_un (by omega), pk_un (by omega)]
theorem adF_lo {i : Nat} (hi : i < ev * 14) : adF f ev np va i = f i := by
  unfold adF
  rw [pk_un (by omega), pk_un (by omega)]
/-- an event is opened -/
theorem tb_open (h : TBL xk xm xp xb xs xe xg xl xi xc f ev) : TBL (va_up xk ev k) (va_up xm ev 0) xp (va_up xb ev be) xs (va_up xe ev me) (va_up xg ev pa) (upd xl ev (-1)) (upd xi ev mk) (upd xc ev cq) (opF f ev k be me pa st mk cq) ev := by
  refine h.fr (fun e he => ?_) (fun _ _ => rfl) (fun i hi => opF_lo hi)
  have hne : e ≠ ev := by omega
  exact ⟨va_up_ne _ _ hne, va_up_ne _ _ hne, va_up_ne _ _ hne, rfl, va_up_ne _ _ hne, va_up_ne _ _ hne, pk_un hne, pk_un hne, pk_un hne⟩
theorem op_open : opA (va_up xk ev k) (va_up xm ev 0) xp (va_up xb ev be) (va_up xe ev me) (va_up xg ev pa) (upd xl ev (-1)) (upd xi ev mk) (upd xc ev cq) (opF f ev k be me pa st mk cq) ev := by
  unfold opA opF
  simp only [va_up_self, pk_us]
  refine ⟨?_, ?_, ?_, ?_, ?_, ?_, ?_, ?_, fun k hk => by omega⟩ <;> (simp only [upd]; simp)
/-- a pitch is added -/
theorem tb_add (h : TBL xk xm xp xb xs xe xg xl xi xc f ev) : TBL xk (va_up xm ev (np + 1)) (upd xp (4 * ev + np) va) xb xs xe xg xl xi xc (adF f ev np va) ev := by
  refine h.fr (fun e he => ?_) (fun i hi => pk_un (by omega)) (fun i hi => adF_lo hi)
  exact ⟨rfl, va_up_ne _ _ (by omega), rfl, rfl, rfl, rfl, rfl, rfl, rfl⟩
theorem op_add (h : opA xk xm xp xb xe xg xl xi xc f ev) (hm : xm ev = np) (hnp : np < 4) : opA xk (va_up xm ev (np + 1)) (upd xp (4 * ev + np) va) xb xe xg xl xi xc (adF f ev np va) ev := by
  obtain ⟨g1, g2, g3, g4, g5, g6, g7, g8, g9⟩ := h
  unfold opA adF
  rw [va_up_self]
  refine ⟨?_, ?_, ?_, ?_, ?_, ?_, ?_, ?_, fun k hk => ?_⟩
  · rw [pk_un (by omega), pk_un (by omega)]; exact g1
  · rw [pk_us]
  · rw [pk_un (by omega), pk_un (by omega)]; exact g3
  · rw [pk_un (by omega), pk_un (by omega)]; exact g4
  · rw [pk_un (by omega), pk_un (by omega)]; exact g5
  · rw [pk_un (by omega), pk_un (by omega)]; exact g6
  · rw [pk_un (by omega), pk_un (by omega)]; exact g7
  · rw [pk_un (by omega), pk_un (by omega)]; exact g8
  · rw [pk_un (by omega)]
    by_cases hk2 : k = np
    · subst hk2; rw [pk_us, pk_us]
    · rw [pk_un (by omega), pk_un (by omega)]; exact g9 k (by omega)
/-- an event is closed -/
theorem tb_close {x : Nat} (h : TBL xk xm xp xb xs xe xg xl xi xc f ev) (ho : opA xk xm xp xb xe xg xl xi xc f ev) (hm : xm ev ≤ 4) : TBL xk xm xp xb (va_up xs ev x) xe xg xl xi xc (upd f (ev * 14 + 3) (nI x)) (ev + 1) := by
  intro e he
  by_cases hee : e = ev
  · subst hee
    obtain ⟨g1, g2, g3, g4, g5, g6, g7, g8, g9⟩ := ho
    refine ⟨hm, ⟨?_, ?_, ?_, ?_, ?_, ?_, ?_, ?_, fun k hk => ?_⟩, by rw [pk_us, va_up_self]⟩
    · rw [pk_un (by omega)]; exact g1
    · rw [pk_un (by omega)]; exact g2
    · rw [pk_un (by omega)]; exact g3
    · rw [pk_un (by omega)]; exact g4
    · rw [pk_un (by omega)]; exact g5
    · rw [pk_un (by omega)]; exact g6
    · rw [pk_un (by omega)]; exact g7
    · rw [pk_un (by omega)]; exact g8
    · rw [pk_un (by omega)]; exact g9 k hk
  · exact (h.fr (xk' := xk) (xm' := xm) (xp' := xp) (xb' := xb) (xs' := va_up xs ev x) (xe' := xe) (xg' := xg) (xl' := xl) (xi' := xi) (xc' := xc) (f' := upd f (ev * 14 + 3) (nI x)) (fun e' he' => ⟨rfl, rfl, rfl, va_up_ne _ _ (by omega), rfl, rfl, rfl, rfl, rfl⟩) (fun _ _ => rfl) (fun i hi => pk_un (by omega))) e (by omega)
/-- the last event leads back -/
theorem tb_rep {rep : Nat} (h : TBL xk xm xp xb xs xe xg xl xi xc f ev) : TBL xk xm xp xb xs xe xg (upd xl (ev - 1) (nI rep)) xi xc (upd f ((ev - 1) * 14 + 8) (nI rep)) ev := by
  intro e he
  obtain ⟨g0, ⟨g1, g2, g3, g4, g5, g6, g7, g8, g9⟩, g10⟩ := h e he
  refine ⟨g0, ⟨?_, ?_, ?_, ?_, ?_, ?_, ?_, ?_, fun k hk => ?_⟩, ?_⟩
  · rw [pk_un (by omega)]; exact g1
  · rw [pk_un (by omega)]; exact g2
  · rw [pk_un (by omega)]; exact g3
  · rw [pk_un (by omega)]; exact g4
  · rw [pk_un (by omega)]; exact g5
  · rw [pk_un (by omega)]; exact g6
  · rw [pk_un (by omega)]; exact g7
  · by_cases hee : e = ev - 1
    · subst hee; rw [pk_us, pk_us]
    · rw [pk_un (by omega), pk_un hee]; exact g8
  · rw [pk_un (by omega)]; exact g9 k hk
  · rw [pk_un (by omega)]; exact g10
/-- a pitch that stands already, in the table and in the model's array -/
theorem hasP_some (ho : opA xk xm xp xb xe xg xl xi xc f ev) (hm : xm ev = np) : (hasP f ev np va).isSome = true ↔ ∃ k, k < np ∧ xp (4 * ev + k) = va := by
  unfold hasP
  constructor
  · intro h
    obtain ⟨j, hj⟩ := Option.isSome_iff_exists.mp h
    obtain ⟨-, h2, h3, -⟩ := fstN_some hj
    refine ⟨j, by omega, ?_⟩
    have h4 := ho.2.2.2.2.2.2.2.2 j (by omega)
    rw [← h4]
    exact eq_of_beq h3
  · rintro ⟨k, hk, he⟩
    cases hq : fstN (fun i => f (ev * 14 + (9 + i)) == va) np 0 with
    | some j => rfl
    | none =>
      have h1 := fstN_none hq k (by omega) (by omega)
      have h4 := ho.2.2.2.2.2.2.2.2 k (by omega)
      rw [h4, he] at h1
      simp at h1
end
/-- the reading has failed, as the class's has -/
def RFl (fs : List Value) (R : Nat × Nat × RSt) : Prop := R.1 ≠ 0 ∧ R.1 < 4 ∧ fs[29]? = some (.int (nI R.1)) ∧ fs[30]? = some (.int (nI R.2.1))
theorem RFl.mk {fs : List Value} {R : Nat × Nat × RSt} {b p : Nat} (h : R.1 = b ∧ R.2.1 = p) (hb : b ≠ 0 ∧ b < 4) (h1 : fs[29]? = some (.int (nI b))) (h2 : fs[30]? = some (.int (nI p))) : RFl fs R := by
  obtain ⟨e1, e2⟩ := h
  subst e1 e2
  exact ⟨hb.1, hb.2, h1, h2⟩
theorem rR_bad {t : Nat → Nat} {ln a b : Nat} {s : RSt} {R : Nat × Nat × RSt} (hR : R = rR t ln a s) (h : rFault (tkK t ln a) (tkV t ln a) s = b) (hb : b ≠ 0) : R.1 = b ∧ R.2.1 = a := by
  rw [hR, rR_stop h hb]
  exact ⟨rfl, rfl⟩
theorem tNum {kd mr cu rep np oc ev be cq st me pa x : Nat} {mkd cud : Bool} {va : Int32} {f : Nat → Int32} (hk : kd = 3) (hv : va = nI x) (hx : x < 2 ^ 31) : rTake kd va (1024, mr, cu, mkd, cud, rep, np, oc, f, ev, be, cq, st, me, pa) = (8, mr, cu, mkd, cud, rep, np, oc, upd f (ev * 14 + 3) (nI x), ev + 1, be + x, cq + oc, st + (2 ^ np - 1 + 1), me, pa) := by
  subst hk hv
  show (8, mr, cu, mkd, cud, rep, np, oc, upd f (ev * 14 + 3) (nI (nI x).toNatClampNeg), ev + 1, be + (nI x).toNatClampNeg, cq + oc, st + (2 ^ np - 1 + 1), me, pa) = _
  rw [nI_clamp hx]
end RM
