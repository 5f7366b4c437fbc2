theorem Fr.up2 {l : List Nat} {w w1 : pW} {a b : Nat} {e f : Option pE} (h : w1 = va_up (va_up w a e) b f) (ha : a ∈ l) (hb : b ∈ l) : Fr l w w1 := fun x hx => by
  rw [h, va_up_ne _ _ (fun q => hx (by rw [q]; exact hb)), va_up_ne _ _ (fun q => hx (by rw [q]; exact ha))]
theorem nd_6 {fa pr ar de cm cx : Nat} (h : va_nd [fa, pr, ar, de, cm] = true) (h1 : fa ≠ cx) (h2 : pr ≠ cx) (h3 : ar ≠ cx) (h4 : de ≠ cx) (h5 : cm ≠ cx) : va_nd [fa, pr, ar, de, cm, cx] = true := by
  simp only [va_nd, Bool.and_eq_true, decide_eq_true_eq] at h ⊢
  simp only [List.mem_cons, List.not_mem_nil, or_false, not_or] at h ⊢
  simp [h, h1, h2, h3, h4, h5]
abbrev rX0_hear : Room := { frames := 4, cells := 3, slots := 1610, locals := 94 }
theorem flX0_hear_33 : FL wsX0_hear RX0 33 0 0 := ⟨RX0, TX0, 7, rfl, by decide, by decide +kernel, by decide +kernel⟩
theorem flX0_hear_91 : FL wsX0_hear RX0 91 3 1 := ⟨RX3, TX3, 7, rfl, by decide, by decide +kernel, by decide +kernel⟩
set_option maxHeartbeats 4000000 in
set_option maxRecDepth 100000 in
theorem l_hear {w : pW} {fo sc pr ar de ms mn nt : Nat} {fa ev be cu st me pa : Nat} {f : Nat → Int32} {u : Nat → Nat → Nat} {bh : Nat → Option Nat} {p : Nat → Nat} {a : Nat → Nat} {dd : Nat → Nat} {cm : Nat} {bf nx av ah : Option Nat} {cl pe pb pc an : Nat} {cn : Nat} {d : Nat → Nat} {nm cx : Nat} {bf2 nx2 av2 ah2 : Option Nat} {cl2 pe2 pb2 pc2 an2 : Nat} {xn : Nat} {x0 : Nat → Nat} (hfo : w fo = some (.inr (0, [.ref sc, .ref pr, .ref ar, .ref de, .ref ms, .ref mn, .int (nI nt)]))) (hs : w sc = some (.inr (3, [.ref fa, .int (nI ev), .int (nI be), .int (nI cu), .int (nI st), .int (nI me), .int (nI pa)]))) (hf : w fa = some (.inl (0, 1400, .inl f))) (hp : w pr = some (.inl (0, 4, .inl (fun j9 => nI (p j9))))) (ha : w ar = some (.inl (0, 100, .inl (fun j9 => nI (a j9))))) (hde : w de = some (.inl (0, 100, .inl (fun j9 => nI (dd j9))))) (hm : w mn = some (.inr (1, [va_rf bf, va_rf nx, .ref cm, .int (nI cl), .int (nI pe), .int (nI pb), .int (nI pc), .int (nI an), va_rf av, va_rf ah]))) (hc : w cm = some (.inl (0, cn, .inl (fun j9 => nI (d j9))))) (hnm : w nm = some (.inr (1, [va_rf bf2, va_rf nx2, .ref cx, .int (nI cl2), .int (nI pe2), .int (nI pb2), .int (nI pc2), .int (nI an2), va_rf av2, va_rf ah2]))) (hcx : w cx = some (.inl (0, xn, .inl (fun j9 => nI (x0 j9))))) (hM : Mus f ev st u bh) (hpb : ∀ j, p j ≤ 50) (hab : ∀ j, a j ≤ 1000000) (hdb : ∀ j, dd j ≤ 1000000) (hst : st ≤ cn) (hcn : cn ≤ 100000) (hdd : ∀ j, d j ≤ 1000000) (hsx : st ≤ xn) (hxn : xn ≤ 100000)  (hmn : mn ≠ nm) (hN : va_nd [fa, pr, ar, de, cm, cx] = true) {Q9 : pO → pW → Prop} {no t k0 n0 : Nat} {R9 : (Nat → Nat) × Nat × Nat × Nat} (hno : no < 128) (hk0 : k0 ≤ 3) (hn0 : n0 ≤ 1610) (hk : ∀ (i : Nat) (wl : pW), wl = va_up (va_up w cx (some (.inl (0, xn, .inl (fun j9 => nI (R9.1 j9)))))) nm (some (.inr (1, [va_rf bf2, va_rf nx2, .ref cx, .int (nI cl2), .int (nI R9.2.2.1), .int (nI R9.2.2.2), .int (nI R9.2.1), .int (nI an2), va_rf av2, va_rf ah2]))) → J ((cX0_hear, RX0, 5, wsX0_hear), (rX0_hear, none, "hear", []), Q9, fun _ _ _ => True) 88 [(0, .ref fo), (1, .int (nI no)), (2, .int (nI t)), (3, .ref nm), (4, .int (nI i))] [] wl k0 n0) : ∀ (m9 : Nat) (i : Nat) (x : Nat → Nat) (te : Nat) (tb : Nat) (tc : Nat) (wl : pW), ev - i < m9 → (i ≤ ev) → (∀ j, x j ≤ 1000000) → (tc ≤ 1000000) → (evF d a (u 1) (fun e => riB f e no (u 0 e) (u 1 e)) (fun e => decide (u 0 e = 2)) xn (p 1) (p 0) (ev - i) i (x, tc, te, tb) = R9) → (wl = va_up (va_up w cx (some (.inl (0, xn, .inl (fun j9 => nI (x j9)))))) nm (some (.inr (1, [va_rf bf2, va_rf nx2, .ref cx, .int (nI cl2), .int (nI te), .int (nI tb), .int (nI tc), .int (nI an2), va_rf av2, va_rf ah2])))) → J ((cX0_hear, RX0, 5, wsX0_hear), (rX0_hear, none, "hear", []), Q9, fun _ _ _ => True) 55 [(0, .ref fo), (1, .int (nI no)), (2, .int (nI t)), (3, .ref nm), (4, .int (nI i))] [] wl k0 n0 := by
  intro m9
  induction m9 with
  | zero => intro i x te tb tc wl h9; omega
  | succ m9 ih =>
    intro i x te tb tc wl hm9 hi hxb htc hr hwl
    have hev := hM.hev
    have hst0 := hM.hst
    have g_fo : wl fo = some (.inr (0, [.ref sc, .ref pr, .ref ar, .ref de, .ref ms, .ref mn, .int (nI nt)])) := by rw [hwl]; exact (va_up_ne _ _ (fk hfo hnm rfl)).trans ((va_up_ne _ _ (fk hfo hcx rfl)).trans (hfo))
    have g_sc : wl sc = some (.inr (3, [.ref fa, .int (nI ev), .int (nI be), .int (nI cu), .int (nI st), .int (nI me), .int (nI pa)])) := by rw [hwl]; exact (va_up_ne _ _ (fk hs hnm rfl)).trans ((va_up_ne _ _ (fk hs hcx rfl)).trans (hs))
    have g_fa : wl fa = some (.inl (0, 1400, .inl f)) := by rw [hwl]; exact (va_up_ne _ _ (fk hf hnm rfl)).trans ((va_up_ne _ _ (nd_ne hN 0 5 rfl rfl rfl)).trans (hf))
    have g_pr : wl pr = some (.inl (0, 4, .inl (fun j9 => nI (p j9)))) := by rw [hwl]; exact (va_up_ne _ _ (fk hp hnm rfl)).trans ((va_up_ne _ _ (nd_ne hN 1 5 rfl rfl rfl)).trans (hp))
    have g_ar : wl ar = some (.inl (0, 100, .inl (fun j9 => nI (a j9)))) := by rw [hwl]; exact (va_up_ne _ _ (fk ha hnm rfl)).trans ((va_up_ne _ _ (nd_ne hN 2 5 rfl rfl rfl)).trans (ha))
    have g_de : wl de = some (.inl (0, 100, .inl (fun j9 => nI (dd j9)))) := by rw [hwl]; exact (va_up_ne _ _ (fk hde hnm rfl)).trans ((va_up_ne _ _ (nd_ne hN 3 5 rfl rfl rfl)).trans (hde))
    have g_mn : wl mn = some (.inr (1, [va_rf bf, va_rf nx, .ref cm, .int (nI cl), .int (nI pe), .int (nI pb), .int (nI pc), .int (nI an), va_rf av, va_rf ah])) := by rw [hwl]; exact (va_up_ne _ _ hmn).trans ((va_up_ne _ _ (fk hm hcx rfl)).trans (hm))
    have g_cm : wl cm = some (.inl (0, cn, .inl (fun j9 => nI (d j9)))) := by rw [hwl]; exact (va_up_ne _ _ (fk hc hnm rfl)).trans ((va_up_ne _ _ (nd_ne hN 4 5 rfl rfl rfl)).trans (hc))
    have g_nm : wl nm = some (.inr (1, [va_rf bf2, va_rf nx2, .ref cx, .int (nI cl2), .int (nI te), .int (nI tb), .int (nI tc), .int (nI an2), va_rf av2, va_rf ah2])) := by rw [hwl]; exact va_up_self _ _ _
    have g_cx : wl cx = some (.inl (0, xn, .inl (fun j9 => nI (x j9)))) := by rw [hwl]; exact (va_up_ne _ _ (fk hcx hnm rfl)).trans (va_up_self _ _ _)
    refine j_iload dX0_hear_55 4 rfl ?_
    refine j_aload_n dX0_hear_57 0 rfl ?_
    refine j_get flX0_hear_33 g_fo rfl dX0_hear_58 ?_
    refine j_get flX0_hear_91 g_sc rfl dX0_hear_61 ?_
    refine j_icmp_geN 88 (by omega) (by omega) dX0_hear_64 (by decide) (fun c64 => ?_) (fun c64 => ?_)
    · skip
      refine j_lv (lv' := [(0, .ref fo), (1, .int (nI no)), (2, .int (nI t)), (3, .ref nm), (4, .int (nI i))]) [0, 1, 2, 3, 4] rfl ?_
      exact hk i wl (by rw [← hr, show ev - i = 0 by omega]; exact hwl)
    · skip
      refine j_aload_n dX0_hear_67 0 rfl ?_
      refine j_iload dX0_hear_68 4 rfl ?_
      refine j_iload_n dX0_hear_70 1 rfl ?_
      refine j_aload_n dX0_hear_71 3 rfl ?_
      refine j_callV (rm := rX0_takeNote) (As := [.int (nI i), .int (nI no), .ref nm]) (st := []) (b0 := fo) (ci := 0) (na := 3) (c_takeNote (e := i) (no := no) g_fo g_sc g_fa g_pr g_ar g_de g_mn g_cm g_nm g_cx hM hpb hab hdb (by omega) (by omega) hdd (by omega) (by omega) hxb hN (by omega) (by omega)) (by intro E w9 h9; first | exact nomatch h9.1 | (obtain ⟨_, h9, _⟩ := h9; exact nomatch h9) | (obtain ⟨_, _, _, h9, _⟩ := h9; exact nomatch h9)) gX0_hear_X0_takeNote rfl rfl g_fo (by decide +kernel) rfl ⟨Nat.le_of_ble_eq_true rfl, Nat.le_of_ble_eq_true rfl⟩ rfl (Nat.le_of_ble_eq_true rfl) dX0_hear_72 ⟨(show k0 + 0 ≤ 3 by omega), (show n0 + 0 ≤ 1610 by omega)⟩ (fun v1 w2 h3 => ?_)
      obtain ⟨h3, h4⟩ := h3
      cases h3
      -- w2
      refine j_after (st' := []) (k' := k0) (n' := n0) rfl rfl rfl ?_
      have f5 : w2 fo = some (.inr (0, [.ref sc, .ref pr, .ref ar, .ref de, .ref ms, .ref mn, .int (nI nt)])) := by rw [h4]; exact (va_up_ne _ _ (fk g_fo g_cx rfl)).trans (g_fo)
      have f6 : w2 sc = some (.inr (3, [.ref fa, .int (nI ev), .int (nI be), .int (nI cu), .int (nI st), .int (nI me), .int (nI pa)])) := by rw [h4]; exact (va_up_ne _ _ (fk g_sc g_cx rfl)).trans (g_sc)
      have f7 : w2 fa = some (.inl (0, 1400, .inl f)) := by rw [h4]; exact (va_up_ne _ _ (nd_ne hN 0 5 rfl rfl rfl)).trans (g_fa)
      have f8 : w2 pr = some (.inl (0, 4, .inl (fun j9 => nI (p j9)))) := by rw [h4]; exact (va_up_ne _ _ (nd_ne hN 1 5 rfl rfl rfl)).trans (g_pr)
      have f9 : w2 ar = some (.inl (0, 100, .inl (fun j9 => nI (a j9)))) := by rw [h4]; exact (va_up_ne _ _ (nd_ne hN 2 5 rfl rfl rfl)).trans (g_ar)
      have f10 : w2 de = some (.inl (0, 100, .inl (fun j9 => nI (dd j9)))) := by rw [h4]; exact (va_up_ne _ _ (nd_ne hN 3 5 rfl rfl rfl)).trans (g_de)
      have f11 : w2 mn = some (.inr (1, [va_rf bf, va_rf nx, .ref cm, .int (nI cl), .int (nI pe), .int (nI pb), .int (nI pc), .int (nI an), va_rf av, va_rf ah])) := by rw [h4]; exact (va_up_ne _ _ (fk g_mn g_cx rfl)).trans (g_mn)
      have f12 : w2 cm = some (.inl (0, cn, .inl (fun j9 => nI (d j9)))) := by rw [h4]; exact (va_up_ne _ _ (nd_ne hN 4 5 rfl rfl rfl)).trans (g_cm)
      have f13 : w2 nm = some (.inr (1, [va_rf bf2, va_rf nx2, .ref cx, .int (nI cl2), .int (nI te), .int (nI tb), .int (nI tc), .int (nI an2), va_rf av2, va_rf ah2])) := by rw [h4]; exact (va_up_ne _ _ (fk g_nm g_cx rfl)).trans (g_nm)
      have f14 : w2 cx = some (.inl (0, xn, .inl (fun j9 => nI ((tnF d xn (sumP (u 1) i) (a i) (2 ^ u 1 i - 1) (riB f i no (u 0 i) (u 1 i)) (decide (u 0 i = 2)) (p 1) (p 0) (2 ^ u 1 i) 0 x) j9)))) := by rw [h4]; exact va_up_self _ _ _
      have hb15 : ∀ j9, (tnF d xn (sumP (u 1) i) (a i) (2 ^ u 1 i - 1) (riB f i no (u 0 i) (u 1 i)) (decide (u 0 i = 2)) (p 1) (p 0) (2 ^ u 1 i) 0 x) j9 ≤ 1000000 := tnF_le hxb
      refine j_aload_n dX0_hear_75 0 rfl ?_
      refine j_iload dX0_hear_76 4 rfl ?_
      refine j_aload_n dX0_hear_78 3 rfl ?_
      refine j_callV (rm := rX0_findPlace) (As := [.int (nI i), .ref nm]) (st := []) (b0 := fo) (ci := 0) (na := 2) (c_findPlace (e := i) f5 f6 f7 f13 f14 hM (by omega) (by omega) hb15 (nd_cx hN).2.1 (by omega) (by omega)) (by intro E w9 h9; first | exact nomatch h9.1 | (obtain ⟨_, h9, _⟩ := h9; exact nomatch h9) | (obtain ⟨_, _, _, h9, _⟩ := h9; exact nomatch h9)) gX0_hear_X0_findPlace rfl rfl f5 (by decide +kernel) rfl ⟨Nat.le_of_ble_eq_true rfl, Nat.le_of_ble_eq_true rfl⟩ rfl (Nat.le_of_ble_eq_true rfl) dX0_hear_79 ⟨(show k0 + 0 ≤ 3 by omega), (show n0 + 0 ≤ 1610 by omega)⟩ (fun v16 w17 h18 => ?_)
      obtain ⟨h18, h19⟩ := h18
      cases h18
      -- w17
      refine j_after (st' := []) (k' := k0) (n' := n0) rfl rfl rfl ?_
      have f20 : w17 fo = some (.inr (0, [.ref sc, .ref pr, .ref ar, .ref de, .ref ms, .ref mn, .int (nI nt)])) := by rw [h19]; exact (va_up_ne _ _ (fk f5 f13 rfl)).trans (f5)
      have f21 : w17 sc = some (.inr (3, [.ref fa, .int (nI ev), .int (nI be), .int (nI cu), .int (nI st), .int (nI me), .int (nI pa)])) := by rw [h19]; exact (va_up_ne _ _ (fk f6 f13 rfl)).trans (f6)
      have f22 : w17 fa = some (.inl (0, 1400, .inl f)) := by rw [h19]; exact (va_up_ne _ _ (fk f7 f13 rfl)).trans (f7)
      have f23 : w17 pr = some (.inl (0, 4, .inl (fun j9 => nI (p j9)))) := by rw [h19]; exact (va_up_ne _ _ (fk f8 f13 rfl)).trans (f8)
      have f24 : w17 ar = some (.inl (0, 100, .inl (fun j9 => nI (a j9)))) := by rw [h19]; exact (va_up_ne _ _ (fk f9 f13 rfl)).trans (f9)
      have f25 : w17 de = some (.inl (0, 100, .inl (fun j9 => nI (dd j9)))) := by rw [h19]; exact (va_up_ne _ _ (fk f10 f13 rfl)).trans (f10)
      have f26 : w17 mn = some (.inr (1, [va_rf bf, va_rf nx, .ref cm, .int (nI cl), .int (nI pe), .int (nI pb), .int (nI pc), .int (nI an), va_rf av, va_rf ah])) := by rw [h19]; exact (va_up_ne _ _ hmn).trans (f11)
      have f27 : w17 cm = some (.inl (0, cn, .inl (fun j9 => nI (d j9)))) := by rw [h19]; exact (va_up_ne _ _ (fk f12 f13 rfl)).trans (f12)
      have f28 : w17 nm = some (.inr (1, [va_rf bf2, va_rf nx2, .ref cx, .int (nI cl2), .int (nI ((fpF (tnF d xn (sumP (u 1) i) (a i) (2 ^ u 1 i - 1) (riB f i no (u 0 i) (u 1 i)) (decide (u 0 i = 2)) (p 1) (p 0) (2 ^ u 1 i) 0 x) (sumP (u 1) i) i (2 ^ u 1 i) 0 (tc, te, tb)).2.1)), .int (nI ((fpF (tnF d xn (sumP (u 1) i) (a i) (2 ^ u 1 i - 1) (riB f i no (u 0 i) (u 1 i)) (decide (u 0 i = 2)) (p 1) (p 0) (2 ^ u 1 i) 0 x) (sumP (u 1) i) i (2 ^ u 1 i) 0 (tc, te, tb)).2.2)), .int (nI ((fpF (tnF d xn (sumP (u 1) i) (a i) (2 ^ u 1 i - 1) (riB f i no (u 0 i) (u 1 i)) (decide (u 0 i = 2)) (p 1) (p 0) (2 ^ u 1 i) 0 x) (sumP (u 1) i) i (2 ^ u 1 i) 0 (tc, te, tb)).1)), .int (nI an2), va_rf av2, va_rf ah2])) := by rw [h19]; exact va_up_self _ _ _
      have f29 : w17 cx = some (.inl (0, xn, .inl (fun j9 => nI ((tnF d xn (sumP (u 1) i) (a i) (2 ^ u 1 i - 1) (riB f i no (u 0 i) (u 1 i)) (decide (u 0 i = 2)) (p 1) (p 0) (2 ^ u 1 i) 0 x) j9)))) := by rw [h19]; exact (va_up_ne _ _ (fk f14 f13 rfl)).trans (f14)
      have hb30 : (fpF (tnF d xn (sumP (u 1) i) (a i) (2 ^ u 1 i - 1) (riB f i no (u 0 i) (u 1 i)) (decide (u 0 i = 2)) (p 1) (p 0) (2 ^ u 1 i) 0 x) (sumP (u 1) i) i (2 ^ u 1 i) 0 (tc, te, tb)).1 ≤ tc := fpF_le
      refine j_iinc (q := 4) (v := nI (i + 1)) (lv' := [(4, .int (nI (i + 1))), (0, .ref fo), (1, .int (nI no)), (2, .int (nI t)), (3, .ref nm)]) dX0_hear_82 rfl (by first | exact nI_1 _ | exact nI_add _ _) (Nat.le_of_ble_eq_true rfl) rfl ?_
      refine j_goto 55 dX0_hear_85 (by decide) ?_
      refine j_lv (lv' := [(0, .ref fo), (1, .int (nI no)), (2, .int (nI t)), (3, .ref nm), (4, .int (nI (i + 1)))]) [1, 2, 3, 4, 0] rfl ?_
      exact ih (i + 1) (tnF d xn (sumP (u 1) i) (a i) (2 ^ u 1 i - 1) (riB f i no (u 0 i) (u 1 i)) (decide (u 0 i = 2)) (p 1) (p 0) (2 ^ u 1 i) 0 x) ((fpF (tnF d xn (sumP (u 1) i) (a i) (2 ^ u 1 i - 1) (riB f i no (u 0 i) (u 1 i)) (decide (u 0 i = 2)) (p 1) (p 0) (2 ^ u 1 i) 0 x) (sumP (u 1) i) i (2 ^ u 1 i) 0 (tc, te, tb)).2.1) ((fpF (tnF d xn (sumP (u 1) i) (a i) (2 ^ u 1 i - 1) (riB f i no (u 0 i) (u 1 i)) (decide (u 0 i = 2)) (p 1) (p 0) (2 ^ u 1 i) 0 x) (sumP (u 1) i) i (2 ^ u 1 i) 0 (tc, te, tb)).2.2) ((fpF (tnF d xn (sumP (u 1) i) (a i) (2 ^ u 1 i - 1) (riB f i no (u 0 i) (u 1 i)) (decide (u 0 i = 2)) (p 1) (p 0) (2 ^ u 1 i) 0 x) (sumP (u 1) i) i (2 ^ u 1 i) 0 (tc, te, tb)).1) _ (by omega) (by omega) hb15 (by omega) (by rw [← hr, evF_step (show i < ev by omega)]; rfl) (by rw [h19, h4, hwl]; rw [up_sw (w := va_up w cx _) (a := nm) (b := cx) (fk hnm hcx rfl)]; rw [bx_uu, bx_uu])
theorem evF_pe {d A np : Nat → Nat} {ri : Nat → Nat} {orn : Nat → Bool} {xn pA pW B : Nat} : ∀ {k e : Nat} {q : (Nat → Nat) × Nat × Nat × Nat}, e + k ≤ B + 1 → q.2.2.1 ≤ B → (evF d A np ri orn xn pA pW k e q).2.2.1 ≤ B
  | 0, e, q, _, h => h
  | k + 1, e, q, hk, h => by
    unfold evF
    exact evF_pe (by omega) (fpF_ev (by omega) h)
theorem fsX0_hear_30 : FS wsX0_hear RX0 30 0 5 false (.object "PageTurner$Moment") := ⟨RX0, TX0, 7, tyX0, rfl, by decide, by decide +kernel, by decide +kernel, tyX0_ok, nmX0, rfl, rfl, rfl⟩
theorem flX0_hear_57 : FL wsX0_hear RX0 57 0 6 := ⟨RX0, TX0, 7, rfl, by decide, by decide +kernel, by decide +kernel⟩
theorem fsX0_hear_57 : FS wsX0_hear RX0 57 0 6 false (.int) := ⟨RX0, TX0, 7, tyX0, rfl, by decide, by decide +kernel, by decide +kernel, tyX0_ok, nmX0, rfl, rfl, rfl⟩
set_option maxHeartbeats 4000000 in
set_option maxRecDepth 100000 in
theorem t_hear0 {w : pW} {fo sc pr ar de ms mn nt : Nat} {fa ev be cu st me pa : Nat} {f : Nat → Int32} {u : Nat → Nat → Nat} {bh : Nat → Option Nat} {p : Nat → Nat} {a : Nat → Nat} {dd : Nat → Nat} {cm : Nat} {bf nx ah : Option Nat} {cl pe pb pc an : Nat} {cn : Nat} {d : Nat → Nat} {nm cx : Nat} {bf2 nx2 : Option Nat} {cl2 : Nat} {xn : Nat} {x : Nat → Nat} (hfo : w fo = some (.inr (0, [.ref sc, .ref pr, .ref ar, .ref de, .ref ms, .ref mn, .int (nI nt)]))) (hs : w sc = some (.inr (3, [.ref fa, .int (nI ev), .int (nI be), .int (nI cu), .int (nI st), .int (nI me), .int (nI pa)]))) (hf : w fa = some (.inl (0, 1400, .inl f))) (hp : w pr = some (.inl (0, 4, .inl (fun j9 => nI (p j9))))) (ha : w ar = some (.inl (0, 100, .inl (fun j9 => nI (a j9))))) (hde : w de = some (.inl (0, 100, .inl (fun j9 => nI (dd j9))))) (hm : w mn = some (.inr (1, [va_rf bf, va_rf nx, .ref cm, .int (nI cl), .int (nI pe), .int (nI pb), .int (nI pc), .int (nI an), va_rf none, va_rf ah]))) (hc : w cm = some (.inl (0, cn, .inl (fun j9 => nI (d j9))))) (hnm : w nm = some (.inr (1, [va_rf bf2, va_rf nx2, .ref cx, .int (nI cl2), .int (nI 0), .int (nI 0), .int (nI 1000000), .int (nI 0), va_rf none, va_rf none]))) (hcx : w cx = some (.inl (0, xn, .inl (fun j9 => nI (x j9))))) (hM : Mus f ev st u bh) (hpb : ∀ j, p j ≤ 50) (hab : ∀ j, a j ≤ 1000000) (hdb : ∀ j, dd j ≤ 1000000) (hst : st ≤ cn) (hcn : cn ≤ 100000) (hdd : ∀ j, d j ≤ 1000000) (hsx : st ≤ xn) (hxn : xn ≤ 100000) (hxb : ∀ j, x j ≤ 1000000) (hmn : mn ≠ nm) (hN : va_nd [fa, pr, ar, de, cm, cx] = true) {no t k0 n0 : Nat} (hno : no < 128) (hk0 : k0 ≤ 3) (hn0 : n0 ≤ 1610) (hpc : pc ≤ 1000000) (hpe : pe < 100) : J ((cX0_hear, RX0, 5, wsX0_hear), (rX0_hear, none, "hear", []), fun o w9 => o = .inl none ∧ (w9 ar = some (.inl (0, 100, .inl (fun j9 => nI ((silA d a (u 1) (u 6) dd bh (p 2) (pc + p 3) ev) j9)))) ∧ w9 de = some (.inl (0, 100, .inl (fun j9 => nI ((silD d (u 1) dd (p 2) ev) j9)))) ∧ w9 cx = some (.inl (0, xn, .inl (fun j9 => nI (((evF d (silA d a (u 1) (u 6) dd bh (p 2) (pc + p 3) ev) (u 1) (fun e => riB f e no (u 0 e) (u 1 e)) (fun e => decide (u 0 e = 2)) xn (p 1) (p 0) ev 0 (x, 1000000, 0, 0)).1) j9)))) ∧ w9 nm = some (.inr (1, [va_rf bf2, va_rf nx2, .ref cx, .int (nI cl2), .int (nI ((evF d (silA d a (u 1) (u 6) dd bh (p 2) (pc + p 3) ev) (u 1) (fun e => riB f e no (u 0 e) (u 1 e)) (fun e => decide (u 0 e = 2)) xn (p 1) (p 0) ev 0 (x, 1000000, 0, 0)).2.2.1)), .int (nI ((evF d (silA d a (u 1) (u 6) dd bh (p 2) (pc + p 3) ev) (u 1) (fun e => riB f e no (u 0 e) (u 1 e)) (fun e => decide (u 0 e = 2)) xn (p 1) (p 0) ev 0 (x, 1000000, 0, 0)).2.2.2)), .int (nI ((evF d (silA d a (u 1) (u 6) dd bh (p 2) (pc + p 3) ev) (u 1) (fun e => riB f e no (u 0 e) (u 1 e)) (fun e => decide (u 0 e = 2)) xn (p 1) (p 0) ev 0 (x, 1000000, 0, 0)).2.1)), .int (nI 1), va_rf (some nm), va_rf none])) ∧ w9 fo = some (.inr (0, [.ref sc, .ref pr, .ref ar, .ref de, .ref ms, .ref nm, .int (nI (nt + 1))]))) ∧ Fr [ar, de, cx, nm, fo] w w9, fun _ _ _ => True) 48 [(0, .ref fo), (1, .int (nI no)), (2, .int (nI t)), (3, .ref nm)] [] w k0 n0 := by
  have hev := hM.hev
  have hst0 := hM.hst
  refine j_aload_n dX0_hear_48 0 rfl ?_
  refine j_callV (rm := rX0_makeSilentMoves) (As := []) (st := []) (b0 := fo) (ci := 0) (na := 0) (c_makeSilentMoves hfo hs hf hp ha hde hm hc hM hpb hab hdb (by omega) (by omega) hdd (nd_cx hN).2.2 (by omega)) (by intro E w9 h9; first | exact nomatch h9.1 | (obtain ⟨_, h9, _⟩ := h9; exact nomatch h9) | (obtain ⟨_, _, _, h9, _⟩ := h9; exact nomatch h9)) gX0_hear_X0_makeSilentMoves rfl rfl hfo (by decide +kernel) rfl ⟨Nat.le_of_ble_eq_true rfl, Nat.le_of_ble_eq_true rfl⟩ rfl (Nat.le_of_ble_eq_true rfl) dX0_hear_49 ⟨(show k0 + 0 ≤ 3 by omega), (show n0 + 0 ≤ 1610 by omega)⟩ (fun v1 w2 h3 => ?_)
  obtain ⟨h3, h4⟩ := h3
  cases h3
  -- w2
  refine j_after (st' := []) (k' := k0) (n' := n0) rfl rfl rfl ?_
  have f5 : w2 fo = some (.inr (0, [.ref sc, .ref pr, .ref ar, .ref de, .ref ms, .ref mn, .int (nI nt)])) := by rw [h4]; exact (va_up_ne _ _ (fk hfo hde rfl)).trans ((va_up_ne _ _ (fk hfo ha rfl)).trans (hfo))
  have f6 : w2 sc = some (.inr (3, [.ref fa, .int (nI ev), .int (nI be), .int (nI cu), .int (nI st), .int (nI me), .int (nI pa)])) := by rw [h4]; exact (va_up_ne _ _ (fk hs hde rfl)).trans ((va_up_ne _ _ (fk hs ha rfl)).trans (hs))
  have f7 : w2 fa = some (.inl (0, 1400, .inl f)) := by rw [h4]; exact (va_up_ne _ _ (nd_ne hN 0 3 rfl rfl rfl)).trans ((va_up_ne _ _ (nd_ne hN 0 2 rfl rfl rfl)).trans (hf))
  have f8 : w2 pr = some (.inl (0, 4, .inl (fun j9 => nI (p j9)))) := by rw [h4]; exact (va_up_ne _ _ (nd_ne hN 1 3 rfl rfl rfl)).trans ((va_up_ne _ _ (nd_ne hN 1 2 rfl rfl rfl)).trans (hp))
  have f9 : w2 ar = some (.inl (0, 100, .inl (fun j9 => nI ((silA d a (u 1) (u 6) dd bh (p 2) (pc + p 3) ev) j9)))) := by rw [h4]; exact (va_up_ne _ _ (nd_ne hN 2 3 rfl rfl rfl)).trans (va_up_self _ _ _)
  have f10 : w2 de = some (.inl (0, 100, .inl (fun j9 => nI ((silD d (u 1) dd (p 2) ev) j9)))) := by rw [h4]; exact va_up_self _ _ _
  have f11 : w2 mn = some (.inr (1, [va_rf bf, va_rf nx, .ref cm, .int (nI cl), .int (nI pe), .int (nI pb), .int (nI pc), .int (nI an), va_rf none, va_rf ah])) := by rw [h4]; exact (va_up_ne _ _ (fk hm hde rfl)).trans ((va_up_ne _ _ (fk hm ha rfl)).trans (hm))
  have f12 : w2 cm = some (.inl (0, cn, .inl (fun j9 => nI (d j9)))) := by rw [h4]; exact (va_up_ne _ _ (nd_ne hN 4 3 rfl rfl rfl)).trans ((va_up_ne _ _ (nd_ne hN 4 2 rfl rfl rfl)).trans (hc))
  have f13 : w2 nm = some (.inr (1, [va_rf bf2, va_rf nx2, .ref cx, .int (nI cl2), .int (nI 0), .int (nI 0), .int (nI 1000000), .int (nI 0), va_rf none, va_rf none])) := by rw [h4]; exact (va_up_ne _ _ (fk hnm hde rfl)).trans ((va_up_ne _ _ (fk hnm ha rfl)).trans (hnm))
  have f14 : w2 cx = some (.inl (0, xn, .inl (fun j9 => nI (x j9)))) := by rw [h4]; exact (va_up_ne _ _ (nd_ne hN 5 3 rfl rfl rfl)).trans ((va_up_ne _ _ (nd_ne hN 5 2 rfl rfl rfl)).trans (hcx))
  have hb15 : ∀ j9, (silA d a (u 1) (u 6) dd bh (p 2) (pc + p 3) ev) j9 ≤ 1000000 := psF_le (fil_le hab (fun j _ => ar0_le hdd))
  have hb16 : ∀ j9, (silD d (u 1) dd (p 2) ev) j9 ≤ 1000000 := fil_le hdb (fun j _ => depF_le)
  refine j_iconst (v := nI 0) dX0_hear_52 (by decide) ?_
  refine j_istore (lv' := [(4, .int (nI 0)), (0, .ref fo), (1, .int (nI no)), (2, .int (nI t)), (3, .ref nm)]) dX0_hear_53 (Nat.le_of_ble_eq_true rfl) rfl ?_
  refine j_lv (lv' := [(0, .ref fo), (1, .int (nI no)), (2, .int (nI t)), (3, .ref nm), (4, .int (nI 0))]) [1, 2, 3, 4, 0] rfl ?_
  refine l_hear f5 f6 f7 f8 f9 f10 f11 f12 f13 f14 hM hpb hb15 hb16 hst hcn hdd hsx hxn hmn hN hno hk0 hn0 (fun i9 wz hwz => ?_) (ev + 1) 0 x 0 0 1000000 w2 (by omega) (by omega) hxb (by omega) rfl (by rw [up_same f14, up_same f13])
  have f17 : wz fo = some (.inr (0, [.ref sc, .ref pr, .ref ar, .ref de, .ref ms, .ref mn, .int (nI nt)])) := by rw [hwz]; exact (va_up_ne _ _ (fk f5 f13 rfl)).trans ((va_up_ne _ _ (fk f5 f14 rfl)).trans (f5))
  have f18 : wz sc = some (.inr (3, [.ref fa, .int (nI ev), .int (nI be), .int (nI cu), .int (nI st), .int (nI me), .int (nI pa)])) := by rw [hwz]; exact (va_up_ne _ _ (fk f6 f13 rfl)).trans ((va_up_ne _ _ (fk f6 f14 rfl)).trans (f6))
  have f19 : wz fa = some (.inl (0, 1400, .inl f)) := by rw [hwz]; exact (va_up_ne _ _ (fk f7 f13 rfl)).trans ((va_up_ne _ _ (nd_ne hN 0 5 rfl rfl rfl)).trans (f7))
  have f20 : wz pr = some (.inl (0, 4, .inl (fun j9 => nI (p j9)))) := by rw [hwz]; exact (va_up_ne _ _ (fk f8 f13 rfl)).trans ((va_up_ne _ _ (nd_ne hN 1 5 rfl rfl rfl)).trans (f8))
  have f21 : wz ar = some (.inl (0, 100, .inl (fun j9 => nI ((silA d a (u 1) (u 6) dd bh (p 2) (pc + p 3) ev) j9)))) := by rw [hwz]; exact (va_up_ne _ _ (fk f9 f13 rfl)).trans ((va_up_ne _ _ (nd_ne hN 2 5 rfl rfl rfl)).trans (f9))
  have f22 : wz de = some (.inl (0, 100, .inl (fun j9 => nI ((silD d (u 1) dd (p 2) ev) j9)))) := by rw [hwz]; exact (va_up_ne _ _ (fk f10 f13 rfl)).trans ((va_up_ne _ _ (nd_ne hN 3 5 rfl rfl rfl)).trans (f10))
  have f23 : wz mn = some (.inr (1, [va_rf bf, va_rf nx, .ref cm, .int (nI cl), .int (nI pe), .int (nI pb), .int (nI pc), .int (nI an), va_rf none, va_rf ah])) := by rw [hwz]; exact (va_up_ne _ _ hmn).trans ((va_up_ne _ _ (fk f11 f14 rfl)).trans (f11))
  have f24 : wz cm = some (.inl (0, cn, .inl (fun j9 => nI (d j9)))) := by rw [hwz]; exact (va_up_ne _ _ (fk f12 f13 rfl)).trans ((va_up_ne _ _ (nd_ne hN 4 5 rfl rfl rfl)).trans (f12))
  have f25 : wz nm = some (.inr (1, [va_rf bf2, va_rf nx2, .ref cx, .int (nI cl2), .int (nI ((evF d (silA d a (u 1) (u 6) dd bh (p 2) (pc + p 3) ev) (u 1) (fun e => riB f e no (u 0 e) (u 1 e)) (fun e => decide (u 0 e = 2)) xn (p 1) (p 0) ev 0 (x, 1000000, 0, 0)).2.2.1)), .int (nI ((evF d (silA d a (u 1) (u 6) dd bh (p 2) (pc + p 3) ev) (u 1) (fun e => riB f e no (u 0 e) (u 1 e)) (fun e => decide (u 0 e = 2)) xn (p 1) (p 0) ev 0 (x, 1000000, 0, 0)).2.2.2)), .int (nI ((evF d (silA d a (u 1) (u 6) dd bh (p 2) (pc + p 3) ev) (u 1) (fun e => riB f e no (u 0 e) (u 1 e)) (fun e => decide (u 0 e = 2)) xn (p 1) (p 0) ev 0 (x, 1000000, 0, 0)).2.1)), .int (nI 0), va_rf none, va_rf none])) := by rw [hwz]; exact va_up_self _ _ _
  have f26 : wz cx = some (.inl (0, xn, .inl (fun j9 => nI (((evF d (silA d a (u 1) (u 6) dd bh (p 2) (pc + p 3) ev) (u 1) (fun e => riB f e no (u 0 e) (u 1 e)) (fun e => decide (u 0 e = 2)) xn (p 1) (p 0) ev 0 (x, 1000000, 0, 0)).1) j9)))) := by rw [hwz]; exact (va_up_ne _ _ (fk f14 f13 rfl)).trans (va_up_self _ _ _)
  have hev9 := hM.hev
  have hpe9 : (evF d (silA d a (u 1) (u 6) dd bh (p 2) (pc + p 3) ev) (u 1) (fun e => riB f e no (u 0 e) (u 1 e)) (fun e => decide (u 0 e = 2)) xn (p 1) (p 0) ev 0 (x, 1000000, 0, 0)).2.2.1 ≤ 100 := evF_pe (by omega) (Nat.zero_le _)
  refine j_aload_n dX0_hear_88 0 rfl ?_
  refine j_aload_n dX0_hear_89 3 rfl ?_
  refine j_callV (rm := rX0_dropAnchor) (As := [.ref nm]) (st := []) (b0 := fo) (ci := 0) (na := 1) (c_dropAnchor0 f17 f25 hmn f23) (by intro E w9 h9; first | exact nomatch h9.1 | (obtain ⟨_, h9, _⟩ := h9; exact nomatch h9) | (obtain ⟨_, _, _, h9, _⟩ := h9; exact nomatch h9)) gX0_hear_X0_dropAnchor rfl rfl f17 (by decide +kernel) rfl ⟨Nat.le_of_ble_eq_true rfl, Nat.le_of_ble_eq_true rfl⟩ rfl (Nat.le_of_ble_eq_true rfl) dX0_hear_90 ⟨(show k0 + 0 ≤ 3 by omega), (show n0 + 0 ≤ 1610 by omega)⟩ (fun v27 w28 h29 => ?_)
  obtain ⟨h29, h30⟩ := h29
  cases h29
  -- w28
  refine j_after (st' := []) (k' := k0) (n' := n0) rfl rfl rfl ?_
  have f31 : w28 fo = some (.inr (0, [.ref sc, .ref pr, .ref ar, .ref de, .ref ms, .ref mn, .int (nI nt)])) := by rw [h30]; exact (va_up_ne _ _ (fk f17 f25 rfl)).trans (f17)
  have f32 : w28 sc = some (.inr (3, [.ref fa, .int (nI ev), .int (nI be), .int (nI cu), .int (nI st), .int (nI me), .int (nI pa)])) := by rw [h30]; exact (va_up_ne _ _ (fk f18 f25 rfl)).trans (f18)
  have f33 : w28 fa = some (.inl (0, 1400, .inl f)) := by rw [h30]; exact (va_up_ne _ _ (fk f19 f25 rfl)).trans (f19)
  have f34 : w28 pr = some (.inl (0, 4, .inl (fun j9 => nI (p j9)))) := by rw [h30]; exact (va_up_ne _ _ (fk f20 f25 rfl)).trans (f20)
  have f35 : w28 ar = some (.inl (0, 100, .inl (fun j9 => nI ((silA d a (u 1) (u 6) dd bh (p 2) (pc + p 3) ev) j9)))) := by rw [h30]; exact (va_up_ne _ _ (fk f21 f25 rfl)).trans (f21)
  have f36 : w28 de = some (.inl (0, 100, .inl (fun j9 => nI ((silD d (u 1) dd (p 2) ev) j9)))) := by rw [h30]; exact (va_up_ne _ _ (fk f22 f25 rfl)).trans (f22)
  have f37 : w28 mn = some (.inr (1, [va_rf bf, va_rf nx, .ref cm, .int (nI cl), .int (nI pe), .int (nI pb), .int (nI pc), .int (nI an), va_rf none, va_rf ah])) := by rw [h30]; exact (va_up_ne _ _ hmn).trans (f23)
  have f38 : w28 cm = some (.inl (0, cn, .inl (fun j9 => nI (d j9)))) := by rw [h30]; exact (va_up_ne _ _ (fk f24 f25 rfl)).trans (f24)
  have f39 : w28 nm = some (.inr (1, [va_rf bf2, va_rf nx2, .ref cx, .int (nI cl2), .int (nI ((evF d (silA d a (u 1) (u 6) dd bh (p 2) (pc + p 3) ev) (u 1) (fun e => riB f e no (u 0 e) (u 1 e)) (fun e => decide (u 0 e = 2)) xn (p 1) (p 0) ev 0 (x, 1000000, 0, 0)).2.2.1)), .int (nI ((evF d (silA d a (u 1) (u 6) dd bh (p 2) (pc + p 3) ev) (u 1) (fun e => riB f e no (u 0 e) (u 1 e)) (fun e => decide (u 0 e = 2)) xn (p 1) (p 0) ev 0 (x, 1000000, 0, 0)).2.2.2)), .int (nI ((evF d (silA d a (u 1) (u 6) dd bh (p 2) (pc + p 3) ev) (u 1) (fun e => riB f e no (u 0 e) (u 1 e)) (fun e => decide (u 0 e = 2)) xn (p 1) (p 0) ev 0 (x, 1000000, 0, 0)).2.1)), .int (nI 1), va_rf (some nm), va_rf none])) := by rw [h30]; exact va_up_self _ _ _
  have f40 : w28 cx = some (.inl (0, xn, .inl (fun j9 => nI (((evF d (silA d a (u 1) (u 6) dd bh (p 2) (pc + p 3) ev) (u 1) (fun e => riB f e no (u 0 e) (u 1 e)) (fun e => decide (u 0 e = 2)) xn (p 1) (p 0) ev 0 (x, 1000000, 0, 0)).1) j9)))) := by rw [h30]; exact (va_up_ne _ _ (fk f26 f25 rfl)).trans (f26)
  refine j_aload_n dX0_hear_93 0 rfl ?_
  refine j_aload_n dX0_hear_94 3 rfl ?_
  refine j_put (fs9 := [.ref sc, .ref pr, .ref ar, .ref de, .ref ms, .ref nm, .int (nI nt)]) fsX0_hear_30 f31 rfl rfl (Nat.le_of_ble_eq_true rfl) rfl dX0_hear_95 ?_
  refine j_w (fun w41 hw41 => ?_)
  have f42 : w41 fo = some (.inr (0, [.ref sc, .ref pr, .ref ar, .ref de, .ref ms, .ref nm, .int (nI nt)])) := up_at hw41
  have f43 := up_ne hw41 (fk f32 f31 rfl) f32
  have f44 := up_ne hw41 (fk f33 f31 rfl) f33
  have f45 := up_ne hw41 (fk f34 f31 rfl) f34
  have f46 := up_ne hw41 (fk f35 f31 rfl) f35
  have f47 := up_ne hw41 (fk f36 f31 rfl) f36
  have f48 := up_ne hw41 (fk f37 f31 rfl) f37
  have f49 := up_ne hw41 (fk f38 f31 rfl) f38
  have f50 := up_ne hw41 (fk f39 f31 rfl) f39
  have f51 := up_ne hw41 (fk f40 f31 rfl) f40
  refine j_aload_n dX0_hear_98 0 rfl ?_
  refine j_dup dX0_hear_99 rfl ?_
  refine j_get flX0_hear_57 f42 rfl dX0_hear_100 ?_
  refine j_iconst (v := nI 1) dX0_hear_103 (by decide) ?_
  refine j_iaddN dX0_hear_104 ?_
  refine j_put (fs9 := [.ref sc, .ref pr, .ref ar, .ref de, .ref ms, .ref nm, .int (nI (nt + 1))]) fsX0_hear_57 f42 rfl rfl (Nat.le_of_ble_eq_true rfl) rfl dX0_hear_105 ?_
  refine j_w (fun w52 hw52 => ?_)
  have f53 : w52 fo = some (.inr (0, [.ref sc, .ref pr, .ref ar, .ref de, .ref ms, .ref nm, .int (nI (nt + 1))])) := up_at hw52
  have f54 := up_ne hw52 (fk f43 f42 rfl) f43
  have f55 := up_ne hw52 (fk f44 f42 rfl) f44
  have f56 := up_ne hw52 (fk f45 f42 rfl) f45
  have f57 := up_ne hw52 (fk f46 f42 rfl) f46
  have f58 := up_ne hw52 (fk f47 f42 rfl) f47
  have f59 := up_ne hw52 (fk f48 f42 rfl) f48
  have f60 := up_ne hw52 (fk f49 f42 rfl) f49
  have f61 := up_ne hw52 (fk f50 f42 rfl) f50
  have f62 := up_ne hw52 (fk f51 f42 rfl) f51
  exact j_vret rfl ⟨rfl, ⟨f57, f58, f62, f61, f53⟩, ((((((Fr.refl : Fr [ar, de, cx, nm, fo] w w).trans (Fr.up2 h4 (by simp) (by simp))).trans (Fr.up2 hwz (by simp) (by simp))).trans (Fr.up h30 (by simp))).trans (Fr.up hw41 (by simp))).trans (Fr.up hw52 (by simp)))⟩ (show k0 ≤ 3 by omega) (show n0 ≤ 1610 by omega) dX0_hear_108
set_option maxHeartbeats 4000000 in
set_option maxRecDepth 100000 in
theorem t_hear1 {la ca3 : Nat} {bf3 nx3 av3 ah3 : Option Nat} {cl3 pe3 pb3 pc3 an3 : Nat} {w : pW} {fo sc pr ar de ms mn nt : Nat} {fa ev be cu st me pa : Nat} {f : Nat → Int32} {u : Nat → Nat → Nat} {bh : Nat → Option Nat} {p : Nat → Nat} {a : Nat → Nat} {dd : Nat → Nat} {cm : Nat} {bf nx ah : Option Nat} {cl pe pb pc an : Nat} {cn : Nat} {d : Nat → Nat} {nm cx : Nat} {bf2 nx2 : Option Nat} {cl2 : Nat} {xn : Nat} {x : Nat → Nat} (hfo : w fo = some (.inr (0, [.ref sc, .ref pr, .ref ar, .ref de, .ref ms, .ref mn, .int (nI nt)]))) (hs : w sc = some (.inr (3, [.ref fa, .int (nI ev), .int (nI be), .int (nI cu), .int (nI st), .int (nI me), .int (nI pa)]))) (hf : w fa = some (.inl (0, 1400, .inl f))) (hp : w pr = some (.inl (0, 4, .inl (fun j9 => nI (p j9))))) (ha : w ar = some (.inl (0, 100, .inl (fun j9 => nI (a j9))))) (hde : w de = some (.inl (0, 100, .inl (fun j9 => nI (dd j9))))) (hm : w mn = some (.inr (1, [va_rf bf, va_rf nx, .ref cm, .int (nI cl), .int (nI pe), .int (nI pb), .int (nI pc), .int (nI an), va_rf (some la), va_rf ah]))) (hc : w cm = some (.inl (0, cn, .inl (fun j9 => nI (d j9))))) (hnm : w nm = some (.inr (1, [va_rf bf2, va_rf nx2, .ref cx, .int (nI cl2), .int (nI 0), .int (nI 0), .int (nI 1000000), .int (nI 0), va_rf none, va_rf none]))) (hcx : w cx = some (.inl (0, xn, .inl (fun j9 => nI (x j9))))) (hM : Mus f ev st u bh) (hpb : ∀ j, p j ≤ 50) (hab : ∀ j, a j ≤ 1000000) (hdb : ∀ j, dd j ≤ 1000000) (hst : st ≤ cn) (hcn : cn ≤ 100000) (hdd : ∀ j, d j ≤ 1000000) (hsx : st ≤ xn) (hxn : xn ≤ 100000) (hxb : ∀ j, x j ≤ 1000000) (hmn : mn ≠ nm) (hN : va_nd [fa, pr, ar, de, cm, cx] = true) {no t k0 n0 : Nat} (hno : no < 128) (hk0 : k0 ≤ 3) (hn0 : n0 ≤ 1610) (hpc : pc ≤ 1000000) (hpe : pe < 100) (hlm : w la = some (.inr (1, [va_rf bf3, va_rf nx3, .ref ca3, .int (nI cl3), .int (nI pe3), .int (nI pb3), .int (nI pc3), .int (nI an3), va_rf av3, va_rf ah3]))) (hla : la ≠ nm) (hpe3 : pe3 < 100) : J ((cX0_hear, RX0, 5, wsX0_hear), (rX0_hear, none, "hear", []), fun o w9 => o = .inl none ∧ (w9 ar = some (.inl (0, 100, .inl (fun j9 => nI ((silA d a (u 1) (u 6) dd bh (p 2) (pc + p 3) ev) j9)))) ∧ w9 de = some (.inl (0, 100, .inl (fun j9 => nI ((silD d (u 1) dd (p 2) ev) j9)))) ∧ w9 cx = some (.inl (0, xn, .inl (fun j9 => nI (((evF d (silA d a (u 1) (u 6) dd bh (p 2) (pc + p 3) ev) (u 1) (fun e => riB f e no (u 0 e) (u 1 e)) (fun e => decide (u 0 e = 2)) xn (p 1) (p 0) ev 0 (x, 1000000, 0, 0)).1) j9)))) ∧ w9 nm = some (if (evF d (silA d a (u 1) (u 6) dd bh (p 2) (pc + p 3) ev) (u 1) (fun e => riB f e no (u 0 e) (u 1 e)) (fun e => decide (u 0 e = 2)) xn (p 1) (p 0) ev 0 (x, 1000000, 0, 0)).2.2.1 < pe3 then (.inr (1, [va_rf bf2, va_rf nx2, .ref cx, .int (nI cl2), .int (nI ((evF d (silA d a (u 1) (u 6) dd bh (p 2) (pc + p 3) ev) (u 1) (fun e => riB f e no (u 0 e) (u 1 e)) (fun e => decide (u 0 e = 2)) xn (p 1) (p 0) ev 0 (x, 1000000, 0, 0)).2.2.1)), .int (nI ((evF d (silA d a (u 1) (u 6) dd bh (p 2) (pc + p 3) ev) (u 1) (fun e => riB f e no (u 0 e) (u 1 e)) (fun e => decide (u 0 e = 2)) xn (p 1) (p 0) ev 0 (x, 1000000, 0, 0)).2.2.2)), .int (nI ((evF d (silA d a (u 1) (u 6) dd bh (p 2) (pc + p 3) ev) (u 1) (fun e => riB f e no (u 0 e) (u 1 e)) (fun e => decide (u 0 e = 2)) xn (p 1) (p 0) ev 0 (x, 1000000, 0, 0)).2.1)), .int (nI 1), va_rf (some nm), va_rf none]) : pE) else if (evF d (silA d a (u 1) (u 6) dd bh (p 2) (pc + p 3) ev) (u 1) (fun e => riB f e no (u 0 e) (u 1 e)) (fun e => decide (u 0 e = 2)) xn (p 1) (p 0) ev 0 (x, 1000000, 0, 0)).2.2.1 ≠ pe then .inr (1, [va_rf bf2, va_rf nx2, .ref cx, .int (nI cl2), .int (nI ((evF d (silA d a (u 1) (u 6) dd bh (p 2) (pc + p 3) ev) (u 1) (fun e => riB f e no (u 0 e) (u 1 e)) (fun e => decide (u 0 e = 2)) xn (p 1) (p 0) ev 0 (x, 1000000, 0, 0)).2.2.1)), .int (nI ((evF d (silA d a (u 1) (u 6) dd bh (p 2) (pc + p 3) ev) (u 1) (fun e => riB f e no (u 0 e) (u 1 e)) (fun e => decide (u 0 e = 2)) xn (p 1) (p 0) ev 0 (x, 1000000, 0, 0)).2.2.2)), .int (nI ((evF d (silA d a (u 1) (u 6) dd bh (p 2) (pc + p 3) ev) (u 1) (fun e => riB f e no (u 0 e) (u 1 e)) (fun e => decide (u 0 e = 2)) xn (p 1) (p 0) ev 0 (x, 1000000, 0, 0)).2.1)), .int (nI (an + 1)), va_rf (some nm), va_rf (some la)]) else .inr (1, [va_rf bf2, va_rf nx2, .ref cx, .int (nI cl2), .int (nI ((evF d (silA d a (u 1) (u 6) dd bh (p 2) (pc + p 3) ev) (u 1) (fun e => riB f e no (u 0 e) (u 1 e)) (fun e => decide (u 0 e = 2)) xn (p 1) (p 0) ev 0 (x, 1000000, 0, 0)).2.2.1)), .int (nI ((evF d (silA d a (u 1) (u 6) dd bh (p 2) (pc + p 3) ev) (u 1) (fun e => riB f e no (u 0 e) (u 1 e)) (fun e => decide (u 0 e = 2)) xn (p 1) (p 0) ev 0 (x, 1000000, 0, 0)).2.2.2)), .int (nI ((evF d (silA d a (u 1) (u 6) dd bh (p 2) (pc + p 3) ev) (u 1) (fun e => riB f e no (u 0 e) (u 1 e)) (fun e => decide (u 0 e = 2)) xn (p 1) (p 0) ev 0 (x, 1000000, 0, 0)).2.1)), .int (nI an), va_rf (some la), va_rf none])) ∧ w9 fo = some (.inr (0, [.ref sc, .ref pr, .ref ar, .ref de, .ref ms, .ref nm, .int (nI (nt + 1))]))) ∧ Fr [ar, de, cx, nm, fo] w w9, fun _ _ _ => True) 48 [(0, .ref fo), (1, .int (nI no)), (2, .int (nI t)), (3, .ref nm)] [] w k0 n0 := by
  have hev := hM.hev
  have hst0 := hM.hst
  refine j_aload_n dX0_hear_48 0 rfl ?_
  refine j_callV (rm := rX0_makeSilentMoves) (As := []) (st := []) (b0 := fo) (ci := 0) (na := 0) (c_makeSilentMoves hfo hs hf hp ha hde hm hc hM hpb hab hdb (by omega) (by omega) hdd (nd_cx hN).2.2 (by omega)) (by intro E w9 h9; first | exact nomatch h9.1 | (obtain ⟨_, h9, _⟩ := h9; exact nomatch h9) | (obtain ⟨_, _, _, h9, _⟩ := h9; exact nomatch h9)) gX0_hear_X0_makeSilentMoves rfl rfl hfo (by decide +kernel) rfl ⟨Nat.le_of_ble_eq_true rfl, Nat.le_of_ble_eq_true rfl⟩ rfl (Nat.le_of_ble_eq_true rfl) dX0_hear_49 ⟨(show k0 + 0 ≤ 3 by omega), (show n0 + 0 ≤ 1610 by omega)⟩ (fun v1 w2 h3 => ?_)
  obtain ⟨h3, h4⟩ := h3
  cases h3
  -- w2
  refine j_after (st' := []) (k' := k0) (n' := n0) rfl rfl rfl ?_
  have f5 : w2 fo = some (.inr (0, [.ref sc, .ref pr, .ref ar, .ref de, .ref ms, .ref mn, .int (nI nt)])) := by rw [h4]; exact (va_up_ne _ _ (fk hfo hde rfl)).trans ((va_up_ne _ _ (fk hfo ha rfl)).trans (hfo))
  have f6 : w2 sc = some (.inr (3, [.ref fa, .int (nI ev), .int (nI be), .int (nI cu), .int (nI st), .int (nI me), .int (nI pa)])) := by rw [h4]; exact (va_up_ne _ _ (fk hs hde rfl)).trans ((va_up_ne _ _ (fk hs ha rfl)).trans (hs))
  have f7 : w2 fa = some (.inl (0, 1400, .inl f)) := by rw [h4]; exact (va_up_ne _ _ (nd_ne hN 0 3 rfl rfl rfl)).trans ((va_up_ne _ _ (nd_ne hN 0 2 rfl rfl rfl)).trans (hf))
  have f8 : w2 pr = some (.inl (0, 4, .inl (fun j9 => nI (p j9)))) := by rw [h4]; exact (va_up_ne _ _ (nd_ne hN 1 3 rfl rfl rfl)).trans ((va_up_ne _ _ (nd_ne hN 1 2 rfl rfl rfl)).trans (hp))
  have f9 : w2 ar = some (.inl (0, 100, .inl (fun j9 => nI ((silA d a (u 1) (u 6) dd bh (p 2) (pc + p 3) ev) j9)))) := by rw [h4]; exact (va_up_ne _ _ (nd_ne hN 2 3 rfl rfl rfl)).trans (va_up_self _ _ _)
  have f10 : w2 de = some (.inl (0, 100, .inl (fun j9 => nI ((silD d (u 1) dd (p 2) ev) j9)))) := by rw [h4]; exact va_up_self _ _ _
  have f11 : w2 mn = some (.inr (1, [va_rf bf, va_rf nx, .ref cm, .int (nI cl), .int (nI pe), .int (nI pb), .int (nI pc), .int (nI an), va_rf (some la), va_rf ah])) := by rw [h4]; exact (va_up_ne _ _ (fk hm hde rfl)).trans ((va_up_ne _ _ (fk hm ha rfl)).trans (hm))
  have f12 : w2 cm = some (.inl (0, cn, .inl (fun j9 => nI (d j9)))) := by rw [h4]; exact (va_up_ne _ _ (nd_ne hN 4 3 rfl rfl rfl)).trans ((va_up_ne _ _ (nd_ne hN 4 2 rfl rfl rfl)).trans (hc))
  have f13 : w2 nm = some (.inr (1, [va_rf bf2, va_rf nx2, .ref cx, .int (nI cl2), .int (nI 0), .int (nI 0), .int (nI 1000000), .int (nI 0), va_rf none, va_rf none])) := by rw [h4]; exact (va_up_ne _ _ (fk hnm hde rfl)).trans ((va_up_ne _ _ (fk hnm ha rfl)).trans (hnm))
  have f14 : w2 cx = some (.inl (0, xn, .inl (fun j9 => nI (x j9)))) := by rw [h4]; exact (va_up_ne _ _ (nd_ne hN 5 3 rfl rfl rfl)).trans ((va_up_ne _ _ (nd_ne hN 5 2 rfl rfl rfl)).trans (hcx))
  have f15 : w2 la = some (.inr (1, [va_rf bf3, va_rf nx3, .ref ca3, .int (nI cl3), .int (nI pe3), .int (nI pb3), .int (nI pc3), .int (nI an3), va_rf av3, va_rf ah3])) := by rw [h4]; exact (va_up_ne _ _ (fk hlm hde rfl)).trans ((va_up_ne _ _ (fk hlm ha rfl)).trans (hlm))
  have hb16 : ∀ j9, (silA d a (u 1) (u 6) dd bh (p 2) (pc + p 3) ev) j9 ≤ 1000000 := psF_le (fil_le hab (fun j _ => ar0_le hdd))
  have hb17 : ∀ j9, (silD d (u 1) dd (p 2) ev) j9 ≤ 1000000 := fil_le hdb (fun j _ => depF_le)
  refine j_iconst (v := nI 0) dX0_hear_52 (by decide) ?_
  refine j_istore (lv' := [(4, .int (nI 0)), (0, .ref fo), (1, .int (nI no)), (2, .int (nI t)), (3, .ref nm)]) dX0_hear_53 (Nat.le_of_ble_eq_true rfl) rfl ?_
  refine j_lv (lv' := [(0, .ref fo), (1, .int (nI no)), (2, .int (nI t)), (3, .ref nm), (4, .int (nI 0))]) [1, 2, 3, 4, 0] rfl ?_
  refine l_hear f5 f6 f7 f8 f9 f10 f11 f12 f13 f14 hM hpb hb16 hb17 hst hcn hdd hsx hxn hmn hN hno hk0 hn0 (fun i9 wz hwz => ?_) (ev + 1) 0 x 0 0 1000000 w2 (by omega) (by omega) hxb (by omega) rfl (by rw [up_same f14, up_same f13])
  have f18 : wz fo = some (.inr (0, [.ref sc, .ref pr, .ref ar, .ref de, .ref ms, .ref mn, .int (nI nt)])) := by rw [hwz]; exact (va_up_ne _ _ (fk f5 f13 rfl)).trans ((va_up_ne _ _ (fk f5 f14 rfl)).trans (f5))
  have f19 : wz sc = some (.inr (3, [.ref fa, .int (nI ev), .int (nI be), .int (nI cu), .int (nI st), .int (nI me), .int (nI pa)])) := by rw [hwz]; exact (va_up_ne _ _ (fk f6 f13 rfl)).trans ((va_up_ne _ _ (fk f6 f14 rfl)).trans (f6))
  have f20 : wz fa = some (.inl (0, 1400, .inl f)) := by rw [hwz]; exact (va_up_ne _ _ (fk f7 f13 rfl)).trans ((va_up_ne _ _ (nd_ne hN 0 5 rfl rfl rfl)).trans (f7))
  have f21 : wz pr = some (.inl (0, 4, .inl (fun j9 => nI (p j9)))) := by rw [hwz]; exact (va_up_ne _ _ (fk f8 f13 rfl)).trans ((va_up_ne _ _ (nd_ne hN 1 5 rfl rfl rfl)).trans (f8))
  have f22 : wz ar = some (.inl (0, 100, .inl (fun j9 => nI ((silA d a (u 1) (u 6) dd bh (p 2) (pc + p 3) ev) j9)))) := by rw [hwz]; exact (va_up_ne _ _ (fk f9 f13 rfl)).trans ((va_up_ne _ _ (nd_ne hN 2 5 rfl rfl rfl)).trans (f9))
  have f23 : wz de = some (.inl (0, 100, .inl (fun j9 => nI ((silD d (u 1) dd (p 2) ev) j9)))) := by rw [hwz]; exact (va_up_ne _ _ (fk f10 f13 rfl)).trans ((va_up_ne _ _ (nd_ne hN 3 5 rfl rfl rfl)).trans (f10))
  have f24 : wz mn = some (.inr (1, [va_rf bf, va_rf nx, .ref cm, .int (nI cl), .int (nI pe), .int (nI pb), .int (nI pc), .int (nI an), va_rf (some la), va_rf ah])) := by rw [hwz]; exact (va_up_ne _ _ hmn).trans ((va_up_ne _ _ (fk f11 f14 rfl)).trans (f11))
  have f25 : wz cm = some (.inl (0, cn, .inl (fun j9 => nI (d j9)))) := by rw [hwz]; exact (va_up_ne _ _ (fk f12 f13 rfl)).trans ((va_up_ne _ _ (nd_ne hN 4 5 rfl rfl rfl)).trans (f12))
  have f26 : wz nm = some (.inr (1, [va_rf bf2, va_rf nx2, .ref cx, .int (nI cl2), .int (nI ((evF d (silA d a (u 1) (u 6) dd bh (p 2) (pc + p 3) ev) (u 1) (fun e => riB f e no (u 0 e) (u 1 e)) (fun e => decide (u 0 e = 2)) xn (p 1) (p 0) ev 0 (x, 1000000, 0, 0)).2.2.1)), .int (nI ((evF d (silA d a (u 1) (u 6) dd bh (p 2) (pc + p 3) ev) (u 1) (fun e => riB f e no (u 0 e) (u 1 e)) (fun e => decide (u 0 e = 2)) xn (p 1) (p 0) ev 0 (x, 1000000, 0, 0)).2.2.2)), .int (nI ((evF d (silA d a (u 1) (u 6) dd bh (p 2) (pc + p 3) ev) (u 1) (fun e => riB f e no (u 0 e) (u 1 e)) (fun e => decide (u 0 e = 2)) xn (p 1) (p 0) ev 0 (x, 1000000, 0, 0)).2.1)), .int (nI 0), va_rf none, va_rf none])) := by rw [hwz]; exact va_up_self _ _ _
  have f27 : wz cx = some (.inl (0, xn, .inl (fun j9 => nI (((evF d (silA d a (u 1) (u 6) dd bh (p 2) (pc + p 3) ev) (u 1) (fun e => riB f e no (u 0 e) (u 1 e)) (fun e => decide (u 0 e = 2)) xn (p 1) (p 0) ev 0 (x, 1000000, 0, 0)).1) j9)))) := by rw [hwz]; exact (va_up_ne _ _ (fk f14 f13 rfl)).trans (va_up_self _ _ _)
  have f28 : wz la = some (.inr (1, [va_rf bf3, va_rf nx3, .ref ca3, .int (nI cl3), .int (nI pe3), .int (nI pb3), .int (nI pc3), .int (nI an3), va_rf av3, va_rf ah3])) := by rw [hwz]; exact (va_up_ne _ _ hla).trans ((va_up_ne _ _ (fk f15 f14 rfl)).trans (f15))
  have hev9 := hM.hev
  have hpe9 : (evF d (silA d a (u 1) (u 6) dd bh (p 2) (pc + p 3) ev) (u 1) (fun e => riB f e no (u 0 e) (u 1 e)) (fun e => decide (u 0 e = 2)) xn (p 1) (p 0) ev 0 (x, 1000000, 0, 0)).2.2.1 ≤ 100 := evF_pe (by omega) (Nat.zero_le _)
  refine j_aload_n dX0_hear_88 0 rfl ?_
  refine j_aload_n dX0_hear_89 3 rfl ?_
  refine j_callV (rm := rX0_dropAnchor) (As := [.ref nm]) (st := []) (b0 := fo) (ci := 0) (na := 1) (c_dropAnchor1 f18 f26 hmn f24 f28 hla (by omega) (by omega) (by omega)) (by intro E w9 h9; first | exact nomatch h9.1 | (obtain ⟨_, h9, _⟩ := h9; exact nomatch h9) | (obtain ⟨_, _, _, h9, _⟩ := h9; exact nomatch h9)) gX0_hear_X0_dropAnchor rfl rfl f18 (by decide +kernel) rfl ⟨Nat.le_of_ble_eq_true rfl, Nat.le_of_ble_eq_true rfl⟩ rfl (Nat.le_of_ble_eq_true rfl) dX0_hear_90 ⟨(show k0 + 0 ≤ 3 by omega), (show n0 + 0 ≤ 1610 by omega)⟩ (fun v29 w30 h31 => ?_)
  obtain ⟨h31, h32⟩ := h31
  cases h31
  refine j_after (st' := []) (k' := k0) (n' := n0) rfl rfl rfl ?_
  have f33 := up_at h32
  have f34 := up_ne h32 (Ne.symm (fk f26 f18 rfl)) f18
  have f35 := up_ne h32 (fk f22 f26 rfl) f22
  have f36 := up_ne h32 (fk f23 f26 rfl) f23
  have f37 := up_ne h32 (fk f27 f26 rfl) f27
  refine j_aload_n dX0_hear_93 0 rfl ?_
  refine j_aload_n dX0_hear_94 3 rfl ?_
  refine j_put (fs9 := [.ref sc, .ref pr, .ref ar, .ref de, .ref ms, .ref nm, .int (nI nt)]) fsX0_hear_30 f34 rfl rfl (Nat.le_of_ble_eq_true rfl) rfl dX0_hear_95 ?_
  refine j_w (fun w38 hw38 => ?_)
  have f39 := up_ne hw38 (fk f35 f34 rfl) f35
  have f40 := up_ne hw38 (fk f36 f34 rfl) f36
  have f41 := up_ne hw38 (fk f37 f34 rfl) f37
  have f42 : w38 fo = some (.inr (0, [.ref sc, .ref pr, .ref ar, .ref de, .ref ms, .ref nm, .int (nI nt)])) := up_at hw38
  have f43 := up_ne hw38 (fk f26 f18 rfl) f33
  refine j_aload_n dX0_hear_98 0 rfl ?_
  refine j_dup dX0_hear_99 rfl ?_
  refine j_get flX0_hear_57 f42 rfl dX0_hear_100 ?_
  refine j_iconst (v := nI 1) dX0_hear_103 (by decide) ?_
  refine j_iaddN dX0_hear_104 ?_
  refine j_put (fs9 := [.ref sc, .ref pr, .ref ar, .ref de, .ref ms, .ref nm, .int (nI (nt + 1))]) fsX0_hear_57 f42 rfl rfl (Nat.le_of_ble_eq_true rfl) rfl dX0_hear_105 ?_
  refine j_w (fun w44 hw44 => ?_)
  have f45 := up_ne hw44 (fk f39 f42 rfl) f39
  have f46 := up_ne hw44 (fk f40 f42 rfl) f40
  have f47 := up_ne hw44 (fk f41 f42 rfl) f41
  have f48 : w44 fo = some (.inr (0, [.ref sc, .ref pr, .ref ar, .ref de, .ref ms, .ref nm, .int (nI (nt + 1))])) := up_at hw44
  have f49 := up_ne hw44 (fk f26 f18 rfl) f43
  exact j_vret rfl ⟨rfl, ⟨f45, f46, f47, f49, f48⟩, ((((((Fr.refl : Fr [ar, de, cx, nm, fo] w w).trans (Fr.up2 h4 (by simp) (by simp))).trans (Fr.up2 hwz (by simp) (by simp))).trans (Fr.up h32 (by simp))).trans (Fr.up hw38 (by simp))).trans (Fr.up hw44 (by simp)))⟩ (show k0 ≤ 3 by omega) (show n0 ≤ 1610 by omega) dX0_hear_108
