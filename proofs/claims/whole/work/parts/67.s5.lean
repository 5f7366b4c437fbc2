/-! a note heard, of the class and of the model -/
theorem hear_eq {f : Nat → Int32} {ev st be : Nat} {u : Nat → Nat → Nat} {p a dd d c o x0 x9 : Nat → Nat} {xp : Nat → Int32} {mk : Nat → Bool} {no nt cn9 e b pc : Nat} {X : Nat → Nat} {T : Nat × Nat × Nat} {H : (Nat → Nat) × Nat × Nat × Nat} (hM : Mus f ev st u (bhF f)) (hRT : RT f ev be st) (hR3 : ∀ e, e < ev → ∀ k, k < cl f 1 e → PV (f (e * 14 + (9 + k)))) (hxp : ∀ e, e < ev → ∀ k, k < u 1 e → f (e * 14 + (9 + k)) = xp (4 * e + k)) (hl : LK ev (u 1) c d e b pc nt) (hev0 : 0 < ev) (hnt : nt < 400) (hp : ∀ j, p j ≤ 50) (hno : no < 128)
    (hB : BDF c (u 1) (bhF f) mk (p 2) (p 3) ev o) (hmk : ∀ e, e < ev → (u 6 e = 1 ↔ mk e = true)) (hx0 : ∀ j, x0 j ≤ 268435456) (hcn : st ≤ cn9) (hX : X = heF o (u 0) (u 1) xp p no ev 0 (fil x0 (fun _ => 268435456) 1600)) (hT : T = fpE X (u 1) ev 0 (268435456, 0, 0)) (hH : H = hrF f u (bhF f) p a dd d no ev st pc cn9 x9) :
    T.1 < 1000000 ∧ H.2.1 = T.1 ∧ H.2.2 = T.2 ∧ LK ev (u 1) X H.1 T.2.1 T.2.2 T.1 (nt + 1) ∧ (∀ j, X j ≤ 268435456) ∧ T.2.1 < ev ∧ T.2.2 < 16 := by
  obtain ⟨l1, l2, l3, l4, l5, l6, l7⟩ := hl
  have hev := hM.hev
  have hm4 : ∀ e, e < ev → u 1 e ≤ 4 := fun e he => (hM.bd he).2.1
  have hsil := sil_eq (a := a) (dd := dd) l1 hm4 hev hB hmk (fun e he b hb => by have := hM.hbh he hb; omega) (l4 hev0).1 (l4 hev0).2 l5 (by omega) l6
  obtain ⟨hob, hobn⟩ := bd_bn hB hm4 (hp 2) l2 l3 (by omega) hev
  have hoN : ∀ j, o j ≤ 268435456 := hB.1.1
  have h16 : ∀ e, e < ev → 2 ^ u 1 e ≤ 16 := fun e he => Nat.pow_le_pow_right (n := 2) (by omega) (hm4 e he)
  have hc : ∀ e, e < ev → ∀ b, b < 2 ^ u 1 e → tnC d (sumP (u 1) e) (silA d a (u 1) (u 6) dd (bhF f) (p 2) (pc + p 3) ev e) b = phi (o (16 * e + b)) := fun e he b hb => by
    unfold tnC
    by_cases hb0 : b = 0
    · rw [if_pos hb0, hb0]; exact hsil e he
    · have := h16 e he
      rw [if_neg hb0, l1 e he b hb, hB.1.2.1 (16 * e + b) (by omega) (fun e' _ => by omega)]
  have hX0 : BN (u 1) ev (fil x0 (fun _ => 268435456) 1600) (50 * (nt + 1)) := fun e he b hb => by
    have := h16 e he
    unfold fil
    rw [if_pos (by omega)]
    exact Or.inl rfl
  have hXbn : BN (u 1) ev X (50 * (nt + 1)) := by
    rw [hX]
    refine heF_bn hm4 hp (fun e he b hb => ?_) (by omega) hX0
    rcases hobn e he b hb with z | z
    · exact Or.inl z
    · exact Or.inr (by omega)
  have ho0 : o 0 ≤ 50 * nt := by have := hob 0 hev0; simpa using this
  have hX00 : X 0 ≤ 50 * (nt + 1) := by
    have h1 : X 0 ≤ o 0 + p 1 := by rw [hX]; exact heF_00 hev0 (by omega)
    have h2 := hp 1
    omega
  have hXN : ∀ j, X j ≤ 268435456 := fun j => by
    rw [hX]
    refine Nat.le_trans heF_dn ?_
    unfold fil
    split
    · exact Nat.le_refl _
    · exact hx0 j
  have hXb : ∀ e1, e1 < ev → ∀ b, b < 2 ^ u 1 e1 → X (16 * e1 + b) = 268435456 ∨ X (16 * e1 + b) < 1000000 := fun e1 h1 b hb => (hXbn e1 h1 b hb).imp id (fun z => by omega)
  have hK : ∀ e, e < ev → EvK f xp (u 0 e) (u 1 e) e := fun e he => by
    have q1 := (hM.bd he).1
    have q2 := (hM.bd he).2.1
    have c0 : u 0 e = cl f 0 e := (cl_at (hM.c0 he) (by omega)).symm
    have c1 : u 1 e = cl f 1 e := (cl_at (hM.c1 he) (by omega)).symm
    have hr := hRT.1 e he
    refine ⟨q2, by rw [c0, c1]; exact hr.2.1, fun i hi => ⟨hxp e he i hi, ?_⟩, fun i j hij hj => ?_⟩
    · rw [← hxp e he i hi]; exact hR3 e he i (by rw [← c1]; exact hi)
    · rw [← hxp e he i (by omega), ← hxp e he j hj]
      exact hr.1.2.2.2.2.2 i j hij (by rw [← c1]; exact hj)
  have hstp : st = sumP (u 1) ev := hM.2.1
  have hRi : REL (u 1) ev (fil x0 (fun _ => 268435456) 1600) (clr x9 st) := fun e he b hb => by
    have h1 : sumP (u 1) (e + 1) ≤ sumP (u 1) ev := sumP_mono (by omega)
    simp only [sumP] at h1
    have := h16 e he
    unfold clr fil
    rw [if_pos (by omega), if_pos (by omega)]
    rfl
  have hmain := ev_eq (p := p) (xk := u 0) hm4 (show sumP (u 1) ev ≤ cn9 by omega) hK hno hoN hc (k := ev) (e := 0) (t := (1000000, 0, 0)) (T := (268435456, 0, 0)) (by omega) hRi ⟨rfl, rfl, Or.inl rfl⟩ (by rw [← hX]; exact hXb)
  rw [← hX, ← hT] at hmain
  have hHe : H = evF d (silA d a (u 1) (u 6) dd (bhF f) (p 2) (pc + p 3) ev) (u 1) (fun e => riB f e no (u 0 e) (u 1 e)) (fun e => decide (u 0 e = 2)) cn9 (p 1) (p 0) ev 0 (clr x9 st, 1000000, 0, 0) := hH
  rw [← hHe] at hmain
  obtain ⟨hR9, ht1, ht2, ht3⟩ := hmain
  have hmin := fpE_min (X := X) (np := u 1) (k := ev) (e := 0) (T := (268435456, 0, 0))
  rw [← hT] at hmin
  have hT0 : T.1 ≤ X 0 := hmin.2 0 (Nat.le_refl _) (by omega) 0 (Nat.two_pow_pos _)
  have hTs : T.1 < 1000000 := by omega
  have hat := fpE_at (X := X) (np := u 1) (P := fun T' => T'.1 = 268435456 ∨ (T'.2.1 < ev ∧ T'.2.2 < 2 ^ u 1 T'.2.1 ∧ X (16 * T'.2.1 + T'.2.2) = T'.1)) (k := ev) (e := 0) (T := (268435456, 0, 0)) (fun e' _ h2 b hb => Or.inr ⟨(show e' < ev by omega), hb, rfl⟩) (Or.inl rfl)
  rw [← hT] at hat
  rcases hat with z | ⟨z1, z2, z3⟩
  · omega
  · refine ⟨hTs, ?_, ht2, ⟨hR9, hXbn, hX00, fun _ => ⟨z1, z2⟩, z3, fun e' he' b' hb' => hmin.2 e' (Nat.zero_le _) (by omega) b' hb', by omega⟩, hXN, z1, Nat.lt_of_lt_of_le z2 (h16 _ z1)⟩
    rw [ht1]
    unfold phi
    exact Nat.min_eq_left (by omega)
section
variable {M : Nat → Prop} {A cr : Nat → Nat} {pt mm : Nat} {w : pW} {σ : St} {u cs : Nat → Nat → Nat}
theorem S_heard {x y : Int32} (hS : MS A cr mm) (hI : CI M w pt σ) (hP : PU σ u cs) (hMK : MK M w) : SX Value.int "java/lang/IllegalArgumentException" false M A cr pt mm w σ u cs yX5_heard wsX5_heard rX5_heard [.ref pt, .int x, .int y] yX6_heard wsX6_heard rX6_heard [.ref mm, .int x, .int y] := by
  obtain ⟨t, tl, ld, flt, fp, ⟨sd1, mr1, cu1, mk1, cd1, rp1, np1, oc1, f, ev, be, cq, st, me, pa⟩, p, nt, mcl, pe, pb, mpc, md⟩ := σ
  have hP' := hP
  obtain ⟨⟨hRJ, hR3, hM⟩, ⟨hnt, hn0, hp0, hb0, hc0⟩, ⟨hpe, hpb, hmb, hpp, ht, htl, hcs⟩, hmono, hL, h00⟩ := hP'
  have hI' := hI
  obtain ⟨tx, rd, to, sd, fd, sc, fa, fo, pr, ar, de, a, dd, ml, ca, K, mcn, hCW, ⟨hN1, hN2⟩, hst⟩ := hI'
  have hCW' := hCW
  obtain ⟨⟨e1, e2, e3, e4⟩, ⟨_, _, _, _, _, _, e5⟩, ⟨_, _, _, _, _, _, _, e6, e7⟩, ⟨_, _, _, _, _, _, e8⟩, ⟨e9, e10, e11⟩, ⟨e12, e13, e14, e15, e16⟩, e17, e18, e19⟩ := hCW'
  rcases i_rg (K := 127) (by omega) x with hb | ⟨no, hno, rfl⟩
  · refine SX.bad (r := nI 0) hI hP (c_heardBadN e1 hb) (fun w8 th h8 => MIx hS h8 (fun fs pg os nu ot f2 a9 xp xl xi xc o0 ae aT tM hJ => ?_))
    obtain ⟨⟨jm, jA⟩, ⟨g0, g2, g3, g4⟩, ⟨g5, g6, g7, g8, g9⟩, ⟨g21, g26, g34, g43, g44⟩, ⟨⟨b10, b11, b12, b13, b14, b15, b16, b17, b18, b19⟩, hT, hpg⟩, ⟨a1, a20, htm, htb⟩, ⟨a35, a36, a37, a38, a39, a40⟩, ⟨a41, a42, hAN⟩, hrow, ⟨hrd, hsd, hmk, hcd, hot, hos, ho0⟩⟩ := hJ
    exact m_heardBadN hS.1 jm jA hb
  rcases i_rg (K := 100000000) (by omega) y with hb | ⟨tt, htt, rfl⟩
  · refine SX.bad (r := nI 0) hI hP (c_heardBadT e1 (by omega) hb) (fun w8 th h8 => MIx hS h8 (fun fs pg os nu ot f2 a9 xp xl xi xc o0 ae aT tM hJ => ?_))
    obtain ⟨⟨jm, jA⟩, ⟨g0, g2, g3, g4⟩, ⟨g5, g6, g7, g8, g9⟩, ⟨g21, g26, g34, g43, g44⟩, ⟨⟨b10, b11, b12, b13, b14, b15, b16, b17, b18, b19⟩, hT, hpg⟩, ⟨a1, a20, htm, htb⟩, ⟨a35, a36, a37, a38, a39, a40⟩, ⟨a41, a42, hAN⟩, hrow, ⟨hrd, hsd, hmk, hcd, hot, hos, ho0⟩⟩ := hJ
    exact m_heardBadT hS.1 jm jA (by omega) hb
  have hev := hM.hev
  have hRT : RT f ev be st := hRJ.2.1
  have hc1 := c_heardW e17 e12 e9 e10 e13 e14 e15 hM hpp e16.2.1 e16.2.2 (hst nt (Nat.le_refl _)) (by simp [va_nd, nd_ne e18 1 2 rfl rfl rfl, nd_ne e18 1 3 rfl rfl rfl, nd_ne e18 1 4 rfl rfl rfl, nd_ne e18 2 3 rfl rfl rfl, nd_ne e18 2 4 rfl rfl rfl, nd_ne e18 3 4 rfl rfl rfl]) (fun i hi => (e19 i hi).2) (show no < 128 by omega) (by have := (hL nt (Nat.le_refl _)).2.2.2.2.2.2; omega) (fun i _ => hpe i) e1 htt (by omega) (by have := hmb nt; omega)
  have hif : (if nt = 0 then 0 else mcl nt) = (if nt = 0 then 0 else mcl (nt - 1 + 1)) := by
    by_cases h0 : nt = 0
    · rw [if_pos h0, if_pos h0]
    · rw [show nt - 1 + 1 = nt by omega]
  by_cases hy : 0 < ev ∧ nt < 400 ∧ (if nt = 0 then 0 else mcl nt) ≤ tt
  · have hmt : nt = 0 ∨ mcl nt ≤ tt := by
      by_cases h0 : nt = 0
      · exact Or.inl h0
      · have := hy.2.2; rw [if_neg h0] at this; exact Or.inr this
    refine ⟨fun b τ => ∃ (cn9 : Nat) (x9 : Nat → Nat), b = some (nI (hrF f u (bhF f) p a dd (md nt) no ev st (mpc nt) cn9 x9).2.2.1) ∧ st ≤ cn9 ∧ τ = (t, tl, ld, flt, fp, (sd1, mr1, cu1, mk1, cd1, rp1, np1, oc1, f, ev, be, cq, st, me, pa), p, nt + 1, va_up mcl (nt + 1) tt, va_up pe (nt + 1) (hrF f u (bhF f) p a dd (md nt) no ev st (mpc nt) cn9 x9).2.2.1, va_up pb (nt + 1) (hrF f u (bhF f) p a dd (md nt) no ev st (mpc nt) cn9 x9).2.2.2, va_up mpc (nt + 1) (hrF f u (bhF f) p a dd (md nt) no ev st (mpc nt) cn9 x9).2.1, va_up md (nt + 1) (hrF f u (bhF f) p a dd (md nt) no ev st (mpc nt) cn9 x9).1), (fun z => nomatch z), hc1.imp ?_, ?_⟩
    · rintro o w9 (h | h)
      · exact absurd h.1 (by omega)
      · obtain ⟨-, nm, q, K9, cn9, x9, ho, hs9, hx9, hq, hK, hC9, har, hde, hfo, hF⟩ := h
        have hab : ∀ j, silA (md nt) a (u 1) (u 6) dd (bhF f) (p 2) (mpc nt + p 3) ev j ≤ 1000000 := psF_le (fil_le e16.2.1 (fun j _ => ar0_le (e17.2.2.1 nt e17.1).2.2))
        have hdb : ∀ j, silD (md nt) (u 1) dd (p 2) ev j ≤ 1000000 := fil_le e16.2.2 (fun j _ => depF_le)
        have hW := hCW.hear hq hK hC9 har hde hab hdb hfo hF
        refine ⟨some _, _, ho, ⟨_, _, _, _, _, _, _, _, _, _, _, _, _, _, _, _, _, hW, ⟨hN1, fun i hi => ?_⟩, fun i (hi : i ≤ nt + 1) => ?_⟩, fun x c hx hc => ?_, cn9, x9, rfl, hs9, rfl⟩
        · by_cases hin : i = nt + 1
          · rw [hin, va_up_self]
            rcases hq with z | z
            · rw [z.2]; exact hN2 _ z.1
            · exact hMK.new z
          · rw [va_up_ne _ _ hin]; exact hN2 i (by omega)
        · by_cases hin : i = nt + 1
          · rw [hin, va_up_self]; exact hs9
          · rw [va_up_ne _ _ hin]; exact hst i (by omega)
        · refine hF x c hc (fun z => hN1 ar (by simp) (z ▸ hx)) (fun z => hN1 de (by simp) (z ▸ hx)) (fun z => hMK.out e12 (by decide) (z ▸ hx)) (fun i hi => ⟨fun z => ?_, fun z => hN2 i hi (z ▸ hx)⟩)
          obtain ⟨_, _, _, em, -⟩ := e17.2.1 i hi
          unfold momE at em
          exact hMK.out em (by decide) (z ▸ hx)
    · rintro b τ ⟨cn9, x9, rfl, hs9, rfl⟩ w8 th ⟨fs, pg, os, nu, ot, f2, a9, xp, xl, xi, xc, o0, ae, aT, tM, hJ⟩
      obtain ⟨⟨jm, jA⟩, ⟨g0, g2, g3, g4⟩, ⟨g5, g6, g7, g8, g9⟩, ⟨g21, g26, g34, g43, g44⟩, ⟨⟨b10, b11, b12, b13, b14, b15, b16, b17, b18, b19⟩, hT, hpg⟩, ⟨a1, a20, htm, htb⟩, ⟨a35, a36, a37, a38, a39, a40⟩, ⟨a41, a42, hAN⟩, hrow, ⟨hrd, hsd, hmk, hcd, hot, hos, ho0⟩⟩ := hJ
      have hxi : ∀ e, e < ev → xi e = zb (decide (u 6 e = 1)) := fun e he => by
        have z6 : xi e = nI (u 6 e) := (hT e he).2.1.2.2.2.2.2.1.symm.trans (hM.c6 he)
        have h6 := (hM.bd he).2.2.2.2.2.2.1
        rw [z6]
        rcases (show u 6 e = 0 ∨ u 6 e = 1 by omega) with z | z <;> rw [z] <;> rfl
      have hxl : ∀ e, e < ev → xl e = on1 (bhF f e) ∧ ∀ b, bhF f e = some b → b ≤ e := fun e he => ⟨(hT e he).2.1.2.2.2.2.2.2.2.1.symm.trans (hM.c8 he), fun b hb => hM.hbh he hb⟩
      have hk2 : ∀ e, e < ev → u 0 e < 4 ∧ (u 0 e = 2 → u 1 e = 1) := fun e he => by
        have q1 := (hM.bd he).1
        have q2 := (hM.bd he).2.1
        have c0 : u 0 e = cl f 0 e := (cl_at (hM.c0 he) (by omega)).symm
        have c1 : u 1 e = cl f 1 e := (cl_at (hM.c1 he) (by omega)).symm
        refine ⟨q1, fun z => ?_⟩
        have hr := (hRT.1 e he).2.1
        rw [← c0, ← c1] at hr
        unfold kO at hr
        omega
      refine (m_heardYes (ti := fun j => mcl (j + 1)) (mk := fun e => decide (u 6 e = 1)) (bh := bhF f) hS.1 jm jA g5 g34 b10 b11 b12 b17 b18 a35 a36 a37 a38 a39 a40 a41 a42 (hrow nt (by omega)) (hrow (nt + 1) (by omega)) (hS.2.1 nt (by omega)) (hS.2.1 (nt + 1) (by omega)) (fun z => by have := hS.2.2 _ _ (by omega) (by omega) z; omega) hev (fun e he => (hM.bd he).2.1) hk2 hpp hxl hxi (hcs nt) ho0 (hcs (nt + 1)) hpe (fun j => hmb _) (show no < 128 by omega) htt hy.1 hy.2.1 (by
        rcases hmt with z | z
        · exact Or.inl z
        · by_cases h0 : nt = 0
          · exact Or.inl h0
          · refine Or.inr ?_
            try simp only
            rw [show nt - 1 + 1 = nt by omega]
            exact z)).imp ?_
      rintro o w9 ⟨o9, X, pe9, pb9, ae9, aT9, T, ho, fs9, ⟨hF, jm9, hff⟩, q0, q34, q43, hB, hX, hTT, hpe9, hpb9, qr, q35, q36, q37, q39, q41, q42, hAN9⟩
      obtain ⟨k1, k2, k3, k4, k5, k6, k7⟩ := hear_eq (H := (hrF f u (bhF f) p a dd (md nt) no ev st (mpc nt) cn9 x9)) (x9 := x9) (a := a) (dd := dd) hM hRT (fun e he k hk => hR3.1 e he k hk) (fun e he k hk => (hT e he).2.1.2.2.2.2.2.2.2.2 k hk) (hL nt (Nat.le_refl _)) hy.1 hy.2.1 hpp (show no < 128 by omega) hB (fun e he => by simp) (hcs (nt + 1)) hs9 hX hTT rfl
      have hpe9' : pe9 = va_up pe (nt + 1) (hrF f u (bhF f) p a dd (md nt) no ev st (mpc nt) cn9 x9).2.2.1 := by rw [hpe9, k3]; unfold plE; rw [if_pos (by omega)]
      have hpb9' : pb9 = va_up pb (nt + 1) (hrF f u (bhF f) p a dd (md nt) no ev st (mpc nt) cn9 x9).2.2.2 := by rw [hpb9, k3]; unfold plE; rw [if_pos (by omega)]
      have hti : va_up (fun j => mcl (j + 1)) nt tt = fun j => va_up mcl (nt + 1) tt (j + 1) := by
        funext j
        by_cases hj : j = nt
        · rw [hj, va_up_self, va_up_self]
        · rw [va_up_ne _ _ hj, va_up_ne _ _ (by omega)]
      rw [hpe9'] at ho q36 q43 hAN9
      rw [hpb9'] at q37
      rw [hti] at q35 hAN9
      rw [va_up_self] at ho
      have ka : ∀ {j : Nat} {e : Option pE}, isR j = true → [35, 36, 37, 39, 41, 42].contains j = false → w8 (A j) = e → w9 (A j) = e := fun hj hl hf => hF.ai hS.1 (hS.x2 (show nt + 1 < 401 by omega)) rfl _ hj hl hf
      have kf : ∀ {j : Nat} {x : Option Value}, [0, 34, 43].contains j = false → fs[j]? = x → fs9[j]? = x := fun hj hx => hff.at hj hx
      refine ⟨_, 0, u, va_up cs (nt + 1) X, ho, Or.inl ⟨rfl, rfl⟩, ⟨fs9, pg, os, nu, ot, f2, a9, xp, xl, xi, xc, o9, ae9, aT9, tM, ⟨jm9, jA.ff hff rfl⟩, ⟨q0, kf rfl g2, kf rfl g3, kf rfl g4⟩, ⟨kf rfl g5, kf rfl g6, kf rfl g7, kf rfl g8, kf rfl g9⟩, ⟨kf rfl g21, kf rfl g26, q34, q43, kf rfl g44⟩, ⟨TA.fr ⟨b10, b11, b12, b13, b14, b15, b16, b17, b18, b19⟩ hF hS.1 (hS.x2 (show nt + 1 < 401 by omega)) rfl rfl, hT, hpg⟩, ⟨ka rfl rfl a1, ka rfl rfl a20, htm, htb⟩, ⟨q35, q36, q37, ka rfl rfl a38, q39, ka rfl rfl a40⟩, ⟨q41, q42, hAN9⟩, fun i hi => ?_, ⟨hrd, hsd, hmk, hcd, hot, hos, hB.1.1⟩⟩, ⟨⟨hRJ, hR3, hM⟩, ⟨by omega, fun z => by omega, by rw [va_up_ne _ _ (by omega)]; exact hp0, by rw [va_up_ne _ _ (by omega)]; exact hb0, by rw [va_up_ne _ _ (by omega)]; exact hc0⟩, ⟨fun j => ?_, fun j => ?_, fun j => ?_, hpp, ht, htl, fun i j => ?_⟩, fun i j h1 h2 h3 => ?_, fun i hi => ?_, fun hv j hj => ?_⟩, KN.of hF (xs2 (by omega)) rfl⟩
      · by_cases h0 : i = nt + 1
        · rw [h0, va_up_self]; exact qr
        · rw [va_up_ne _ _ h0]
          exact (hF _ (hS.r2 hi (by omega) h0) (hS.rl hi rfl)).trans (hrow i hi)
      · by_cases h0 : j = nt + 1
        · rw [h0, va_up_self, k3]; omega
        · rw [va_up_ne _ _ h0]; exact hpe j
      · by_cases h0 : j = nt + 1
        · rw [h0, va_up_self, k3]; exact k7
        · rw [va_up_ne _ _ h0]; exact hpb j
      · by_cases h0 : j = nt + 1
        · rw [h0, va_up_self]; exact htt
        · rw [va_up_ne _ _ h0]; exact hmb j
      · by_cases h0 : i = nt + 1
        · rw [h0, va_up_self]; exact k5 j
        · rw [va_up_ne _ _ h0]; exact hcs i j
      · by_cases h0 : j = nt + 1
        · by_cases hi0 : i = nt + 1
          · rw [h0, hi0]; exact Nat.le_refl _
          · rw [h0, va_up_self, va_up_ne _ _ hi0]
            rcases hmt with z | z
            · omega
            · exact Nat.le_trans (hmono i nt h1 (by omega) (Nat.le_refl _)) z
        · rw [va_up_ne _ _ h0, va_up_ne _ _ (by omega)]; exact hmono i j h1 h2 (by omega)
      · by_cases h0 : i = nt + 1
        · rw [h0, va_up_self, va_up_self, va_up_self, va_up_self, va_up_self, k2, k3]; exact k4
        · rw [va_up_ne _ _ h0, va_up_ne _ _ h0, va_up_ne _ _ h0, va_up_ne _ _ h0, va_up_ne _ _ h0]; exact hL i (by omega)
      · rw [va_up_ne _ _ (show 0 ≠ nt + 1 by omega)]; exact h00 hv j hj
  · refine SX.ok (r := -1) hI hP rfl (hc1.imp ?_) (fun w8 th h8 => MIx hS h8 (fun fs pg os nu ot f2 a9 xp xl xi xc o0 ae aT tM hJ => ?_))
    · rintro o w9 (h | h)
      · exact h.2
      · exact absurd h.1 hy
    · obtain ⟨⟨jm, jA⟩, ⟨g0, g2, g3, g4⟩, ⟨g5, g6, g7, g8, g9⟩, ⟨g21, g26, g34, g43, g44⟩, ⟨⟨b10, b11, b12, b13, b14, b15, b16, b17, b18, b19⟩, hT, hpg⟩, ⟨a1, a20, htm, htb⟩, ⟨a35, a36, a37, a38, a39, a40⟩, ⟨a41, a42, hAN⟩, hrow, ⟨hrd, hsd, hmk, hcd, hot, hos, ho0⟩⟩ := hJ
      refine m_heardNo (ti := fun j => mcl (j + 1)) hS.1 jm jA g5 g34 a35 (show no < 128 by omega) htt hev hnt (fun j => hmb _) ?_
      by_cases z1 : ev = 0
      · exact Or.inl z1
      by_cases z2 : nt = 400
      · exact Or.inr (Or.inl z2)
      refine Or.inr (Or.inr ?_)
      by_cases h0 : nt = 0
      · exact absurd ⟨by omega, by omega, by rw [if_pos h0]; exact Nat.zero_le _⟩ hy
      · refine ⟨by omega, ?_⟩
        try simp only
        rw [show nt - 1 + 1 = nt by omega]
        exact Nat.not_le.mp (fun z => hy ⟨by omega, by omega, by rw [if_neg h0]; exact z⟩)
end
