/-! music, of the class and of the model -/
theorem Mus.cg {f : Nat → Int32} {ev st : Nat} {u u' : Nat → Nat → Nat} {bh : Nat → Option Nat} (h : Mus f ev st u bh) (hu : ∀ c e, e < ev → u' c e = u c e) : Mus f ev st u' bh := by
  have hs : ∀ e, e ≤ ev → sumP (u' 1) e = sumP (u 1) e := fun e he => sumP_cg (fun j hj => hu 1 j (by omega))
  refine ⟨h.1, by rw [hs ev (Nat.le_refl _)]; exact h.2.1, fun e he => ?_⟩
  rw [hu 0 e he, hu 1 e he, hu 2 e he, hu 3 e he, hu 4 e he, hu 5 e he, hu 6 e he, hu 7 e he, hs e (by omega)]
  exact h.2.2 e he
theorem Mus.u1 {f : Nat → Int32} {ev st st' : Nat} {u u' : Nat → Nat → Nat} {bh bh' : Nat → Option Nat} (h : Mus f ev st u bh) (h' : Mus f ev st' u' bh') : ∀ e, e < ev → u' 1 e = u 1 e := fun e he => by
  have q1 := (h.bd he).2.1
  have q2 := (h'.bd he).2.1
  exact (nI_eq (by omega) (by omega)).mp ((h'.c1 he).symm.trans (h.c1 he))
theorem LK.np {ev : Nat} {np np' c d : Nat → Nat} {e b pc n : Nat} (h : LK ev np c d e b pc n) (hn : ∀ e, e < ev → np' e = np e) : LK ev np' c d e b pc n := by
  obtain ⟨h1, h2, h3, h4, h5, h6, h7⟩ := h
  have hs : ∀ e, e ≤ ev → sumP np' e = sumP np e := fun e he => sumP_cg (fun j hj => hn j (by omega))
  refine ⟨fun e he b hb => ?_, fun e he b hb => ?_, h3, fun z => ?_, h5, fun e he b hb => ?_, h7⟩
  · rw [hn e he] at hb; rw [hs e (by omega)]; exact h1 e he b hb
  · rw [hn e he] at hb; exact h2 e he b hb
  · obtain ⟨q1, q2⟩ := h4 z; rw [hn e q1]; exact ⟨q1, q2⟩
  · rw [hn e he] at hb; exact h6 e he b hb
/-- the moment before the first note -/
theorem LK.zero {ev : Nat} {np c x9 : Nat → Nat} {st cn9 : Nat} (hg : ∀ j, j < 1600 → c j = g00 j) (hev : ev ≤ 100) (hm4 : ∀ e, e < ev → np e ≤ 4) (hst : st = sumP np ev) (hcn : st ≤ cn9) : LK ev np c (offN (clr x9 st) cn9 0 0) 0 0 0 0 := by
  have h0 : c 0 = 0 := hg 0 (by omega)
  have hx : ∀ e, e < ev → ∀ b, b < 2 ^ np e → c (16 * e + b) = g00 (16 * e + b) := fun e he b hb => by
    have : 2 ^ np e ≤ 2 ^ 4 := Nat.pow_le_pow_right (by omega) (hm4 e he)
    exact hg _ (by omega)
  refine ⟨fun e he b hb => ?_, fun e he b hb => ?_, by rw [h0]; exact Nat.zero_le _, fun z => ⟨z, Nat.two_pow_pos _⟩, h0, fun e he b hb => Nat.zero_le _, Nat.zero_le _⟩
  · have hlt : sumP np e + b < st := by
      have h1 : sumP np (e + 1) ≤ sumP np ev := sumP_mono (by omega)
      simp only [sumP] at h1
      omega
    rw [hx e he b hb]
    unfold offN
    rw [if_pos (by omega)]
    by_cases hz : sumP np e + b = 0
    · have hb0 : b = 0 := by omega
      have he0 : e = 0 := by
        cases e with
        | zero => rfl
        | succ e => have := Nat.two_pow_pos (np e); simp only [sumP] at hz; omega
      subst hb0; subst he0
      rw [hz, va_up_self, Nat.min_eq_right (Nat.zero_le _)]
      rfl
    · rw [va_up_ne _ _ hz]
      unfold clr
      rw [if_pos hlt]
      have hne : 16 * e + b ≠ 0 := fun q => hz (by
        have h1 : e = 0 := by omega
        have h2 : b = 0 := by omega
        subst h1; subst h2; rfl)
      unfold g00
      rw [if_neg hne]
      rfl
  · rw [hx e he b hb]
    unfold g00
    by_cases hz : 16 * e + b = 0
    · rw [if_pos hz]; exact Or.inr (Nat.zero_le _)
    · rw [if_neg hz]; exact Or.inl rfl
/-- the model's table in the class's numbers -/
theorem tab_u {A : Nat → Nat} {w : pW} {xk xm xb xs xe xg : Nat → Nat} {xp xl xi xc f : Nat → Int32} {ev be st : Nat} (hRT : RT f ev be st) (hev : ev ≤ 100) (hT : TBL xk xm xp xb xs xe xg xl xi xc f ev) (hA : TA A w xk xm xp xb xs xe xg xl xi xc) :
    ∃ u : Nat → Nat → Nat, TA A w (u 0) (u 1) xp (u 2) (u 3) (u 4) (u 5) xl xi xc ∧ TBL (u 0) (u 1) xp (u 2) (u 3) (u 4) (u 5) xl xi xc f ev ∧ Mus f ev st u (bhF f) := by
  have hMc := Mus_of hev hRT
  have hM := hMc.cg (u' := fun c e => if e < ev then cl f c e else (if c = 0 then xk else if c = 1 then xm else if c = 2 then xb else if c = 3 then xs else if c = 4 then xe else xg) e) (fun c e he => if_pos he)
  have key : ∀ (c : Nat) (x : Nat → Nat), (if c = 0 then xk else if c = 1 then xm else if c = 2 then xb else if c = 3 then xs else if c = 4 then xe else xg) = x → (∀ e, e < ev → nI (cl f c e) = nI (x e)) → (fun j9 => nI (if j9 < ev then cl f c j9 else (if c = 0 then xk else if c = 1 then xm else if c = 2 then xb else if c = 3 then xs else if c = 4 then xe else xg) j9)) = fun j9 => nI (x j9) := fun c x hx hn => by
    funext j
    by_cases hj : j < ev
    · rw [if_pos hj]; exact hn j hj
    · rw [if_neg hj, hx]
  have m0 := key 0 xk rfl (fun e he => (hMc.c0 he).symm.trans (hT e he).2.1.1)
  have m1 := key 1 xm rfl (fun e he => (hMc.c1 he).symm.trans (hT e he).2.1.2.1)
  have m2 := key 2 xb rfl (fun e he => (hMc.c2 he).symm.trans (hT e he).2.1.2.2.1)
  have m3 := key 3 xs rfl (fun e he => (hMc.c3 he).symm.trans (hT e he).2.2)
  have m4 := key 4 xe rfl (fun e he => (hMc.c4 he).symm.trans (hT e he).2.1.2.2.2.1)
  have m5 := key 5 xg rfl (fun e he => (hMc.c5 he).symm.trans (hT e he).2.1.2.2.2.2.1)
  refine ⟨_, ?_, fun e he => ?_, hM⟩
  · obtain ⟨h1, h2, h3, h4, h5, h6, h7, h8, h9, h10⟩ := hA
    have hq : ∀ {a : Nat} {g g' : Nat → Int32}, g' = g → w a = some (.inl (0, 100, .inl g)) → w a = some (.inl (0, 100, .inl g')) := fun e h => by rw [e]; exact h
    exact ⟨hq m0 h1, hq m1 h2, h3, hq m2 h4, hq m3 h5, hq m4 h6, hq m5 h7, h8, h9, h10⟩
  · obtain ⟨g0, ⟨g1, g2, g3, g4, g5, g6, g7, g8, g9⟩, g10⟩ := hT e he
    have hb := hM.bd he
    refine ⟨hb.2.1, ⟨hM.c0 he, hM.c1 he, hM.c2 he, hM.c4 he, hM.c5 he, g6, g7, g8, fun k hk => g9 k ?_⟩, hM.c3 he⟩
    have q : (if e < ev then cl f 1 e else (if 1 = 0 then xk else if 1 = 1 then xm else if 1 = 2 then xb else if 1 = 3 then xs else if 1 = 4 then xe else xg) e) = xm e := (nI_eq (by have := hb.2.1; omega) (by omega)).mp ((hM.c1 he).symm.trans g2)
    rw [← q]
    exact hk
section
variable {M : Nat → Prop} {A cr : Nat → Nat} {pt mm : Nat} {w : pW} {σ : St} {u cs : Nat → Nat → Nat}
theorem S_music {x : Int32} (hS : MS A cr mm) (hI : CI M w pt σ) (hP : PU σ u cs) (hMK : MK M w) : SX Value.int "java/lang/IllegalArgumentException" false M A cr pt mm w σ u cs yX5_music wsX5_music rX5_music [.ref pt, .int x] yX6_music wsX6_music rX6_music [.ref mm, .int x] := by
  obtain ⟨t, tl, ld, flt, fp, ⟨sd1, mr1, cu1, mk1, cd1, rp1, np1, oc1, f, ev, be, cq, st, me, pa⟩, p, nt, mcl, pe, pb, mpc, md⟩ := σ
  have hP' := hP
  obtain ⟨⟨hRJ, hR3, hM⟩, ⟨hnt, hn0, hp0, hb0, hc0⟩, ⟨hpe, hpb, hmb, hpp, ht, htl, hcs⟩, hmono, hL, h00⟩ := hP'
  have hI' := hI
  obtain ⟨tx, rd, to, sd, fd, sc, fa, fo, pr, ar, de, a, dd, ml, ca, K, mcn, hCW, ⟨hN1, hN2⟩, hst⟩ := hI'
  have hCW' := hCW
  obtain ⟨⟨e1, e2, e3, e4⟩, ⟨_, _, _, _, _, _, e5⟩, ⟨_, _, _, _, _, _, fd0, e6, e7⟩, ⟨_, _, _, _, _, _, e8⟩, ⟨e9, e10, e11⟩, ⟨e12, e13, e14, e15, e16⟩, e17, e18, e19⟩ := hCW'
  rcases i_rg (K := tl) (by omega) x with hb | ⟨n, hn, rfl⟩
  · refine SX.bad (r := nI 0) hI hP (c_musicBad e1 hb) (fun w8 th h8 => MIx hS h8 (fun fs pg os nu ot f2 a9 xp xl xi xc o0 ae aT tM hJ => ?_))
    obtain ⟨⟨jm, jA⟩, ⟨g0, g2, g3, g4⟩, ⟨g5, g6, g7, g8, g9⟩, ⟨g21, g26, g34, g43, g44⟩, ⟨⟨b10, b11, b12, b13, b14, b15, b16, b17, b18, b19⟩, hT, hpg⟩, ⟨a1, a20, htm, htb⟩, ⟨a35, a36, a37, a38, a39, a40⟩, ⟨a41, a42, hAN⟩, hrow, ⟨hrd, hsd, hmk, hcd, hot, hos, ho0⟩⟩ := hJ
    exact m_musicBad hS.1 jm jA g2 hb htl
  rcases hR : rRead t n fd0 with ⟨r1, r2, ⟨z1, z2, z3, z4, z5, z6, z7, z8, z9, z10, z11, z12, z13, z14, z15⟩⟩
  have hall := rRead_all (t := t) (ln := n) (f := fd0) ht
  rw [hR] at hall
  obtain ⟨hZJ, hZ3⟩ := hall
  have hZT : RT z9 z10 z11 z13 := hZJ.2.1
  have hZe : z10 ≤ 100 := hZJ.1.2.1
  have hKP : ∀ (l : List Nat) (w9 : pW), FrS l w w9 → (∀ x ∈ l, ¬ M x) → KP M w w9 := fun l w9 h hl x c hx hc => h x c (fun z => hl x z hx) hc
  have o1 := hMK.out e1 (by decide)
  have o2 := hMK.out e5 (by decide)
  have o3 := hMK.out e6 (by decide)
  have o4 := hMK.out e8 (by decide)
  have o5 := hMK.out e12 (by decide)
  have o6 := hN1 fd (by simp)
  have v1 : va_up pe 0 0 = pe := by have := va_up_id pe 0; rwa [hp0] at this
  have v2 : va_up pb 0 0 = pb := by have := va_up_id pb 0; rwa [hb0] at this
  have v3 : va_up mpc 0 0 = mpc := by have := va_up_id mpc 0; rwa [hc0] at this
  by_cases hr0 : r1 = 0
  · subst hr0
    have hMz := Mus_of hZe hZT
    refine ⟨fun b τ => ∃ (cn9 : Nat) (x9 : Nat → Nat), b = some (nI 0) ∧ z13 ≤ cn9 ∧ τ = (t, 0, ld, 0, -1, (z1, z2, z3, z4, z5, z6, z7, z8, z9, z10, z11, z12, z13, z14, z15), p, 0, mcl, pe, pb, mpc, va_up md 0 (offN (clr x9 z13) cn9 0 0)), (fun z => nomatch z), (c_musicW e1 e2 e5 e6 e7 e8 ht hn htl e9 e11 e12 e17 (fun i hi => (e19 i hi).1.symm) (by rw [hR]) (by rw [hR]; exact hMz.hst)).imp ?_, ?_⟩
    · rintro o w9 ⟨ho, ⟨q, cn9, x9, hq, hs9, hx9, hC9⟩, q0, hF, q1, q2, q3, q4, q5⟩
      rw [hR] at hs9 hC9 q2 q3 q4 q5
      have hW := hCW.music (R := (0, r2, (z1, z2, z3, z4, z5, z6, z7, z8, z9, z10, z11, z12, z13, z14, z15))) hq hC9 q0 hF q1 q2 q3 q4 q5
      rw [v1, v2, v3] at hW
      obtain ⟨_, _, _, em, -⟩ := e17.2.1 0 (Nat.zero_le _)
      unfold momE at em
      refine ⟨some _, _, ho, ⟨_, _, _, _, _, _, _, _, _, _, _, _, _, _, _, _, _, hW, ⟨fun x hx => hN1 x ?_, fun i hi => ?_⟩, fun i (hi : i ≤ 0) => ?_⟩, hKP _ _ hF ?_, cn9, x9, rfl, hs9, rfl⟩
      · simp only [List.mem_cons, List.not_mem_nil, or_false] at hx ⊢
        rcases hx with z | z | z | z | z | z
        · exact Or.inl z
        · exact Or.inr (Or.inr (Or.inl z))
        · exact Or.inr (Or.inl z)
        · exact Or.inr (Or.inr (Or.inr (Or.inl z)))
        · exact Or.inr (Or.inr (Or.inr (Or.inr (Or.inl z))))
        · exact Or.inr (Or.inr (Or.inr (Or.inr (Or.inr z))))
      · by_cases hi0 : i = 0
        · rw [hi0, va_up_self]
          rcases hq with z | z
          · rw [z]; exact hN2 0 (Nat.zero_le _)
          · exact hMK.new z
        · rw [va_up_ne _ _ hi0]; exact hN2 i hi
      · obtain rfl : i = 0 := by omega
        rw [va_up_self]; exact hs9
      · intro x hx
        simp only [List.mem_cons, List.not_mem_nil, or_false] at hx
        rcases hx with rfl | rfl | rfl | rfl | rfl | rfl | rfl | rfl
        · exact o1
        · exact o2
        · exact o3
        · exact o6
        · exact o4
        · exact o5
        · exact hMK.out em (by decide)
        · exact hN2 0 (Nat.zero_le _)
    · rintro b τ ⟨cn9, x9, rfl, hs9, rfl⟩ w8 th ⟨fs, pg, os, nu, ot, f2, a9, xp, xl, xi, xc, o0, ae, aT, tM, hJ⟩
      obtain ⟨⟨jm, jA⟩, ⟨g0, g2, g3, g4⟩, ⟨g5, g6, g7, g8, g9⟩, ⟨g21, g26, g34, g43, g44⟩, ⟨⟨b10, b11, b12, b13, b14, b15, b16, b17, b18, b19⟩, hT, hpg⟩, ⟨a1, a20, htm, htb⟩, ⟨a35, a36, a37, a38, a39, a40⟩, ⟨a41, a42, hAN⟩, hrow, ⟨hrd, hsd, hmk, hcd, hot, hos, ho0⟩⟩ := hJ
      have hRM : rRead tM n fd0 = rRead t n fd0 := rRead_cg (fun j hj => htm j (by omega))
      refine (m_musicOk (R := (0, r2, (z1, z2, z3, z4, z5, z6, z7, z8, z9, z10, z11, z12, z13, z14, z15))) (f := fd0) hS.1 jm jA g2 g21 g26 a1 b10 b11 b12 b13 b14 b15 b16 b17 b18 b19 a20 a36 a37 a38 (hrow 0 (by omega)) (hS.2.1 0 (by omega)) htb hn htl (by rw [hRM, hR]) rfl).imp ?_
      rintro o w9 ⟨ho, fs9, ⟨hF, jm9, hff⟩, q0, q2, q3, q4, q21, q23, q34, q43, ⟨nu9, q26⟩, q20, qr, q36, q37, xk', xm', xp', xb', xs', xe', xg', xl', xi', xc', hTA', y0, y1, y2, y3, y4, y5, y6, y7, y8, y9, y10, y11, y12, y13, y14, hEq, hJ', hsd', q5, q6, q7, q8, q9, hpg', hTB'⟩
      cases hEq
      rw [v1] at q36
      rw [v2] at q37
      have ka : ∀ {j : Nat} {e : Option pE}, isR j = true → [10, 11, 12, 13, 14, 15, 16, 17, 18, 19, 20, 36, 37].contains j = false → w8 (A j) = e → w9 (A j) = e := fun hj hl hf => hF.ai hS.1 (hS.x2 (show 0 < 401 by omega)) rfl _ hj hl hf
      have kf : ∀ {j : Nat} {x : Option Value}, [0, 2, 3, 4, 5, 6, 7, 8, 9, 21, 22, 23, 24, 25, 26, 27, 28, 29, 30, 31, 32, 33, 34, 43].contains j = false → fs[j]? = x → fs9[j]? = x := fun hj hx => hff.at hj hx
      have hg : ∀ j, j < 1600 → fil (cs 0) g00 1600 j = g00 j := fun j hj => by unfold fil; rw [if_pos hj]
      have hgb : ∀ j, g00 j ≤ 268435456 := fun j => by unfold g00; split <;> omega
      obtain ⟨u9, hTA9, hTB9, hM9⟩ := tab_u hZT hZe hTB' hTA'
      refine ⟨_, 0, u9, va_up cs 0 (fil (cs 0) g00 1600), ho, Or.inl ⟨rfl, rfl⟩, ⟨fs9, _, n, nu9, fil ot tM n, fd0, r2, xp', xl', xi', xc', o0, ae, aT, tM, ⟨jm9, jA.ff hff rfl⟩, ⟨q0, q2, q3, q4⟩, ⟨q5, q6, q7, q8, q9⟩, ⟨q21, q26, q34, q43, kf rfl g44⟩, ⟨hTA9, hTB9, hpg'⟩, ⟨ka rfl rfl a1, q20, fun j hj => absurd hj (Nat.not_lt_zero _), htb⟩, ⟨ka rfl rfl a35, q36, q37, ka rfl rfl a38, ka rfl rfl a39, ka rfl rfl a40⟩, ⟨ka rfl rfl a41, ka rfl rfl a42, (fun i a z => nomatch z)⟩, fun i hi => ?_, ⟨?_, hsd', rfl, rfl, fun j => ?_, by omega, ho0⟩⟩, ⟨⟨hZJ, hZ3, hM9⟩, ⟨by omega, fun _ => rfl, hp0, hb0, hc0⟩, ⟨hpe, hpb, hmb, hpp, ht, by omega, fun i j => ?_⟩, fun i j h1 h2 h3 => by omega, fun i hi => ?_, fun hv j hj => ?_⟩, KN.of hF (xs2 (by omega)) rfl⟩
      · by_cases h0 : i = 0
        · rw [h0, va_up_self]; exact qr
        · rw [va_up_ne _ _ h0]
          exact (hF _ (hS.r2 hi (by omega) h0) (hS.rl hi rfl)).trans (hrow i hi)
      · rw [rRead_cg (t' := t) (fun j hj => by unfold fil; rw [if_pos hj]; exact htm j (by omega))]
        exact hR
      · unfold fil
        split
        · exact htb j
        · exact hot j
      · by_cases h0 : i = 0
        · rw [h0, va_up_self]
          unfold fil
          split
          · exact hgb j
          · exact hcs 0 j
        · rw [va_up_ne _ _ h0]; exact hcs i j
      · obtain rfl : i = 0 := by omega
        rw [va_up_self, va_up_self, hp0, hb0, hc0]
        exact LK.zero hg hZe (fun e he => (hM9.bd he).2.1) hM9.2.1 hs9
      · rw [va_up_self]; exact hg j hj
  · refine ⟨fun b τ => b = some (nI r1) ∧ τ = (t, 0, ld, r1, nI r2, (sd1, mr1, cu1, mk1, cd1, rp1, np1, oc1, f, ev, be, cq, st, me, pa), p, nt, mcl, pe, pb, mpc, md), (fun z => nomatch z), (c_musicFault e1 e2 e5 e6 e7 e8 ht hn htl (by rw [hR]; exact hr0)).imp ?_, ?_⟩
    · rintro o w9 ⟨ho, hF, q1, q2, q3, q4, q5⟩
      rw [hR] at ho q2 q3 q4 q5
      have hW := hCW.musicF (f := fd0) (R := (r1, r2, (z1, z2, z3, z4, z5, z6, z7, z8, z9, z10, z11, z12, z13, z14, z15))) hF q1 q2 q3 q4 q5
      rw [show fpR (r1, r2, (z1, z2, z3, z4, z5, z6, z7, z8, z9, z10, z11, z12, z13, z14, z15)) = nI r2 from if_neg hr0] at hW
      refine ⟨some _, _, ho, ⟨_, _, _, _, _, _, _, _, _, _, _, _, _, _, _, _, _, hW, ⟨hN1, hN2⟩, hst⟩, hKP _ _ hF.s ?_, rfl, rfl⟩
      intro x hx
      simp only [List.mem_cons, List.not_mem_nil, or_false] at hx
      rcases hx with rfl | rfl | rfl | rfl | rfl
      · exact o1
      · exact o2
      · exact o3
      · exact o6
      · exact o4
    · rintro b τ ⟨rfl, rfl⟩ w8 th ⟨fs, pg, os, nu, ot, f2, a9, xp, xl, xi, xc, o0, ae, aT, tM, hJ⟩
      obtain ⟨⟨jm, jA⟩, ⟨g0, g2, g3, g4⟩, ⟨g5, g6, g7, g8, g9⟩, ⟨g21, g26, g34, g43, g44⟩, ⟨⟨b10, b11, b12, b13, b14, b15, b16, b17, b18, b19⟩, hT, hpg⟩, ⟨a1, a20, htm, htb⟩, ⟨a35, a36, a37, a38, a39, a40⟩, ⟨a41, a42, hAN⟩, hrow, ⟨hrd, hsd, hmk, hcd, hot, hos, ho0⟩⟩ := hJ
      have hRM : rRead tM n fd0 = rRead t n fd0 := rRead_cg (fun j hj => htm j (by omega))
      refine (m_musicF (R := (r1, r2, (z1, z2, z3, z4, z5, z6, z7, z8, z9, z10, z11, z12, z13, z14, z15))) (f := fd0) (R2 := (0, a9, (sd1, mr1, cu1, mk1, cd1, rp1, np1, oc1, f, ev, be, cq, st, me, pa))) (f2 := f2) hS.1 jm jA g2 g21 g26 a1 b10 b11 b12 b13 b14 b15 b16 b17 b18 b19 a20 htb hot hos hn htl (by rw [hRM, hR]) hr0 hrd.symm rfl).imp ?_
      rintro o w9 ⟨ho, fs9, ⟨hF, jm9, hff⟩, q0, q2, q3, q4, q23, ⟨nu9, q26⟩, q1, xk', xm', xp', xb', xs', xe', xg', xl', xi', xc', hTA', y0, y1, y2, y3, y4, y5, y6, y7, y8, y9, y10, y11, y12, y13, y14, hEq, hJ', hsd', q5, q6, q7, q8, q9, hpg', hTB'⟩
      cases hEq
      have ka : ∀ {j : Nat} {e : Option pE}, isR j = true → [10, 11, 12, 13, 14, 15, 16, 17, 18, 19, 1].contains j = false → w8 (A j) = e → w9 (A j) = e := fun hj hl hf => hF.ai hS.1 hS.x1 rfl _ hj hl hf
      have kf : ∀ {j : Nat} {x : Option Value}, [0, 2, 3, 4, 5, 6, 7, 8, 9, 22, 23, 24, 25, 26, 27, 28, 29, 30, 31, 32, 33].contains j = false → fs[j]? = x → fs9[j]? = x := fun hj hx => hff.at hj hx
      obtain ⟨u9, hTA9, hTB9, hM9⟩ := tab_u (show RT f ev be st from hRJ.2.1) hM.hev hTB' hTA'
      refine ⟨_, 0, u9, cs, ho, Or.inl ⟨rfl, rfl⟩, ⟨fs9, _, os, nu9, ot, f2, a9, xp', xl', xi', xc', o0, ae, aT, fil tM ot os, ⟨jm9, jA.ff hff rfl⟩, ⟨q0, q2, q3, q4⟩, ⟨q5, q6, q7, q8, q9⟩, ⟨kf rfl g21, q26, kf rfl g34, kf rfl g43, kf rfl g44⟩, ⟨hTA9, hTB9, hpg'⟩, ⟨q1, ka rfl rfl a20, fun j hj => absurd hj (Nat.not_lt_zero _), fun j => ?_⟩, ⟨ka rfl rfl a35, ka rfl rfl a36, ka rfl rfl a37, ka rfl rfl a38, ka rfl rfl a39, ka rfl rfl a40⟩, ⟨ka rfl rfl a41, ka rfl rfl a42, hAN⟩, fun i hi => (hF _ (hS.r1 hi) (hS.rl hi rfl)).trans (hrow i hi), ⟨hrd, hsd', rfl, rfl, hot, hos, ho0⟩⟩, ⟨⟨hRJ, hR3, hM9⟩, ⟨hnt, hn0, hp0, hb0, hc0⟩, ⟨hpe, hpb, hmb, hpp, ht, by omega, hcs⟩, hmono, fun i hi => (hL i hi).np (hM.u1 hM9), h00⟩, KN.of hF xs1 rfl⟩
      unfold fil
      split
      · exact hot j
      · exact htb j
end
