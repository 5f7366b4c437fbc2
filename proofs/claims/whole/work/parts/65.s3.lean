/-! the calls that change a little, of the class and of the model -/
theorem put4_cg {t t' : Nat → Nat} {l : Nat} {x : Int32} (h : ∀ j, j < l → t' j = t j) : ∀ j, j < l + 1 + 1 + 1 + 1 → put4 t' l x j = put4 t l x j := by
  intro j hj
  unfold put4
  by_cases h3 : j = l + 1 + 1 + 1
  · rw [h3, va_up_self, va_up_self]
  rw [va_up_ne _ _ h3, va_up_ne _ _ h3]
  by_cases h2 : j = l + 1 + 1
  · rw [h2, va_up_self, va_up_self]
  rw [va_up_ne _ _ h2, va_up_ne _ _ h2]
  by_cases h1 : j = l + 1
  · rw [h1, va_up_self, va_up_self]
  rw [va_up_ne _ _ h1, va_up_ne _ _ h1]
  by_cases h0 : j = l
  · rw [h0, va_up_self, va_up_self]
  rw [va_up_ne _ _ h0, va_up_ne _ _ h0]
  exact h j (by omega)
theorem fd5_cg {t t' : Nat → Nat} {tl : Nat} {za zb zc zd ze : Int32} (h : ∀ j, j < tl → t' j = t j) : ∀ j, j < tl + 20 → fd5 t' tl za zb zc zd ze j = fd5 t tl za zb zc zd ze j := put4_cg (put4_cg (put4_cg (put4_cg (put4_cg h))))
theorem fd5_lt {t : Nat → Nat} {tl : Nat} {za zb zc zd ze : Int32} (h : ∀ j, t j < 256) : ∀ j, fd5 t tl za zb zc zd ze j < 256 := put4_lt (put4_lt (put4_lt (put4_lt (put4_lt h))))
theorem LK.cg {ev : Nat} {np c c' d : Nat → Nat} {pc n : Nat} (h : LK ev np c d 0 0 pc n) (hc : ∀ j, j < 1600 → c' j = c j) (hev : ev ≤ 100) (hm4 : ∀ e, e < ev → np e ≤ 4) : LK ev np c' d 0 0 pc n := by
  obtain ⟨h1, h2, h3, h4, h5, h6, h7⟩ := h
  have hx : ∀ e, e < ev → ∀ b, b < 2 ^ np e → c' (16 * e + b) = c (16 * e + b) := fun e he b hb => by
    have : 2 ^ np e ≤ 2 ^ 4 := Nat.pow_le_pow_right (by omega) (hm4 e he)
    exact hc _ (by omega)
  refine ⟨fun e he b hb => ?_, fun e he b hb => ?_, ?_, h4, ?_, fun e he b hb => ?_, h7⟩
  · rw [hx e he b hb]; exact h1 e he b hb
  · rw [hx e he b hb]; exact h2 e he b hb
  · rw [hc 0 (by omega)]; exact h3
  · rw [hc _ (by omega)]; exact h5
  · rw [hx e he b hb]; exact h6 e he b hb
section
variable {M : Nat → Prop} {A cr : Nat → Nat} {pt mm : Nat} {w : pW} {σ : St} {u cs : Nat → Nat → Nat}
theorem S_feed {za zb zc zd ze : Int32} (hS : MS A cr mm) (hI : CI M w pt σ) (hP : PU σ u cs) (hMK : MK M w) : SX Value.int "" true M A cr pt mm w σ u cs yX5_feed wsX5_feed rX5_feed [.ref pt, .int za, .int zb, .int zc, .int zd, .int ze] yX6_feed wsX6_feed rX6_feed [.ref mm, .int za, .int zb, .int zc, .int zd, .int ze] := by
  obtain ⟨t, tl, ld, flt, fp, ⟨sd1, mr1, cu1, mk1, cd1, rp1, np1, oc1, f, ev, be, cq, st, me, pa⟩, p, nt, mcl, pe, pb, mpc, md⟩ := σ
  have hP' := hP
  obtain ⟨⟨hRJ, hR3, hM⟩, ⟨hnt, hn0, hp0, hb0, hc0⟩, ⟨hpe, hpb, hmb, hpp, ht, htl, hcs⟩, hmono, hL, h00⟩ := hP'
  have hI' := hI
  obtain ⟨tx, rd, to, sd, fd, sc, fa, fo, pr, ar, de, a, dd, ml, ca, K, mcn, hCW, ⟨hN1, hN2⟩, hst⟩ := hI'
  have hCW' := hCW
  obtain ⟨⟨e1, e2, e3, e4⟩, ⟨_, _, _, _, _, _, e5⟩, ⟨_, _, _, _, _, _, _, e6, e7⟩, ⟨_, _, _, _, _, _, e8⟩, ⟨e9, e10, e11⟩, ⟨e12, e13, e14, e15, e16⟩, e17, e18, e19⟩ := hCW'
  by_cases h2 : 2380 < tl
  · refine SX.ok (r := -1) hI hP rfl ((c_feed e1 e2 htl).imp ?_) (fun w8 th h8 => MIx hS h8 (fun fs pg os nu ot f2 a9 xp xl xi xc o0 ae aT tM hJ => ?_))
    · rintro o w9 (h | h)
      · exact h.2
      · exact absurd h2 (by omega)
    · obtain ⟨⟨jm, jA⟩, ⟨g0, g2, g3, g4⟩, ⟨g5, g6, g7, g8, g9⟩, ⟨g21, g26, g34, g43, g44⟩, ⟨⟨b10, b11, b12, b13, b14, b15, b16, b17, b18, b19⟩, hT, hpg⟩, ⟨a1, a20, htm, htb⟩, ⟨a35, a36, a37, a38, a39, a40⟩, ⟨a41, a42, hAN⟩, hrow, ⟨hrd, hsd, hmk, hcd, hot, hos, ho0⟩⟩ := hJ
      exact m_feedNo hS.1 jm jA g2 h2 htl
  · refine ⟨fun b τ => b = some (nI (tl + 20)) ∧ τ = (fd5 t tl za zb zc zd ze, tl + 20, ld, flt, fp, (sd1, mr1, cu1, mk1, cd1, rp1, np1, oc1, f, ev, be, cq, st, me, pa), p, nt, mcl, pe, pb, mpc, md), (fun _ b τ hb z => by rw [hb.1] at z; cases z), (c_feed e1 e2 htl).imp ?_, ?_⟩
    · rintro o w9 (h | h)
      · exact absurd h.1 (by omega)
      · obtain ⟨-, ho, rfl⟩ := h
        refine ⟨some _, _, ho, ⟨tx, rd, to, sd, fd, sc, fa, fo, pr, ar, de, a, dd, ml, ca, K, mcn, (hCW.atTx (fd5_lt ht)).atPt (by omega), ⟨hN1, hN2⟩, hst⟩, (KP.up (hN1 tx (by simp))).trans (KP.up (hMK.out e1 (by decide))), rfl, rfl⟩
    · rintro b τ ⟨rfl, rfl⟩ w8 th ⟨fs, pg, os, nu, ot, f2, a9, xp, xl, xi, xc, o0, ae, aT, tM, hJ⟩
      obtain ⟨⟨jm, jA⟩, ⟨g0, g2, g3, g4⟩, ⟨g5, g6, g7, g8, g9⟩, ⟨g21, g26, g34, g43, g44⟩, ⟨⟨b10, b11, b12, b13, b14, b15, b16, b17, b18, b19⟩, hT, hpg⟩, ⟨a1, a20, htm, htb⟩, ⟨a35, a36, a37, a38, a39, a40⟩, ⟨a41, a42, hAN⟩, hrow, ⟨hrd, hsd, hmk, hcd, hot, hos, ho0⟩⟩ := hJ
      refine (m_feed hS.1 jm jA g2 a1 (by omega)).imp ?_
      rintro o w9 ⟨ho, fs9, ⟨hF, jm9, hff⟩, q0, q2, q1⟩
      have ka : ∀ {j : Nat} {e : Option pE}, isR j = true → [1].contains j = false → w8 (A j) = e → w9 (A j) = e := fun hj hl hf => hF.ai hS.1 hS.x1 rfl _ hj hl hf
      have kf : ∀ {j : Nat} {x : Option Value}, [0, 2].contains j = false → fs[j]? = x → fs9[j]? = x := fun hj hx => hff.at hj hx
      refine ⟨_, 0, u, cs, ho, Or.inl ⟨rfl, rfl⟩, ⟨fs9, pg, os, nu, ot, f2, a9, xp, xl, xi, xc, o0, ae, aT, fd5 tM tl za zb zc zd ze, ⟨jm9, jA.ff hff rfl⟩, ⟨q0, q2, kf rfl g3, kf rfl g4⟩, ⟨kf rfl g5, kf rfl g6, kf rfl g7, kf rfl g8, kf rfl g9⟩, ⟨kf rfl g21, kf rfl g26, kf rfl g34, kf rfl g43, kf rfl g44⟩, ⟨TA.fr ⟨b10, b11, b12, b13, b14, b15, b16, b17, b18, b19⟩ hF hS.1 hS.x1 rfl rfl, hT, hpg⟩, ⟨q1, ka rfl rfl a20, fd5_cg htm, fd5_lt htb⟩, ⟨ka rfl rfl a35, ka rfl rfl a36, ka rfl rfl a37, ka rfl rfl a38, ka rfl rfl a39, ka rfl rfl a40⟩, ⟨ka rfl rfl a41, ka rfl rfl a42, hAN⟩, fun i hi => (hF _ (hS.r1 hi) (hS.rl hi rfl)).trans (hrow i hi), ⟨hrd, hsd, hmk, hcd, hot, hos, ho0⟩⟩, ⟨⟨hRJ, hR3, hM⟩, ⟨hnt, hn0, hp0, hb0, hc0⟩, ⟨hpe, hpb, hmb, hpp, fd5_lt ht, by omega, hcs⟩, hmono, hL, h00⟩, KN.of hF xs1 rfl⟩
theorem S_lead {x : Int32} (hS : MS A cr mm) (hI : CI M w pt σ) (hP : PU σ u cs) (hMK : MK M w) : SX Value.int "java/lang/IllegalArgumentException" false M A cr pt mm w σ u cs yX5_lead wsX5_lead rX5_lead [.ref pt, .int x] yX6_lead wsX6_lead rX6_lead [.ref mm, .int x] := by
  obtain ⟨t, tl, ld, flt, fp, ⟨sd1, mr1, cu1, mk1, cd1, rp1, np1, oc1, f, ev, be, cq, st, me, pa⟩, p, nt, mcl, pe, pb, mpc, md⟩ := σ
  have hP' := hP
  obtain ⟨⟨hRJ, hR3, hM⟩, ⟨hnt, hn0, hp0, hb0, hc0⟩, ⟨hpe, hpb, hmb, hpp, ht, htl, hcs⟩, hmono, hL, h00⟩ := hP'
  have hI' := hI
  obtain ⟨tx, rd, to, sd, fd, sc, fa, fo, pr, ar, de, a, dd, ml, ca, K, mcn, hCW, ⟨hN1, hN2⟩, hst⟩ := hI'
  have hCW' := hCW
  obtain ⟨⟨e1, e2, e3, e4⟩, ⟨_, _, _, _, _, _, e5⟩, ⟨_, _, _, _, _, _, _, e6, e7⟩, ⟨_, _, _, _, _, _, e8⟩, ⟨e9, e10, e11⟩, ⟨e12, e13, e14, e15, e16⟩, e17, e18, e19⟩ := hCW'
  rcases i_rg (K := 60000) (by omega) x with hb | ⟨v, hv, rfl⟩
  · refine SX.bad (r := nI 0) hI hP (c_leadBad e1 e2 hb) (fun w8 th h8 => MIx hS h8 (fun fs pg os nu ot f2 a9 xp xl xi xc o0 ae aT tM hJ => ?_))
    obtain ⟨⟨jm, jA⟩, ⟨g0, g2, g3, g4⟩, ⟨g5, g6, g7, g8, g9⟩, ⟨g21, g26, g34, g43, g44⟩, ⟨⟨b10, b11, b12, b13, b14, b15, b16, b17, b18, b19⟩, hT, hpg⟩, ⟨a1, a20, htm, htb⟩, ⟨a35, a36, a37, a38, a39, a40⟩, ⟨a41, a42, hAN⟩, hrow, ⟨hrd, hsd, hmk, hcd, hot, hos, ho0⟩⟩ := hJ
    exact m_leadBad hS.1 jm jA hb
  · refine ⟨fun b τ => b = some (nI ld) ∧ τ = (t, tl, v, flt, fp, (sd1, mr1, cu1, mk1, cd1, rp1, np1, oc1, f, ev, be, cq, st, me, pa), p, nt, mcl, pe, pb, mpc, md), (fun z => nomatch z), (c_leadOk e1 e2 hv).imp ?_, ?_⟩
    · rintro o w9 ⟨ho, rfl⟩
      exact ⟨some _, _, ho, ⟨tx, rd, to, sd, fd, sc, fa, fo, pr, ar, de, a, dd, ml, ca, K, mcn, hCW.atPt htl, ⟨hN1, hN2⟩, hst⟩, KP.up (hMK.out e1 (by decide)), rfl, rfl⟩
    · rintro b τ ⟨rfl, rfl⟩ w8 th ⟨fs, pg, os, nu, ot, f2, a9, xp, xl, xi, xc, o0, ae, aT, tM, hJ⟩
      obtain ⟨⟨jm, jA⟩, ⟨g0, g2, g3, g4⟩, ⟨g5, g6, g7, g8, g9⟩, ⟨g21, g26, g34, g43, g44⟩, ⟨⟨b10, b11, b12, b13, b14, b15, b16, b17, b18, b19⟩, hT, hpg⟩, ⟨a1, a20, htm, htb⟩, ⟨a35, a36, a37, a38, a39, a40⟩, ⟨a41, a42, hAN⟩, hrow, ⟨hrd, hsd, hmk, hcd, hot, hos, ho0⟩⟩ := hJ
      refine (m_lead hS.1 jm jA g44 hv).imp ?_
      rintro o w9 ⟨ho, fs9, ⟨hF, jm9, hff⟩, q0, q44⟩
      have ka : ∀ {j : Nat} {e : Option pE}, isR j = true → [].contains j = false → w8 (A j) = e → w9 (A j) = e := fun hj hl hf => hF.ai hS.1 hS.x1 rfl _ hj hl hf
      have kf : ∀ {j : Nat} {x : Option Value}, [0, 44].contains j = false → fs[j]? = x → fs9[j]? = x := fun hj hx => hff.at hj hx
      refine ⟨_, 0, u, cs, ho, Or.inl ⟨rfl, rfl⟩, ⟨fs9, pg, os, nu, ot, f2, a9, xp, xl, xi, xc, o0, ae, aT, tM, ⟨jm9, jA.ff hff rfl⟩, ⟨q0, kf rfl g2, kf rfl g3, kf rfl g4⟩, ⟨kf rfl g5, kf rfl g6, kf rfl g7, kf rfl g8, kf rfl g9⟩, ⟨kf rfl g21, kf rfl g26, kf rfl g34, kf rfl g43, q44⟩, ⟨TA.fr ⟨b10, b11, b12, b13, b14, b15, b16, b17, b18, b19⟩ hF hS.1 hS.x1 rfl rfl, hT, hpg⟩, ⟨ka rfl rfl a1, ka rfl rfl a20, htm, htb⟩, ⟨ka rfl rfl a35, ka rfl rfl a36, ka rfl rfl a37, ka rfl rfl a38, ka rfl rfl a39, ka rfl rfl a40⟩, ⟨ka rfl rfl a41, ka rfl rfl a42, hAN⟩, fun i hi => (hF _ (hS.r1 hi) (hS.rl hi rfl)).trans (hrow i hi), ⟨hrd, hsd, hmk, hcd, hot, hos, ho0⟩⟩, ⟨⟨hRJ, hR3, hM⟩, ⟨hnt, hn0, hp0, hb0, hc0⟩, ⟨hpe, hpb, hmb, hpp, ht, htl, hcs⟩, hmono, hL, h00⟩, KN.of hF xs1 rfl⟩
theorem S_price {x y : Int32} (hS : MS A cr mm) (hI : CI M w pt σ) (hP : PU σ u cs) (hMK : MK M w) : SX Value.int "java/lang/IllegalArgumentException" false M A cr pt mm w σ u cs yX5_price wsX5_price rX5_price [.ref pt, .int x, .int y] yX6_price wsX6_price rX6_price [.ref mm, .int x, .int y] := by
  obtain ⟨t, tl, ld, flt, fp, ⟨sd1, mr1, cu1, mk1, cd1, rp1, np1, oc1, f, ev, be, cq, st, me, pa⟩, p, nt, mcl, pe, pb, mpc, md⟩ := σ
  have hP' := hP
  obtain ⟨⟨hRJ, hR3, hM⟩, ⟨hnt, hn0, hp0, hb0, hc0⟩, ⟨hpe, hpb, hmb, hpp, ht, htl, hcs⟩, hmono, hL, h00⟩ := hP'
  have hI' := hI
  obtain ⟨tx, rd, to, sd, fd, sc, fa, fo, pr, ar, de, a, dd, ml, ca, K, mcn, hCW, ⟨hN1, hN2⟩, hst⟩ := hI'
  have hCW' := hCW
  obtain ⟨⟨e1, e2, e3, e4⟩, ⟨_, _, _, _, _, _, e5⟩, ⟨_, _, _, _, _, _, _, e6, e7⟩, ⟨_, _, _, _, _, _, e8⟩, ⟨e9, e10, e11⟩, ⟨e12, e13, e14, e15, e16⟩, e17, e18, e19⟩ := hCW'
  rcases i_cs x with hx | ⟨k, hk, rfl⟩
  · refine SX.bad (r := nI 0) hI hP (c_priceBadM e12 e13 e16.1 e1 hx) (fun w8 th h8 => MIx hS h8 (fun fs pg os nu ot f2 a9 xp xl xi xc o0 ae aT tM hJ => ?_))
    obtain ⟨⟨jm, jA⟩, ⟨g0, g2, g3, g4⟩, ⟨g5, g6, g7, g8, g9⟩, ⟨g21, g26, g34, g43, g44⟩, ⟨⟨b10, b11, b12, b13, b14, b15, b16, b17, b18, b19⟩, hT, hpg⟩, ⟨a1, a20, htm, htb⟩, ⟨a35, a36, a37, a38, a39, a40⟩, ⟨a41, a42, hAN⟩, hrow, ⟨hrd, hsd, hmk, hcd, hot, hos, ho0⟩⟩ := hJ
    exact m_priceBadX hS.1 jm jA (Or.inl hx)
  by_cases hk4 : 4 ≤ k
  · refine SX.bad (r := nI 0) hI hP (c_priceBadX e12 e13 e16.1 e1 hk4 hk) (fun w8 th h8 => MIx hS h8 (fun fs pg os nu ot f2 a9 xp xl xi xc o0 ae aT tM hJ => ?_))
    obtain ⟨⟨jm, jA⟩, ⟨g0, g2, g3, g4⟩, ⟨g5, g6, g7, g8, g9⟩, ⟨g21, g26, g34, g43, g44⟩, ⟨⟨b10, b11, b12, b13, b14, b15, b16, b17, b18, b19⟩, hT, hpg⟩, ⟨a1, a20, htm, htb⟩, ⟨a35, a36, a37, a38, a39, a40⟩, ⟨a41, a42, hAN⟩, hrow, ⟨hrd, hsd, hmk, hcd, hot, hos, ho0⟩⟩ := hJ
    exact m_priceBadX hS.1 jm jA (Or.inr (nI_lt (by omega) hk))
  rcases i_rg (K := 50) (by omega) y with hb | ⟨v, hv, rfl⟩
  · refine SX.bad (r := nI 0) hI hP (c_priceBadV e12 e13 e16.1 e1 (by omega) hb) (fun w8 th h8 => MIx hS h8 (fun fs pg os nu ot f2 a9 xp xl xi xc o0 ae aT tM hJ => ?_))
    obtain ⟨⟨jm, jA⟩, ⟨g0, g2, g3, g4⟩, ⟨g5, g6, g7, g8, g9⟩, ⟨g21, g26, g34, g43, g44⟩, ⟨⟨b10, b11, b12, b13, b14, b15, b16, b17, b18, b19⟩, hT, hpg⟩, ⟨a1, a20, htm, htb⟩, ⟨a35, a36, a37, a38, a39, a40⟩, ⟨a41, a42, hAN⟩, hrow, ⟨hrd, hsd, hmk, hcd, hot, hos, ho0⟩⟩ := hJ
    exact m_priceBadY hS.1 jm jA (by omega) hb
  · have hp9 : ∀ j, va_up p k v j ≤ 50 := up_le hpp hv
    refine ⟨fun b τ => b = some (nI (p k)) ∧ τ = (t, tl, ld, flt, fp, (sd1, mr1, cu1, mk1, cd1, rp1, np1, oc1, f, ev, be, cq, st, me, pa), va_up p k v, nt, mcl, pe, pb, mpc, md), (fun z => nomatch z), (c_price e12 e13 e16.1 e1 (by omega) hv).imp ?_, ?_⟩
    · rintro o w9 ⟨ho, rfl⟩
      exact ⟨some _, _, ho, ⟨tx, rd, to, sd, fd, sc, fa, fo, pr, ar, de, a, dd, ml, ca, K, mcn, hCW.atPr hp9, ⟨hN1, hN2⟩, hst⟩, KP.up (hN1 pr (by simp)), rfl, rfl⟩
    · rintro b τ ⟨rfl, rfl⟩ w8 th ⟨fs, pg, os, nu, ot, f2, a9, xp, xl, xi, xc, o0, ae, aT, tM, hJ⟩
      obtain ⟨⟨jm, jA⟩, ⟨g0, g2, g3, g4⟩, ⟨g5, g6, g7, g8, g9⟩, ⟨g21, g26, g34, g43, g44⟩, ⟨⟨b10, b11, b12, b13, b14, b15, b16, b17, b18, b19⟩, hT, hpg⟩, ⟨a1, a20, htm, htb⟩, ⟨a35, a36, a37, a38, a39, a40⟩, ⟨a41, a42, hAN⟩, hrow, ⟨hrd, hsd, hmk, hcd, hot, hos, ho0⟩⟩ := hJ
      refine (m_price hS.1 jm jA a40 (show k < 4 by omega) hv).imp ?_
      rintro o w9 ⟨ho, fs9, ⟨hF, jm9, hff⟩, q0, q40⟩
      have ka : ∀ {j : Nat} {e : Option pE}, isR j = true → [40].contains j = false → w8 (A j) = e → w9 (A j) = e := fun hj hl hf => hF.ai hS.1 hS.x1 rfl _ hj hl hf
      have kf : ∀ {j : Nat} {x : Option Value}, [0].contains j = false → fs[j]? = x → fs9[j]? = x := fun hj hx => hff.at hj hx
      refine ⟨_, 0, u, cs, ho, Or.inl ⟨rfl, rfl⟩, ⟨fs9, pg, os, nu, ot, f2, a9, xp, xl, xi, xc, o0, ae, aT, tM, ⟨jm9, jA.ff hff rfl⟩, ⟨q0, kf rfl g2, kf rfl g3, kf rfl g4⟩, ⟨kf rfl g5, kf rfl g6, kf rfl g7, kf rfl g8, kf rfl g9⟩, ⟨kf rfl g21, kf rfl g26, kf rfl g34, kf rfl g43, kf rfl g44⟩, ⟨TA.fr ⟨b10, b11, b12, b13, b14, b15, b16, b17, b18, b19⟩ hF hS.1 hS.x1 rfl rfl, hT, hpg⟩, ⟨ka rfl rfl a1, ka rfl rfl a20, htm, htb⟩, ⟨ka rfl rfl a35, ka rfl rfl a36, ka rfl rfl a37, ka rfl rfl a38, ka rfl rfl a39, q40⟩, ⟨ka rfl rfl a41, ka rfl rfl a42, hAN⟩, fun i hi => (hF _ (hS.r1 hi) (hS.rl hi rfl)).trans (hrow i hi), ⟨hrd, hsd, hmk, hcd, hot, hos, ho0⟩⟩, ⟨⟨hRJ, hR3, hM⟩, ⟨hnt, hn0, hp0, hb0, hc0⟩, ⟨hpe, hpb, hmb, hp9, ht, htl, hcs⟩, hmono, hL, h00⟩, KN.of hF xs1 rfl⟩
theorem S_back (hS : MS A cr mm) (hI : CI M w pt σ) (hP : PU σ u cs) (hMK : MK M w) : SX Value.int "" true M A cr pt mm w σ u cs yX5_back wsX5_back rX5_back [.ref pt] yX6_back wsX6_back rX6_back [.ref mm] := by
  obtain ⟨t, tl, ld, flt, fp, ⟨sd1, mr1, cu1, mk1, cd1, rp1, np1, oc1, f, ev, be, cq, st, me, pa⟩, p, nt, mcl, pe, pb, mpc, md⟩ := σ
  have hP' := hP
  obtain ⟨⟨hRJ, hR3, hM⟩, ⟨hnt, hn0, hp0, hb0, hc0⟩, ⟨hpe, hpb, hmb, hpp, ht, htl, hcs⟩, hmono, hL, h00⟩ := hP'
  have hI' := hI
  obtain ⟨tx, rd, to, sd, fd, sc, fa, fo, pr, ar, de, a, dd, ml, ca, K, mcn, hCW, ⟨hN1, hN2⟩, hst⟩ := hI'
  have hCW' := hCW
  obtain ⟨⟨e1, e2, e3, e4⟩, ⟨_, _, _, _, _, _, e5⟩, ⟨_, _, _, _, _, _, _, e6, e7⟩, ⟨_, _, _, _, _, _, e8⟩, ⟨e9, e10, e11⟩, ⟨e12, e13, e14, e15, e16⟩, e17, e18, e19⟩ := hCW'
  by_cases h0 : nt = 0
  · refine SX.ok (r := -1) hI hP rfl ((c_backW e17 e12 e1).imp ?_) (fun w8 th h8 => MIx hS h8 (fun fs pg os nu ot f2 a9 xp xl xi xc o0 ae aT tM hJ => ?_))
    · rintro o w9 (h | h)
      · exact h.2
      · exact absurd h.1 (by omega)
    · obtain ⟨⟨jm, jA⟩, ⟨g0, g2, g3, g4⟩, ⟨g5, g6, g7, g8, g9⟩, ⟨g21, g26, g34, g43, g44⟩, ⟨⟨b10, b11, b12, b13, b14, b15, b16, b17, b18, b19⟩, hT, hpg⟩, ⟨a1, a20, htm, htb⟩, ⟨a35, a36, a37, a38, a39, a40⟩, ⟨a41, a42, hAN⟩, hrow, ⟨hrd, hsd, hmk, hcd, hot, hos, ho0⟩⟩ := hJ
      rw [h0] at g34
      exact m_back0 hS.1 jm jA g34
  · refine ⟨fun b τ => b = some (nI (nt - 1)) ∧ τ = (t, tl, ld, flt, fp, (sd1, mr1, cu1, mk1, cd1, rp1, np1, oc1, f, ev, be, cq, st, me, pa), p, nt - 1, mcl, pe, pb, mpc, md), (fun _ b τ hb z => by rw [hb.1] at z; cases z), (c_backW e17 e12 e1).imp ?_, ?_⟩
    · rintro o w9 (h | h)
      · exact absurd h.1 h0
      · obtain ⟨-, ho, -, rfl⟩ := h
        exact ⟨some _, _, ho, ⟨tx, rd, to, sd, fd, sc, fa, fo, pr, ar, de, a, dd, ml, ca, K, mcn, hCW.atFo (by omega), ⟨hN1, hN2⟩, fun i (hi : i ≤ nt - 1) => hst i (by omega)⟩, KP.up (hMK.out e12 (by decide)), rfl, rfl⟩
    · rintro b τ ⟨rfl, rfl⟩ w8 th ⟨fs, pg, os, nu, ot, f2, a9, xp, xl, xi, xc, o0, ae, aT, tM, hJ⟩
      obtain ⟨⟨jm, jA⟩, ⟨g0, g2, g3, g4⟩, ⟨g5, g6, g7, g8, g9⟩, ⟨g21, g26, g34, g43, g44⟩, ⟨⟨b10, b11, b12, b13, b14, b15, b16, b17, b18, b19⟩, hT, hpg⟩, ⟨a1, a20, htm, htb⟩, ⟨a35, a36, a37, a38, a39, a40⟩, ⟨a41, a42, hAN⟩, hrow, ⟨hrd, hsd, hmk, hcd, hot, hos, ho0⟩⟩ := hJ
      refine (m_back (ti := fun j => mcl (j + 1)) hS.1 jm jA g34 a35 a36 a41 a42 hnt (by omega) hpe).imp ?_
      rintro o w9 ⟨ho, fs9, ⟨hF, jm9, hff⟩, q0, q34, q43, ae9, aT9, q41, q42, hAN9⟩
      have ka : ∀ {j : Nat} {e : Option pE}, isR j = true → [41, 42].contains j = false → w8 (A j) = e → w9 (A j) = e := fun hj hl hf => hF.ai hS.1 hS.x1 rfl _ hj hl hf
      have kf : ∀ {j : Nat} {x : Option Value}, [0, 34, 43].contains j = false → fs[j]? = x → fs9[j]? = x := fun hj hx => hff.at hj hx
      refine ⟨_, 0, u, cs, ho, Or.inl ⟨rfl, rfl⟩, ⟨fs9, pg, os, nu, ot, f2, a9, xp, xl, xi, xc, o0, ae9, aT9, tM, ⟨jm9, jA.ff hff rfl⟩, ⟨q0, kf rfl g2, kf rfl g3, kf rfl g4⟩, ⟨kf rfl g5, kf rfl g6, kf rfl g7, kf rfl g8, kf rfl g9⟩, ⟨kf rfl g21, kf rfl g26, q34, q43, kf rfl g44⟩, ⟨TA.fr ⟨b10, b11, b12, b13, b14, b15, b16, b17, b18, b19⟩ hF hS.1 hS.x1 rfl rfl, hT, hpg⟩, ⟨ka rfl rfl a1, ka rfl rfl a20, htm, htb⟩, ⟨ka rfl rfl a35, ka rfl rfl a36, ka rfl rfl a37, ka rfl rfl a38, ka rfl rfl a39, ka rfl rfl a40⟩, ⟨q41, q42, hAN9⟩, fun i hi => (hF _ (hS.r1 hi) (hS.rl hi rfl)).trans (hrow i hi), ⟨hrd, hsd, hmk, hcd, hot, hos, ho0⟩⟩, ⟨⟨hRJ, hR3, hM⟩, ⟨by omega, fun z => by have := hn0 z; omega, hp0, hb0, hc0⟩, ⟨hpe, hpb, hmb, hpp, ht, htl, hcs⟩, fun i j h1 h2 h3 => hmono i j h1 h2 (by omega), fun i hi => hL i (by omega), h00⟩, KN.of hF xs1 rfl⟩
theorem S_again (hS : MS A cr mm) (hI : CI M w pt σ) (hP : PU σ u cs) (hMK : MK M w) : SX Value.int "" true M A cr pt mm w σ u cs yX5_again wsX5_again rX5_again [.ref pt] yX6_again wsX6_again rX6_again [.ref mm] := by
  obtain ⟨t, tl, ld, flt, fp, ⟨sd1, mr1, cu1, mk1, cd1, rp1, np1, oc1, f, ev, be, cq, st, me, pa⟩, p, nt, mcl, pe, pb, mpc, md⟩ := σ
  have hP' := hP
  obtain ⟨⟨hRJ, hR3, hM⟩, ⟨hnt, hn0, hp0, hb0, hc0⟩, ⟨hpe, hpb, hmb, hpp, ht, htl, hcs⟩, hmono, hL, h00⟩ := hP'
  have hI' := hI
  obtain ⟨tx, rd, to, sd, fd, sc, fa, fo, pr, ar, de, a, dd, ml, ca, K, mcn, hCW, ⟨hN1, hN2⟩, hst⟩ := hI'
  have hCW' := hCW
  obtain ⟨⟨e1, e2, e3, e4⟩, ⟨_, _, _, _, _, _, e5⟩, ⟨_, _, _, _, _, _, _, e6, e7⟩, ⟨_, _, _, _, _, _, e8⟩, ⟨e9, e10, e11⟩, ⟨e12, e13, e14, e15, e16⟩, e17, e18, e19⟩ := hCW'
  refine ⟨fun b τ => b = some (nI nt) ∧ τ = (t, tl, ld, flt, fp, (sd1, mr1, cu1, mk1, cd1, rp1, np1, oc1, f, ev, be, cq, st, me, pa), p, 0, mcl, pe, pb, mpc, md), (fun _ b τ hb z => by rw [hb.1] at z; cases z), (c_againW e17 e12 e1).imp ?_, ?_⟩
  · rintro o w9 ⟨ho, -, rfl⟩
    exact ⟨some _, _, ho, ⟨tx, rd, to, sd, fd, sc, fa, fo, pr, ar, de, a, dd, ml, ca, K, mcn, hCW.atFo (Nat.zero_le _), ⟨hN1, hN2⟩, fun i (hi : i ≤ 0) => hst i (by omega)⟩, KP.up (hMK.out e12 (by decide)), rfl, rfl⟩
  · rintro b τ ⟨rfl, rfl⟩ w8 th ⟨fs, pg, os, nu, ot, f2, a9, xp, xl, xi, xc, o0, ae, aT, tM, hJ⟩
    obtain ⟨⟨jm, jA⟩, ⟨g0, g2, g3, g4⟩, ⟨g5, g6, g7, g8, g9⟩, ⟨g21, g26, g34, g43, g44⟩, ⟨⟨b10, b11, b12, b13, b14, b15, b16, b17, b18, b19⟩, hT, hpg⟩, ⟨a1, a20, htm, htb⟩, ⟨a35, a36, a37, a38, a39, a40⟩, ⟨a41, a42, hAN⟩, hrow, ⟨hrd, hsd, hmk, hcd, hot, hos, ho0⟩⟩ := hJ
    refine (m_again hS.1 jm jA g34 a36 a37 a38 (hrow 0 (by omega)) (hS.2.1 0 (by omega))).imp ?_
    rintro o w9 ⟨ho, fs9, ⟨hF, jm9, hff⟩, q0, q34, q43, qr, q36, q37⟩
    have v1 : va_up pe 0 0 = pe := by have := va_up_id pe 0; rwa [hp0] at this
    have v2 : va_up pb 0 0 = pb := by have := va_up_id pb 0; rwa [hb0] at this
    rw [v1] at q36
    rw [v2] at q37
    have ka : ∀ {j : Nat} {e : Option pE}, isR j = true → [36, 37].contains j = false → w8 (A j) = e → w9 (A j) = e := fun hj hl hf => hF.ai hS.1 (hS.x2 (show 0 < 401 by omega)) rfl _ hj hl hf
    have kf : ∀ {j : Nat} {x : Option Value}, [0, 34, 43].contains j = false → fs[j]? = x → fs9[j]? = x := fun hj hx => hff.at hj hx
    have hg : ∀ j, j < 1600 → fil (cs 0) g00 1600 j = g00 j := fun j hj => by unfold fil; rw [if_pos hj]
    have hgb : ∀ j, g00 j ≤ 268435456 := fun j => by unfold g00; split <;> omega
    refine ⟨_, 0, u, va_up cs 0 (fil (cs 0) g00 1600), ho, Or.inl ⟨rfl, rfl⟩, ⟨fs9, pg, os, nu, ot, f2, a9, xp, xl, xi, xc, o0, ae, aT, tM, ⟨jm9, jA.ff hff rfl⟩, ⟨q0, kf rfl g2, kf rfl g3, kf rfl g4⟩, ⟨kf rfl g5, kf rfl g6, kf rfl g7, kf rfl g8, kf rfl g9⟩, ⟨kf rfl g21, kf rfl g26, q34, q43, kf rfl g44⟩, ⟨TA.fr ⟨b10, b11, b12, b13, b14, b15, b16, b17, b18, b19⟩ hF hS.1 (hS.x2 (show 0 < 401 by omega)) rfl rfl, hT, hpg⟩, ⟨ka rfl rfl a1, ka rfl rfl a20, htm, htb⟩, ⟨ka rfl rfl a35, q36, q37, ka rfl rfl a38, ka rfl rfl a39, ka rfl rfl a40⟩, ⟨ka rfl rfl a41, ka rfl rfl a42, (fun i a z => nomatch z)⟩, fun i hi => ?_, ⟨hrd, hsd, hmk, hcd, hot, hos, ho0⟩⟩, ⟨⟨hRJ, hR3, hM⟩, ⟨by omega, fun _ => rfl, hp0, hb0, hc0⟩, ⟨hpe, hpb, hmb, hpp, ht, htl, fun i j => ?_⟩, fun i j h1 h2 h3 => by omega, fun i hi => ?_, fun hv j hj => ?_⟩, KN.of hF (xs2 (by omega)) rfl⟩
    · by_cases h0 : i = 0
      · rw [h0, va_up_self]; exact qr
      · rw [va_up_ne _ _ h0]
        exact (hF _ (hS.r2 hi (by omega) h0) (hS.rl hi rfl)).trans (hrow i hi)
    · by_cases h0 : i = 0
      · rw [h0, va_up_self]
        unfold fil
        split
        · exact hgb j
        · exact hcs 0 j
      · rw [va_up_ne _ _ h0]; exact hcs i j
    · obtain rfl : i = 0 := by omega
      rw [va_up_self, hp0, hb0]
      have hl := hL 0 (Nat.zero_le _)
      rw [hp0, hb0] at hl
      by_cases he : ev = 0
      · subst he
        refine ⟨fun e he => by omega, fun e he => by omega, ?_, fun z => by omega, ?_, fun e he => by omega, hl.2.2.2.2.2.2⟩
        · rw [hg 0 (by omega)]; exact Nat.zero_le _
        · rw [hc0, show 16 * 0 + 0 = 0 from rfl, hg 0 (by omega)]; rfl
      · exact hl.cg (fun j hj => (hg j hj).trans (h00 (by omega) j hj).symm) hM.hev (fun e he => (hM.bd he).2.1)
    · rw [va_up_self]; exact hg j hj
end
