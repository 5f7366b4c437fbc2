/-! the calls that change nothing, of the class and of the model -/
theorem i_cs (x : Int32) : x < 0 ∨ ∃ k, k < 2 ^ 31 ∧ x = nI k := by
  by_cases h : x < 0
  · exact Or.inl h
  · have h1 : 0 ≤ x.toInt := by
      rw [Int32.lt_iff_toInt_lt] at h
      have h0 : (0 : Int32).toInt = 0 := rfl
      omega
    have h2 := x.toInt_lt
    refine Or.inr ⟨x.toInt.toNat, by omega, ?_⟩
    apply Int32.toInt_inj.mp
    rw [nI_toInt (by omega)]
    omega
theorem i_rg {K : Nat} (hK : K < 2 ^ 31) (x : Int32) : (x < 0 ∨ nI K < x) ∨ ∃ k, k ≤ K ∧ x = nI k := by
  rcases i_cs x with h | ⟨k, hk, rfl⟩
  · exact Or.inl (Or.inl h)
  · by_cases q : k ≤ K
    · exact Or.inr ⟨k, q, rfl⟩
    · exact Or.inl (Or.inr (nI_lt (by omega) hk))
theorem i_le {K : Nat} {x : Int32} (hK : K + 1 < 2 ^ 31) (h : x < 0 ∨ nI K < x) : x < 0 ∨ nI (K + 1) ≤ x := by
  rcases i_cs x with q | ⟨k, hk, rfl⟩
  · exact Or.inl q
  · rcases h with h | h
    · exact Or.inl h
    · refine Or.inr (nI_le ?_ hk)
      exact Nat.not_le.mp (fun z => nI_nlt z (by omega) h)
section
variable {M : Nat → Prop} {A cr : Nat → Nat} {pt mm : Nat} {w : pW} {σ : St} {u cs : Nat → Nat → Nat}
theorem S_fault {x : Int32} (hS : MS A cr mm) (hI : CI M w pt σ) (hP : PU σ u cs) : SX Value.int "java/util/NoSuchElementException" false M A cr pt mm w σ u cs yX5_fault wsX5_fault rX5_fault [.ref pt, .int x] yX6_fault wsX6_fault rX6_fault [.ref mm, .int x] := by
  obtain ⟨t, tl, ld, flt, fp, ⟨sd1, mr1, cu1, mk1, cd1, rp1, np1, oc1, f, ev, be, cq, st, me, pa⟩, p, nt, mcl, pe, pb, mpc, md⟩ := σ
  have hI' := hI
  obtain ⟨tx, rd, to, sd, fd, sc, fa, fo, pr, ar, de, a, dd, ml, ca, K, mcn, ⟨⟨e1, e2, e3, e4⟩, ⟨_, _, _, _, _, _, e5⟩, ⟨_, _, _, _, _, _, _, e6, e7⟩, ⟨_, _, _, _, _, _, e8⟩, ⟨e9, e10, e11⟩, ⟨e12, e13, e14, e15, e16⟩, e17, e18, e19⟩, hNM, hst⟩ := hI'
  have hC := c_faultP e1 e5 (x := x)
  rcases i_rg (K := 1) (by omega) x with hb | ⟨k, hk, rfl⟩
  · refine SX.bad (r := nI 0) hI hP (hC.imp ?_) (fun w8 th h8 => MIx hS h8 (fun fs pg os nu ot f2 a9 xp xl xi xc o0 ae aT tM hJ => ?_))
    · rintro o w9 ⟨ho, hw⟩
      have n0 : ¬ x = nI 0 := fun z => by rw [z] at hb; exact hb.elim (nI_pos (by omega)) (nI_nlt (by omega) (by omega))
      have n1 : ¬ x = nI 1 := fun z => by rw [z] at hb; exact hb.elim (nI_pos (by omega)) (nI_nlt (by omega) (by omega))
      rw [if_neg n0, if_neg n1] at ho
      exact ⟨ho, hw⟩
    · obtain ⟨⟨jm, jA⟩, ⟨g0, g2, g3, g4⟩, ⟨g5, g6, g7, g8, g9⟩, ⟨g21, g26, g34, g43, g44⟩, ⟨⟨b10, b11, b12, b13, b14, b15, b16, b17, b18, b19⟩, hT, hpg⟩, ⟨a1, a20, htm, htb⟩, ⟨a35, a36, a37, a38, a39, a40⟩, ⟨a41, a42, hAN⟩, hrow, ⟨hrd, hsd, hmk, hcd, hot, hos, ho0⟩⟩ := hJ
      exact m_faultBad hS.1 jm jA hb
  · refine SX.ok (r := if k = 0 then nI flt else fp) hI hP rfl (hC.imp ?_) (fun w8 th h8 => MIx hS h8 (fun fs pg os nu ot f2 a9 xp xl xi xc o0 ae aT tM hJ => ?_))
    · rintro o w9 ⟨ho, hw⟩
      refine ⟨?_, hw⟩
      rw [ho]
      rcases (show k = 0 ∨ k = 1 by omega) with rfl | rfl
      · rw [if_pos rfl, if_pos rfl]
      · rw [if_neg (nI_ne (by omega) (by omega) (by omega)), if_pos rfl, if_neg (by omega)]
    · obtain ⟨⟨jm, jA⟩, ⟨g0, g2, g3, g4⟩, ⟨g5, g6, g7, g8, g9⟩, ⟨g21, g26, g34, g43, g44⟩, ⟨⟨b10, b11, b12, b13, b14, b15, b16, b17, b18, b19⟩, hT, hpg⟩, ⟨a1, a20, htm, htb⟩, ⟨a35, a36, a37, a38, a39, a40⟩, ⟨a41, a42, hAN⟩, hrow, ⟨hrd, hsd, hmk, hcd, hot, hos, ho0⟩⟩ := hJ
      exact m_fault hS.1 jm jA g3 g4 (by omega)
theorem S_count {x : Int32} (hS : MS A cr mm) (hI : CI M w pt σ) (hP : PU σ u cs) : SX Value.int "java/util/NoSuchElementException" false M A cr pt mm w σ u cs yX5_count wsX5_count rX5_count [.ref pt, .int x] yX6_count wsX6_count rX6_count [.ref mm, .int x] := by
  obtain ⟨t, tl, ld, flt, fp, ⟨sd1, mr1, cu1, mk1, cd1, rp1, np1, oc1, f, ev, be, cq, st, me, pa⟩, p, nt, mcl, pe, pb, mpc, md⟩ := σ
  have hP' := hP
  obtain ⟨⟨hRJ, hR3, hM⟩, ⟨hnt, hn0, hp0, hb0, hc0⟩, ⟨hpe, hpb, hmb, hpp, ht, htl, hcs⟩, hmono, hL, h00⟩ := hP'
  obtain ⟨tx, rd, sc, fa, fo, pr, ar, de, ms, mn, cm, cn, bf, nx, av, ah, hpt, hfo, hs, hf, hm, hc, hst, hcn, hdd, hN⟩ := hI.get
  rcases i_rg (K := 7) (by omega) x with hb | ⟨k, hk, rfl⟩
  · refine SX.bad (r := nI 0) hI hP (c_countBad hfo hs hf hm hc hM hst hcn hdd hN hpt (i_le (by omega) hb)) (fun w8 th h8 => MIx hS h8 (fun fs pg os nu ot f2 a9 xp xl xi xc o0 ae aT tM hJ => ?_))
    obtain ⟨⟨jm, jA⟩, ⟨g0, g2, g3, g4⟩, ⟨g5, g6, g7, g8, g9⟩, ⟨g21, g26, g34, g43, g44⟩, ⟨⟨b10, b11, b12, b13, b14, b15, b16, b17, b18, b19⟩, hT, hpg⟩, ⟨a1, a20, htm, htb⟩, ⟨a35, a36, a37, a38, a39, a40⟩, ⟨a41, a42, hAN⟩, hrow, ⟨hrd, hsd, hmk, hcd, hot, hos, ho0⟩⟩ := hJ
    exact m_countBad hS.1 jm jA (i_le (by omega) hb)
  · refine SX.ok hI hP rfl (c_count hfo hs hf hm hc hM hst hcn hdd hN hpt (by omega)) (fun w8 th h8 => MIx hS h8 (fun fs pg os nu ot f2 a9 xp xl xi xc o0 ae aT tM hJ => ?_))
    obtain ⟨⟨jm, jA⟩, ⟨g0, g2, g3, g4⟩, ⟨g5, g6, g7, g8, g9⟩, ⟨g21, g26, g34, g43, g44⟩, ⟨⟨b10, b11, b12, b13, b14, b15, b16, b17, b18, b19⟩, hT, hpg⟩, ⟨a1, a20, htm, htb⟩, ⟨a35, a36, a37, a38, a39, a40⟩, ⟨a41, a42, hAN⟩, hrow, ⟨hrd, hsd, hmk, hcd, hot, hos, ho0⟩⟩ := hJ
    subst hmk hcd
    rw [cnt_eq hRJ hsd hpg (by omega)]
    exact m_count hS.1 jm jA g5 g6 g7 g8 g34 g43 g2 g9 (by omega)
theorem S_event {x y : Int32} (hS : MS A cr mm) (hI : CI M w pt σ) (hP : PU σ u cs) : SX Value.int "java/util/NoSuchElementException" false M A cr pt mm w σ u cs yX5_event wsX5_event rX5_event [.ref pt, .int x, .int y] yX6_event wsX6_event rX6_event [.ref mm, .int x, .int y] := by
  obtain ⟨t, tl, ld, flt, fp, ⟨sd1, mr1, cu1, mk1, cd1, rp1, np1, oc1, f, ev, be, cq, st, me, pa⟩, p, nt, mcl, pe, pb, mpc, md⟩ := σ
  have hP' := hP
  obtain ⟨⟨hRJ, hR3, hM⟩, ⟨hnt, hn0, hp0, hb0, hc0⟩, ⟨hpe, hpb, hmb, hpp, ht, htl, hcs⟩, hmono, hL, h00⟩ := hP'
  obtain ⟨tx, rd, sc, fa, fo, pr, ar, de, ms, mn, cm, cn, bf, nx, av, ah, hpt, hfo, hs, hf, hm, hc, hst, hcn, hdd, hN⟩ := hI.get
  have hev := hM.hev
  rcases i_cs x with hx | ⟨e, he, rfl⟩
  · refine SX.bad (r := nI 0) hI hP (c_eventBadM hfo hs hf hm hc hM hst hcn hdd hN hpt hx) (fun w8 th h8 => MIx hS h8 (fun fs pg os nu ot f2 a9 xp xl xi xc o0 ae aT tM hJ => ?_))
    obtain ⟨⟨jm, jA⟩, ⟨g0, g2, g3, g4⟩, ⟨g5, g6, g7, g8, g9⟩, ⟨g21, g26, g34, g43, g44⟩, ⟨⟨b10, b11, b12, b13, b14, b15, b16, b17, b18, b19⟩, hT, hpg⟩, ⟨a1, a20, htm, htb⟩, ⟨a35, a36, a37, a38, a39, a40⟩, ⟨a41, a42, hAN⟩, hrow, ⟨hrd, hsd, hmk, hcd, hot, hos, ho0⟩⟩ := hJ
    exact m_eventBadM hS.1 jm jA g5 hx
  by_cases hee : ev ≤ e
  · refine SX.bad (r := nI 0) hI hP (c_eventBadE hfo hs hf hm hc hM hst hcn hdd hN hpt hee he) (fun w8 th h8 => MIx hS h8 (fun fs pg os nu ot f2 a9 xp xl xi xc o0 ae aT tM hJ => ?_))
    obtain ⟨⟨jm, jA⟩, ⟨g0, g2, g3, g4⟩, ⟨g5, g6, g7, g8, g9⟩, ⟨g21, g26, g34, g43, g44⟩, ⟨⟨b10, b11, b12, b13, b14, b15, b16, b17, b18, b19⟩, hT, hpg⟩, ⟨a1, a20, htm, htb⟩, ⟨a35, a36, a37, a38, a39, a40⟩, ⟨a41, a42, hAN⟩, hrow, ⟨hrd, hsd, hmk, hcd, hot, hos, ho0⟩⟩ := hJ
    exact m_eventBadE hS.1 jm jA g5 hee he hev
  have hlt : e < ev := by omega
  rcases i_cs y with hy | ⟨c, hc9, rfl⟩
  · refine SX.bad (r := nI 0) hI hP (c_eventBadY hfo hs hf hm hc hM hst hcn hdd hN hpt hlt hy) (fun w8 th h8 => MIx hS h8 (fun fs pg os nu ot f2 a9 xp xl xi xc o0 ae aT tM hJ => ?_))
    obtain ⟨⟨jm, jA⟩, ⟨g0, g2, g3, g4⟩, ⟨g5, g6, g7, g8, g9⟩, ⟨g21, g26, g34, g43, g44⟩, ⟨⟨b10, b11, b12, b13, b14, b15, b16, b17, b18, b19⟩, hT, hpg⟩, ⟨a1, a20, htm, htb⟩, ⟨a35, a36, a37, a38, a39, a40⟩, ⟨a41, a42, hAN⟩, hrow, ⟨hrd, hsd, hmk, hcd, hot, hos, ho0⟩⟩ := hJ
    exact m_eventBadY hS.1 jm jA g5 hlt hev hy
  by_cases hcc : 9 + u 1 e ≤ c
  · refine SX.bad (r := nI 0) hI hP (c_eventBadC hfo hs hf hm hc hM hst hcn hdd hN hpt hlt hcc hc9) (fun w8 th h8 => MIx hS h8 (fun fs pg os nu ot f2 a9 xp xl xi xc o0 ae aT tM hJ => ?_))
    obtain ⟨⟨jm, jA⟩, ⟨g0, g2, g3, g4⟩, ⟨g5, g6, g7, g8, g9⟩, ⟨g21, g26, g34, g43, g44⟩, ⟨⟨b10, b11, b12, b13, b14, b15, b16, b17, b18, b19⟩, hT, hpg⟩, ⟨a1, a20, htm, htb⟩, ⟨a35, a36, a37, a38, a39, a40⟩, ⟨a41, a42, hAN⟩, hrow, ⟨hrd, hsd, hmk, hcd, hot, hos, ho0⟩⟩ := hJ
    exact m_eventBadC hS.1 jm jA g5 b11 hlt hev (hM.bd hlt).2.1 hcc hc9
  · refine SX.ok hI hP rfl (c_event hfo hs hf hm hc hM hst hcn hdd hN hpt hlt (by omega)) (fun w8 th h8 => MIx hS h8 (fun fs pg os nu ot f2 a9 xp xl xi xc o0 ae aT tM hJ => ?_))
    obtain ⟨⟨jm, jA⟩, ⟨g0, g2, g3, g4⟩, ⟨g5, g6, g7, g8, g9⟩, ⟨g21, g26, g34, g43, g44⟩, ⟨⟨b10, b11, b12, b13, b14, b15, b16, b17, b18, b19⟩, hT, hpg⟩, ⟨a1, a20, htm, htb⟩, ⟨a35, a36, a37, a38, a39, a40⟩, ⟨a41, a42, hAN⟩, hrow, ⟨hrd, hsd, hmk, hcd, hot, hos, ho0⟩⟩ := hJ
    obtain ⟨q1, q2, q3, q4, q5, q6, q7, q8⟩ := hM.bd hlt
    have hop := (hT e hlt).2.1
    have z6 : xi e = nI (u 6 e) := hop.2.2.2.2.2.1.symm.trans (hM.c6 hlt)
    have z7 : xc e = nI (u 7 e) := hop.2.2.2.2.2.2.1.symm.trans (hM.c7 hlt)
    refine m_event hS.1 jm jA g5 b10 b11 b12 b13 b14 b15 b16 b17 b18 b19 hlt hev (hT e hlt) (by omega) ?_ ?_
    · rw [z6]; rcases (show u 6 e = 0 ∨ u 6 e = 1 by omega) with z | z <;> rw [z]
      · exact Or.inl rfl
      · exact Or.inr rfl
    · rw [z7]; rcases (show u 7 e = 0 ∨ u 7 e = 1 by omega) with z | z <;> rw [z]
      · exact Or.inl rfl
      · exact Or.inr rfl
theorem S_place {x : Int32} (hS : MS A cr mm) (hI : CI M w pt σ) (hP : PU σ u cs) : SX Value.int "java/util/NoSuchElementException" false M A cr pt mm w σ u cs yX5_place wsX5_place rX5_place [.ref pt, .int x] yX6_place wsX6_place rX6_place [.ref mm, .int x] := by
  obtain ⟨t, tl, ld, flt, fp, ⟨sd1, mr1, cu1, mk1, cd1, rp1, np1, oc1, f, ev, be, cq, st, me, pa⟩, p, nt, mcl, pe, pb, mpc, md⟩ := σ
  have hP' := hP
  obtain ⟨⟨hRJ, hR3, hM⟩, ⟨hnt, hn0, hp0, hb0, hc0⟩, ⟨hpe, hpb, hmb, hpp, ht, htl, hcs⟩, hmono, hL, h00⟩ := hP'
  obtain ⟨tx, rd, sc, fa, fo, pr, ar, de, ms, mn, cm, cn, bf, nx, av, ah, hpt, hfo, hs, hf, hm, hc, hst, hcn, hdd, hN⟩ := hI.get
  have hev := hM.hev
  by_cases he0 : ev = 0
  · refine SX.bad (r := nI 0) hI hP (c_place0 hfo hs hf hm hc hM hst hcn hdd hN hpt he0) (fun w8 th h8 => MIx hS h8 (fun fs pg os nu ot f2 a9 xp xl xi xc o0 ae aT tM hJ => ?_))
    obtain ⟨⟨jm, jA⟩, ⟨g0, g2, g3, g4⟩, ⟨g5, g6, g7, g8, g9⟩, ⟨g21, g26, g34, g43, g44⟩, ⟨⟨b10, b11, b12, b13, b14, b15, b16, b17, b18, b19⟩, hT, hpg⟩, ⟨a1, a20, htm, htb⟩, ⟨a35, a36, a37, a38, a39, a40⟩, ⟨a41, a42, hAN⟩, hrow, ⟨hrd, hsd, hmk, hcd, hot, hos, ho0⟩⟩ := hJ
    rw [he0] at g5
    exact m_place0 hS.1 jm jA g5
  rcases i_rg (K := 4) (by omega) x with hb | ⟨k, hk, rfl⟩
  · refine SX.bad (r := nI 0) hI hP (c_placeBad hfo hs hf hm hc hM hst hcn hdd hN hpt (i_le (by omega) hb)) (fun w8 th h8 => MIx hS h8 (fun fs pg os nu ot f2 a9 xp xl xi xc o0 ae aT tM hJ => ?_))
    obtain ⟨⟨jm, jA⟩, ⟨g0, g2, g3, g4⟩, ⟨g5, g6, g7, g8, g9⟩, ⟨g21, g26, g34, g43, g44⟩, ⟨⟨b10, b11, b12, b13, b14, b15, b16, b17, b18, b19⟩, hT, hpg⟩, ⟨a1, a20, htm, htb⟩, ⟨a35, a36, a37, a38, a39, a40⟩, ⟨a41, a42, hAN⟩, hrow, ⟨hrd, hsd, hmk, hcd, hot, hos, ho0⟩⟩ := hJ
    exact m_placeBad hS.1 jm jA g5 hev hb
  · obtain ⟨l1, l2, l3, l4, l5, l6, l7⟩ := hL nt (Nat.le_refl _)
    refine SX.ok hI hP rfl (c_place hfo hs hf hm hc hM hst hcn hdd hN hpt (by omega) (l4 (by omega)).1) (fun w8 th h8 => MIx hS h8 (fun fs pg os nu ot f2 a9 xp xl xi xc o0 ae aT tM hJ => ?_))
    obtain ⟨⟨jm, jA⟩, ⟨g0, g2, g3, g4⟩, ⟨g5, g6, g7, g8, g9⟩, ⟨g21, g26, g34, g43, g44⟩, ⟨⟨b10, b11, b12, b13, b14, b15, b16, b17, b18, b19⟩, hT, hpg⟩, ⟨a1, a20, htm, htb⟩, ⟨a35, a36, a37, a38, a39, a40⟩, ⟨a41, a42, hAN⟩, hrow, ⟨hrd, hsd, hmk, hcd, hot, hos, ho0⟩⟩ := hJ
    rw [← l5]
    exact m_place hS.1 jm jA g5 g34 b15 b16 a36 a37 a38 (hrow nt (by omega)) (hS.2.1 nt (by omega)) hev (by omega) hnt (hpe nt) (hpb nt) (by omega)
theorem S_cost {x y : Int32} (hS : MS A cr mm) (hI : CI M w pt σ) (hP : PU σ u cs) : SX Value.int "java/util/NoSuchElementException" false M A cr pt mm w σ u cs yX5_cost wsX5_cost rX5_cost [.ref pt, .int x, .int y] yX6_cost wsX6_cost rX6_cost [.ref mm, .int x, .int y] := by
  obtain ⟨t, tl, ld, flt, fp, ⟨sd1, mr1, cu1, mk1, cd1, rp1, np1, oc1, f, ev, be, cq, st, me, pa⟩, p, nt, mcl, pe, pb, mpc, md⟩ := σ
  have hP' := hP
  obtain ⟨⟨hRJ, hR3, hM⟩, ⟨hnt, hn0, hp0, hb0, hc0⟩, ⟨hpe, hpb, hmb, hpp, ht, htl, hcs⟩, hmono, hL, h00⟩ := hP'
  obtain ⟨tx, rd, sc, fa, fo, pr, ar, de, ms, mn, cm, cn, bf, nx, av, ah, hpt, hfo, hs, hf, hm, hc, hst, hcn, hdd, hN⟩ := hI.get
  have hev := hM.hev
  rcases i_cs x with hx | ⟨e, he, rfl⟩
  · refine SX.bad (r := nI 0) hI hP (c_costBadM hfo hs hf hm hc hM hst hcn hdd hN hpt hx) (fun w8 th h8 => MIx hS h8 (fun fs pg os nu ot f2 a9 xp xl xi xc o0 ae aT tM hJ => ?_))
    obtain ⟨⟨jm, jA⟩, ⟨g0, g2, g3, g4⟩, ⟨g5, g6, g7, g8, g9⟩, ⟨g21, g26, g34, g43, g44⟩, ⟨⟨b10, b11, b12, b13, b14, b15, b16, b17, b18, b19⟩, hT, hpg⟩, ⟨a1, a20, htm, htb⟩, ⟨a35, a36, a37, a38, a39, a40⟩, ⟨a41, a42, hAN⟩, hrow, ⟨hrd, hsd, hmk, hcd, hot, hos, ho0⟩⟩ := hJ
    exact m_costBadM hS.1 jm jA g5 hx
  by_cases hee : ev ≤ e
  · refine SX.bad (r := nI 0) hI hP (c_costBadE hfo hs hf hm hc hM hst hcn hdd hN hpt hee he) (fun w8 th h8 => MIx hS h8 (fun fs pg os nu ot f2 a9 xp xl xi xc o0 ae aT tM hJ => ?_))
    obtain ⟨⟨jm, jA⟩, ⟨g0, g2, g3, g4⟩, ⟨g5, g6, g7, g8, g9⟩, ⟨g21, g26, g34, g43, g44⟩, ⟨⟨b10, b11, b12, b13, b14, b15, b16, b17, b18, b19⟩, hT, hpg⟩, ⟨a1, a20, htm, htb⟩, ⟨a35, a36, a37, a38, a39, a40⟩, ⟨a41, a42, hAN⟩, hrow, ⟨hrd, hsd, hmk, hcd, hot, hos, ho0⟩⟩ := hJ
    exact m_costBadE hS.1 jm jA g5 hee he hev
  have hlt : e < ev := by omega
  rcases i_cs y with hy | ⟨b, hb9, rfl⟩
  · refine SX.bad (r := nI 0) hI hP (c_costBadY hfo hs hf hm hc hM hst hcn hdd hN hpt hlt hy) (fun w8 th h8 => MIx hS h8 (fun fs pg os nu ot f2 a9 xp xl xi xc o0 ae aT tM hJ => ?_))
    obtain ⟨⟨jm, jA⟩, ⟨g0, g2, g3, g4⟩, ⟨g5, g6, g7, g8, g9⟩, ⟨g21, g26, g34, g43, g44⟩, ⟨⟨b10, b11, b12, b13, b14, b15, b16, b17, b18, b19⟩, hT, hpg⟩, ⟨a1, a20, htm, htb⟩, ⟨a35, a36, a37, a38, a39, a40⟩, ⟨a41, a42, hAN⟩, hrow, ⟨hrd, hsd, hmk, hcd, hot, hos, ho0⟩⟩ := hJ
    exact m_costBadY hS.1 jm jA g5 hlt hev hy
  by_cases hbb : 2 ^ u 1 e ≤ b
  · refine SX.bad (r := nI 0) hI hP (c_costBadB hfo hs hf hm hc hM hst hcn hdd hN hpt hlt hbb hb9) (fun w8 th h8 => MIx hS h8 (fun fs pg os nu ot f2 a9 xp xl xi xc o0 ae aT tM hJ => ?_))
    obtain ⟨⟨jm, jA⟩, ⟨g0, g2, g3, g4⟩, ⟨g5, g6, g7, g8, g9⟩, ⟨g21, g26, g34, g43, g44⟩, ⟨⟨b10, b11, b12, b13, b14, b15, b16, b17, b18, b19⟩, hT, hpg⟩, ⟨a1, a20, htm, htb⟩, ⟨a35, a36, a37, a38, a39, a40⟩, ⟨a41, a42, hAN⟩, hrow, ⟨hrd, hsd, hmk, hcd, hot, hos, ho0⟩⟩ := hJ
    exact m_costBadC hS.1 jm jA g5 b11 hlt hev (hM.bd hlt).2.1 hbb hb9
  · obtain ⟨l1, l2, l3, l4, l5, l6, l7⟩ := hL nt (Nat.le_refl _)
    have hb : b < 2 ^ u 1 e := by omega
    refine SX.ok (r' := if cs nt (16 * e + b) < 268435456 then nI (cs nt (16 * e + b)) else -1) hI hP ?_ (c_cost hfo hs hf hm hc hM hst hcn hdd hN hpt hlt hb) (fun w8 th h8 => MIx hS h8 (fun fs pg os nu ot f2 a9 xp xl xi xc o0 ae aT tM hJ => ?_))
    · rw [l1 e hlt b hb]
      unfold cst phi
      rcases l2 e hlt b hb with z | z
      · rw [z, if_neg (by omega), if_neg (by omega)]
      · rw [if_pos (by omega), if_pos (by omega), Nat.min_eq_left (by omega)]
    · obtain ⟨⟨jm, jA⟩, ⟨g0, g2, g3, g4⟩, ⟨g5, g6, g7, g8, g9⟩, ⟨g21, g26, g34, g43, g44⟩, ⟨⟨b10, b11, b12, b13, b14, b15, b16, b17, b18, b19⟩, hT, hpg⟩, ⟨a1, a20, htm, htb⟩, ⟨a35, a36, a37, a38, a39, a40⟩, ⟨a41, a42, hAN⟩, hrow, ⟨hrd, hsd, hmk, hcd, hot, hos, ho0⟩⟩ := hJ
      exact m_cost hS.1 jm jA g5 g34 b11 a38 (hrow nt (by omega)) (hS.2.1 nt (by omega)) hlt hev (hM.bd hlt).2.1 hb hnt (hcs nt)
theorem S_sure (hS : MS A cr mm) (hI : CI M w pt σ) (hP : PU σ u cs) : SX Value.int "java/util/NoSuchElementException" false M A cr pt mm w σ u cs yX5_sure wsX5_sure rX5_sure [.ref pt] yX6_sure wsX6_sure rX6_sure [.ref mm] := by
  obtain ⟨t, tl, ld, flt, fp, ⟨sd1, mr1, cu1, mk1, cd1, rp1, np1, oc1, f, ev, be, cq, st, me, pa⟩, p, nt, mcl, pe, pb, mpc, md⟩ := σ
  have hP' := hP
  obtain ⟨⟨hRJ, hR3, hM⟩, ⟨hnt, hn0, hp0, hb0, hc0⟩, ⟨hpe, hpb, hmb, hpp, ht, htl, hcs⟩, hmono, hL, h00⟩ := hP'
  obtain ⟨tx, rd, sc, fa, fo, pr, ar, de, ms, mn, cm, cn, bf, nx, av, ah, hpt, hfo, hs, hf, hm, hc, hst, hcn, hdd, hN⟩ := hI.get
  have hev := hM.hev
  by_cases he0 : ev = 0
  · refine SX.bad (r := nI 0) hI hP (c_sure0 hfo hs hf hm hc hM hst hcn hdd hN hpt he0) (fun w8 th h8 => MIx hS h8 (fun fs pg os nu ot f2 a9 xp xl xi xc o0 ae aT tM hJ => ?_))
    obtain ⟨⟨jm, jA⟩, ⟨g0, g2, g3, g4⟩, ⟨g5, g6, g7, g8, g9⟩, ⟨g21, g26, g34, g43, g44⟩, ⟨⟨b10, b11, b12, b13, b14, b15, b16, b17, b18, b19⟩, hT, hpg⟩, ⟨a1, a20, htm, htb⟩, ⟨a35, a36, a37, a38, a39, a40⟩, ⟨a41, a42, hAN⟩, hrow, ⟨hrd, hsd, hmk, hcd, hot, hos, ho0⟩⟩ := hJ
    rw [he0] at g5
    exact m_sure0 hS.1 jm jA g5
  · obtain ⟨l1, l2, l3, l4, l5, l6, l7⟩ := hL nt (Nat.le_refl _)
    have hin : ∀ e, e < ev → ∀ b, b < 2 ^ u 1 e → (cs nt (16 * e + b) = 268435456 ∨ cs nt (16 * e + b) < 1000000) ∧ mpc nt ≤ cs nt (16 * e + b) := fun e he b hb => ⟨(l2 e he b hb).imp id (fun z => by omega), l6 e he b hb⟩
    refine SX.ok hI hP (sure_eq l1 hin (by omega)) (c_sure hfo hs hf hm hc hM hst hcn hdd hN hpt (l4 (by omega)).1 (fun e he => ?_) (by omega)) (fun w8 th h8 => MIx hS h8 (fun fs pg os nu ot f2 a9 xp xl xi xc o0 ae aT tM hJ => ?_))
    · refine le_mfold (by omega) (fun j h1 h2 => ?_)
      have hb : j - sumP (u 1) e < 2 ^ u 1 e := by omega
      have := l1 e he _ hb
      rw [show sumP (u 1) e + (j - sumP (u 1) e) = j by omega] at this
      rw [this]
      unfold phi
      have := (hin e he _ hb).2
      omega
    · obtain ⟨⟨jm, jA⟩, ⟨g0, g2, g3, g4⟩, ⟨g5, g6, g7, g8, g9⟩, ⟨g21, g26, g34, g43, g44⟩, ⟨⟨b10, b11, b12, b13, b14, b15, b16, b17, b18, b19⟩, hT, hpg⟩, ⟨a1, a20, htm, htb⟩, ⟨a35, a36, a37, a38, a39, a40⟩, ⟨a41, a42, hAN⟩, hrow, ⟨hrd, hsd, hmk, hcd, hot, hos, ho0⟩⟩ := hJ
      have := m_sure hS.1 jm jA g5 g34 b11 b15 a36 a37 a38 (hrow nt (by omega)) (hS.2.1 nt (by omega)) hev (by omega) hnt (fun e he => (hM.bd he).2.1) (l4 (by omega)).1 (hpb nt) (fun e he => by have := (hM.bd he).2.2.2.2.1; omega) (hcs nt)
      rw [l5] at this
      exact this
end
