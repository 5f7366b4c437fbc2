/-! the hours, of the class and of the model -/
theorem ani_at {pe ti ae aT : Nat → Nat} {L : List Nat} (hA : ANI pe ti L ae aT) {i : Nat} (hi : i < L.length) : ae i = pe (L.getD (L.length - 1 - i) 0) ∧ aT i = ti (L.getD (L.length - 1 - i) 0 - 1) := by
  have := hA (L.length - 1 - i) _ (getD_some (by omega))
  rw [show L.length - 1 - (L.length - 1 - i) = i by omega] at this
  exact this
theorem anL_g {pe : Nat → Nat} {nt i : Nat} (hi : i < (anL pe nt).length) : 1 ≤ (anL pe nt).getD i 0 ∧ (anL pe nt).getD i 0 ≤ nt := ⟨anL_pos (List.mem_of_getElem? (getD_some hi)), anL_mem (List.mem_of_getElem? (getD_some hi))⟩
theorem hrs {pe mcl ae aT xb : Nat → Nat} {nt ev : Nat} (hA : ANI pe (fun j => mcl (j + 1)) (anL pe nt) ae aT) (hmono : ∀ i j, 1 ≤ i → i ≤ j → j ≤ nt → mcl i ≤ mcl j) (hmb : ∀ j, mcl j ≤ 100000000) (hpe : ∀ i, 1 ≤ i → i ≤ nt → pe i < ev) (hev : ev ≤ 100) (hbt : ∀ e e', e < e' → e' < ev → xb e < xb e') (hxb : ∀ e, e < ev → xb e ≤ 100000) :
    (upM (anL pe nt).length aT = upC mcl pe nt ∧ loM (anL pe nt).length ae xb = loC xb pe nt) ∧ (2 ≤ (anL pe nt).length → aT ((anL pe nt).length - 5) ≤ aT ((anL pe nt).length - 1)) ∧ (∀ i, i < (anL pe nt).length → ae i < 100) ∧ (2 ≤ (anL pe nt).length → xb (ae ((anL pe nt).length - 5)) ≤ xb (ae ((anL pe nt).length - 1))) ∧ (0 < loC xb pe nt ∧ loC xb pe nt < 2 ^ 31 ∧ upC mcl pe nt < 2 ^ 31) ∧
    (0 < nt → 0 < (anL pe nt).length ∧ aT ((anL pe nt).length - 1) = mcl ((anL pe nt).getD 0 0) ∧ ae ((anL pe nt).length - 1) = pe nt) := by
  have hpm : ∀ i, i < (anL pe nt).length → pe ((anL pe nt).getD i 0) < ev := fun i hi => hpe _ (anL_g hi).1 (anL_g hi).2
  have hcl : ∀ a ∈ anL pe nt, mcl a = (fun j => mcl (j + 1)) (a - 1) := fun a ha => by
    have := anL_pos ha
    try simp only
    rw [show a - 1 + 1 = a by omega]
  have two : 2 ≤ (anL pe nt).length → pe ((anL pe nt).getD (min 4 ((anL pe nt).length - 1)) 0) < pe ((anL pe nt).getD 0 0) ∧ (anL pe nt).getD (min 4 ((anL pe nt).length - 1)) 0 < (anL pe nt).getD 0 0 := fun h2 => anL_lt (show 0 < min 4 ((anL pe nt).length - 1) by omega) (getD_some (by omega)) (getD_some (by omega))
  have mx : ∀ n, 2 ≤ n → n - 1 - (n - 5) = min 4 (n - 1) := fun n hn => by omega
  refine ⟨⟨?_, ?_⟩, fun h2 => ?_, fun i hi => ?_, fun h2 => ?_, ⟨?_, ?_, ?_⟩, fun h0 => ?_⟩
  · by_cases h2 : (anL pe nt).length < 2
    · unfold upM upC; rw [if_pos h2, if_pos h2]
    · rw [up_eq hA hcl (by omega)]; unfold upC; rw [if_neg h2]
  · by_cases h2 : (anL pe nt).length < 2
    · unfold loM loC; rw [if_pos h2, if_pos h2]
    · rw [lo_eq hA (by omega)]; unfold loC; rw [if_neg h2]
  · rw [(ani_at hA (i := (anL pe nt).length - 5) (by omega)).2, (ani_at hA (i := (anL pe nt).length - 1) (by omega)).2, mx _ h2, Nat.sub_self]
    have g := anL_g (pe := pe) (nt := nt) (i := min 4 ((anL pe nt).length - 1)) (by omega)
    have g0 := anL_g (pe := pe) (nt := nt) (i := 0) (by omega)
    try simp only
    rw [show (anL pe nt).getD (min 4 ((anL pe nt).length - 1)) 0 - 1 + 1 = (anL pe nt).getD (min 4 ((anL pe nt).length - 1)) 0 by omega, show (anL pe nt).getD 0 0 - 1 + 1 = (anL pe nt).getD 0 0 by omega]
    exact hmono _ _ g.1 (Nat.le_of_lt (two h2).2) g0.2
  · rw [(ani_at hA hi).1]
    have := hpm ((anL pe nt).length - 1 - i) (by omega)
    omega
  · rw [(ani_at hA (i := (anL pe nt).length - 5) (by omega)).1, (ani_at hA (i := (anL pe nt).length - 1) (by omega)).1, mx _ h2, Nat.sub_self]
    exact Nat.le_of_lt (hbt _ _ (two h2).1 (hpm 0 (by omega)))
  · unfold loC
    by_cases h2 : (anL pe nt).length < 2
    · rw [if_pos h2]; omega
    · rw [if_neg h2]
      have := hbt _ _ (two (by omega)).1 (hpm 0 (by omega))
      omega
  · unfold loC
    by_cases h2 : (anL pe nt).length < 2
    · rw [if_pos h2]; omega
    · rw [if_neg h2]
      have := hxb _ (hpm 0 (by omega))
      omega
  · unfold upC
    by_cases h2 : (anL pe nt).length < 2
    · rw [if_pos h2]; omega
    · rw [if_neg h2]
      have := hmb ((anL pe nt).getD 0 0)
      omega
  · obtain ⟨a, l, e, e2, e3, e4⟩ := anL_hd (pe := pe) h0
    have hlen : 0 < (anL pe nt).length := by rw [e]; exact Nat.succ_pos _
    have hg : (anL pe nt).getD 0 0 = a := by rw [e]; rfl
    refine ⟨hlen, ?_, ?_⟩
    · rw [(ani_at hA (i := (anL pe nt).length - 1) (by omega)).2, Nat.sub_self, hg]
      try simp only
      rw [show a - 1 + 1 = a by omega]
    · rw [(ani_at hA (i := (anL pe nt).length - 1) (by omega)).1, Nat.sub_self, hg, e2]
theorem fstN_cg {q q' : Nat → Bool} : ∀ {k i : Nat}, (∀ j, i ≤ j → j < i + k → q j = q' j) → fstN q k i = fstN q' k i
  | 0, _, _ => rfl
  | k + 1, i, h => by
    unfold fstN
    rw [h i (by omega) (by omega), fstN_cg (fun j h1 h2 => h j (by omega) (by omega))]
/-- the model's table by the class's numbers -/
theorem u_cl {f : Nat → Int32} {ev st : Nat} {u : Nat → Nat → Nat} {bh : Nat → Option Nat} (hM : Mus f ev st u bh) {e : Nat} (he : e < ev) : u 2 e = cl f 2 e ∧ u 3 e = cl f 3 e ∧ u 5 e = cl f 5 e := by
  obtain ⟨q1, q2, q3, q4, q5, q6, q7, q8⟩ := hM.bd he
  exact ⟨(cl_at (hM.c2 he) (by omega)).symm, (cl_at (hM.c3 he) (by omega)).symm, (cl_at (hM.c5 he) (by omega)).symm⟩
section
variable {M : Nat → Prop} {A cr : Nat → Nat} {pt mm : Nat} {w : pW} {σ : St} {u cs : Nat → Nat → Nat}
theorem S_tempo {bl : Bool} (hS : MS A cr mm) (hI : CI M w pt σ) (hP : PU σ u cs) : SX Value.int "" true M A cr pt mm w σ u cs yX5_tempo wsX5_tempo rX5_tempo [.ref pt, .int (zb bl)] yX6_tempo wsX6_tempo rX6_tempo [.ref mm, .int (zb bl)] := by
  obtain ⟨t, tl, ld, flt, fp, ⟨sd1, mr1, cu1, mk1, cd1, rp1, np1, oc1, f, ev, be, cq, st, me, pa⟩, p, nt, mcl, pe, pb, mpc, md⟩ := σ
  have hP' := hP
  obtain ⟨⟨hRJ, hR3, hM⟩, ⟨hnt, hn0, hp0, hb0, hc0⟩, ⟨hpe, hpb, hmb, hpp, ht, htl, hcs⟩, hmono, hL, h00⟩ := hP'
  have hI' := hI
  obtain ⟨tx, rd, to, sd, fd, sc, fa, fo, pr, ar, de, a, dd, ml, ca, K, mcn, ⟨⟨e1, e2, e3, e4⟩, ⟨_, _, _, _, _, _, e5⟩, ⟨_, _, _, _, _, _, _, e6, e7⟩, ⟨_, _, _, _, _, _, e8⟩, ⟨e9, e10, e11⟩, ⟨e12, e13, e14, e15, e16⟩, e17, e18, e19⟩, hNM, hst⟩ := hI'
  have hev := hM.hev
  have hRT : RT f ev be st := hRJ.2.1
  have hbt : ∀ e e', e < e' → e' < ev → u 2 e < u 2 e' := fun e e' h1 h2 => by
    rw [(u_cl hM (show e < ev by omega)).1, (u_cl hM h2).1]
    exact RT_beat hRT h1 h2
  have hpv : ∀ i, 1 ≤ i → i ≤ nt → pe i < ev := fun i h1 h2 => ((hL i h2).2.2.2.1 (by omega)).1
  have hxb : ∀ e, e < ev → u 2 e ≤ 100000 := fun e he => (hM.bd he).2.2.1
  have hlen : (anL pe nt).length ≤ 400 := Nat.le_trans anL_le hnt
  · refine SX.ok hI hP rfl (c_tempoW e17 e12 e9 e10 hM e1 hnt hpv hmono (fun i _ _ => by have := hmb i; omega) hbt) (fun w8 th h8 => MIx hS h8 (fun fs pg os nu ot f2 a9 xp xl xi xc o0 ae aT tM hJ => ?_))
    obtain ⟨⟨jm, jA⟩, ⟨g0, g2, g3, g4⟩, ⟨g5, g6, g7, g8, g9⟩, ⟨g21, g26, g34, g43, g44⟩, ⟨⟨b10, b11, b12, b13, b14, b15, b16, b17, b18, b19⟩, hT, hpg⟩, ⟨a1, a20, htm, htb⟩, ⟨a35, a36, a37, a38, a39, a40⟩, ⟨a41, a42, hAN⟩, hrow, ⟨hrd, hsd, hmk, hcd, hot, hos, ho0⟩⟩ := hJ
    obtain ⟨⟨k1, k2⟩, k3, k4, k5, ⟨k6, k7, k8⟩, k9⟩ := hrs hAN hmono hmb hpv hev hbt hxb
    rw [tp_eq k8 k6 k7]
    have := m_tempo (bl := bl) hS.1 jm jA g43 b13 a41 a42 hlen k3 k4 k5 (by rw [k2]; exact k6) (by rw [k2]; exact k7) (by rw [k1]; exact k8)
    rw [k1, k2] at this
    exact this
theorem S_time {x : Int32} (hS : MS A cr mm) (hI : CI M w pt σ) (hP : PU σ u cs) : SX Value.long "java/lang/IllegalArgumentException" false M A cr pt mm w σ u cs yX5_time wsX5_time rX5_time [.ref pt, .int x] yX6_time wsX6_time rX6_time [.ref mm, .int x] := by
  obtain ⟨t, tl, ld, flt, fp, ⟨sd1, mr1, cu1, mk1, cd1, rp1, np1, oc1, f, ev, be, cq, st, me, pa⟩, p, nt, mcl, pe, pb, mpc, md⟩ := σ
  have hP' := hP
  obtain ⟨⟨hRJ, hR3, hM⟩, ⟨hnt, hn0, hp0, hb0, hc0⟩, ⟨hpe, hpb, hmb, hpp, ht, htl, hcs⟩, hmono, hL, h00⟩ := hP'
  have hI' := hI
  obtain ⟨tx, rd, to, sd, fd, sc, fa, fo, pr, ar, de, a, dd, ml, ca, K, mcn, ⟨⟨e1, e2, e3, e4⟩, ⟨_, _, _, _, _, _, e5⟩, ⟨_, _, _, _, _, _, _, e6, e7⟩, ⟨_, _, _, _, _, _, e8⟩, ⟨e9, e10, e11⟩, ⟨e12, e13, e14, e15, e16⟩, e17, e18, e19⟩, hNM, hst⟩ := hI'
  have hev := hM.hev
  have hRT : RT f ev be st := hRJ.2.1
  have hbt : ∀ e e', e < e' → e' < ev → u 2 e < u 2 e' := fun e e' h1 h2 => by
    rw [(u_cl hM (show e < ev by omega)).1, (u_cl hM h2).1]
    exact RT_beat hRT h1 h2
  have hpv : ∀ i, 1 ≤ i → i ≤ nt → pe i < ev := fun i h1 h2 => ((hL i h2).2.2.2.1 (by omega)).1
  have hxb : ∀ e, e < ev → u 2 e ≤ 100000 := fun e he => (hM.bd he).2.2.1
  have hlen : (anL pe nt).length ≤ 400 := Nat.le_trans anL_le hnt
  rcases i_rg (K := 100000) (by omega) x with hb | ⟨bt, hbb, rfl⟩
  · refine SX.bad (r := 0) hI hP (c_timeBad e1 hb) (fun w8 th h8 => MIx hS h8 (fun fs pg os nu ot f2 a9 xp xl xi xc o0 ae aT tM hJ => ?_))
    obtain ⟨⟨jm, jA⟩, ⟨g0, g2, g3, g4⟩, ⟨g5, g6, g7, g8, g9⟩, ⟨g21, g26, g34, g43, g44⟩, ⟨⟨b10, b11, b12, b13, b14, b15, b16, b17, b18, b19⟩, hT, hpg⟩, ⟨a1, a20, htm, htb⟩, ⟨a35, a36, a37, a38, a39, a40⟩, ⟨a41, a42, hAN⟩, hrow, ⟨hrd, hsd, hmk, hcd, hot, hos, ho0⟩⟩ := hJ
    exact m_timeBad hS.1 jm jA hb
  · refine SX.ok hI hP rfl (c_timeW e17 e12 e9 e10 hM e1 hnt hpv hmono (fun i _ _ => by have := hmb i; omega) hbt hbb) (fun w8 th h8 => MIx hS h8 (fun fs pg os nu ot f2 a9 xp xl xi xc o0 ae aT tM hJ => ?_))
    obtain ⟨⟨jm, jA⟩, ⟨g0, g2, g3, g4⟩, ⟨g5, g6, g7, g8, g9⟩, ⟨g21, g26, g34, g43, g44⟩, ⟨⟨b10, b11, b12, b13, b14, b15, b16, b17, b18, b19⟩, hT, hpg⟩, ⟨a1, a20, htm, htb⟩, ⟨a35, a36, a37, a38, a39, a40⟩, ⟨a41, a42, hAN⟩, hrow, ⟨hrd, hsd, hmk, hcd, hot, hos, ho0⟩⟩ := hJ
    obtain ⟨⟨k1, k2⟩, k3, k4, k5, ⟨k6, k7, k8⟩, k9⟩ := hrs hAN hmono hmb hpv hev hbt hxb
    by_cases h0 : nt = 0
    · rw [if_pos h0]
      rw [h0] at g43
      exact m_time0 hS.1 jm jA g43 hbb
    · rw [if_neg h0]
      obtain ⟨k10, k11, k12⟩ := k9 (by omega)
      have := m_time hS.1 jm jA g43 b13 a41 a42 hlen k3 k4 k5 (by rw [k2]; exact k6) (by rw [k2]; exact k7) k10 hbb
      rw [k1, k2, k11, k12] at this
      exact this
theorem S_turnsAt (hS : MS A cr mm) (hI : CI M w pt σ) (hP : PU σ u cs) : SX Value.long "" true M A cr pt mm w σ u cs yX5_turnsAt wsX5_turnsAt rX5_turnsAt [.ref pt] yX6_turnsAt wsX6_turnsAt rX6_turnsAt [.ref mm] := by
  obtain ⟨t, tl, ld, flt, fp, ⟨sd1, mr1, cu1, mk1, cd1, rp1, np1, oc1, f, ev, be, cq, st, me, pa⟩, p, nt, mcl, pe, pb, mpc, md⟩ := σ
  have hP' := hP
  obtain ⟨⟨hRJ, hR3, hM⟩, ⟨hnt, hn0, hp0, hb0, hc0⟩, ⟨hpe, hpb, hmb, hpp, ht, htl, hcs⟩, hmono, hL, h00⟩ := hP'
  have hI' := hI
  obtain ⟨tx, rd, to, sd, fd, sc, fa, fo, pr, ar, de, a, dd, ml, ca, K, mcn, ⟨⟨e1, e2, e3, e4⟩, ⟨_, _, _, _, _, _, e5⟩, ⟨_, _, _, _, _, _, _, e6, e7⟩, ⟨_, _, _, _, _, _, e8⟩, ⟨e9, e10, e11⟩, ⟨e12, e13, e14, e15, e16⟩, e17, e18, e19⟩, hNM, hst⟩ := hI'
  have hev := hM.hev
  have hRT : RT f ev be st := hRJ.2.1
  have hbt : ∀ e e', e < e' → e' < ev → u 2 e < u 2 e' := fun e e' h1 h2 => by
    rw [(u_cl hM (show e < ev by omega)).1, (u_cl hM h2).1]
    exact RT_beat hRT h1 h2
  have hpv : ∀ i, 1 ≤ i → i ≤ nt → pe i < ev := fun i h1 h2 => ((hL i h2).2.2.2.1 (by omega)).1
  have hxb : ∀ e, e < ev → u 2 e ≤ 100000 := fun e he => (hM.bd he).2.2.1
  have hlen : (anL pe nt).length ≤ 400 := Nat.le_trans anL_le hnt
  · refine SX.ok hI hP rfl (c_turnsW e17 e12 e9 e10 hM e1 hnt hpv hmono (fun i _ _ => by have := hmb i; omega) hbt (hpe 0)) (fun w8 th h8 => MIx hS h8 (fun fs pg os nu ot f2 a9 xp xl xi xc o0 ae aT tM hJ => ?_))
    obtain ⟨⟨jm, jA⟩, ⟨g0, g2, g3, g4⟩, ⟨g5, g6, g7, g8, g9⟩, ⟨g21, g26, g34, g43, g44⟩, ⟨⟨b10, b11, b12, b13, b14, b15, b16, b17, b18, b19⟩, hT, hpg⟩, ⟨a1, a20, htm, htb⟩, ⟨a35, a36, a37, a38, a39, a40⟩, ⟨a41, a42, hAN⟩, hrow, ⟨hrd, hsd, hmk, hcd, hot, hos, ho0⟩⟩ := hJ
    obtain ⟨⟨k1, k2⟩, k3, k4, k5, ⟨k6, k7, k8⟩, k9⟩ := hrs hAN hmono hmb hpv hev hbt hxb
    by_cases h0 : nt = 0
    · rw [if_pos h0]
      rw [h0] at g43
      exact m_turns0 hS.1 jm jA g43
    · rw [if_neg h0]
      obtain ⟨k10, k11, k12⟩ := k9 (by omega)
      have hpn : pe nt < ev := hpv nt (by omega) (Nat.le_refl _)
      have hpg2 : u 5 (ev - 1) + 1 = pg := by rw [(u_cl hM (show ev - 1 < ev by omega)).2.2]; exact hpg.2 (by omega)
      have hup : u 5 (ev - 1) ≤ 100 := (hM.bd (show ev - 1 < ev by omega)).2.2.2.2.2.1
      have hf5 : ∀ j, j < ev → (f (j * 14 + 5) = f (pe nt * 14 + 5) ↔ u 5 j = u 5 (pe nt)) := fun j hj => by
        have q1 := (hM.bd hj).2.2.2.2.2.1
        have q2 := (hM.bd hpn).2.2.2.2.2.1
        rw [hM.c5 hj, hM.c5 hpn]
        exact nI_eq (by omega) (by omega)
      cases hn : nxP f ev (pe nt) with
      | none =>
        have hq : u 5 (pe nt) = pg - 1 := by
          by_cases hl : pe nt = ev - 1
          · rw [hl]; omega
          · have := fstN_none hn (ev - 1) (by omega) (by omega)
            simp only [Bool.not_eq_false', beq_iff_eq] at this
            have := (hf5 (ev - 1) (by omega)).mp this
            omega
        exact m_turnsE hS.1 jm jA g43 g34 g7 b16 a36 hlen hnt (hpe nt) (by omega) hq
      | some z =>
        obtain ⟨z1, z2, z3, z4⟩ := fstN_some hn
        have hzv : z < ev := by omega
        simp only [Bool.not_eq_true', beq_eq_false_iff_ne] at z3
        have hzn : u 5 z ≠ u 5 (pe nt) := fun q => z3 ((hf5 z hzv).mpr q)
        have hm5 : ∀ e e', e ≤ e' → e' < ev → u 5 e ≤ u 5 e' := fun e e' h1 h2 => by
          rw [(u_cl hM (show e < ev by omega)).2.2, (u_cl hM h2).2.2]
          exact RT_page hRT h1 h2
        have hq : u 5 (pe nt) ≠ pg - 1 := by
          have q1 := hm5 (pe nt) z (by omega) hzv
          have q2 := hm5 z (ev - 1) (by omega) (by omega)
          omega
        have hz2 : ∀ j, pe nt < j → j < z → u 5 j = u 5 (pe nt) := fun j h1 h2 => by
          have := z4 j (by omega) h2
          simp only [Bool.not_eq_false', beq_iff_eq] at this
          exact (hf5 j (by omega)).mp this
        have hbz : u 2 (z - 1) + u 3 (z - 1) = u 2 z := by
          have := (hRT.2.1 (z - 1) (by omega)).1
          rw [show z - 1 + 1 = z by omega] at this
          rw [(u_cl hM (show z - 1 < ev by omega)).1, (u_cl hM (show z - 1 < ev by omega)).2.1, (u_cl hM hzv).1]
          exact this
        have := m_turns hS.1 jm jA g43 g34 g7 g44 b13 a41 a42 b14 b16 a36 hlen k3 k4 k5 (by rw [k2]; exact k6) (by rw [k2]; exact k7) k10 hnt ⟨by omega, hzv, hev⟩ hzn hz2 (fun j hj => by have := (hM.bd hj).2.2.2.2.2.1; omega) (by omega) hq
        rw [k1, k2, k11, k12, hbz] at this
        exact this
theorem S_cue (hS : MS A cr mm) (hI : CI M w pt σ) (hP : PU σ u cs) : SX Value.long "" true M A cr pt mm w σ u cs yX5_cue wsX5_cue rX5_cue [.ref pt] yX6_cue wsX6_cue rX6_cue [.ref mm] := by
  obtain ⟨t, tl, ld, flt, fp, ⟨sd1, mr1, cu1, mk1, cd1, rp1, np1, oc1, f, ev, be, cq, st, me, pa⟩, p, nt, mcl, pe, pb, mpc, md⟩ := σ
  have hP' := hP
  obtain ⟨⟨hRJ, hR3, hM⟩, ⟨hnt, hn0, hp0, hb0, hc0⟩, ⟨hpe, hpb, hmb, hpp, ht, htl, hcs⟩, hmono, hL, h00⟩ := hP'
  have hI' := hI
  obtain ⟨tx, rd, to, sd, fd, sc, fa, fo, pr, ar, de, a, dd, ml, ca, K, mcn, ⟨⟨e1, e2, e3, e4⟩, ⟨_, _, _, _, _, _, e5⟩, ⟨_, _, _, _, _, _, _, e6, e7⟩, ⟨_, _, _, _, _, _, e8⟩, ⟨e9, e10, e11⟩, ⟨e12, e13, e14, e15, e16⟩, e17, e18, e19⟩, hNM, hst⟩ := hI'
  have hev := hM.hev
  have hRT : RT f ev be st := hRJ.2.1
  have hbt : ∀ e e', e < e' → e' < ev → u 2 e < u 2 e' := fun e e' h1 h2 => by
    rw [(u_cl hM (show e < ev by omega)).1, (u_cl hM h2).1]
    exact RT_beat hRT h1 h2
  have hpv : ∀ i, 1 ≤ i → i ≤ nt → pe i < ev := fun i h1 h2 => ((hL i h2).2.2.2.1 (by omega)).1
  have hxb : ∀ e, e < ev → u 2 e ≤ 100000 := fun e he => (hM.bd he).2.2.1
  have hlen : (anL pe nt).length ≤ 400 := Nat.le_trans anL_le hnt
  · refine SX.ok hI hP rfl (c_cueW e17 e12 e9 e10 hM e1 hnt hpv hmono (fun i _ _ => by have := hmb i; omega) hbt (hpe 0)) (fun w8 th h8 => MIx hS h8 (fun fs pg os nu ot f2 a9 xp xl xi xc o0 ae aT tM hJ => ?_))
    obtain ⟨⟨jm, jA⟩, ⟨g0, g2, g3, g4⟩, ⟨g5, g6, g7, g8, g9⟩, ⟨g21, g26, g34, g43, g44⟩, ⟨⟨b10, b11, b12, b13, b14, b15, b16, b17, b18, b19⟩, hT, hpg⟩, ⟨a1, a20, htm, htb⟩, ⟨a35, a36, a37, a38, a39, a40⟩, ⟨a41, a42, hAN⟩, hrow, ⟨hrd, hsd, hmk, hcd, hot, hos, ho0⟩⟩ := hJ
    obtain ⟨⟨k1, k2⟩, k3, k4, k5, ⟨k6, k7, k8⟩, k9⟩ := hrs hAN hmono hmb hpv hev hbt hxb
    by_cases h0 : nt = 0
    · rw [if_pos h0]
      rw [h0] at g43
      exact m_cue0 hS.1 jm jA g43
    · rw [if_neg h0]
      obtain ⟨k10, k11, k12⟩ := k9 (by omega)
      have hpn : pe nt < ev := hpv nt (by omega) (Nat.le_refl _)
      have hq : cuF f ev (pe nt) = fstN (fun j => !(xc j == 0)) (ev - pe nt) (pe nt) := by
        refine fstN_cg (fun j h1 h2 => ?_)
        have hj : j < ev := by omega
        have h7 := (hM.bd hj).2.2.2.2.2.2.2
        have z7 : xc j = nI (u 7 j) := (hT j hj).2.1.2.2.2.2.2.2.1.symm.trans (hM.c7 hj)
        rw [hM.c7 hj, z7]
        rcases (show u 7 j = 0 ∨ u 7 j = 1 by omega) with z | z <;> rw [z] <;> rfl
      have := m_cue hS.1 jm jA g5 g43 g34 b13 a41 a42 b19 a36 hlen k3 k4 k5 (by rw [k2]; exact k6) (by rw [k2]; exact k7) k10 hnt hev hpn
      rw [k1, k2, k11, k12, ← hq] at this
      exact this
end
