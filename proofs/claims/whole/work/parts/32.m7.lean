section M7
def NV9 : Nat := 268435456
/-- the word that the k-th byte of a feed is taken from -/
def zS (za zb zc zd ze : Int32) (k : Nat) : Int32 := if k < 4 then za else if k < 8 then zb else if k < 12 then zc else if k < 16 then zd else ze
def mfd (t : Nat → Nat) (tl : Nat) (z : Nat → Int32) : Nat → Nat → Nat
  | 0 => t
  | k + 1 => va_up (mfd t tl z k) (tl + k) (byN (z k) (nI (24 - 8 * (k % 4)) &&& 31))
theorem mfd_20 {t : Nat → Nat} {tl : Nat} {za zb zc zd ze : Int32} : mfd t tl (zS za zb zc zd ze) 20 = fd5 t tl za zb zc zd ze := rfl
/-- the costs at the start -/
def g00 (j : Nat) : Nat := if j = 0 then 0 else 268435456
theorem bad2 {x : Int32} {K : Nat} (hb : x < 0 ∨ nI K < x) (h1 : ¬ x < 0) (h2 : x ≤ nI K) : False := hb.elim h1 (fun q => absurd q (Int32.not_lt.mpr h2))
theorem bad3 {x : Int32} {K : Nat} (hb : x < 0 ∨ nI K < x) (h1 : ¬ x < 0) (h2 : ¬ nI K < x) : False := hb.elim h1 h2
end M7
abbrev rX6_feed : Room := { frames := 0, cells := 0, slots := 0, locals := 0 }
theorem fsX6_feed_80 : FS wsX6_feed RX6 80 6 0 false (.int) := ⟨RX6, TX6, 45, tyX6, rfl, by decide, by decide +kernel, by decide +kernel, tyX6_ok, nmX6, rfl, rfl, rfl⟩
theorem flX6_feed_83 : FL wsX6_feed RX6 83 6 2 := ⟨RX6, TX6, 45, rfl, by decide, by decide +kernel, by decide +kernel⟩
set_option maxHeartbeats 4000000 in
set_option maxRecDepth 100000 in
theorem m_feedNo {tl : Nat} {za zb zc zd ze : Int32} {w : pW} {A : Nat → Nat} {mm : Nat} {fs : List Value} (hAD : AD A mm) (hmm : w mm = some (.inr (6, fs))) (hA : RA A fs) (h2 : fs[2]? = some (.int (nI tl))) (htl : 2380 < tl) (htl2 : tl ≤ 2400) : Ct yX6_feed wsX6_feed rX6_feed [.ref mm, .int za, .int zb, .int zc, .int zd, .int ze] w (fun o w9 => o = .inl (some (.int (-1))) ∧ ∃ fs9 : List Value, MU A mm [] [0] w w9 fs fs9 ∧ fs9[0]? = some (.int (nI 0))) := by
  refine Ct.of (cc := cX6_feed) (own := RX6) (nm := "feed") (nL := 8) (ret := (some .int)) (by decide +kernel) rfl rfl rfl (Nat.le_of_ble_eq_true rfl) ?_
  refine j_lvE (lv' := [(0, .ref mm), (1, .int za), (2, .int zb), (3, .int zc), (4, .int zd), (5, .int ze)]) rfl ?_
  refine j_aload_n dX6_feed_0 0 rfl ?_
  refine j_iconst (v := nI 0) dX6_feed_1 (by decide) ?_
  refine j_putM fsX6_feed_80 hmm rfl rfl (RA.lt hA (by decide)) dX6_feed_2 (fun w1 fs2 sfs2 hw1 => ?_)
  have f3 : w1 mm = some (.inr (6, fs2)) := up_at hw1
  have rfs2 : RA A fs2 := RA.set hA sfs2 rfl
  have v4 := st_at sfs2 hA (by decide : 0 < 45)
  refine j_aload_n dX6_feed_5 0 rfl ?_
  have v5 := (st_ne sfs2 rfl h2)
  refine j_get (v := .int (nI tl)) flX6_feed_83 f3 v5 dX6_feed_6 ?_
  refine j_bipush (v := nI 20) dX6_feed_9 (by decide) ?_
  refine j_iaddN dX6_feed_11 ?_
  refine j_sipush (v := nI 2400) dX6_feed_12 (by decide) ?_
  refine j_icmp_leN 20 (by omega) (by omega) dX6_feed_15 (by decide) (fun c15 => ?_) (fun c15 => ?_)
  · skip
    exfalso; omega
  · skip
    refine j_iconst (v := (-1)) dX6_feed_18 (by decide) ?_
    exact j_iret rfl ⟨rfl, _, ⟨((FrI.refl : FrI A [mm] [] w w).trans (FrI.ux hw1 (by simp))), f3, ((FF.refl : FF [0] fs fs).trans (FF.set sfs2 rfl))⟩, v4⟩ (show 0 ≤ 0 by omega) (show 0 ≤ 0 by omega) dX6_feed_19
theorem flX6_feed_9 : FL wsX6_feed RX6 9 6 1 := ⟨RX6, TX6, 45, rfl, by decide, by decide +kernel, by decide +kernel⟩
theorem fsX6_feed_83 : FS wsX6_feed RX6 83 6 2 false (.int) := ⟨RX6, TX6, 45, tyX6, rfl, by decide, by decide +kernel, by decide +kernel, tyX6_ok, nmX6, rfl, rfl, rfl⟩
set_option maxHeartbeats 4000000 in
set_option maxRecDepth 100000 in
theorem l_feed {t : Nat → Nat} {tl : Nat} {za zb zc zd ze : Int32} {w0 : pW} {fs0 : List Value} {A : Nat → Nat} {mm : Nat} (hAD : AD A mm) (htl : tl ≤ 2380) : ∀ (m9 : Nat) (w : pW) (fs : List Value) (i : Nat), 20 - i < m9 → (w mm = some (.inr (6, fs))) → (RA A fs) → (FrI A [mm] [1] w0 w) → (FF [0, 2] fs0 fs) → (fs[0]? = some (.int (nI 0))) → (fs[2]? = some (.int (nI (tl + i)))) → (w (A 1) = some (.inl (0, 2400, .inl (fun j9 => nI ((mfd t tl (zS za zb zc zd ze) i) j9))))) → (i ≤ 20) → J ((cX6_feed, RX6, 8, wsX6_feed), (rX6_feed, (some .int), "feed", []), fun o w9 => o = .inl (some (.int (nI (tl + 20)))) ∧ ∃ fs9 : List Value, MU A mm [1] [0, 2] w0 w9 fs0 fs9 ∧ fs9[0]? = some (.int (nI 0)) ∧ fs9[2]? = some (.int (nI (tl + 20))) ∧ w9 (A 1) = some (.inl (0, 2400, .inl (fun j9 => nI ((fd5 t tl za zb zc zd ze) j9)))), fun _ _ _ => True) 23 [(0, .ref mm), (1, .int za), (2, .int zb), (3, .int zc), (4, .int zd), (5, .int ze), (6, .int (nI i))] [] w 0 0 := by
  intro m9
  induction m9 with
  | zero => intro w fs i h9; omega
  | succ m9 ih =>
    intro w fs i hm9 hmm hA hfr hff h0 h2 a1 hi
    refine j_iload dX6_feed_23 6 rfl ?_
    refine j_bipush (v := nI 20) dX6_feed_25 (by decide) ?_
    refine j_icmp_geN 120 (by omega) (by omega) dX6_feed_27 (by decide) (fun c27 => ?_) (fun c27 => ?_)
    · skip
      refine j_aload_n dX6_feed_120 0 rfl ?_
      refine j_get (v := .int (nI (tl + i))) flX6_feed_83 hmm h2 dX6_feed_121 ?_
      have hi20 : i = 20 := by omega
      subst hi20
      rw [mfd_20] at a1
      exact j_iret rfl ⟨rfl, _, ⟨(FrI.mono hfr (by simp) rfl : FrI A [mm] [1] w0 _), hmm, (FF.mono hff rfl : FF [0, 2] fs0 _)⟩, h0, h2, a1⟩ (show 0 ≤ 0 by omega) (show 0 ≤ 0 by omega) dX6_feed_124
    · skip
      refine j_iload dX6_feed_30 6 rfl ?_
      refine j_iconst (v := nI 4) dX6_feed_32 (by decide) ?_
      refine j_icmp_geN 40 (by omega) (by omega) dX6_feed_33 (by decide) (fun c33 => ?_) (fun c33 => ?_)
      · skip
        refine j_iload dX6_feed_40 6 rfl ?_
        refine j_bipush (v := nI 8) dX6_feed_42 (by decide) ?_
        refine j_icmp_geN 51 (by omega) (by omega) dX6_feed_44 (by decide) (fun c44 => ?_) (fun c44 => ?_)
        · skip
          refine j_iload dX6_feed_51 6 rfl ?_
          refine j_bipush (v := nI 12) dX6_feed_53 (by decide) ?_
          refine j_icmp_geN 62 (by omega) (by omega) dX6_feed_55 (by decide) (fun c55 => ?_) (fun c55 => ?_)
          · skip
            refine j_iload dX6_feed_62 6 rfl ?_
            refine j_bipush (v := nI 16) dX6_feed_64 (by decide) ?_
            refine j_icmp_geN 74 (by omega) (by omega) dX6_feed_66 (by decide) (fun c66 => ?_) (fun c66 => ?_)
            · skip
              refine j_iload dX6_feed_74 5 rfl ?_
              refine j_eqi (y := zS za zb zc zd ze i) (by unfold zS; rw [if_neg (by omega), if_neg (by omega), if_neg (by omega), if_neg (by omega)]) ?_
              refine j_istore (lv' := [(7, .int (zS za zb zc zd ze i)), (0, .ref mm), (1, .int za), (2, .int zb), (3, .int zc), (4, .int zd), (5, .int ze), (6, .int (nI i))]) dX6_feed_76 (Nat.le_of_ble_eq_true rfl) rfl ?_
              refine j_aload_n dX6_feed_78 1 rfl ?_
              refine j_get (v := .ref (A 1)) flX6_feed_9 hmm (hA.2 1 rfl) dX6_feed_79 ?_
              refine j_aload_n dX6_feed_82 1 rfl ?_
              refine j_get (v := .int (nI (tl + i))) flX6_feed_83 hmm h2 dX6_feed_83 ?_
              refine j_iload dX6_feed_86 0 rfl ?_
              refine j_bipush (v := nI 24) dX6_feed_88 (by decide) ?_
              refine j_bipush (v := nI 8) dX6_feed_90 (by decide) ?_
              refine j_iload dX6_feed_92 7 rfl ?_
              refine j_iconst (v := nI 4) dX6_feed_94 (by decide) ?_
              refine j_irem dX6_feed_95 (by decide) ?_
              refine j_eqi (y := nI (i % 4)) (pk_rem (by omega) (by omega) (by omega)) ?_
              refine j_imulN dX6_feed_96 ?_
              refine j_isubN (by omega) dX6_feed_97 ?_
              refine j_ishr dX6_feed_98 ?_
              refine j_sipush (v := nI 255) dX6_feed_99 (by decide) ?_
              refine j_iand dX6_feed_102 ?_
              refine j_eqi (y := nI (byN (zS za zb zc zd ze i) (nI (24 - 8 * (i % 4)) &&& 31))) (pk_and _ (m := 255) 8 (by decide)) ?_
              refine j_iastn (j := tl + i) (x := byN (zS za zb zc zd ze i) (nI (24 - 8 * (i % 4)) &&& 31)) a1 rfl (by omega) (by omega) dX6_feed_103 ?_
              refine j_w (fun w1 hw1 => ?_)
              have f2 : w1 (A 1) = some (.inl (0, 2400, .inl (fun j9 => nI ((va_up (mfd t tl (zS za zb zc zd ze) i) (tl + i) (byN (zS za zb zc zd ze i) (nI (24 - 8 * (i % 4)) &&& 31))) j9)))) := up_at hw1
              refine j_aload_n dX6_feed_104 1 rfl ?_
              refine j_dup dX6_feed_105 rfl ?_
              have f3 := (up_ne hw1 (AD.mn hAD 1 rfl) hmm)
              refine j_get (v := .int (nI (tl + i))) flX6_feed_83 f3 h2 dX6_feed_106 ?_
              refine j_iconst (v := nI 1) dX6_feed_109 (by decide) ?_
              refine j_iaddN dX6_feed_110 ?_
              refine j_putM fsX6_feed_83 f3 rfl rfl (RA.lt hA (by decide)) dX6_feed_111 (fun w4 fs5 sfs5 hw4 => ?_)
              have f6 : w4 mm = some (.inr (6, fs5)) := up_at hw4
              have rfs5 : RA A fs5 := RA.set hA sfs5 rfl
              have v7 := st_at sfs5 hA (by decide : 2 < 45)
              refine j_iinc (q := 7) (v := nI (i + 1)) (lv' := [(6, .int (nI (i + 1))), (7, .int (zS za zb zc zd ze i)), (0, .ref mm), (1, .int za), (2, .int zb), (3, .int zc), (4, .int zd), (5, .int ze)]) dX6_feed_114 rfl (by first | exact nI_1 _ | exact nI_add _ _) (Nat.le_of_ble_eq_true rfl) rfl ?_
              refine j_goto 23 dX6_feed_117 (by decide) ?_
              refine j_lv (lv' := [(0, .ref mm), (1, .int za), (2, .int zb), (3, .int zc), (4, .int zd), (5, .int ze), (6, .int (nI (i + 1)))]) [2, 3, 4, 5, 6, 7, 0] rfl ?_
              have v8 := (st_ne sfs5 rfl h0)
              have f9 := (up_ne hw4 (AD.nm hAD 1 rfl) f2)
              exact ih _ _ (i + 1) (by omega) f6 rfs5 (((FrI.mono hfr (by simp) rfl : FrI A [mm] [1] w0 _).trans (FrI.ua hw1 rfl)).trans (FrI.ux hw4 (by simp))) ((FF.mono hff rfl : FF [0, 2] fs0 _).trans (FF.set sfs5 rfl)) v8 v7 f9 (by omega)
            · skip
              refine j_iload dX6_feed_69 4 rfl ?_
              refine j_goto 76 dX6_feed_71 (by decide) ?_
              refine j_eqi (y := zS za zb zc zd ze i) (by unfold zS; rw [if_neg (by omega), if_neg (by omega), if_neg (by omega), if_pos (by omega)]) ?_
              refine j_istore (lv' := [(7, .int (zS za zb zc zd ze i)), (0, .ref mm), (1, .int za), (2, .int zb), (3, .int zc), (4, .int zd), (5, .int ze), (6, .int (nI i))]) dX6_feed_76 (Nat.le_of_ble_eq_true rfl) rfl ?_
              refine j_aload_n dX6_feed_78 1 rfl ?_
              refine j_get (v := .ref (A 1)) flX6_feed_9 hmm (hA.2 1 rfl) dX6_feed_79 ?_
              refine j_aload_n dX6_feed_82 1 rfl ?_
              refine j_get (v := .int (nI (tl + i))) flX6_feed_83 hmm h2 dX6_feed_83 ?_
              refine j_iload dX6_feed_86 0 rfl ?_
              refine j_bipush (v := nI 24) dX6_feed_88 (by decide) ?_
              refine j_bipush (v := nI 8) dX6_feed_90 (by decide) ?_
              refine j_iload dX6_feed_92 7 rfl ?_
              refine j_iconst (v := nI 4) dX6_feed_94 (by decide) ?_
              refine j_irem dX6_feed_95 (by decide) ?_
              refine j_eqi (y := nI (i % 4)) (pk_rem (by omega) (by omega) (by omega)) ?_
              refine j_imulN dX6_feed_96 ?_
              refine j_isubN (by omega) dX6_feed_97 ?_
              refine j_ishr dX6_feed_98 ?_
              refine j_sipush (v := nI 255) dX6_feed_99 (by decide) ?_
              refine j_iand dX6_feed_102 ?_
              refine j_eqi (y := nI (byN (zS za zb zc zd ze i) (nI (24 - 8 * (i % 4)) &&& 31))) (pk_and _ (m := 255) 8 (by decide)) ?_
              refine j_iastn (j := tl + i) (x := byN (zS za zb zc zd ze i) (nI (24 - 8 * (i % 4)) &&& 31)) a1 rfl (by omega) (by omega) dX6_feed_103 ?_
              refine j_w (fun w10 hw10 => ?_)
              have f11 : w10 (A 1) = some (.inl (0, 2400, .inl (fun j9 => nI ((va_up (mfd t tl (zS za zb zc zd ze) i) (tl + i) (byN (zS za zb zc zd ze i) (nI (24 - 8 * (i % 4)) &&& 31))) j9)))) := up_at hw10
              refine j_aload_n dX6_feed_104 1 rfl ?_
              refine j_dup dX6_feed_105 rfl ?_
              have f12 := (up_ne hw10 (AD.mn hAD 1 rfl) hmm)
              refine j_get (v := .int (nI (tl + i))) flX6_feed_83 f12 h2 dX6_feed_106 ?_
              refine j_iconst (v := nI 1) dX6_feed_109 (by decide) ?_
              refine j_iaddN dX6_feed_110 ?_
              refine j_putM fsX6_feed_83 f12 rfl rfl (RA.lt hA (by decide)) dX6_feed_111 (fun w13 fs14 sfs14 hw13 => ?_)
              have f15 : w13 mm = some (.inr (6, fs14)) := up_at hw13
              have rfs14 : RA A fs14 := RA.set hA sfs14 rfl
              have v16 := st_at sfs14 hA (by decide : 2 < 45)
              refine j_iinc (q := 7) (v := nI (i + 1)) (lv' := [(6, .int (nI (i + 1))), (7, .int (zS za zb zc zd ze i)), (0, .ref mm), (1, .int za), (2, .int zb), (3, .int zc), (4, .int zd), (5, .int ze)]) dX6_feed_114 rfl (by first | exact nI_1 _ | exact nI_add _ _) (Nat.le_of_ble_eq_true rfl) rfl ?_
              refine j_goto 23 dX6_feed_117 (by decide) ?_
              refine j_lv (lv' := [(0, .ref mm), (1, .int za), (2, .int zb), (3, .int zc), (4, .int zd), (5, .int ze), (6, .int (nI (i + 1)))]) [2, 3, 4, 5, 6, 7, 0] rfl ?_
              have v17 := (st_ne sfs14 rfl h0)
              have f18 := (up_ne hw13 (AD.nm hAD 1 rfl) f11)
              exact ih _ _ (i + 1) (by omega) f15 rfs14 (((FrI.mono hfr (by simp) rfl : FrI A [mm] [1] w0 _).trans (FrI.ua hw10 rfl)).trans (FrI.ux hw13 (by simp))) ((FF.mono hff rfl : FF [0, 2] fs0 _).trans (FF.set sfs14 rfl)) v17 v16 f18 (by omega)
          · skip
            refine j_iload_n dX6_feed_58 3 rfl ?_
            refine j_goto 76 dX6_feed_59 (by decide) ?_
            refine j_eqi (y := zS za zb zc zd ze i) (by unfold zS; rw [if_neg (by omega), if_neg (by omega), if_pos (by omega)]) ?_
            refine j_istore (lv' := [(7, .int (zS za zb zc zd ze i)), (0, .ref mm), (1, .int za), (2, .int zb), (3, .int zc), (4, .int zd), (5, .int ze), (6, .int (nI i))]) dX6_feed_76 (Nat.le_of_ble_eq_true rfl) rfl ?_
            refine j_aload_n dX6_feed_78 1 rfl ?_
            refine j_get (v := .ref (A 1)) flX6_feed_9 hmm (hA.2 1 rfl) dX6_feed_79 ?_
            refine j_aload_n dX6_feed_82 1 rfl ?_
            refine j_get (v := .int (nI (tl + i))) flX6_feed_83 hmm h2 dX6_feed_83 ?_
            refine j_iload dX6_feed_86 0 rfl ?_
            refine j_bipush (v := nI 24) dX6_feed_88 (by decide) ?_
            refine j_bipush (v := nI 8) dX6_feed_90 (by decide) ?_
            refine j_iload dX6_feed_92 7 rfl ?_
            refine j_iconst (v := nI 4) dX6_feed_94 (by decide) ?_
            refine j_irem dX6_feed_95 (by decide) ?_
            refine j_eqi (y := nI (i % 4)) (pk_rem (by omega) (by omega) (by omega)) ?_
            refine j_imulN dX6_feed_96 ?_
            refine j_isubN (by omega) dX6_feed_97 ?_
            refine j_ishr dX6_feed_98 ?_
            refine j_sipush (v := nI 255) dX6_feed_99 (by decide) ?_
            refine j_iand dX6_feed_102 ?_
            refine j_eqi (y := nI (byN (zS za zb zc zd ze i) (nI (24 - 8 * (i % 4)) &&& 31))) (pk_and _ (m := 255) 8 (by decide)) ?_
            refine j_iastn (j := tl + i) (x := byN (zS za zb zc zd ze i) (nI (24 - 8 * (i % 4)) &&& 31)) a1 rfl (by omega) (by omega) dX6_feed_103 ?_
            refine j_w (fun w19 hw19 => ?_)
            have f20 : w19 (A 1) = some (.inl (0, 2400, .inl (fun j9 => nI ((va_up (mfd t tl (zS za zb zc zd ze) i) (tl + i) (byN (zS za zb zc zd ze i) (nI (24 - 8 * (i % 4)) &&& 31))) j9)))) := up_at hw19
            refine j_aload_n dX6_feed_104 1 rfl ?_
            refine j_dup dX6_feed_105 rfl ?_
            have f21 := (up_ne hw19 (AD.mn hAD 1 rfl) hmm)
            refine j_get (v := .int (nI (tl + i))) flX6_feed_83 f21 h2 dX6_feed_106 ?_
            refine j_iconst (v := nI 1) dX6_feed_109 (by decide) ?_
            refine j_iaddN dX6_feed_110 ?_
            refine j_putM fsX6_feed_83 f21 rfl rfl (RA.lt hA (by decide)) dX6_feed_111 (fun w22 fs23 sfs23 hw22 => ?_)
            have f24 : w22 mm = some (.inr (6, fs23)) := up_at hw22
            have rfs23 : RA A fs23 := RA.set hA sfs23 rfl
            have v25 := st_at sfs23 hA (by decide : 2 < 45)
            refine j_iinc (q := 7) (v := nI (i + 1)) (lv' := [(6, .int (nI (i + 1))), (7, .int (zS za zb zc zd ze i)), (0, .ref mm), (1, .int za), (2, .int zb), (3, .int zc), (4, .int zd), (5, .int ze)]) dX6_feed_114 rfl (by first | exact nI_1 _ | exact nI_add _ _) (Nat.le_of_ble_eq_true rfl) rfl ?_
            refine j_goto 23 dX6_feed_117 (by decide) ?_
            refine j_lv (lv' := [(0, .ref mm), (1, .int za), (2, .int zb), (3, .int zc), (4, .int zd), (5, .int ze), (6, .int (nI (i + 1)))]) [2, 3, 4, 5, 6, 7, 0] rfl ?_
            have v26 := (st_ne sfs23 rfl h0)
            have f27 := (up_ne hw22 (AD.nm hAD 1 rfl) f20)
            exact ih _ _ (i + 1) (by omega) f24 rfs23 (((FrI.mono hfr (by simp) rfl : FrI A [mm] [1] w0 _).trans (FrI.ua hw19 rfl)).trans (FrI.ux hw22 (by simp))) ((FF.mono hff rfl : FF [0, 2] fs0 _).trans (FF.set sfs23 rfl)) v26 v25 f27 (by omega)
        · skip
          refine j_iload_n dX6_feed_47 2 rfl ?_
          refine j_goto 76 dX6_feed_48 (by decide) ?_
          refine j_eqi (y := zS za zb zc zd ze i) (by unfold zS; rw [if_neg (by omega), if_pos (by omega)]) ?_
          refine j_istore (lv' := [(7, .int (zS za zb zc zd ze i)), (0, .ref mm), (1, .int za), (2, .int zb), (3, .int zc), (4, .int zd), (5, .int ze), (6, .int (nI i))]) dX6_feed_76 (Nat.le_of_ble_eq_true rfl) rfl ?_
          refine j_aload_n dX6_feed_78 1 rfl ?_
          refine j_get (v := .ref (A 1)) flX6_feed_9 hmm (hA.2 1 rfl) dX6_feed_79 ?_
          refine j_aload_n dX6_feed_82 1 rfl ?_
          refine j_get (v := .int (nI (tl + i))) flX6_feed_83 hmm h2 dX6_feed_83 ?_
          refine j_iload dX6_feed_86 0 rfl ?_
          refine j_bipush (v := nI 24) dX6_feed_88 (by decide) ?_
          refine j_bipush (v := nI 8) dX6_feed_90 (by decide) ?_
          refine j_iload dX6_feed_92 7 rfl ?_
          refine j_iconst (v := nI 4) dX6_feed_94 (by decide) ?_
          refine j_irem dX6_feed_95 (by decide) ?_
          refine j_eqi (y := nI (i % 4)) (pk_rem (by omega) (by omega) (by omega)) ?_
          refine j_imulN dX6_feed_96 ?_
          refine j_isubN (by omega) dX6_feed_97 ?_
          refine j_ishr dX6_feed_98 ?_
          refine j_sipush (v := nI 255) dX6_feed_99 (by decide) ?_
          refine j_iand dX6_feed_102 ?_
          refine j_eqi (y := nI (byN (zS za zb zc zd ze i) (nI (24 - 8 * (i % 4)) &&& 31))) (pk_and _ (m := 255) 8 (by decide)) ?_
          refine j_iastn (j := tl + i) (x := byN (zS za zb zc zd ze i) (nI (24 - 8 * (i % 4)) &&& 31)) a1 rfl (by omega) (by omega) dX6_feed_103 ?_
          refine j_w (fun w28 hw28 => ?_)
          have f29 : w28 (A 1) = some (.inl (0, 2400, .inl (fun j9 => nI ((va_up (mfd t tl (zS za zb zc zd ze) i) (tl + i) (byN (zS za zb zc zd ze i) (nI (24 - 8 * (i % 4)) &&& 31))) j9)))) := up_at hw28
          refine j_aload_n dX6_feed_104 1 rfl ?_
          refine j_dup dX6_feed_105 rfl ?_
          have f30 := (up_ne hw28 (AD.mn hAD 1 rfl) hmm)
          refine j_get (v := .int (nI (tl + i))) flX6_feed_83 f30 h2 dX6_feed_106 ?_
          refine j_iconst (v := nI 1) dX6_feed_109 (by decide) ?_
          refine j_iaddN dX6_feed_110 ?_
          refine j_putM fsX6_feed_83 f30 rfl rfl (RA.lt hA (by decide)) dX6_feed_111 (fun w31 fs32 sfs32 hw31 => ?_)
          have f33 : w31 mm = some (.inr (6, fs32)) := up_at hw31
          have rfs32 : RA A fs32 := RA.set hA sfs32 rfl
          have v34 := st_at sfs32 hA (by decide : 2 < 45)
          refine j_iinc (q := 7) (v := nI (i + 1)) (lv' := [(6, .int (nI (i + 1))), (7, .int (zS za zb zc zd ze i)), (0, .ref mm), (1, .int za), (2, .int zb), (3, .int zc), (4, .int zd), (5, .int ze)]) dX6_feed_114 rfl (by first | exact nI_1 _ | exact nI_add _ _) (Nat.le_of_ble_eq_true rfl) rfl ?_
          refine j_goto 23 dX6_feed_117 (by decide) ?_
          refine j_lv (lv' := [(0, .ref mm), (1, .int za), (2, .int zb), (3, .int zc), (4, .int zd), (5, .int ze), (6, .int (nI (i + 1)))]) [2, 3, 4, 5, 6, 7, 0] rfl ?_
          have v35 := (st_ne sfs32 rfl h0)
          have f36 := (up_ne hw31 (AD.nm hAD 1 rfl) f29)
          exact ih _ _ (i + 1) (by omega) f33 rfs32 (((FrI.mono hfr (by simp) rfl : FrI A [mm] [1] w0 _).trans (FrI.ua hw28 rfl)).trans (FrI.ux hw31 (by simp))) ((FF.mono hff rfl : FF [0, 2] fs0 _).trans (FF.set sfs32 rfl)) v35 v34 f36 (by omega)
      · skip
        refine j_iload_n dX6_feed_36 1 rfl ?_
        refine j_goto 76 dX6_feed_37 (by decide) ?_
        refine j_eqi (y := zS za zb zc zd ze i) (by unfold zS; rw [if_pos (by omega)]) ?_
        refine j_istore (lv' := [(7, .int (zS za zb zc zd ze i)), (0, .ref mm), (1, .int za), (2, .int zb), (3, .int zc), (4, .int zd), (5, .int ze), (6, .int (nI i))]) dX6_feed_76 (Nat.le_of_ble_eq_true rfl) rfl ?_
        refine j_aload_n dX6_feed_78 1 rfl ?_
        refine j_get (v := .ref (A 1)) flX6_feed_9 hmm (hA.2 1 rfl) dX6_feed_79 ?_
        refine j_aload_n dX6_feed_82 1 rfl ?_
        refine j_get (v := .int (nI (tl + i))) flX6_feed_83 hmm h2 dX6_feed_83 ?_
        refine j_iload dX6_feed_86 0 rfl ?_
        refine j_bipush (v := nI 24) dX6_feed_88 (by decide) ?_
        refine j_bipush (v := nI 8) dX6_feed_90 (by decide) ?_
        refine j_iload dX6_feed_92 7 rfl ?_
        refine j_iconst (v := nI 4) dX6_feed_94 (by decide) ?_
        refine j_irem dX6_feed_95 (by decide) ?_
        refine j_eqi (y := nI (i % 4)) (pk_rem (by omega) (by omega) (by omega)) ?_
        refine j_imulN dX6_feed_96 ?_
        refine j_isubN (by omega) dX6_feed_97 ?_
        refine j_ishr dX6_feed_98 ?_
        refine j_sipush (v := nI 255) dX6_feed_99 (by decide) ?_
        refine j_iand dX6_feed_102 ?_
        refine j_eqi (y := nI (byN (zS za zb zc zd ze i) (nI (24 - 8 * (i % 4)) &&& 31))) (pk_and _ (m := 255) 8 (by decide)) ?_
        refine j_iastn (j := tl + i) (x := byN (zS za zb zc zd ze i) (nI (24 - 8 * (i % 4)) &&& 31)) a1 rfl (by omega) (by omega) dX6_feed_103 ?_
        refine j_w (fun w37 hw37 => ?_)
        have f38 : w37 (A 1) = some (.inl (0, 2400, .inl (fun j9 => nI ((va_up (mfd t tl (zS za zb zc zd ze) i) (tl + i) (byN (zS za zb zc zd ze i) (nI (24 - 8 * (i % 4)) &&& 31))) j9)))) := up_at hw37
        refine j_aload_n dX6_feed_104 1 rfl ?_
        refine j_dup dX6_feed_105 rfl ?_
        have f39 := (up_ne hw37 (AD.mn hAD 1 rfl) hmm)
        refine j_get (v := .int (nI (tl + i))) flX6_feed_83 f39 h2 dX6_feed_106 ?_
        refine j_iconst (v := nI 1) dX6_feed_109 (by decide) ?_
        refine j_iaddN dX6_feed_110 ?_
        refine j_putM fsX6_feed_83 f39 rfl rfl (RA.lt hA (by decide)) dX6_feed_111 (fun w40 fs41 sfs41 hw40 => ?_)
        have f42 : w40 mm = some (.inr (6, fs41)) := up_at hw40
        have rfs41 : RA A fs41 := RA.set hA sfs41 rfl
        have v43 := st_at sfs41 hA (by decide : 2 < 45)
        refine j_iinc (q := 7) (v := nI (i + 1)) (lv' := [(6, .int (nI (i + 1))), (7, .int (zS za zb zc zd ze i)), (0, .ref mm), (1, .int za), (2, .int zb), (3, .int zc), (4, .int zd), (5, .int ze)]) dX6_feed_114 rfl (by first | exact nI_1 _ | exact nI_add _ _) (Nat.le_of_ble_eq_true rfl) rfl ?_
        refine j_goto 23 dX6_feed_117 (by decide) ?_
        refine j_lv (lv' := [(0, .ref mm), (1, .int za), (2, .int zb), (3, .int zc), (4, .int zd), (5, .int ze), (6, .int (nI (i + 1)))]) [2, 3, 4, 5, 6, 7, 0] rfl ?_
        have v44 := (st_ne sfs41 rfl h0)
        have f45 := (up_ne hw40 (AD.nm hAD 1 rfl) f38)
        exact ih _ _ (i + 1) (by omega) f42 rfs41 (((FrI.mono hfr (by simp) rfl : FrI A [mm] [1] w0 _).trans (FrI.ua hw37 rfl)).trans (FrI.ux hw40 (by simp))) ((FF.mono hff rfl : FF [0, 2] fs0 _).trans (FF.set sfs41 rfl)) v44 v43 f45 (by omega)
set_option maxHeartbeats 4000000 in
set_option maxRecDepth 100000 in
theorem m_feed {t : Nat → Nat} {tl : Nat} {za zb zc zd ze : Int32} {w : pW} {A : Nat → Nat} {mm : Nat} {fs : List Value} (hAD : AD A mm) (hmm : w mm = some (.inr (6, fs))) (hA : RA A fs) (h2 : fs[2]? = some (.int (nI tl))) (a1 : w (A 1) = some (.inl (0, 2400, .inl (fun j9 => nI (t j9))))) (htl : tl ≤ 2380) : Ct yX6_feed wsX6_feed rX6_feed [.ref mm, .int za, .int zb, .int zc, .int zd, .int ze] w (fun o w9 => o = .inl (some (.int (nI (tl + 20)))) ∧ ∃ fs9 : List Value, MU A mm [1] [0, 2] w w9 fs fs9 ∧ fs9[0]? = some (.int (nI 0)) ∧ fs9[2]? = some (.int (nI (tl + 20))) ∧ w9 (A 1) = some (.inl (0, 2400, .inl (fun j9 => nI ((fd5 t tl za zb zc zd ze) j9))))) := by
  refine Ct.of (cc := cX6_feed) (own := RX6) (nm := "feed") (nL := 8) (ret := (some .int)) (by decide +kernel) rfl rfl rfl (Nat.le_of_ble_eq_true rfl) ?_
  refine j_lvE (lv' := [(0, .ref mm), (1, .int za), (2, .int zb), (3, .int zc), (4, .int zd), (5, .int ze)]) rfl ?_
  refine j_aload_n dX6_feed_0 0 rfl ?_
  refine j_iconst (v := nI 0) dX6_feed_1 (by decide) ?_
  refine j_putM fsX6_feed_80 hmm rfl rfl (RA.lt hA (by decide)) dX6_feed_2 (fun w1 fs2 sfs2 hw1 => ?_)
  have f3 : w1 mm = some (.inr (6, fs2)) := up_at hw1
  have rfs2 : RA A fs2 := RA.set hA sfs2 rfl
  have v4 := st_at sfs2 hA (by decide : 0 < 45)
  refine j_aload_n dX6_feed_5 0 rfl ?_
  have v5 := (st_ne sfs2 rfl h2)
  refine j_get (v := .int (nI tl)) flX6_feed_83 f3 v5 dX6_feed_6 ?_
  refine j_bipush (v := nI 20) dX6_feed_9 (by decide) ?_
  refine j_iaddN dX6_feed_11 ?_
  refine j_sipush (v := nI 2400) dX6_feed_12 (by decide) ?_
  refine j_icmp_leN 20 (by omega) (by omega) dX6_feed_15 (by decide) (fun c15 => ?_) (fun c15 => ?_)
  · skip
    refine j_iconst (v := nI 0) dX6_feed_20 (by decide) ?_
    refine j_istore (lv' := [(6, .int (nI 0)), (0, .ref mm), (1, .int za), (2, .int zb), (3, .int zc), (4, .int zd), (5, .int ze)]) dX6_feed_21 (Nat.le_of_ble_eq_true rfl) rfl ?_
    refine j_lv (lv' := [(0, .ref mm), (1, .int za), (2, .int zb), (3, .int zc), (4, .int zd), (5, .int ze), (6, .int (nI 0))]) [1, 2, 3, 4, 5, 6, 0] rfl ?_
    have f6 := (up_ne hw1 (AD.nm hAD 1 rfl) a1)
    exact l_feed hAD htl _ _ _ 0 (Nat.lt_succ_self _) f3 rfs2 ((FrI.refl : FrI A [mm] [1] w w).trans (FrI.ux hw1 (by simp))) ((FF.refl : FF [0, 2] fs fs).trans (FF.set sfs2 rfl)) v4 v5 f6 (by omega)
  · skip
    exfalso; omega
abbrev rX6_fault : Room := { frames := 1, cells := 0, slots := 0, locals := 20 }
theorem fsX6_fault_80 : FS wsX6_fault RX6 80 6 0 false (.int) := ⟨RX6, TX6, 45, tyX6, rfl, by decide, by decide +kernel, by decide +kernel, tyX6_ok, nmX6, rfl, rfl, rfl⟩
set_option maxHeartbeats 4000000 in
set_option maxRecDepth 100000 in
theorem m_faultBad {x : Int32} {w : pW} {A : Nat → Nat} {mm : Nat} {fs : List Value} (hAD : AD A mm) (hmm : w mm = some (.inr (6, fs))) (hA : RA A fs) (hb : x < 0 ∨ nI 1 < x) : Ct yX6_fault wsX6_fault rX6_fault [.ref mm, .int x] w (fun o w9 => o = .inl (some (.int (nI 0))) ∧ ∃ fs9 : List Value, MU A mm [] [0] w w9 fs fs9 ∧ fs9[0]? = some (.int (nI 1))) := by
  refine Ct.of (cc := cX6_fault) (own := RX6) (nm := "fault") (nL := 2) (ret := (some .int)) (by decide +kernel) rfl rfl rfl (Nat.le_of_ble_eq_true rfl) ?_
  refine j_lvE (lv' := [(0, .ref mm), (1, .int x)]) rfl ?_
  refine j_aload_n dX6_fault_0 0 rfl ?_
  refine j_iconst (v := nI 0) dX6_fault_1 (by decide) ?_
  refine j_putM fsX6_fault_80 hmm rfl rfl (RA.lt hA (by decide)) dX6_fault_2 (fun w1 fs2 sfs2 hw1 => ?_)
  have f3 : w1 mm = some (.inr (6, fs2)) := up_at hw1
  have rfs2 : RA A fs2 := RA.set hA sfs2 rfl
  have v4 := st_at sfs2 hA (by decide : 0 < 45)
  refine j_iload_n dX6_fault_5 1 rfl ?_
  refine j_if_lt 14 dX6_fault_6 (by decide) (fun c6 => ?_) (fun c6 => ?_)
  · skip
    refine j_aload_n dX6_fault_14 0 rfl ?_
    refine j_callV (rm := rX6_fail) (As := []) (st := []) (b0 := mm) (ci := 6) (na := 0) (m_fail hAD f3 rfs2) (by intro E w9 h9; first | exact nomatch h9.1 | (obtain ⟨_, h9, _⟩ := h9; exact nomatch h9) | (obtain ⟨_, _, _, h9, _⟩ := h9; exact nomatch h9)) gX6_fault_X6_fail rfl rfl f3 (by decide +kernel) rfl ⟨Nat.le_of_ble_eq_true rfl, Nat.le_of_ble_eq_true rfl⟩ rfl (Nat.le_of_ble_eq_true rfl) dX6_fault_15 ⟨(show 0 + 0 ≤ 0 by omega), (show 0 + 0 ≤ 0 by omega)⟩ (fun v11 w12 h13 => ?_)
    obtain ⟨h10, fs6, ⟨hfr7, hm8, hff9⟩, v5⟩ := h13
    cases h10
    refine j_after (st' := [.int (nI 0)]) (k' := 0) (n' := 0) rfl rfl rfl ?_
    have r14 : RA A fs6 := RA.ff rfs2 hff9 rfl
    exact j_iret rfl ⟨rfl, _, ⟨(((FrI.refl : FrI A [mm] [] w w).trans (FrI.ux hw1 (by simp))).trans (FrI.sub hfr7 rfl)), hm8, (((FF.refl : FF [0] fs fs).trans (FF.set sfs2 rfl)).trans (FF.mono hff9 rfl))⟩, v5⟩ (show 0 ≤ 0 by omega) (show 0 ≤ 0 by omega) dX6_fault_18
  · skip
    refine j_iload_n dX6_fault_9 1 rfl ?_
    refine j_iconst (v := nI 1) dX6_fault_10 (by decide) ?_
    refine j_icmp_le 19 dX6_fault_11 (by decide) (fun c11 => ?_) (fun c11 => ?_)
    · skip
      exact absurd (bad2 hb c6 c11) id
    · skip
      refine j_aload_n dX6_fault_14 0 rfl ?_
      refine j_callV (rm := rX6_fail) (As := []) (st := []) (b0 := mm) (ci := 6) (na := 0) (m_fail hAD f3 rfs2) (by intro E w9 h9; first | exact nomatch h9.1 | (obtain ⟨_, h9, _⟩ := h9; exact nomatch h9) | (obtain ⟨_, _, _, h9, _⟩ := h9; exact nomatch h9)) gX6_fault_X6_fail rfl rfl f3 (by decide +kernel) rfl ⟨Nat.le_of_ble_eq_true rfl, Nat.le_of_ble_eq_true rfl⟩ rfl (Nat.le_of_ble_eq_true rfl) dX6_fault_15 ⟨(show 0 + 0 ≤ 0 by omega), (show 0 + 0 ≤ 0 by omega)⟩ (fun v21 w22 h23 => ?_)
      obtain ⟨h20, fs16, ⟨hfr17, hm18, hff19⟩, v15⟩ := h23
      cases h20
      refine j_after (st' := [.int (nI 0)]) (k' := 0) (n' := 0) rfl rfl rfl ?_
      have r24 : RA A fs16 := RA.ff rfs2 hff19 rfl
      exact j_iret rfl ⟨rfl, _, ⟨(((FrI.refl : FrI A [mm] [] w w).trans (FrI.ux hw1 (by simp))).trans (FrI.sub hfr17 rfl)), hm18, (((FF.refl : FF [0] fs fs).trans (FF.set sfs2 rfl)).trans (FF.mono hff19 rfl))⟩, v15⟩ (show 0 ≤ 0 by omega) (show 0 ≤ 0 by omega) dX6_fault_18
theorem flX6_fault_13 : FL wsX6_fault RX6 13 6 4 := ⟨RX6, TX6, 45, rfl, by decide, by decide +kernel, by decide +kernel⟩
theorem flX6_fault_187 : FL wsX6_fault RX6 187 6 3 := ⟨RX6, TX6, 45, rfl, by decide, by decide +kernel, by decide +kernel⟩
set_option maxHeartbeats 4000000 in
set_option maxRecDepth 100000 in
theorem m_fault {k flt : Nat} {fp : Int32} {w : pW} {A : Nat → Nat} {mm : Nat} {fs : List Value} (hAD : AD A mm) (hmm : w mm = some (.inr (6, fs))) (hA : RA A fs) (h3 : fs[3]? = some (.int (nI flt))) (h4 : fs[4]? = some (.int fp)) (hk : k < 2) : Ct yX6_fault wsX6_fault rX6_fault [.ref mm, .int (nI k)] w (fun o w9 => o = .inl (some (.int (if k = 0 then nI flt else fp))) ∧ ∃ fs9 : List Value, MU A mm [] [0] w w9 fs fs9 ∧ fs9[0]? = some (.int (nI 0))) := by
  refine Ct.of (cc := cX6_fault) (own := RX6) (nm := "fault") (nL := 2) (ret := (some .int)) (by decide +kernel) rfl rfl rfl (Nat.le_of_ble_eq_true rfl) ?_
  refine j_lvE (lv' := [(0, .ref mm), (1, .int (nI k))]) rfl ?_
  refine j_aload_n dX6_fault_0 0 rfl ?_
  refine j_iconst (v := nI 0) dX6_fault_1 (by decide) ?_
  refine j_putM fsX6_fault_80 hmm rfl rfl (RA.lt hA (by decide)) dX6_fault_2 (fun w1 fs2 sfs2 hw1 => ?_)
  have f3 : w1 mm = some (.inr (6, fs2)) := up_at hw1
  have rfs2 : RA A fs2 := RA.set hA sfs2 rfl
  have v4 := st_at sfs2 hA (by decide : 0 < 45)
  refine j_iload_n dX6_fault_5 1 rfl ?_
  refine j_if_ltN (by omega) dX6_fault_6 (by decide : _ = ((14 : Nat) : Int)) ?_
  refine j_iload_n dX6_fault_9 1 rfl ?_
  refine j_iconst (v := nI 1) dX6_fault_10 (by decide) ?_
  refine j_icmp_leN 19 (by omega) (by omega) dX6_fault_11 (by decide) (fun c11 => ?_) (fun c11 => ?_)
  · skip
    refine j_iload_n dX6_fault_19 1 rfl ?_
    refine j_if_neN 30 (by omega) dX6_fault_20 (by decide) (fun c20 => ?_) (fun c20 => ?_)
    · skip
      refine j_aload_n dX6_fault_30 0 rfl ?_
      have v5 := (st_ne sfs2 rfl h4)
      refine j_get (v := .int fp) flX6_fault_13 f3 v5 dX6_fault_31 ?_
      exact j_iret rfl ⟨by rw [if_neg (by omega)], _, ⟨((FrI.refl : FrI A [mm] [] w w).trans (FrI.ux hw1 (by simp))), f3, ((FF.refl : FF [0] fs fs).trans (FF.set sfs2 rfl))⟩, v4⟩ (show 0 ≤ 0 by omega) (show 0 ≤ 0 by omega) dX6_fault_34
    · skip
      refine j_aload_n dX6_fault_23 0 rfl ?_
      have v6 := (st_ne sfs2 rfl h3)
      refine j_get (v := .int (nI flt)) flX6_fault_187 f3 v6 dX6_fault_24 ?_
      refine j_goto 34 dX6_fault_27 (by decide) ?_
      exact j_iret rfl ⟨by rw [if_pos (by omega)], _, ⟨((FrI.refl : FrI A [mm] [] w w).trans (FrI.ux hw1 (by simp))), f3, ((FF.refl : FF [0] fs fs).trans (FF.set sfs2 rfl))⟩, v4⟩ (show 0 ≤ 0 by omega) (show 0 ≤ 0 by omega) dX6_fault_34
  · skip
    exfalso; omega
abbrev rX6_count : Room := { frames := 1, cells := 0, slots := 0, locals := 20 }
theorem fsX6_count_80 : FS wsX6_count RX6 80 6 0 false (.int) := ⟨RX6, TX6, 45, tyX6, rfl, by decide, by decide +kernel, by decide +kernel, tyX6_ok, nmX6, rfl, rfl, rfl⟩
set_option maxHeartbeats 4000000 in
set_option maxRecDepth 100000 in
theorem m_countBad {x : Int32} {w : pW} {A : Nat → Nat} {mm : Nat} {fs : List Value} (hAD : AD A mm) (hmm : w mm = some (.inr (6, fs))) (hA : RA A fs) (hb : x < 0 ∨ nI (7 + 1) ≤ x) : Ct yX6_count wsX6_count rX6_count [.ref mm, .int x] w (fun o w9 => o = .inl (some (.int (nI 0))) ∧ ∃ fs9 : List Value, MU A mm [] [0] w w9 fs fs9 ∧ fs9[0]? = some (.int (nI 1))) := by
  refine Ct.of (cc := cX6_count) (own := RX6) (nm := "count") (nL := 2) (ret := (some .int)) (by decide +kernel) rfl rfl rfl (Nat.le_of_ble_eq_true rfl) ?_
  refine j_lvE (lv' := [(0, .ref mm), (1, .int x)]) rfl ?_
  refine j_aload_n dX6_count_0 0 rfl ?_
  refine j_iconst (v := nI 0) dX6_count_1 (by decide) ?_
  refine j_putM fsX6_count_80 hmm rfl rfl (RA.lt hA (by decide)) dX6_count_2 (fun w1 fs2 sfs2 hw1 => ?_)
  have f3 : w1 mm = some (.inr (6, fs2)) := up_at hw1
  have rfs2 : RA A fs2 := RA.set hA sfs2 rfl
  have v4 := st_at sfs2 hA (by decide : 0 < 45)
  refine j_iload_n dX6_count_5 1 rfl ?_
  refine j_tableOut 92 dX6_count_6 (tOut (by decide) hb) (by decide) ?_
  refine j_aload_n dX6_count_92 0 rfl ?_
  refine j_callV (rm := rX6_fail) (As := []) (st := []) (b0 := mm) (ci := 6) (na := 0) (m_fail hAD f3 rfs2) (by intro E w9 h9; first | exact nomatch h9.1 | (obtain ⟨_, h9, _⟩ := h9; exact nomatch h9) | (obtain ⟨_, _, _, h9, _⟩ := h9; exact nomatch h9)) gX6_count_X6_fail rfl rfl f3 (by decide +kernel) rfl ⟨Nat.le_of_ble_eq_true rfl, Nat.le_of_ble_eq_true rfl⟩ rfl (Nat.le_of_ble_eq_true rfl) dX6_count_93 ⟨(show 0 + 0 ≤ 0 by omega), (show 0 + 0 ≤ 0 by omega)⟩ (fun v11 w12 h13 => ?_)
  obtain ⟨h10, fs6, ⟨hfr7, hm8, hff9⟩, v5⟩ := h13
  cases h10
  refine j_after (st' := [.int (nI 0)]) (k' := 0) (n' := 0) rfl rfl rfl ?_
  have r14 : RA A fs6 := RA.ff rfs2 hff9 rfl
  exact j_iret rfl ⟨rfl, _, ⟨(((FrI.refl : FrI A [mm] [] w w).trans (FrI.ux hw1 (by simp))).trans (FrI.sub hfr7 rfl)), hm8, (((FF.refl : FF [0] fs fs).trans (FF.set sfs2 rfl)).trans (FF.mono hff9 rfl))⟩, v5⟩ (show 0 ≤ 0 by omega) (show 0 ≤ 0 by omega) dX6_count_96
def cntM (ev me pg be nt an tl cu k : Nat) : Nat := if k = 0 then ev else if k = 1 then me else if k = 2 then pg else if k = 3 then be else if k = 4 then nt else if k = 5 then an else if k = 6 then tl else cu
theorem flX6_count_144 : FL wsX6_count RX6 144 6 5 := ⟨RX6, TX6, 45, rfl, by decide, by decide +kernel, by decide +kernel⟩
theorem flX6_count_147 : FL wsX6_count RX6 147 6 6 := ⟨RX6, TX6, 45, rfl, by decide, by decide +kernel, by decide +kernel⟩
theorem flX6_count_150 : FL wsX6_count RX6 150 6 7 := ⟨RX6, TX6, 45, rfl, by decide, by decide +kernel, by decide +kernel⟩
theorem flX6_count_153 : FL wsX6_count RX6 153 6 8 := ⟨RX6, TX6, 45, rfl, by decide, by decide +kernel, by decide +kernel⟩
theorem flX6_count_196 : FL wsX6_count RX6 196 6 34 := ⟨RX6, TX6, 45, rfl, by decide, by decide +kernel, by decide +kernel⟩
theorem flX6_count_199 : FL wsX6_count RX6 199 6 43 := ⟨RX6, TX6, 45, rfl, by decide, by decide +kernel, by decide +kernel⟩
theorem flX6_count_83 : FL wsX6_count RX6 83 6 2 := ⟨RX6, TX6, 45, rfl, by decide, by decide +kernel, by decide +kernel⟩
theorem flX6_count_156 : FL wsX6_count RX6 156 6 9 := ⟨RX6, TX6, 45, rfl, by decide, by decide +kernel, by decide +kernel⟩
set_option maxHeartbeats 4000000 in
set_option maxRecDepth 100000 in
theorem m_count {k ev me pg be nt an tl cu : Nat} {w : pW} {A : Nat → Nat} {mm : Nat} {fs : List Value} (hAD : AD A mm) (hmm : w mm = some (.inr (6, fs))) (hA : RA A fs) (h5 : fs[5]? = some (.int (nI ev))) (h6 : fs[6]? = some (.int (nI me))) (h7 : fs[7]? = some (.int (nI pg))) (h8 : fs[8]? = some (.int (nI be))) (h34 : fs[34]? = some (.int (nI nt))) (h43 : fs[43]? = some (.int (nI an))) (h2 : fs[2]? = some (.int (nI tl))) (h9 : fs[9]? = some (.int (nI cu))) (hk : k < 8) : Ct yX6_count wsX6_count rX6_count [.ref mm, .int (nI k)] w (fun o w9 => o = .inl (some (.int (nI (cntM ev me pg be nt an tl cu k)))) ∧ ∃ fs9 : List Value, MU A mm [] [0] w w9 fs fs9 ∧ fs9[0]? = some (.int (nI 0))) := by
  refine Ct.of (cc := cX6_count) (own := RX6) (nm := "count") (nL := 2) (ret := (some .int)) (by decide +kernel) rfl rfl rfl (Nat.le_of_ble_eq_true rfl) ?_
  refine j_lvE (lv' := [(0, .ref mm), (1, .int (nI k))]) rfl ?_
  refine j_aload_n dX6_count_0 0 rfl ?_
  refine j_iconst (v := nI 0) dX6_count_1 (by decide) ?_
  refine j_putM fsX6_count_80 hmm rfl rfl (RA.lt hA (by decide)) dX6_count_2 (fun w1 fs2 sfs2 hw1 => ?_)
  have f3 : w1 mm = some (.inr (6, fs2)) := up_at hw1
  have rfs2 : RA A fs2 := RA.set hA sfs2 rfl
  have v4 := st_at sfs2 hA (by decide : 0 < 45)
  refine j_iload_n dX6_count_5 1 rfl ?_
  by_cases k0 : k = 0
  · skip
    refine j_tableIn (off := 46) 52 dX6_count_6 (by rw [k0]; decide) (by rw [k0]; decide) (by rw [k0]; decide) (by decide) ?_
    refine j_aload_n dX6_count_52 0 rfl ?_
    have v5 := (st_ne sfs2 rfl h5)
    refine j_get (v := .int (nI ev)) flX6_count_144 f3 v5 dX6_count_53 ?_
    exact j_iret rfl ⟨by subst k0; rfl, _, ⟨((FrI.refl : FrI A [mm] [] w w).trans (FrI.ux hw1 (by simp))), f3, ((FF.refl : FF [0] fs fs).trans (FF.set sfs2 rfl))⟩, v4⟩ (show 0 ≤ 0 by omega) (show 0 ≤ 0 by omega) dX6_count_56
  by_cases k1 : k = 1
  · skip
    refine j_tableIn (off := 51) 57 dX6_count_6 (by rw [k1]; decide) (by rw [k1]; decide) (by rw [k1]; decide) (by decide) ?_
    refine j_aload_n dX6_count_57 0 rfl ?_
    have v6 := (st_ne sfs2 rfl h6)
    refine j_get (v := .int (nI me)) flX6_count_147 f3 v6 dX6_count_58 ?_
    exact j_iret rfl ⟨by subst k1; rfl, _, ⟨((FrI.refl : FrI A [mm] [] w w).trans (FrI.ux hw1 (by simp))), f3, ((FF.refl : FF [0] fs fs).trans (FF.set sfs2 rfl))⟩, v4⟩ (show 0 ≤ 0 by omega) (show 0 ≤ 0 by omega) dX6_count_61
  by_cases k2 : k = 2
  · skip
    refine j_tableIn (off := 56) 62 dX6_count_6 (by rw [k2]; decide) (by rw [k2]; decide) (by rw [k2]; decide) (by decide) ?_
    refine j_aload_n dX6_count_62 0 rfl ?_
    have v7 := (st_ne sfs2 rfl h7)
    refine j_get (v := .int (nI pg)) flX6_count_150 f3 v7 dX6_count_63 ?_
    exact j_iret rfl ⟨by subst k2; rfl, _, ⟨((FrI.refl : FrI A [mm] [] w w).trans (FrI.ux hw1 (by simp))), f3, ((FF.refl : FF [0] fs fs).trans (FF.set sfs2 rfl))⟩, v4⟩ (show 0 ≤ 0 by omega) (show 0 ≤ 0 by omega) dX6_count_66
  by_cases k3 : k = 3
  · skip
    refine j_tableIn (off := 61) 67 dX6_count_6 (by rw [k3]; decide) (by rw [k3]; decide) (by rw [k3]; decide) (by decide) ?_
    refine j_aload_n dX6_count_67 0 rfl ?_
    have v8 := (st_ne sfs2 rfl h8)
    refine j_get (v := .int (nI be)) flX6_count_153 f3 v8 dX6_count_68 ?_
    exact j_iret rfl ⟨by subst k3; rfl, _, ⟨((FrI.refl : FrI A [mm] [] w w).trans (FrI.ux hw1 (by simp))), f3, ((FF.refl : FF [0] fs fs).trans (FF.set sfs2 rfl))⟩, v4⟩ (show 0 ≤ 0 by omega) (show 0 ≤ 0 by omega) dX6_count_71
  by_cases k4 : k = 4
  · skip
    refine j_tableIn (off := 66) 72 dX6_count_6 (by rw [k4]; decide) (by rw [k4]; decide) (by rw [k4]; decide) (by decide) ?_
    refine j_aload_n dX6_count_72 0 rfl ?_
    have v9 := (st_ne sfs2 rfl h34)
    refine j_get (v := .int (nI nt)) flX6_count_196 f3 v9 dX6_count_73 ?_
    exact j_iret rfl ⟨by subst k4; rfl, _, ⟨((FrI.refl : FrI A [mm] [] w w).trans (FrI.ux hw1 (by simp))), f3, ((FF.refl : FF [0] fs fs).trans (FF.set sfs2 rfl))⟩, v4⟩ (show 0 ≤ 0 by omega) (show 0 ≤ 0 by omega) dX6_count_76
  by_cases k5 : k = 5
  · skip
    refine j_tableIn (off := 71) 77 dX6_count_6 (by rw [k5]; decide) (by rw [k5]; decide) (by rw [k5]; decide) (by decide) ?_
    refine j_aload_n dX6_count_77 0 rfl ?_
    have v10 := (st_ne sfs2 rfl h43)
    refine j_get (v := .int (nI an)) flX6_count_199 f3 v10 dX6_count_78 ?_
    exact j_iret rfl ⟨by subst k5; rfl, _, ⟨((FrI.refl : FrI A [mm] [] w w).trans (FrI.ux hw1 (by simp))), f3, ((FF.refl : FF [0] fs fs).trans (FF.set sfs2 rfl))⟩, v4⟩ (show 0 ≤ 0 by omega) (show 0 ≤ 0 by omega) dX6_count_81
  by_cases k6 : k = 6
  · skip
    refine j_tableIn (off := 76) 82 dX6_count_6 (by rw [k6]; decide) (by rw [k6]; decide) (by rw [k6]; decide) (by decide) ?_
    refine j_aload_n dX6_count_82 0 rfl ?_
    have v11 := (st_ne sfs2 rfl h2)
    refine j_get (v := .int (nI tl)) flX6_count_83 f3 v11 dX6_count_83 ?_
    exact j_iret rfl ⟨by subst k6; rfl, _, ⟨((FrI.refl : FrI A [mm] [] w w).trans (FrI.ux hw1 (by simp))), f3, ((FF.refl : FF [0] fs fs).trans (FF.set sfs2 rfl))⟩, v4⟩ (show 0 ≤ 0 by omega) (show 0 ≤ 0 by omega) dX6_count_86
  by_cases k7 : k = 7
  · skip
    refine j_tableIn (off := 81) 87 dX6_count_6 (by rw [k7]; decide) (by rw [k7]; decide) (by rw [k7]; decide) (by decide) ?_
    refine j_aload_n dX6_count_87 0 rfl ?_
    have v12 := (st_ne sfs2 rfl h9)
    refine j_get (v := .int (nI cu)) flX6_count_156 f3 v12 dX6_count_88 ?_
    exact j_iret rfl ⟨by subst k7; rfl, _, ⟨((FrI.refl : FrI A [mm] [] w w).trans (FrI.ux hw1 (by simp))), f3, ((FF.refl : FF [0] fs fs).trans (FF.set sfs2 rfl))⟩, v4⟩ (show 0 ≤ 0 by omega) (show 0 ≤ 0 by omega) dX6_count_91
  exfalso; omega
abbrev rX6_price : Room := { frames := 1, cells := 0, slots := 0, locals := 20 }
theorem fsX6_price_80 : FS wsX6_price RX6 80 6 0 false (.int) := ⟨RX6, TX6, 45, tyX6, rfl, by decide, by decide +kernel, by decide +kernel, tyX6_ok, nmX6, rfl, rfl, rfl⟩
set_option maxHeartbeats 4000000 in
set_option maxRecDepth 100000 in
theorem m_priceBadX {x y : Int32} {w : pW} {A : Nat → Nat} {mm : Nat} {fs : List Value} (hAD : AD A mm) (hmm : w mm = some (.inr (6, fs))) (hA : RA A fs) (hb : x < 0 ∨ nI 3 < x) : Ct yX6_price wsX6_price rX6_price [.ref mm, .int x, .int y] w (fun o w9 => o = .inl (some (.int (nI 0))) ∧ ∃ fs9 : List Value, MU A mm [] [0] w w9 fs fs9 ∧ fs9[0]? = some (.int (nI 1))) := by
  refine Ct.of (cc := cX6_price) (own := RX6) (nm := "price") (nL := 4) (ret := (some .int)) (by decide +kernel) rfl rfl rfl (Nat.le_of_ble_eq_true rfl) ?_
  refine j_lvE (lv' := [(0, .ref mm), (1, .int x), (2, .int y)]) rfl ?_
  refine j_aload_n dX6_price_0 0 rfl ?_
  refine j_iconst (v := nI 0) dX6_price_1 (by decide) ?_
  refine j_putM fsX6_price_80 hmm rfl rfl (RA.lt hA (by decide)) dX6_price_2 (fun w1 fs2 sfs2 hw1 => ?_)
  have f3 : w1 mm = some (.inr (6, fs2)) := up_at hw1
  have rfs2 : RA A fs2 := RA.set hA sfs2 rfl
  have v4 := st_at sfs2 hA (by decide : 0 < 45)
  refine j_iload_n dX6_price_5 1 rfl ?_
  refine j_if_lt 24 dX6_price_6 (by decide) (fun c6 => ?_) (fun c6 => ?_)
  · skip
    refine j_aload_n dX6_price_24 0 rfl ?_
    refine j_callV (rm := rX6_fail) (As := []) (st := []) (b0 := mm) (ci := 6) (na := 0) (m_fail hAD f3 rfs2) (by intro E w9 h9; first | exact nomatch h9.1 | (obtain ⟨_, h9, _⟩ := h9; exact nomatch h9) | (obtain ⟨_, _, _, h9, _⟩ := h9; exact nomatch h9)) gX6_price_X6_fail rfl rfl f3 (by decide +kernel) rfl ⟨Nat.le_of_ble_eq_true rfl, Nat.le_of_ble_eq_true rfl⟩ rfl (Nat.le_of_ble_eq_true rfl) dX6_price_25 ⟨(show 0 + 0 ≤ 0 by omega), (show 0 + 0 ≤ 0 by omega)⟩ (fun v11 w12 h13 => ?_)
    obtain ⟨h10, fs6, ⟨hfr7, hm8, hff9⟩, v5⟩ := h13
    cases h10
    refine j_after (st' := [.int (nI 0)]) (k' := 0) (n' := 0) rfl rfl rfl ?_
    have r14 : RA A fs6 := RA.ff rfs2 hff9 rfl
    exact j_iret rfl ⟨rfl, _, ⟨(((FrI.refl : FrI A [mm] [] w w).trans (FrI.ux hw1 (by simp))).trans (FrI.sub hfr7 rfl)), hm8, (((FF.refl : FF [0] fs fs).trans (FF.set sfs2 rfl)).trans (FF.mono hff9 rfl))⟩, v5⟩ (show 0 ≤ 0 by omega) (show 0 ≤ 0 by omega) dX6_price_28
  · skip
    refine j_iload_n dX6_price_9 1 rfl ?_
    refine j_iconst (v := nI 3) dX6_price_10 (by decide) ?_
    refine j_icmp_gt 24 dX6_price_11 (by decide) (fun c11 => ?_) (fun c11 => ?_)
    · skip
      refine j_aload_n dX6_price_24 0 rfl ?_
      refine j_callV (rm := rX6_fail) (As := []) (st := []) (b0 := mm) (ci := 6) (na := 0) (m_fail hAD f3 rfs2) (by intro E w9 h9; first | exact nomatch h9.1 | (obtain ⟨_, h9, _⟩ := h9; exact nomatch h9) | (obtain ⟨_, _, _, h9, _⟩ := h9; exact nomatch h9)) gX6_price_X6_fail rfl rfl f3 (by decide +kernel) rfl ⟨Nat.le_of_ble_eq_true rfl, Nat.le_of_ble_eq_true rfl⟩ rfl (Nat.le_of_ble_eq_true rfl) dX6_price_25 ⟨(show 0 + 0 ≤ 0 by omega), (show 0 + 0 ≤ 0 by omega)⟩ (fun v21 w22 h23 => ?_)
      obtain ⟨h20, fs16, ⟨hfr17, hm18, hff19⟩, v15⟩ := h23
      cases h20
      refine j_after (st' := [.int (nI 0)]) (k' := 0) (n' := 0) rfl rfl rfl ?_
      have r24 : RA A fs16 := RA.ff rfs2 hff19 rfl
      exact j_iret rfl ⟨rfl, _, ⟨(((FrI.refl : FrI A [mm] [] w w).trans (FrI.ux hw1 (by simp))).trans (FrI.sub hfr17 rfl)), hm18, (((FF.refl : FF [0] fs fs).trans (FF.set sfs2 rfl)).trans (FF.mono hff19 rfl))⟩, v15⟩ (show 0 ≤ 0 by omega) (show 0 ≤ 0 by omega) dX6_price_28
    · skip
      exact absurd (bad3 hb c6 c11) id
set_option maxHeartbeats 4000000 in
set_option maxRecDepth 100000 in
theorem m_priceBadY {x : Nat} {y : Int32} {w : pW} {A : Nat → Nat} {mm : Nat} {fs : List Value} (hAD : AD A mm) (hmm : w mm = some (.inr (6, fs))) (hA : RA A fs) (hx : x < 4) (hb : y < 0 ∨ nI 50 < y) : Ct yX6_price wsX6_price rX6_price [.ref mm, .int (nI x), .int y] w (fun o w9 => o = .inl (some (.int (nI 0))) ∧ ∃ fs9 : List Value, MU A mm [] [0] w w9 fs fs9 ∧ fs9[0]? = some (.int (nI 1))) := by
  refine Ct.of (cc := cX6_price) (own := RX6) (nm := "price") (nL := 4) (ret := (some .int)) (by decide +kernel) rfl rfl rfl (Nat.le_of_ble_eq_true rfl) ?_
  refine j_lvE (lv' := [(0, .ref mm), (1, .int (nI x)), (2, .int y)]) rfl ?_
  refine j_aload_n dX6_price_0 0 rfl ?_
  refine j_iconst (v := nI 0) dX6_price_1 (by decide) ?_
  refine j_putM fsX6_price_80 hmm rfl rfl (RA.lt hA (by decide)) dX6_price_2 (fun w1 fs2 sfs2 hw1 => ?_)
  have f3 : w1 mm = some (.inr (6, fs2)) := up_at hw1
  have rfs2 : RA A fs2 := RA.set hA sfs2 rfl
  have v4 := st_at sfs2 hA (by decide : 0 < 45)
  refine j_iload_n dX6_price_5 1 rfl ?_
  refine j_if_ltN (by omega) dX6_price_6 (by decide : _ = ((24 : Nat) : Int)) ?_
  refine j_iload_n dX6_price_9 1 rfl ?_
  refine j_iconst (v := nI 3) dX6_price_10 (by decide) ?_
  refine j_icmp_gtN 24 (by omega) (by omega) dX6_price_11 (by decide) (fun c11 => ?_) (fun c11 => ?_)
  · skip
    refine j_aload_n dX6_price_24 0 rfl ?_
    refine j_callV (rm := rX6_fail) (As := []) (st := []) (b0 := mm) (ci := 6) (na := 0) (m_fail hAD f3 rfs2) (by intro E w9 h9; first | exact nomatch h9.1 | (obtain ⟨_, h9, _⟩ := h9; exact nomatch h9) | (obtain ⟨_, _, _, h9, _⟩ := h9; exact nomatch h9)) gX6_price_X6_fail rfl rfl f3 (by decide +kernel) rfl ⟨Nat.le_of_ble_eq_true rfl, Nat.le_of_ble_eq_true rfl⟩ rfl (Nat.le_of_ble_eq_true rfl) dX6_price_25 ⟨(show 0 + 0 ≤ 0 by omega), (show 0 + 0 ≤ 0 by omega)⟩ (fun v11 w12 h13 => ?_)
    obtain ⟨h10, fs6, ⟨hfr7, hm8, hff9⟩, v5⟩ := h13
    cases h10
    refine j_after (st' := [.int (nI 0)]) (k' := 0) (n' := 0) rfl rfl rfl ?_
    have r14 : RA A fs6 := RA.ff rfs2 hff9 rfl
    exact j_iret rfl ⟨rfl, _, ⟨(((FrI.refl : FrI A [mm] [] w w).trans (FrI.ux hw1 (by simp))).trans (FrI.sub hfr7 rfl)), hm8, (((FF.refl : FF [0] fs fs).trans (FF.set sfs2 rfl)).trans (FF.mono hff9 rfl))⟩, v5⟩ (show 0 ≤ 0 by omega) (show 0 ≤ 0 by omega) dX6_price_28
  · skip
    refine j_iload_n dX6_price_14 2 rfl ?_
    refine j_if_lt 24 dX6_price_15 (by decide) (fun c15 => ?_) (fun c15 => ?_)
    · skip
      refine j_aload_n dX6_price_24 0 rfl ?_
      refine j_callV (rm := rX6_fail) (As := []) (st := []) (b0 := mm) (ci := 6) (na := 0) (m_fail hAD f3 rfs2) (by intro E w9 h9; first | exact nomatch h9.1 | (obtain ⟨_, h9, _⟩ := h9; exact nomatch h9) | (obtain ⟨_, _, _, h9, _⟩ := h9; exact nomatch h9)) gX6_price_X6_fail rfl rfl f3 (by decide +kernel) rfl ⟨Nat.le_of_ble_eq_true rfl, Nat.le_of_ble_eq_true rfl⟩ rfl (Nat.le_of_ble_eq_true rfl) dX6_price_25 ⟨(show 0 + 0 ≤ 0 by omega), (show 0 + 0 ≤ 0 by omega)⟩ (fun v21 w22 h23 => ?_)
      obtain ⟨h20, fs16, ⟨hfr17, hm18, hff19⟩, v15⟩ := h23
      cases h20
      refine j_after (st' := [.int (nI 0)]) (k' := 0) (n' := 0) rfl rfl rfl ?_
      have r24 : RA A fs16 := RA.ff rfs2 hff19 rfl
      exact j_iret rfl ⟨rfl, _, ⟨(((FrI.refl : FrI A [mm] [] w w).trans (FrI.ux hw1 (by simp))).trans (FrI.sub hfr17 rfl)), hm18, (((FF.refl : FF [0] fs fs).trans (FF.set sfs2 rfl)).trans (FF.mono hff19 rfl))⟩, v15⟩ (show 0 ≤ 0 by omega) (show 0 ≤ 0 by omega) dX6_price_28
    · skip
      refine j_iload_n dX6_price_18 2 rfl ?_
      refine j_bipush (v := nI 50) dX6_price_19 (by decide) ?_
      refine j_icmp_le 29 dX6_price_21 (by decide) (fun c21 => ?_) (fun c21 => ?_)
      · skip
        exact absurd (bad2 hb c15 c21) id
      · skip
        refine j_aload_n dX6_price_24 0 rfl ?_
        refine j_callV (rm := rX6_fail) (As := []) (st := []) (b0 := mm) (ci := 6) (na := 0) (m_fail hAD f3 rfs2) (by intro E w9 h9; first | exact nomatch h9.1 | (obtain ⟨_, h9, _⟩ := h9; exact nomatch h9) | (obtain ⟨_, _, _, h9, _⟩ := h9; exact nomatch h9)) gX6_price_X6_fail rfl rfl f3 (by decide +kernel) rfl ⟨Nat.le_of_ble_eq_true rfl, Nat.le_of_ble_eq_true rfl⟩ rfl (Nat.le_of_ble_eq_true rfl) dX6_price_25 ⟨(show 0 + 0 ≤ 0 by omega), (show 0 + 0 ≤ 0 by omega)⟩ (fun v31 w32 h33 => ?_)
        obtain ⟨h30, fs26, ⟨hfr27, hm28, hff29⟩, v25⟩ := h33
        cases h30
        refine j_after (st' := [.int (nI 0)]) (k' := 0) (n' := 0) rfl rfl rfl ?_
        have r34 : RA A fs26 := RA.ff rfs2 hff29 rfl
        exact j_iret rfl ⟨rfl, _, ⟨(((FrI.refl : FrI A [mm] [] w w).trans (FrI.ux hw1 (by simp))).trans (FrI.sub hfr27 rfl)), hm28, (((FF.refl : FF [0] fs fs).trans (FF.set sfs2 rfl)).trans (FF.mono hff29 rfl))⟩, v25⟩ (show 0 ≤ 0 by omega) (show 0 ≤ 0 by omega) dX6_price_28
theorem flX6_price_68 : FL wsX6_price RX6 68 6 40 := ⟨RX6, TX6, 45, rfl, by decide, by decide +kernel, by decide +kernel⟩
set_option maxHeartbeats 4000000 in
set_option maxRecDepth 100000 in
theorem m_price {x y : Nat} {p : Nat → Nat} {w : pW} {A : Nat → Nat} {mm : Nat} {fs : List Value} (hAD : AD A mm) (hmm : w mm = some (.inr (6, fs))) (hA : RA A fs) (a40 : w (A 40) = some (.inl (0, 4, .inl (fun j9 => nI (p j9))))) (hx : x < 4) (hy : y ≤ 50) : Ct yX6_price wsX6_price rX6_price [.ref mm, .int (nI x), .int (nI y)] w (fun o w9 => o = .inl (some (.int (nI (p x)))) ∧ ∃ fs9 : List Value, MU A mm [40] [0] w w9 fs fs9 ∧ fs9[0]? = some (.int (nI 0)) ∧ w9 (A 40) = some (.inl (0, 4, .inl (fun j9 => nI ((va_up p x y) j9))))) := by
  refine Ct.of (cc := cX6_price) (own := RX6) (nm := "price") (nL := 4) (ret := (some .int)) (by decide +kernel) rfl rfl rfl (Nat.le_of_ble_eq_true rfl) ?_
  refine j_lvE (lv' := [(0, .ref mm), (1, .int (nI x)), (2, .int (nI y))]) rfl ?_
  refine j_aload_n dX6_price_0 0 rfl ?_
  refine j_iconst (v := nI 0) dX6_price_1 (by decide) ?_
  refine j_putM fsX6_price_80 hmm rfl rfl (RA.lt hA (by decide)) dX6_price_2 (fun w1 fs2 sfs2 hw1 => ?_)
  have f3 : w1 mm = some (.inr (6, fs2)) := up_at hw1
  have rfs2 : RA A fs2 := RA.set hA sfs2 rfl
  have v4 := st_at sfs2 hA (by decide : 0 < 45)
  refine j_iload_n dX6_price_5 1 rfl ?_
  refine j_if_ltN (by omega) dX6_price_6 (by decide : _ = ((24 : Nat) : Int)) ?_
  refine j_iload_n dX6_price_9 1 rfl ?_
  refine j_iconst (v := nI 3) dX6_price_10 (by decide) ?_
  refine j_icmp_gtN 24 (by omega) (by omega) dX6_price_11 (by decide) (fun c11 => ?_) (fun c11 => ?_)
  · skip
    exfalso; omega
  · skip
    refine j_iload_n dX6_price_14 2 rfl ?_
    refine j_if_ltN (by omega) dX6_price_15 (by decide : _ = ((24 : Nat) : Int)) ?_
    refine j_iload_n dX6_price_18 2 rfl ?_
    refine j_bipush (v := nI 50) dX6_price_19 (by decide) ?_
    refine j_icmp_leN 29 (by omega) (by omega) dX6_price_21 (by decide) (fun c21 => ?_) (fun c21 => ?_)
    · skip
      refine j_aload_n dX6_price_29 0 rfl ?_
      refine j_get (v := .ref (A 40)) flX6_price_68 f3 (rfs2.2 40 rfl) dX6_price_30 ?_
      refine j_iload_n dX6_price_33 1 rfl ?_
      have f5 := (up_ne hw1 (AD.nm hAD 40 rfl) a40)
      refine j_ialdN (j := x) f5 rfl (by omega) (by omega) dX6_price_34 ?_
      refine j_istore_n (lv' := [(3, .int (nI (p x))), (0, .ref mm), (1, .int (nI x)), (2, .int (nI y))]) dX6_price_35 (Nat.le_of_ble_eq_true rfl) rfl ?_
      refine j_aload_n dX6_price_36 1 rfl ?_
      refine j_get (v := .ref (A 40)) flX6_price_68 f3 (rfs2.2 40 rfl) dX6_price_37 ?_
      refine j_iload_n dX6_price_40 2 rfl ?_
      refine j_iload_n dX6_price_41 3 rfl ?_
      refine j_iastn (j := x) (x := y) f5 rfl (by omega) (by omega) dX6_price_42 ?_
      refine j_w (fun w6 hw6 => ?_)
      have f7 : w6 (A 40) = some (.inl (0, 4, .inl (fun j9 => nI ((va_up p x y) j9)))) := up_at hw6
      refine j_iload_n dX6_price_43 0 rfl ?_
      have f8 := (up_ne hw6 (AD.mn hAD 40 rfl) f3)
      exact j_iret rfl ⟨rfl, _, ⟨(((FrI.refl : FrI A [mm] [40] w w).trans (FrI.ux hw1 (by simp))).trans (FrI.ua hw6 rfl)), f8, ((FF.refl : FF [0] fs fs).trans (FF.set sfs2 rfl))⟩, v4, f7⟩ (show 0 ≤ 0 by omega) (show 0 ≤ 0 by omega) dX6_price_44
    · skip
      exfalso; omega
abbrev rX6_lead : Room := { frames := 1, cells := 0, slots := 0, locals := 20 }
theorem fsX6_lead_80 : FS wsX6_lead RX6 80 6 0 false (.int) := ⟨RX6, TX6, 45, tyX6, rfl, by decide, by decide +kernel, by decide +kernel, tyX6_ok, nmX6, rfl, rfl, rfl⟩
set_option maxRecDepth 100000 in
theorem mX6_lead_0 : Cond.constant RX6 248 (60000) ∈ wsX6_lead := by decide +kernel
set_option maxHeartbeats 4000000 in
set_option maxRecDepth 100000 in
theorem m_leadBad {x : Int32} {w : pW} {A : Nat → Nat} {mm : Nat} {fs : List Value} (hAD : AD A mm) (hmm : w mm = some (.inr (6, fs))) (hA : RA A fs) (hb : x < 0 ∨ nI 60000 < x) : Ct yX6_lead wsX6_lead rX6_lead [.ref mm, .int x] w (fun o w9 => o = .inl (some (.int (nI 0))) ∧ ∃ fs9 : List Value, MU A mm [] [0] w w9 fs fs9 ∧ fs9[0]? = some (.int (nI 1))) := by
  refine Ct.of (cc := cX6_lead) (own := RX6) (nm := "lead") (nL := 3) (ret := (some .int)) (by decide +kernel) rfl rfl rfl (Nat.le_of_ble_eq_true rfl) ?_
  refine j_lvE (lv' := [(0, .ref mm), (1, .int x)]) rfl ?_
  refine j_aload_n dX6_lead_0 0 rfl ?_
  refine j_iconst (v := nI 0) dX6_lead_1 (by decide) ?_
  refine j_putM fsX6_lead_80 hmm rfl rfl (RA.lt hA (by decide)) dX6_lead_2 (fun w1 fs2 sfs2 hw1 => ?_)
  have f3 : w1 mm = some (.inr (6, fs2)) := up_at hw1
  have rfs2 : RA A fs2 := RA.set hA sfs2 rfl
  have v4 := st_at sfs2 hA (by decide : 0 < 45)
  refine j_iload_n dX6_lead_5 1 rfl ?_
  refine j_if_lt 15 dX6_lead_6 (by decide) (fun c6 => ?_) (fun c6 => ?_)
  · skip
    refine j_aload_n dX6_lead_15 0 rfl ?_
    refine j_callV (rm := rX6_fail) (As := []) (st := []) (b0 := mm) (ci := 6) (na := 0) (m_fail hAD f3 rfs2) (by intro E w9 h9; first | exact nomatch h9.1 | (obtain ⟨_, h9, _⟩ := h9; exact nomatch h9) | (obtain ⟨_, _, _, h9, _⟩ := h9; exact nomatch h9)) gX6_lead_X6_fail rfl rfl f3 (by decide +kernel) rfl ⟨Nat.le_of_ble_eq_true rfl, Nat.le_of_ble_eq_true rfl⟩ rfl (Nat.le_of_ble_eq_true rfl) dX6_lead_16 ⟨(show 0 + 0 ≤ 0 by omega), (show 0 + 0 ≤ 0 by omega)⟩ (fun v11 w12 h13 => ?_)
    obtain ⟨h10, fs6, ⟨hfr7, hm8, hff9⟩, v5⟩ := h13
    cases h10
    refine j_after (st' := [.int (nI 0)]) (k' := 0) (n' := 0) rfl rfl rfl ?_
    have r14 : RA A fs6 := RA.ff rfs2 hff9 rfl
    exact j_iret rfl ⟨rfl, _, ⟨(((FrI.refl : FrI A [mm] [] w w).trans (FrI.ux hw1 (by simp))).trans (FrI.sub hfr7 rfl)), hm8, (((FF.refl : FF [0] fs fs).trans (FF.set sfs2 rfl)).trans (FF.mono hff9 rfl))⟩, v5⟩ (show 0 ≤ 0 by omega) (show 0 ≤ 0 by omega) dX6_lead_19
  · skip
    refine j_iload_n dX6_lead_9 1 rfl ?_
    refine j_ldc (v := nI 60000) dX6_lead_10 mX6_lead_0 ?_
    refine j_icmp_le 20 dX6_lead_12 (by decide) (fun c12 => ?_) (fun c12 => ?_)
    · skip
      exact absurd (bad2 hb c6 c12) id
    · skip
      refine j_aload_n dX6_lead_15 0 rfl ?_
      refine j_callV (rm := rX6_fail) (As := []) (st := []) (b0 := mm) (ci := 6) (na := 0) (m_fail hAD f3 rfs2) (by intro E w9 h9; first | exact nomatch h9.1 | (obtain ⟨_, h9, _⟩ := h9; exact nomatch h9) | (obtain ⟨_, _, _, h9, _⟩ := h9; exact nomatch h9)) gX6_lead_X6_fail rfl rfl f3 (by decide +kernel) rfl ⟨Nat.le_of_ble_eq_true rfl, Nat.le_of_ble_eq_true rfl⟩ rfl (Nat.le_of_ble_eq_true rfl) dX6_lead_16 ⟨(show 0 + 0 ≤ 0 by omega), (show 0 + 0 ≤ 0 by omega)⟩ (fun v21 w22 h23 => ?_)
      obtain ⟨h20, fs16, ⟨hfr17, hm18, hff19⟩, v15⟩ := h23
      cases h20
      refine j_after (st' := [.int (nI 0)]) (k' := 0) (n' := 0) rfl rfl rfl ?_
      have r24 : RA A fs16 := RA.ff rfs2 hff19 rfl
      exact j_iret rfl ⟨rfl, _, ⟨(((FrI.refl : FrI A [mm] [] w w).trans (FrI.ux hw1 (by simp))).trans (FrI.sub hfr17 rfl)), hm18, (((FF.refl : FF [0] fs fs).trans (FF.set sfs2 rfl)).trans (FF.mono hff19 rfl))⟩, v15⟩ (show 0 ≤ 0 by omega) (show 0 ≤ 0 by omega) dX6_lead_19
theorem flX6_lead_77 : FL wsX6_lead RX6 77 6 44 := ⟨RX6, TX6, 45, rfl, by decide, by decide +kernel, by decide +kernel⟩
theorem fsX6_lead_77 : FS wsX6_lead RX6 77 6 44 false (.int) := ⟨RX6, TX6, 45, tyX6, rfl, by decide, by decide +kernel, by decide +kernel, tyX6_ok, nmX6, rfl, rfl, rfl⟩
set_option maxHeartbeats 4000000 in
set_option maxRecDepth 100000 in
theorem m_lead {v ld : Nat} {w : pW} {A : Nat → Nat} {mm : Nat} {fs : List Value} (hAD : AD A mm) (hmm : w mm = some (.inr (6, fs))) (hA : RA A fs) (h44 : fs[44]? = some (.int (nI ld))) (hv : v ≤ 60000) : Ct yX6_lead wsX6_lead rX6_lead [.ref mm, .int (nI v)] w (fun o w9 => o = .inl (some (.int (nI ld))) ∧ ∃ fs9 : List Value, MU A mm [] [0, 44] w w9 fs fs9 ∧ fs9[0]? = some (.int (nI 0)) ∧ fs9[44]? = some (.int (nI v))) := by
  refine Ct.of (cc := cX6_lead) (own := RX6) (nm := "lead") (nL := 3) (ret := (some .int)) (by decide +kernel) rfl rfl rfl (Nat.le_of_ble_eq_true rfl) ?_
  refine j_lvE (lv' := [(0, .ref mm), (1, .int (nI v))]) rfl ?_
  refine j_aload_n dX6_lead_0 0 rfl ?_
  refine j_iconst (v := nI 0) dX6_lead_1 (by decide) ?_
  refine j_putM fsX6_lead_80 hmm rfl rfl (RA.lt hA (by decide)) dX6_lead_2 (fun w1 fs2 sfs2 hw1 => ?_)
  have f3 : w1 mm = some (.inr (6, fs2)) := up_at hw1
  have rfs2 : RA A fs2 := RA.set hA sfs2 rfl
  have v4 := st_at sfs2 hA (by decide : 0 < 45)
  refine j_iload_n dX6_lead_5 1 rfl ?_
  refine j_if_ltN (by omega) dX6_lead_6 (by decide : _ = ((15 : Nat) : Int)) ?_
  refine j_iload_n dX6_lead_9 1 rfl ?_
  refine j_ldc (v := nI 60000) dX6_lead_10 mX6_lead_0 ?_
  refine j_icmp_leN 20 (by omega) (by omega) dX6_lead_12 (by decide) (fun c12 => ?_) (fun c12 => ?_)
  · skip
    refine j_aload_n dX6_lead_20 0 rfl ?_
    have v5 := (st_ne sfs2 rfl h44)
    refine j_get (v := .int (nI ld)) flX6_lead_77 f3 v5 dX6_lead_21 ?_
    refine j_istore_n (lv' := [(2, .int (nI ld)), (0, .ref mm), (1, .int (nI v))]) dX6_lead_24 (Nat.le_of_ble_eq_true rfl) rfl ?_
    refine j_aload_n dX6_lead_25 1 rfl ?_
    refine j_iload_n dX6_lead_26 2 rfl ?_
    refine j_putM fsX6_lead_77 f3 rfl rfl (RA.lt rfs2 (by decide)) dX6_lead_27 (fun w6 fs7 sfs7 hw6 => ?_)
    have f8 : w6 mm = some (.inr (6, fs7)) := up_at hw6
    have rfs7 : RA A fs7 := RA.set rfs2 sfs7 rfl
    have v9 := st_at sfs7 rfs2 (by decide : 44 < 45)
    refine j_iload_n dX6_lead_30 0 rfl ?_
    have v10 := (st_ne sfs7 rfl v4)
    exact j_iret rfl ⟨rfl, _, ⟨(((FrI.refl : FrI A [mm] [] w w).trans (FrI.ux hw1 (by simp))).trans (FrI.ux hw6 (by simp))), f8, (((FF.refl : FF [0, 44] fs fs).trans (FF.set sfs2 rfl)).trans (FF.set sfs7 rfl))⟩, v10, v9⟩ (show 0 ≤ 0 by omega) (show 0 ≤ 0 by omega) dX6_lead_31
  · skip
    exfalso; omega
abbrev rX6_event : Room := { frames := 1, cells := 0, slots := 0, locals := 20 }
theorem fsX6_event_80 : FS wsX6_event RX6 80 6 0 false (.int) := ⟨RX6, TX6, 45, tyX6, rfl, by decide, by decide +kernel, by decide +kernel, tyX6_ok, nmX6, rfl, rfl, rfl⟩
set_option maxHeartbeats 4000000 in
set_option maxRecDepth 100000 in
theorem m_eventBadM {ev : Nat} {x y : Int32} {w : pW} {A : Nat → Nat} {mm : Nat} {fs : List Value} (hAD : AD A mm) (hmm : w mm = some (.inr (6, fs))) (hA : RA A fs) (h5 : fs[5]? = some (.int (nI ev))) (hx : x < 0) : Ct yX6_event wsX6_event rX6_event [.ref mm, .int x, .int y] w (fun o w9 => o = .inl (some (.int (nI 0))) ∧ ∃ fs9 : List Value, MU A mm [] [0] w w9 fs fs9 ∧ fs9[0]? = some (.int (nI 1))) := by
  refine Ct.of (cc := cX6_event) (own := RX6) (nm := "event") (nL := 3) (ret := (some .int)) (by decide +kernel) rfl rfl rfl (Nat.le_of_ble_eq_true rfl) ?_
  refine j_lvE (lv' := [(0, .ref mm), (1, .int x), (2, .int y)]) rfl ?_
  refine j_aload_n dX6_event_0 0 rfl ?_
  refine j_iconst (v := nI 0) dX6_event_1 (by decide) ?_
  refine j_putM fsX6_event_80 hmm rfl rfl (RA.lt hA (by decide)) dX6_event_2 (fun w1 fs2 sfs2 hw1 => ?_)
  have f3 : w1 mm = some (.inr (6, fs2)) := up_at hw1
  have rfs2 : RA A fs2 := RA.set hA sfs2 rfl
  have v4 := st_at sfs2 hA (by decide : 0 < 45)
  refine j_iload_n dX6_event_5 1 rfl ?_
  refine j_if_lt 34 dX6_event_6 (by decide) (fun c6 => ?_) (fun c6 => ?_)
  · skip
    refine j_aload_n dX6_event_34 0 rfl ?_
    refine j_callV (rm := rX6_fail) (As := []) (st := []) (b0 := mm) (ci := 6) (na := 0) (m_fail hAD f3 rfs2) (by intro E w9 h9; first | exact nomatch h9.1 | (obtain ⟨_, h9, _⟩ := h9; exact nomatch h9) | (obtain ⟨_, _, _, h9, _⟩ := h9; exact nomatch h9)) gX6_event_X6_fail rfl rfl f3 (by decide +kernel) rfl ⟨Nat.le_of_ble_eq_true rfl, Nat.le_of_ble_eq_true rfl⟩ rfl (Nat.le_of_ble_eq_true rfl) dX6_event_35 ⟨(show 0 + 0 ≤ 0 by omega), (show 0 + 0 ≤ 0 by omega)⟩ (fun v11 w12 h13 => ?_)
    obtain ⟨h10, fs6, ⟨hfr7, hm8, hff9⟩, v5⟩ := h13
    cases h10
    refine j_after (st' := [.int (nI 0)]) (k' := 0) (n' := 0) rfl rfl rfl ?_
    have r14 : RA A fs6 := RA.ff rfs2 hff9 rfl
    exact j_iret rfl ⟨rfl, _, ⟨(((FrI.refl : FrI A [mm] [] w w).trans (FrI.ux hw1 (by simp))).trans (FrI.sub hfr7 rfl)), hm8, (((FF.refl : FF [0] fs fs).trans (FF.set sfs2 rfl)).trans (FF.mono hff9 rfl))⟩, v5⟩ (show 0 ≤ 0 by omega) (show 0 ≤ 0 by omega) dX6_event_38
  · skip
    exact absurd (c6 hx) id
theorem flX6_event_144 : FL wsX6_event RX6 144 6 5 := ⟨RX6, TX6, 45, rfl, by decide, by decide +kernel, by decide +kernel⟩
set_option maxHeartbeats 4000000 in
set_option maxRecDepth 100000 in
theorem m_eventBadE {ev e : Nat} {y : Int32} {w : pW} {A : Nat → Nat} {mm : Nat} {fs : List Value} (hAD : AD A mm) (hmm : w mm = some (.inr (6, fs))) (hA : RA A fs) (h5 : fs[5]? = some (.int (nI ev))) (he : ev ≤ e) (he2 : e < 2 ^ 31) (hev : ev ≤ 100) : Ct yX6_event wsX6_event rX6_event [.ref mm, .int (nI e), .int y] w (fun o w9 => o = .inl (some (.int (nI 0))) ∧ ∃ fs9 : List Value, MU A mm [] [0] w w9 fs fs9 ∧ fs9[0]? = some (.int (nI 1))) := by
  refine Ct.of (cc := cX6_event) (own := RX6) (nm := "event") (nL := 3) (ret := (some .int)) (by decide +kernel) rfl rfl rfl (Nat.le_of_ble_eq_true rfl) ?_
  refine j_lvE (lv' := [(0, .ref mm), (1, .int (nI e)), (2, .int y)]) rfl ?_
  refine j_aload_n dX6_event_0 0 rfl ?_
  refine j_iconst (v := nI 0) dX6_event_1 (by decide) ?_
  refine j_putM fsX6_event_80 hmm rfl rfl (RA.lt hA (by decide)) dX6_event_2 (fun w1 fs2 sfs2 hw1 => ?_)
  have f3 : w1 mm = some (.inr (6, fs2)) := up_at hw1
  have rfs2 : RA A fs2 := RA.set hA sfs2 rfl
  have v4 := st_at sfs2 hA (by decide : 0 < 45)
  refine j_iload_n dX6_event_5 1 rfl ?_
  refine j_if_ltN (by omega) dX6_event_6 (by decide : _ = ((34 : Nat) : Int)) ?_
  refine j_iload_n dX6_event_9 1 rfl ?_
  refine j_aload_n dX6_event_10 0 rfl ?_
  have v5 := (st_ne sfs2 rfl h5)
  refine j_get (v := .int (nI ev)) flX6_event_144 f3 v5 dX6_event_11 ?_
  refine j_icmp_geN 34 (by omega) (by omega) dX6_event_14 (by decide) (fun c14 => ?_) (fun c14 => ?_)
  · skip
    refine j_aload_n dX6_event_34 0 rfl ?_
    refine j_callV (rm := rX6_fail) (As := []) (st := []) (b0 := mm) (ci := 6) (na := 0) (m_fail hAD f3 rfs2) (by intro E w9 h9; first | exact nomatch h9.1 | (obtain ⟨_, h9, _⟩ := h9; exact nomatch h9) | (obtain ⟨_, _, _, h9, _⟩ := h9; exact nomatch h9)) gX6_event_X6_fail rfl rfl f3 (by decide +kernel) rfl ⟨Nat.le_of_ble_eq_true rfl, Nat.le_of_ble_eq_true rfl⟩ rfl (Nat.le_of_ble_eq_true rfl) dX6_event_35 ⟨(show 0 + 0 ≤ 0 by omega), (show 0 + 0 ≤ 0 by omega)⟩ (fun v12 w13 h14 => ?_)
    obtain ⟨h11, fs7, ⟨hfr8, hm9, hff10⟩, v6⟩ := h14
    cases h11
    refine j_after (st' := [.int (nI 0)]) (k' := 0) (n' := 0) rfl rfl rfl ?_
    have r15 : RA A fs7 := RA.ff rfs2 hff10 rfl
    exact j_iret rfl ⟨rfl, _, ⟨(((FrI.refl : FrI A [mm] [] w w).trans (FrI.ux hw1 (by simp))).trans (FrI.sub hfr8 rfl)), hm9, (((FF.refl : FF [0] fs fs).trans (FF.set sfs2 rfl)).trans (FF.mono hff10 rfl))⟩, v6⟩ (show 0 ≤ 0 by omega) (show 0 ≤ 0 by omega) dX6_event_38
  · skip
    exfalso; omega
set_option maxHeartbeats 4000000 in
set_option maxRecDepth 100000 in
theorem m_eventBadY {ev e : Nat} {y : Int32} {w : pW} {A : Nat → Nat} {mm : Nat} {fs : List Value} (hAD : AD A mm) (hmm : w mm = some (.inr (6, fs))) (hA : RA A fs) (h5 : fs[5]? = some (.int (nI ev))) (he : e < ev) (hev : ev ≤ 100) (hy : y < 0) : Ct yX6_event wsX6_event rX6_event [.ref mm, .int (nI e), .int y] w (fun o w9 => o = .inl (some (.int (nI 0))) ∧ ∃ fs9 : List Value, MU A mm [] [0] w w9 fs fs9 ∧ fs9[0]? = some (.int (nI 1))) := by
  refine Ct.of (cc := cX6_event) (own := RX6) (nm := "event") (nL := 3) (ret := (some .int)) (by decide +kernel) rfl rfl rfl (Nat.le_of_ble_eq_true rfl) ?_
  refine j_lvE (lv' := [(0, .ref mm), (1, .int (nI e)), (2, .int y)]) rfl ?_
  refine j_aload_n dX6_event_0 0 rfl ?_
  refine j_iconst (v := nI 0) dX6_event_1 (by decide) ?_
  refine j_putM fsX6_event_80 hmm rfl rfl (RA.lt hA (by decide)) dX6_event_2 (fun w1 fs2 sfs2 hw1 => ?_)
  have f3 : w1 mm = some (.inr (6, fs2)) := up_at hw1
  have rfs2 : RA A fs2 := RA.set hA sfs2 rfl
  have v4 := st_at sfs2 hA (by decide : 0 < 45)
  refine j_iload_n dX6_event_5 1 rfl ?_
  refine j_if_ltN (by omega) dX6_event_6 (by decide : _ = ((34 : Nat) : Int)) ?_
  refine j_iload_n dX6_event_9 1 rfl ?_
  refine j_aload_n dX6_event_10 0 rfl ?_
  have v5 := (st_ne sfs2 rfl h5)
  refine j_get (v := .int (nI ev)) flX6_event_144 f3 v5 dX6_event_11 ?_
  refine j_icmp_geN 34 (by omega) (by omega) dX6_event_14 (by decide) (fun c14 => ?_) (fun c14 => ?_)
  · skip
    exfalso; omega
  · skip
    refine j_iload_n dX6_event_17 2 rfl ?_
    refine j_if_lt 34 dX6_event_18 (by decide) (fun c18 => ?_) (fun c18 => ?_)
    · skip
      refine j_aload_n dX6_event_34 0 rfl ?_
      refine j_callV (rm := rX6_fail) (As := []) (st := []) (b0 := mm) (ci := 6) (na := 0) (m_fail hAD f3 rfs2) (by intro E w9 h9; first | exact nomatch h9.1 | (obtain ⟨_, h9, _⟩ := h9; exact nomatch h9) | (obtain ⟨_, _, _, h9, _⟩ := h9; exact nomatch h9)) gX6_event_X6_fail rfl rfl f3 (by decide +kernel) rfl ⟨Nat.le_of_ble_eq_true rfl, Nat.le_of_ble_eq_true rfl⟩ rfl (Nat.le_of_ble_eq_true rfl) dX6_event_35 ⟨(show 0 + 0 ≤ 0 by omega), (show 0 + 0 ≤ 0 by omega)⟩ (fun v12 w13 h14 => ?_)
      obtain ⟨h11, fs7, ⟨hfr8, hm9, hff10⟩, v6⟩ := h14
      cases h11
      refine j_after (st' := [.int (nI 0)]) (k' := 0) (n' := 0) rfl rfl rfl ?_
      have r15 : RA A fs7 := RA.ff rfs2 hff10 rfl
      exact j_iret rfl ⟨rfl, _, ⟨(((FrI.refl : FrI A [mm] [] w w).trans (FrI.ux hw1 (by simp))).trans (FrI.sub hfr8 rfl)), hm9, (((FF.refl : FF [0] fs fs).trans (FF.set sfs2 rfl)).trans (FF.mono hff10 rfl))⟩, v6⟩ (show 0 ≤ 0 by omega) (show 0 ≤ 0 by omega) dX6_event_38
    · skip
      exact absurd (c18 hy) id
theorem flX6_event_20 : FL wsX6_event RX6 20 6 11 := ⟨RX6, TX6, 45, rfl, by decide, by decide +kernel, by decide +kernel⟩
set_option maxHeartbeats 4000000 in
set_option maxRecDepth 100000 in
theorem m_eventBadC {ev e c : Nat} {xm : Nat → Nat} {w : pW} {A : Nat → Nat} {mm : Nat} {fs : List Value} (hAD : AD A mm) (hmm : w mm = some (.inr (6, fs))) (hA : RA A fs) (h5 : fs[5]? = some (.int (nI ev))) (a11 : w (A 11) = some (.inl (0, 100, .inl (fun j9 => nI (xm j9))))) (he : e < ev) (hev : ev ≤ 100) (hm : xm e ≤ 4) (hc : 9 + xm e ≤ c) (hc2 : c < 2 ^ 31) : Ct yX6_event wsX6_event rX6_event [.ref mm, .int (nI e), .int (nI c)] w (fun o w9 => o = .inl (some (.int (nI 0))) ∧ ∃ fs9 : List Value, MU A mm [] [0] w w9 fs fs9 ∧ fs9[0]? = some (.int (nI 1))) := by
  refine Ct.of (cc := cX6_event) (own := RX6) (nm := "event") (nL := 3) (ret := (some .int)) (by decide +kernel) rfl rfl rfl (Nat.le_of_ble_eq_true rfl) ?_
  refine j_lvE (lv' := [(0, .ref mm), (1, .int (nI e)), (2, .int (nI c))]) rfl ?_
  refine j_aload_n dX6_event_0 0 rfl ?_
  refine j_iconst (v := nI 0) dX6_event_1 (by decide) ?_
  refine j_putM fsX6_event_80 hmm rfl rfl (RA.lt hA (by decide)) dX6_event_2 (fun w1 fs2 sfs2 hw1 => ?_)
  have f3 : w1 mm = some (.inr (6, fs2)) := up_at hw1
  have rfs2 : RA A fs2 := RA.set hA sfs2 rfl
  have v4 := st_at sfs2 hA (by decide : 0 < 45)
  refine j_iload_n dX6_event_5 1 rfl ?_
  refine j_if_ltN (by omega) dX6_event_6 (by decide : _ = ((34 : Nat) : Int)) ?_
  refine j_iload_n dX6_event_9 1 rfl ?_
  refine j_aload_n dX6_event_10 0 rfl ?_
  have v5 := (st_ne sfs2 rfl h5)
  refine j_get (v := .int (nI ev)) flX6_event_144 f3 v5 dX6_event_11 ?_
  refine j_icmp_geN 34 (by omega) (by omega) dX6_event_14 (by decide) (fun c14 => ?_) (fun c14 => ?_)
  · skip
    exfalso; omega
  · skip
    refine j_iload_n dX6_event_17 2 rfl ?_
    refine j_if_ltN (by omega) dX6_event_18 (by decide : _ = ((34 : Nat) : Int)) ?_
    refine j_iload_n dX6_event_21 2 rfl ?_
    refine j_bipush (v := nI 8) dX6_event_22 (by decide) ?_
    refine j_aload_n dX6_event_24 0 rfl ?_
    refine j_get (v := .ref (A 11)) flX6_event_20 f3 (rfs2.2 11 rfl) dX6_event_25 ?_
    refine j_iload_n dX6_event_28 1 rfl ?_
    have f6 := (up_ne hw1 (AD.nm hAD 11 rfl) a11)
    refine j_ialdN (j := e) f6 rfl (by omega) (by omega) dX6_event_29 ?_
    refine j_iaddN dX6_event_30 ?_
    refine j_icmp_leN 39 (by omega) (by omega) dX6_event_31 (by decide) (fun c31 => ?_) (fun c31 => ?_)
    · skip
      exfalso; omega
    · skip
      refine j_aload_n dX6_event_34 0 rfl ?_
      refine j_callV (rm := rX6_fail) (As := []) (st := []) (b0 := mm) (ci := 6) (na := 0) (m_fail hAD f3 rfs2) (by intro E w9 h9; first | exact nomatch h9.1 | (obtain ⟨_, h9, _⟩ := h9; exact nomatch h9) | (obtain ⟨_, _, _, h9, _⟩ := h9; exact nomatch h9)) gX6_event_X6_fail rfl rfl f3 (by decide +kernel) rfl ⟨Nat.le_of_ble_eq_true rfl, Nat.le_of_ble_eq_true rfl⟩ rfl (Nat.le_of_ble_eq_true rfl) dX6_event_35 ⟨(show 0 + 0 ≤ 0 by omega), (show 0 + 0 ≤ 0 by omega)⟩ (fun v13 w14 h15 => ?_)
      obtain ⟨h12, fs8, ⟨hfr9, hm10, hff11⟩, v7⟩ := h15
      cases h12
      refine j_after (st' := [.int (nI 0)]) (k' := 0) (n' := 0) rfl rfl rfl ?_
      have r16 : RA A fs8 := RA.ff rfs2 hff11 rfl
      exact j_iret rfl ⟨rfl, _, ⟨(((FrI.refl : FrI A [mm] [] w w).trans (FrI.ux hw1 (by simp))).trans (FrI.sub hfr9 rfl)), hm10, (((FF.refl : FF [0] fs fs).trans (FF.set sfs2 rfl)).trans (FF.mono hff11 rfl))⟩, v7⟩ (show 0 ≤ 0 by omega) (show 0 ≤ 0 by omega) dX6_event_38
theorem flX6_event_17 : FL wsX6_event RX6 17 6 10 := ⟨RX6, TX6, 45, rfl, by decide, by decide +kernel, by decide +kernel⟩
theorem flX6_event_26 : FL wsX6_event RX6 26 6 13 := ⟨RX6, TX6, 45, rfl, by decide, by decide +kernel, by decide +kernel⟩
theorem flX6_event_29 : FL wsX6_event RX6 29 6 14 := ⟨RX6, TX6, 45, rfl, by decide, by decide +kernel, by decide +kernel⟩
theorem flX6_event_32 : FL wsX6_event RX6 32 6 15 := ⟨RX6, TX6, 45, rfl, by decide, by decide +kernel, by decide +kernel⟩
theorem flX6_event_35 : FL wsX6_event RX6 35 6 16 := ⟨RX6, TX6, 45, rfl, by decide, by decide +kernel, by decide +kernel⟩
theorem flX6_event_41 : FL wsX6_event RX6 41 6 18 := ⟨RX6, TX6, 45, rfl, by decide, by decide +kernel, by decide +kernel⟩
theorem flX6_event_45 : FL wsX6_event RX6 45 6 19 := ⟨RX6, TX6, 45, rfl, by decide, by decide +kernel, by decide +kernel⟩
theorem flX6_event_38 : FL wsX6_event RX6 38 6 17 := ⟨RX6, TX6, 45, rfl, by decide, by decide +kernel, by decide +kernel⟩
theorem flX6_event_23 : FL wsX6_event RX6 23 6 12 := ⟨RX6, TX6, 45, rfl, by decide, by decide +kernel, by decide +kernel⟩
set_option maxHeartbeats 4000000 in
set_option maxRecDepth 100000 in
theorem m_event {ev e c : Nat} {f : Nat → Int32} {xk xm : Nat → Nat} {xp : Nat → Int32} {xb xs xe xg : Nat → Nat} {xl xi xc : Nat → Int32} {w : pW} {A : Nat → Nat} {mm : Nat} {fs : List Value} (hAD : AD A mm) (hmm : w mm = some (.inr (6, fs))) (hA : RA A fs) (h5 : fs[5]? = some (.int (nI ev))) (a10 : w (A 10) = some (.inl (0, 100, .inl (fun j9 => nI (xk j9))))) (a11 : w (A 11) = some (.inl (0, 100, .inl (fun j9 => nI (xm j9))))) (a12 : w (A 12) = some (.inl (0, 400, .inl xp))) (a13 : w (A 13) = some (.inl (0, 100, .inl (fun j9 => nI (xb j9))))) (a14 : w (A 14) = some (.inl (0, 100, .inl (fun j9 => nI (xs j9))))) (a15 : w (A 15) = some (.inl (0, 100, .inl (fun j9 => nI (xe j9))))) (a16 : w (A 16) = some (.inl (0, 100, .inl (fun j9 => nI (xg j9))))) (a17 : w (A 17) = some (.inl (0, 100, .inl xl))) (a18 : w (A 18) = some (.inl (2, 100, .inl xi))) (a19 : w (A 19) = some (.inl (2, 100, .inl xc))) (he : e < ev) (hev : ev ≤ 100) (hR : xm e ≤ 4 ∧ opA xk xm xp xb xe xg xl xi xc f e ∧ f (e * 14 + 3) = nI (xs e)) (hc : c < 9 + xm e) (hz6 : xi e = 0 ∨ xi e = 1) (hz7 : xc e = 0 ∨ xc e = 1) : Ct yX6_event wsX6_event rX6_event [.ref mm, .int (nI e), .int (nI c)] w (fun o w9 => o = .inl (some (.int (f (e * 14 + c)))) ∧ ∃ fs9 : List Value, MU A mm [] [0] w w9 fs fs9 ∧ fs9[0]? = some (.int (nI 0))) := by
  refine Ct.of (cc := cX6_event) (own := RX6) (nm := "event") (nL := 3) (ret := (some .int)) (by decide +kernel) rfl rfl rfl (Nat.le_of_ble_eq_true rfl) ?_
  refine j_lvE (lv' := [(0, .ref mm), (1, .int (nI e)), (2, .int (nI c))]) rfl ?_
  obtain ⟨hm4, ⟨g0, g1, g2, g4, g5, g6, g7, g8, gp⟩, g3⟩ := hR
  refine j_aload_n dX6_event_0 0 rfl ?_
  refine j_iconst (v := nI 0) dX6_event_1 (by decide) ?_
  refine j_putM fsX6_event_80 hmm rfl rfl (RA.lt hA (by decide)) dX6_event_2 (fun w1 fs2 sfs2 hw1 => ?_)
  have f3 : w1 mm = some (.inr (6, fs2)) := up_at hw1
  have rfs2 : RA A fs2 := RA.set hA sfs2 rfl
  have v4 := st_at sfs2 hA (by decide : 0 < 45)
  refine j_iload_n dX6_event_5 1 rfl ?_
  refine j_if_ltN (by omega) dX6_event_6 (by decide : _ = ((34 : Nat) : Int)) ?_
  refine j_iload_n dX6_event_9 1 rfl ?_
  refine j_aload_n dX6_event_10 0 rfl ?_
  have v5 := (st_ne sfs2 rfl h5)
  refine j_get (v := .int (nI ev)) flX6_event_144 f3 v5 dX6_event_11 ?_
  refine j_icmp_geN 34 (by omega) (by omega) dX6_event_14 (by decide) (fun c14 => ?_) (fun c14 => ?_)
  · skip
    exfalso; omega
  · skip
    refine j_iload_n dX6_event_17 2 rfl ?_
    refine j_if_ltN (by omega) dX6_event_18 (by decide : _ = ((34 : Nat) : Int)) ?_
    refine j_iload_n dX6_event_21 2 rfl ?_
    refine j_bipush (v := nI 8) dX6_event_22 (by decide) ?_
    refine j_aload_n dX6_event_24 0 rfl ?_
    refine j_get (v := .ref (A 11)) flX6_event_20 f3 (rfs2.2 11 rfl) dX6_event_25 ?_
    refine j_iload_n dX6_event_28 1 rfl ?_
    have f6 := (up_ne hw1 (AD.nm hAD 11 rfl) a11)
    refine j_ialdN (j := e) f6 rfl (by omega) (by omega) dX6_event_29 ?_
    refine j_iaddN dX6_event_30 ?_
    refine j_icmp_leN 39 (by omega) (by omega) dX6_event_31 (by decide) (fun c31 => ?_) (fun c31 => ?_)
    · skip
      refine j_iload_n dX6_event_39 2 rfl ?_
      by_cases k0 : c = 0
      · skip
        refine j_tableIn (off := 52) 92 dX6_event_40 (by rw [k0]; decide) (by rw [k0]; decide) (by rw [k0]; decide) (by decide) ?_
        refine j_aload_n dX6_event_92 0 rfl ?_
        refine j_get (v := .ref (A 10)) flX6_event_17 f3 (rfs2.2 10 rfl) dX6_event_93 ?_
        refine j_iload_n dX6_event_96 1 rfl ?_
        have f7 := (up_ne hw1 (AD.nm hAD 10 rfl) a10)
        refine j_ialdN (j := e) f7 rfl (by omega) (by omega) dX6_event_97 ?_
        exact j_iret rfl ⟨by subst k0; rw [g0], _, ⟨((FrI.refl : FrI A [mm] [] w w).trans (FrI.ux hw1 (by simp))), f3, ((FF.refl : FF [0] fs fs).trans (FF.set sfs2 rfl))⟩, v4⟩ (show 0 ≤ 0 by omega) (show 0 ≤ 0 by omega) dX6_event_98
      by_cases k1 : c = 1
      · skip
        refine j_tableIn (off := 59) 99 dX6_event_40 (by rw [k1]; decide) (by rw [k1]; decide) (by rw [k1]; decide) (by decide) ?_
        refine j_aload_n dX6_event_99 0 rfl ?_
        refine j_get (v := .ref (A 11)) flX6_event_20 f3 (rfs2.2 11 rfl) dX6_event_100 ?_
        refine j_iload_n dX6_event_103 1 rfl ?_
        refine j_ialdN (j := e) f6 rfl (by omega) (by omega) dX6_event_104 ?_
        exact j_iret rfl ⟨by subst k1; rw [g1], _, ⟨((FrI.refl : FrI A [mm] [] w w).trans (FrI.ux hw1 (by simp))), f3, ((FF.refl : FF [0] fs fs).trans (FF.set sfs2 rfl))⟩, v4⟩ (show 0 ≤ 0 by omega) (show 0 ≤ 0 by omega) dX6_event_105
      by_cases k2 : c = 2
      · skip
        refine j_tableIn (off := 66) 106 dX6_event_40 (by rw [k2]; decide) (by rw [k2]; decide) (by rw [k2]; decide) (by decide) ?_
        refine j_aload_n dX6_event_106 0 rfl ?_
        refine j_get (v := .ref (A 13)) flX6_event_26 f3 (rfs2.2 13 rfl) dX6_event_107 ?_
        refine j_iload_n dX6_event_110 1 rfl ?_
        have f8 := (up_ne hw1 (AD.nm hAD 13 rfl) a13)
        refine j_ialdN (j := e) f8 rfl (by omega) (by omega) dX6_event_111 ?_
        exact j_iret rfl ⟨by subst k2; rw [g2], _, ⟨((FrI.refl : FrI A [mm] [] w w).trans (FrI.ux hw1 (by simp))), f3, ((FF.refl : FF [0] fs fs).trans (FF.set sfs2 rfl))⟩, v4⟩ (show 0 ≤ 0 by omega) (show 0 ≤ 0 by omega) dX6_event_112
      by_cases k3 : c = 3
      · skip
        refine j_tableIn (off := 73) 113 dX6_event_40 (by rw [k3]; decide) (by rw [k3]; decide) (by rw [k3]; decide) (by decide) ?_
        refine j_aload_n dX6_event_113 0 rfl ?_
        refine j_get (v := .ref (A 14)) flX6_event_29 f3 (rfs2.2 14 rfl) dX6_event_114 ?_
        refine j_iload_n dX6_event_117 1 rfl ?_
        have f9 := (up_ne hw1 (AD.nm hAD 14 rfl) a14)
        refine j_ialdN (j := e) f9 rfl (by omega) (by omega) dX6_event_118 ?_
        exact j_iret rfl ⟨by subst k3; rw [g3], _, ⟨((FrI.refl : FrI A [mm] [] w w).trans (FrI.ux hw1 (by simp))), f3, ((FF.refl : FF [0] fs fs).trans (FF.set sfs2 rfl))⟩, v4⟩ (show 0 ≤ 0 by omega) (show 0 ≤ 0 by omega) dX6_event_119
      by_cases k4 : c = 4
      · skip
        refine j_tableIn (off := 80) 120 dX6_event_40 (by rw [k4]; decide) (by rw [k4]; decide) (by rw [k4]; decide) (by decide) ?_
        refine j_aload_n dX6_event_120 0 rfl ?_
        refine j_get (v := .ref (A 15)) flX6_event_32 f3 (rfs2.2 15 rfl) dX6_event_121 ?_
        refine j_iload_n dX6_event_124 1 rfl ?_
        have f10 := (up_ne hw1 (AD.nm hAD 15 rfl) a15)
        refine j_ialdN (j := e) f10 rfl (by omega) (by omega) dX6_event_125 ?_
        exact j_iret rfl ⟨by subst k4; rw [g4], _, ⟨((FrI.refl : FrI A [mm] [] w w).trans (FrI.ux hw1 (by simp))), f3, ((FF.refl : FF [0] fs fs).trans (FF.set sfs2 rfl))⟩, v4⟩ (show 0 ≤ 0 by omega) (show 0 ≤ 0 by omega) dX6_event_126
      by_cases k5 : c = 5
      · skip
        refine j_tableIn (off := 87) 127 dX6_event_40 (by rw [k5]; decide) (by rw [k5]; decide) (by rw [k5]; decide) (by decide) ?_
        refine j_aload_n dX6_event_127 0 rfl ?_
        refine j_get (v := .ref (A 16)) flX6_event_35 f3 (rfs2.2 16 rfl) dX6_event_128 ?_
        refine j_iload_n dX6_event_131 1 rfl ?_
        have f11 := (up_ne hw1 (AD.nm hAD 16 rfl) a16)
        refine j_ialdN (j := e) f11 rfl (by omega) (by omega) dX6_event_132 ?_
        exact j_iret rfl ⟨by subst k5; rw [g5], _, ⟨((FrI.refl : FrI A [mm] [] w w).trans (FrI.ux hw1 (by simp))), f3, ((FF.refl : FF [0] fs fs).trans (FF.set sfs2 rfl))⟩, v4⟩ (show 0 ≤ 0 by omega) (show 0 ≤ 0 by omega) dX6_event_133
      by_cases k6 : c = 6
      · skip
        refine j_tableIn (off := 94) 134 dX6_event_40 (by rw [k6]; decide) (by rw [k6]; decide) (by rw [k6]; decide) (by decide) ?_
        refine j_aload_n dX6_event_134 0 rfl ?_
        refine j_get (v := .ref (A 18)) flX6_event_41 f3 (rfs2.2 18 rfl) dX6_event_135 ?_
        refine j_iload_n dX6_event_138 1 rfl ?_
        have f12 := (up_ne hw1 (AD.nm hAD 18 rfl) a18)
        refine j_zaldN (j := e) f12 rfl (by omega) (by omega) dX6_event_139 ?_
        refine j_if_eq 147 dX6_event_140 (by decide) (fun c140 => ?_) (fun c140 => ?_)
        · skip
          refine j_iconst (v := nI 0) dX6_event_147 (by decide) ?_
          exact j_iret rfl ⟨by subst k6; rw [g6, hz6.resolve_right (fun q => absurd (q.symm.trans c140) (by decide))]; rfl, _, ⟨((FrI.refl : FrI A [mm] [] w w).trans (FrI.ux hw1 (by simp))), f3, ((FF.refl : FF [0] fs fs).trans (FF.set sfs2 rfl))⟩, v4⟩ (show 0 ≤ 0 by omega) (show 0 ≤ 0 by omega) dX6_event_148
        · skip
          refine j_iconst (v := nI 1) dX6_event_143 (by decide) ?_
          refine j_goto 148 dX6_event_144 (by decide) ?_
          exact j_iret rfl ⟨by subst k6; rw [g6, hz6.resolve_left c140]; rfl, _, ⟨((FrI.refl : FrI A [mm] [] w w).trans (FrI.ux hw1 (by simp))), f3, ((FF.refl : FF [0] fs fs).trans (FF.set sfs2 rfl))⟩, v4⟩ (show 0 ≤ 0 by omega) (show 0 ≤ 0 by omega) dX6_event_148
      by_cases k7 : c = 7
      · skip
        refine j_tableIn (off := 109) 149 dX6_event_40 (by rw [k7]; decide) (by rw [k7]; decide) (by rw [k7]; decide) (by decide) ?_
        refine j_aload_n dX6_event_149 0 rfl ?_
        refine j_get (v := .ref (A 19)) flX6_event_45 f3 (rfs2.2 19 rfl) dX6_event_150 ?_
        refine j_iload_n dX6_event_153 1 rfl ?_
        have f13 := (up_ne hw1 (AD.nm hAD 19 rfl) a19)
        refine j_zaldN (j := e) f13 rfl (by omega) (by omega) dX6_event_154 ?_
        refine j_if_eq 162 dX6_event_155 (by decide) (fun c155 => ?_) (fun c155 => ?_)
        · skip
          refine j_iconst (v := nI 0) dX6_event_162 (by decide) ?_
          exact j_iret rfl ⟨by subst k7; rw [g7, hz7.resolve_right (fun q => absurd (q.symm.trans c155) (by decide))]; rfl, _, ⟨((FrI.refl : FrI A [mm] [] w w).trans (FrI.ux hw1 (by simp))), f3, ((FF.refl : FF [0] fs fs).trans (FF.set sfs2 rfl))⟩, v4⟩ (show 0 ≤ 0 by omega) (show 0 ≤ 0 by omega) dX6_event_163
        · skip
          refine j_iconst (v := nI 1) dX6_event_158 (by decide) ?_
          refine j_goto 163 dX6_event_159 (by decide) ?_
          exact j_iret rfl ⟨by subst k7; rw [g7, hz7.resolve_left c155]; rfl, _, ⟨((FrI.refl : FrI A [mm] [] w w).trans (FrI.ux hw1 (by simp))), f3, ((FF.refl : FF [0] fs fs).trans (FF.set sfs2 rfl))⟩, v4⟩ (show 0 ≤ 0 by omega) (show 0 ≤ 0 by omega) dX6_event_163
      by_cases k8 : c = 8
      · skip
        refine j_tableIn (off := 124) 164 dX6_event_40 (by rw [k8]; decide) (by rw [k8]; decide) (by rw [k8]; decide) (by decide) ?_
        refine j_aload_n dX6_event_164 0 rfl ?_
        refine j_get (v := .ref (A 17)) flX6_event_38 f3 (rfs2.2 17 rfl) dX6_event_165 ?_
        refine j_iload_n dX6_event_168 1 rfl ?_
        have f14 := (up_ne hw1 (AD.nm hAD 17 rfl) a17)
        refine j_ialdN (j := e) f14 rfl (by omega) (by omega) dX6_event_169 ?_
        exact j_iret rfl ⟨by subst k8; rw [g8], _, ⟨((FrI.refl : FrI A [mm] [] w w).trans (FrI.ux hw1 (by simp))), f3, ((FF.refl : FF [0] fs fs).trans (FF.set sfs2 rfl))⟩, v4⟩ (show 0 ≤ 0 by omega) (show 0 ≤ 0 by omega) dX6_event_170
      refine j_tableOut 171 dX6_event_40 (tOut (n := 8) (by decide) (Or.inr (nI_le (show 8 + 1 ≤ c by omega) (by omega)))) (by decide) ?_
      refine j_aload_n dX6_event_171 0 rfl ?_
      refine j_get (v := .ref (A 12)) flX6_event_23 f3 (rfs2.2 12 rfl) dX6_event_172 ?_
      refine j_iconst (v := nI 4) dX6_event_175 (by decide) ?_
      refine j_iload_n dX6_event_176 1 rfl ?_
      refine j_imulN dX6_event_177 ?_
      refine j_iload_n dX6_event_178 2 rfl ?_
      refine j_iaddN dX6_event_179 ?_
      refine j_bipush (v := nI 9) dX6_event_180 (by decide) ?_
      refine j_isubN (by omega) dX6_event_182 ?_
      obtain ⟨c1, hc1⟩ : ∃ z, z = c - 9 := ⟨_, rfl⟩
      refine j_eqi (y := nI (4 * e + c1)) (congrArg nI (by omega)) ?_
      have f15 := (up_ne hw1 (AD.nm hAD 12 rfl) a12)
      refine j_ialdN (j := 4 * e + c1) f15 rfl (by omega) (by omega) dX6_event_183 ?_
      exact j_iret rfl ⟨by rw [← gp c1 (by omega), show e * 14 + (9 + c1) = e * 14 + c by omega], _, ⟨((FrI.refl : FrI A [mm] [] w w).trans (FrI.ux hw1 (by simp))), f3, ((FF.refl : FF [0] fs fs).trans (FF.set sfs2 rfl))⟩, v4⟩ (show 0 ≤ 0 by omega) (show 0 ≤ 0 by omega) dX6_event_184
    · skip
      exfalso; omega
