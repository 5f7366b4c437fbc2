theorem flX6_readMarked_20 : FL wsX6_readMarked RX6 20 6 11 := ⟨RX6, TX6, 45, rfl, by decide, by decide +kernel, by decide +kernel⟩
theorem flX6_readMarked_38 : FL wsX6_readMarked RX6 38 6 17 := ⟨RX6, TX6, 45, rfl, by decide, by decide +kernel, by decide +kernel⟩
theorem flX6_readMarked_41 : FL wsX6_readMarked RX6 41 6 18 := ⟨RX6, TX6, 45, rfl, by decide, by decide +kernel, by decide +kernel⟩
theorem flX6_readMarked_45 : FL wsX6_readMarked RX6 45 6 19 := ⟨RX6, TX6, 45, rfl, by decide, by decide +kernel, by decide +kernel⟩
theorem flX6_readMarked_32 : FL wsX6_readMarked RX6 32 6 15 := ⟨RX6, TX6, 45, rfl, by decide, by decide +kernel, by decide +kernel⟩
theorem flX6_readMarked_147 : FL wsX6_readMarked RX6 147 6 6 := ⟨RX6, TX6, 45, rfl, by decide, by decide +kernel, by decide +kernel⟩
theorem flX6_readMarked_35 : FL wsX6_readMarked RX6 35 6 16 := ⟨RX6, TX6, 45, rfl, by decide, by decide +kernel, by decide +kernel⟩
theorem flX6_readMarked_26 : FL wsX6_readMarked RX6 26 6 13 := ⟨RX6, TX6, 45, rfl, by decide, by decide +kernel, by decide +kernel⟩
theorem flX6_readMarked_17 : FL wsX6_readMarked RX6 17 6 10 := ⟨RX6, TX6, 45, rfl, by decide, by decide +kernel, by decide +kernel⟩
set_option maxHeartbeats 4000000 in
set_option maxRecDepth 100000 in
theorem s_m158 {t : Nat → Nat} {ln aS : Nat} {w0 : pW} {fs0 : List Value} {A : Nat → Nat} {mm : Nat} {R : Nat × Nat × RSt} (hAD : AD A mm) (ht : ∀ j, t j < 256) (hln : ln ≤ 2400) {w : pW} {fs : List Value} (hmm : w mm = some (.inr (6, fs))) (hA : RA A fs) (hfr : FrI A [mm] [10, 11, 12, 13, 14, 15, 16, 17, 18, 19] w0 w) (hff : FF [5, 8, 9, 22, 24, 25, 26, 27, 28, 29, 30, 31] fs0 fs) {a tkn sg mr cu rep np oc ev be cq st me pa : Nat} {nu : Int32} {f : Nat → Int32} {xk xm : Nat → Nat} {xp : Nat → Int32} {xb xs xe xg : Nat → Nat} {xl xi xc : Nat → Int32} {sd : Nat} {mkd cud : Bool} (h5 : fs[5]? = some (.int (nI ev))) (h6 : fs[6]? = some (.int (nI me))) (h8 : fs[8]? = some (.int (nI be))) (h9 : fs[9]? = some (.int (nI cu))) (h23 : fs[23]? = some (.int (nI ln))) (h29 : fs[29]? = some (.int (nI 0))) (h31 : fs[31]? = some (.int (nI mr))) (h22 : fs[22]? = some (.int (nI ((tk t ln a).1)))) (h24 : fs[24]? = some (.int (nI tkn))) (h25 : fs[25]? = some (.int (nI sg))) (h26 : fs[26]? = some (.int nu)) (h27 : fs[27]? = some (.int (nI a))) (h28 : fs[28]? = some (.int (nI ((tk t ln a).1)))) (a1 : w (A 1) = some (.inl (0, 2400, .inl (fun j9 => nI (t j9))))) (a10 : w (A 10) = some (.inl (0, 100, .inl (fun j9 => nI (xk j9))))) (a11 : w (A 11) = some (.inl (0, 100, .inl (fun j9 => nI (xm j9))))) (a12 : w (A 12) = some (.inl (0, 400, .inl xp))) (a13 : w (A 13) = some (.inl (0, 100, .inl (fun j9 => nI (xb j9))))) (a14 : w (A 14) = some (.inl (0, 100, .inl (fun j9 => nI (xs j9))))) (a15 : w (A 15) = some (.inl (0, 100, .inl (fun j9 => nI (xe j9))))) (a16 : w (A 16) = some (.inl (0, 100, .inl (fun j9 => nI (xg j9))))) (a17 : w (A 17) = some (.inl (0, 100, .inl xl))) (a18 : w (A 18) = some (.inl (2, 100, .inl xi))) (a19 : w (A 19) = some (.inl (2, 100, .inl xc))) (hT : TS tkn sg (tkK t ln a)) (hN : NS nu (tkK t ln a) (tkV t ln a) ((tk t ln a).1 - a)) (hR : R = rR t ln a (sd, mr, cu, mkd, cud, rep, np, oc, f, ev, be, cq, st, me, pa)) (hI : RJ (sd, mr, cu, mkd, cud, rep, np, oc, f, ev, be, cq, st, me, pa)) (ha : a ≤ ln + 1) (haS : aS ≤ a) (hTB : TBL xk xm xp xb xs xe xg xl xi xc f ev) (hbe : tkK t ln a = 2 ∨ tkK t ln a = 40 ∨ tkK t ln a = 126 ∨ tkK t ln a = 114) (hsd6 : sd = 1 ∨ sd = 2 ∨ sd = 4 ∨ sd = 8 ∨ sd = 16 ∨ sd = 32) (hev : ev < 100) : J ((cX6_readMarked, RX6, 5, wsX6_readMarked), (rX6_readMarked, none, "readMarked", []), fun o w9 => o = .inl none ∧ ∃ fs9 : List Value, MU A mm [10, 11, 12, 13, 14, 15, 16, 17, 18, 19] [5, 8, 9, 22, 24, 25, 26, 27, 28, 29, 30, 31] w0 w9 fs0 fs9 ∧ ∃ (xk xm : Nat → Nat) (xp : Nat → Int32) (xb xs xe xg : Nat → Nat) (xl xi xc : Nat → Int32), TA A w9 xk xm xp xb xs xe xg xl xi xc ∧ (RFl fs9 R ∨ ∃ (a9 mr9 cu9 np9 oc9 : Nat) (f9 : Nat → Int32) (ev9 be9 cq9 st9 : Nat), aS < a9 ∧ a9 ≤ ln + 1 ∧ R = rR t ln a9 (8, mr9, cu9, false, false, rep, np9, oc9, f9, ev9, be9, cq9, st9, me, pa) ∧ RJ (8, mr9, cu9, false, false, rep, np9, oc9, f9, ev9, be9, cq9, st9, me, pa) ∧ fs9[5]? = some (.int (nI ev9)) ∧ fs9[8]? = some (.int (nI be9)) ∧ fs9[9]? = some (.int (nI cu9)) ∧ fs9[29]? = some (.int (nI 0)) ∧ fs9[31]? = some (.int (nI mr9)) ∧ AtT t ln a9 fs9 ∧ TBL xk xm xp xb xs xe xg xl xi xc f9 ev9), fun _ _ _ => True) 158 [(0, .ref mm), (1, .int (nI pa)), (2, .int (zb mkd)), (3, .int (zb cud))] [] w 0 0 := by
  have hTb := hT.1
  obtain ⟨i1, i2, i3, i4, i5, i6, i7⟩ := id hI.1
  refine j_aload_n dX6_readMarked_158 0 rfl ?_
  refine j_get (v := .int (nI ev)) flX6_readMarked_144 hmm h5 dX6_readMarked_159 ?_
  refine j_istore (lv' := [(4, .int (nI ev)), (0, .ref mm), (1, .int (nI pa)), (2, .int (zb mkd)), (3, .int (zb cud))]) dX6_readMarked_162 (Nat.le_of_ble_eq_true rfl) rfl ?_
  refine j_aload_n dX6_readMarked_164 1 rfl ?_
  refine j_get (v := .ref (A 11)) flX6_readMarked_20 hmm (hA.2 11 rfl) dX6_readMarked_165 ?_
  refine j_iload dX6_readMarked_168 0 rfl ?_
  refine j_iconst (v := nI 0) dX6_readMarked_170 (by decide) ?_
  refine j_iastn (j := ev) (x := 0) a11 rfl (by omega) (by omega) dX6_readMarked_171 ?_
  refine j_w (fun w1 hw1 => ?_)
  have f2 : w1 (A 11) = some (.inl (0, 100, .inl (fun j9 => nI ((va_up xm ev 0) j9)))) := up_at hw1
  refine j_aload_n dX6_readMarked_172 1 rfl ?_
  have f3 := (up_ne hw1 (AD.mn hAD 11 rfl) hmm)
  refine j_get (v := .ref (A 17)) flX6_readMarked_38 f3 (hA.2 17 rfl) dX6_readMarked_173 ?_
  refine j_iload dX6_readMarked_176 0 rfl ?_
  refine j_iconst (v := (-1)) dX6_readMarked_178 (by decide) ?_
  have f4 := (up_ne hw1 (AD.ne hAD 17 11 rfl rfl rfl) a17)
  refine j_iastN (j := ev) f4 rfl (by omega) (by omega) dX6_readMarked_179 ?_
  refine j_w (fun w5 hw5 => ?_)
  have f6 : w5 (A 17) = some (.inl (0, 100, .inl (upd xl ev ((-1))))) := up_at hw5
  refine j_aload_n dX6_readMarked_180 1 rfl ?_
  have f7 := (up_ne hw5 (AD.mn hAD 17 rfl) f3)
  refine j_get (v := .ref (A 18)) flX6_readMarked_41 f7 (hA.2 18 rfl) dX6_readMarked_181 ?_
  refine j_iload dX6_readMarked_184 0 rfl ?_
  refine j_iload_n dX6_readMarked_186 3 rfl ?_
  have f8 := (up_ne hw5 (AD.ne hAD 18 17 rfl rfl rfl) (up_ne hw1 (AD.ne hAD 18 11 rfl rfl rfl) a18))
  refine j_zastN (j := ev) f8 rfl (by omega) (by omega) (zb_01 _) dX6_readMarked_187 ?_
  refine j_w (fun w9 hw9 => ?_)
  have f10 : w9 (A 18) = some (.inl (2, 100, .inl (upd xi ev (zb mkd)))) := up_at hw9
  refine j_aload_n dX6_readMarked_188 1 rfl ?_
  have f11 := (up_ne hw9 (AD.mn hAD 18 rfl) f7)
  refine j_get (v := .ref (A 19)) flX6_readMarked_45 f11 (hA.2 19 rfl) dX6_readMarked_189 ?_
  refine j_iload dX6_readMarked_192 0 rfl ?_
  refine j_iload_n dX6_readMarked_194 4 rfl ?_
  have f12 := (up_ne hw9 (AD.ne hAD 19 18 rfl rfl rfl) (up_ne hw5 (AD.ne hAD 19 17 rfl rfl rfl) (up_ne hw1 (AD.ne hAD 19 11 rfl rfl rfl) a19)))
  refine j_zastN (j := ev) f12 rfl (by omega) (by omega) (zb_01 _) dX6_readMarked_195 ?_
  refine j_w (fun w13 hw13 => ?_)
  have f14 : w13 (A 19) = some (.inl (2, 100, .inl (upd xc ev (zb cud)))) := up_at hw13
  refine j_aload_n dX6_readMarked_196 1 rfl ?_
  have f15 := (up_ne hw13 (AD.mn hAD 19 rfl) f11)
  refine j_get (v := .ref (A 15)) flX6_readMarked_32 f15 (hA.2 15 rfl) dX6_readMarked_197 ?_
  refine j_iload dX6_readMarked_200 0 rfl ?_
  refine j_aload_n dX6_readMarked_202 1 rfl ?_
  refine j_get (v := .int (nI me)) flX6_readMarked_147 f15 h6 dX6_readMarked_203 ?_
  have f16 := (up_ne hw13 (AD.ne hAD 15 19 rfl rfl rfl) (up_ne hw9 (AD.ne hAD 15 18 rfl rfl rfl) (up_ne hw5 (AD.ne hAD 15 17 rfl rfl rfl) (up_ne hw1 (AD.ne hAD 15 11 rfl rfl rfl) a15))))
  refine j_iastn (j := ev) (x := me) f16 rfl (by omega) (by omega) dX6_readMarked_206 ?_
  refine j_w (fun w17 hw17 => ?_)
  have f18 : w17 (A 15) = some (.inl (0, 100, .inl (fun j9 => nI ((va_up xe ev me) j9)))) := up_at hw17
  refine j_aload_n dX6_readMarked_207 1 rfl ?_
  have f19 := (up_ne hw17 (AD.mn hAD 15 rfl) f15)
  refine j_get (v := .ref (A 16)) flX6_readMarked_35 f19 (hA.2 16 rfl) dX6_readMarked_208 ?_
  refine j_iload dX6_readMarked_211 0 rfl ?_
  refine j_iload_n dX6_readMarked_213 2 rfl ?_
  have f20 := (up_ne hw17 (AD.ne hAD 16 15 rfl rfl rfl) (up_ne hw13 (AD.ne hAD 16 19 rfl rfl rfl) (up_ne hw9 (AD.ne hAD 16 18 rfl rfl rfl) (up_ne hw5 (AD.ne hAD 16 17 rfl rfl rfl) (up_ne hw1 (AD.ne hAD 16 11 rfl rfl rfl) a16)))))
  refine j_iastn (j := ev) (x := pa) f20 rfl (by omega) (by omega) dX6_readMarked_214 ?_
  refine j_w (fun w21 hw21 => ?_)
  have f22 : w21 (A 16) = some (.inl (0, 100, .inl (fun j9 => nI ((va_up xg ev pa) j9)))) := up_at hw21
  refine j_aload_n dX6_readMarked_215 1 rfl ?_
  have f23 := (up_ne hw21 (AD.mn hAD 16 rfl) f19)
  refine j_get (v := .ref (A 13)) flX6_readMarked_26 f23 (hA.2 13 rfl) dX6_readMarked_216 ?_
  refine j_iload dX6_readMarked_219 0 rfl ?_
  refine j_aload_n dX6_readMarked_221 1 rfl ?_
  refine j_get (v := .int (nI be)) flX6_readMarked_153 f23 h8 dX6_readMarked_222 ?_
  have f24 := (up_ne hw21 (AD.ne hAD 13 16 rfl rfl rfl) (up_ne hw17 (AD.ne hAD 13 15 rfl rfl rfl) (up_ne hw13 (AD.ne hAD 13 19 rfl rfl rfl) (up_ne hw9 (AD.ne hAD 13 18 rfl rfl rfl) (up_ne hw5 (AD.ne hAD 13 17 rfl rfl rfl) (up_ne hw1 (AD.ne hAD 13 11 rfl rfl rfl) a13))))))
  refine j_iastn (j := ev) (x := be) f24 rfl (by omega) (by omega) dX6_readMarked_225 ?_
  refine j_w (fun w25 hw25 => ?_)
  have f26 : w25 (A 13) = some (.inl (0, 100, .inl (fun j9 => nI ((va_up xb ev be) j9)))) := up_at hw25
  refine j_aload_n dX6_readMarked_226 1 rfl ?_
  refine j_bipush (v := nI 40) dX6_readMarked_227 (by decide) ?_
  have f27 := (up_ne hw25 (AD.mn hAD 13 rfl) f23)
  refine j_callV (rm := rX6_isSign) (As := [.int (nI 40)]) (st := []) (b0 := mm) (ci := 6) (na := 1) (m_isSign (c := 40) hAD f27 hA h24 h25 hT rfl (by decide)) (by intro E w9 h9; first | exact nomatch h9.1 | (obtain ⟨_, h9, _⟩ := h9; exact nomatch h9) | (obtain ⟨_, _, _, h9, _⟩ := h9; exact nomatch h9)) gX6_readMarked_X6_isSign rfl rfl f27 (by decide +kernel) rfl ⟨Nat.le_of_ble_eq_true rfl, Nat.le_of_ble_eq_true rfl⟩ rfl (Nat.le_of_ble_eq_true rfl) dX6_readMarked_229 ⟨(show 0 + 0 ≤ 0 by omega), (show 0 + 0 ≤ 0 by omega)⟩ (fun v28 w29 h30 => ?_)
  obtain ⟨h30, h31⟩ := h30
  cases h30
  subst w29
  refine j_after (st' := [.int (zb (decide (tkK t ln a = 40)))]) (k' := 0) (n' := 0) rfl rfl rfl ?_
  by_cases hk40 : tkK t ln a = 40
  · skip
    refine j_eqi (y := nI 1) (by rw [decide_eq_true hk40]; rfl) ?_
    refine j_if_eqN 293 (by decide) dX6_readMarked_232 (by decide) (fun h9 => absurd h9 (by decide)) (fun _ => ?_)
    refine j_aload_n dX6_readMarked_235 1 rfl ?_
    refine j_get (v := .ref (A 10)) flX6_readMarked_17 f27 (hA.2 10 rfl) dX6_readMarked_236 ?_
    refine j_iload dX6_readMarked_239 0 rfl ?_
    refine j_iconst (v := nI 1) dX6_readMarked_241 (by decide) ?_
    have f32 := (up_ne hw25 (AD.ne hAD 10 13 rfl rfl rfl) (up_ne hw21 (AD.ne hAD 10 16 rfl rfl rfl) (up_ne hw17 (AD.ne hAD 10 15 rfl rfl rfl) (up_ne hw13 (AD.ne hAD 10 19 rfl rfl rfl) (up_ne hw9 (AD.ne hAD 10 18 rfl rfl rfl) (up_ne hw5 (AD.ne hAD 10 17 rfl rfl rfl) (up_ne hw1 (AD.ne hAD 10 11 rfl rfl rfl) a10)))))))
    refine j_iastn (j := ev) (x := 1) f32 rfl (by omega) (by omega) dX6_readMarked_242 ?_
    refine j_w (fun w33 hw33 => ?_)
    have f34 : w33 (A 10) = some (.inl (0, 100, .inl (fun j9 => nI ((va_up xk ev 1) j9)))) := up_at hw33
    obtain ⟨hR35, hI36, hb37, hl38⟩ := rR_go (s1 := (128, mr, cu, false, false, rep, 0, (if cud then 1 else 0), opF f ev 1 be me pa st (zb mkd) (zb cud), ev, be, cq, st, me, pa)) ht hR ((fOpen hbe hsd6).trans (if_neg (by omega))) (by omega) (by rw [hk40]; rfl) hI ha
    have htb8 := tb_open (k := 1) (be := be) (me := me) (pa := pa) (st := st) (mk := zb mkd) (cq := zb cud) hTB
    have hop8 := op_open (xk := xk) (xm := xm) (xp := xp) (xb := xb) (xe := xe) (xg := xg) (xl := xl) (xi := xi) (xc := xc) (f := f) (ev := ev) (k := 1) (be := be) (me := me) (pa := pa) (st := st) (mk := zb mkd) (cq := zb cud)
    refine j_aload_n dX6_readMarked_243 1 rfl ?_
    obtain ⟨az39, haz39⟩ : ∃ z, tkN t ln a = z := ⟨_, rfl⟩
    have f51 := (up_ne hw33 (AD.mn hAD 10 rfl) f27)
    have f52 := (up_ne hw33 (AD.ne hAD 1 10 rfl rfl rfl) (up_ne hw25 (AD.ne hAD 1 13 rfl rfl rfl) (up_ne hw21 (AD.ne hAD 1 16 rfl rfl rfl) (up_ne hw17 (AD.ne hAD 1 15 rfl rfl rfl) (up_ne hw13 (AD.ne hAD 1 19 rfl rfl rfl) (up_ne hw9 (AD.ne hAD 1 18 rfl rfl rfl) (up_ne hw5 (AD.ne hAD 1 17 rfl rfl rfl) (up_ne hw1 (AD.ne hAD 1 11 rfl rfl rfl) a1))))))))
    refine j_callV (rm := rX6_next) (As := []) (st := []) (b0 := mm) (ci := 6) (na := 0) (m_next1 (a := az39) hAD f51 hA h22 h23 h26 f52 ht hln (tkN_bd ha).2.1 haz39) (by intro E w9 h9; first | exact nomatch h9.1 | (obtain ⟨_, h9, _⟩ := h9; exact nomatch h9) | (obtain ⟨_, _, _, h9, _⟩ := h9; exact nomatch h9)) gX6_readMarked_X6_next rfl rfl f51 (by decide +kernel) rfl ⟨Nat.le_of_ble_eq_true rfl, Nat.le_of_ble_eq_true rfl⟩ rfl (Nat.le_of_ble_eq_true rfl) dX6_readMarked_244 ⟨(show 0 + 0 ≤ 0 by omega), (show 0 + 0 ≤ 0 by omega)⟩ (fun v58 w59 h60 => ?_)
    obtain ⟨h57, fs53, ⟨hfr54, hm55, hff56⟩, ⟨tkn40, sg41, nu42, v45, v46, v47, v48, v49, v50, hT43, hN44⟩⟩ := h60
    cases h57
    refine j_after (st' := []) (k' := 0) (n' := 0) rfl rfl rfl ?_
    have r61 : RA A fs53 := RA.ff hA hff56 rfl
    have hT43b := hT43.1
    rw [haz39] at hR35 hb37 hl38
    refine j_aload_n dX6_readMarked_247 1 rfl ?_
    refine j_get (v := .int (nI tkn40)) flX6_readMarked_102 hm55 v46 dX6_readMarked_248 ?_
    refine j_iconst (v := nI 1) dX6_readMarked_251 (by decide) ?_
    refine j_icmp_eqN 260 (by omega) (by omega) dX6_readMarked_252 (by decide) (fun c252 => ?_) (fun c252 => ?_)
    · skip
      have hk2 : tkK t ln az39 = 2 := hT43.2.2.1.mp c252
      refine j_lv (lv' := [(0, .ref mm), (1, .int (nI pa)), (4, .int (nI ev))]) [1, 2, 0] rfl ?_
      have v62 := (FF.at hff56 rfl h5)
      have v63 := (FF.at hff56 rfl h6)
      have v64 := (FF.at hff56 rfl h8)
      have v65 := (FF.at hff56 rfl h9)
      have v66 := (FF.at hff56 rfl h23)
      have v67 := (FF.at hff56 rfl h29)
      have v68 := (FF.at hff56 rfl h31)
      have f69 := (FrI.a1 hfr54 hAD rfl rfl rfl f52)
      have f70 := (FrI.a1 hfr54 hAD rfl rfl rfl f34)
      have f71 := (FrI.a1 hfr54 hAD rfl rfl rfl (up_ne hw33 (AD.ne hAD 11 10 rfl rfl rfl) (up_ne hw25 (AD.ne hAD 11 13 rfl rfl rfl) (up_ne hw21 (AD.ne hAD 11 16 rfl rfl rfl) (up_ne hw17 (AD.ne hAD 11 15 rfl rfl rfl) (up_ne hw13 (AD.ne hAD 11 19 rfl rfl rfl) (up_ne hw9 (AD.ne hAD 11 18 rfl rfl rfl) (up_ne hw5 (AD.ne hAD 11 17 rfl rfl rfl) f2))))))))
      have f72 := (FrI.a1 hfr54 hAD rfl rfl rfl (up_ne hw33 (AD.ne hAD 12 10 rfl rfl rfl) (up_ne hw25 (AD.ne hAD 12 13 rfl rfl rfl) (up_ne hw21 (AD.ne hAD 12 16 rfl rfl rfl) (up_ne hw17 (AD.ne hAD 12 15 rfl rfl rfl) (up_ne hw13 (AD.ne hAD 12 19 rfl rfl rfl) (up_ne hw9 (AD.ne hAD 12 18 rfl rfl rfl) (up_ne hw5 (AD.ne hAD 12 17 rfl rfl rfl) (up_ne hw1 (AD.ne hAD 12 11 rfl rfl rfl) a12)))))))))
      have f73 := (FrI.a1 hfr54 hAD rfl rfl rfl (up_ne hw33 (AD.ne hAD 13 10 rfl rfl rfl) f26))
      have f74 := (FrI.a1 hfr54 hAD rfl rfl rfl (up_ne hw33 (AD.ne hAD 14 10 rfl rfl rfl) (up_ne hw25 (AD.ne hAD 14 13 rfl rfl rfl) (up_ne hw21 (AD.ne hAD 14 16 rfl rfl rfl) (up_ne hw17 (AD.ne hAD 14 15 rfl rfl rfl) (up_ne hw13 (AD.ne hAD 14 19 rfl rfl rfl) (up_ne hw9 (AD.ne hAD 14 18 rfl rfl rfl) (up_ne hw5 (AD.ne hAD 14 17 rfl rfl rfl) (up_ne hw1 (AD.ne hAD 14 11 rfl rfl rfl) a14)))))))))
      have f75 := (FrI.a1 hfr54 hAD rfl rfl rfl (up_ne hw33 (AD.ne hAD 15 10 rfl rfl rfl) (up_ne hw25 (AD.ne hAD 15 13 rfl rfl rfl) (up_ne hw21 (AD.ne hAD 15 16 rfl rfl rfl) f18))))
      have f76 := (FrI.a1 hfr54 hAD rfl rfl rfl (up_ne hw33 (AD.ne hAD 16 10 rfl rfl rfl) (up_ne hw25 (AD.ne hAD 16 13 rfl rfl rfl) f22)))
      have f77 := (FrI.a1 hfr54 hAD rfl rfl rfl (up_ne hw33 (AD.ne hAD 17 10 rfl rfl rfl) (up_ne hw25 (AD.ne hAD 17 13 rfl rfl rfl) (up_ne hw21 (AD.ne hAD 17 16 rfl rfl rfl) (up_ne hw17 (AD.ne hAD 17 15 rfl rfl rfl) (up_ne hw13 (AD.ne hAD 17 19 rfl rfl rfl) (up_ne hw9 (AD.ne hAD 17 18 rfl rfl rfl) f6)))))))
      have f78 := (FrI.a1 hfr54 hAD rfl rfl rfl (up_ne hw33 (AD.ne hAD 18 10 rfl rfl rfl) (up_ne hw25 (AD.ne hAD 18 13 rfl rfl rfl) (up_ne hw21 (AD.ne hAD 18 16 rfl rfl rfl) (up_ne hw17 (AD.ne hAD 18 15 rfl rfl rfl) (up_ne hw13 (AD.ne hAD 18 19 rfl rfl rfl) f10))))))
      have f79 := (FrI.a1 hfr54 hAD rfl rfl rfl (up_ne hw33 (AD.ne hAD 19 10 rfl rfl rfl) (up_ne hw25 (AD.ne hAD 19 13 rfl rfl rfl) (up_ne hw21 (AD.ne hAD 19 16 rfl rfl rfl) (up_ne hw17 (AD.ne hAD 19 15 rfl rfl rfl) f14)))))
      exact l_m260 hAD ht hln hev _ _ _ _ _ _ _ _ _ _ _ _ (Nat.lt_succ_self _) hm55 r61 ((((((((((FrI.mono hfr (by simp) rfl : FrI A [mm] [10, 11, 12, 13, 14, 15, 16, 17, 18, 19] w0 _).trans (FrI.ua hw1 rfl)).trans (FrI.ua hw5 rfl)).trans (FrI.ua hw9 rfl)).trans (FrI.ua hw13 rfl)).trans (FrI.ua hw17 rfl)).trans (FrI.ua hw21 rfl)).trans (FrI.ua hw25 rfl)).trans (FrI.ua hw33 rfl)).trans (FrI.sub hfr54 rfl)) ((FF.mono hff rfl : FF [5, 8, 9, 22, 24, 25, 26, 27, 28, 29, 30, 31] fs0 _).trans (FF.mono hff56 rfl)) v62 v63 v64 v65 v66 v67 v68 v45 v46 v47 v48 v49 v50 f69 f70 f71 f72 f73 f74 f75 f76 f77 f78 f79 hT43 hN44 hR35 hI36 hb37 (by omega) htb8 hop8 (va_up_self _ _ _) (Or.inr ⟨rfl, hk2⟩)
    · skip
      have hk2 : ¬ tkK t ln az39 = 2 := fun q => c252 (hT43.2.2.1.mpr q)
      have hbd80 := rR_bad (b := 1) hR35 (rf_1 (f1_128 (tk_k ht) hk2)) (by decide)
      refine j_aload_n dX6_readMarked_255 1 rfl ?_
      refine j_iconst (v := nI 1) dX6_readMarked_256 (by decide) ?_
      have v81 := (FF.at hff56 rfl h29)
      refine j_callV (rm := rX6_wrong) (As := [.int (nI 1)]) (st := []) (b0 := mm) (ci := 6) (na := 1) (m_wrong0 (k := 1) hAD hm55 r61 v81 v49) (by intro E w9 h9; first | exact nomatch h9.1 | (obtain ⟨_, h9, _⟩ := h9; exact nomatch h9) | (obtain ⟨_, _, _, h9, _⟩ := h9; exact nomatch h9)) gX6_readMarked_X6_wrong rfl rfl hm55 (by decide +kernel) rfl ⟨Nat.le_of_ble_eq_true rfl, Nat.le_of_ble_eq_true rfl⟩ rfl (Nat.le_of_ble_eq_true rfl) dX6_readMarked_257 ⟨(show 0 + 0 ≤ 0 by omega), (show 0 + 0 ≤ 0 by omega)⟩ (fun v89 w90 h91 => ?_)
      obtain ⟨h88, fs84, ⟨hfr85, hm86, hff87⟩, v82, v83⟩ := h91
      cases h88
      refine j_after (st' := []) (k' := 0) (n' := 0) rfl rfl rfl ?_
      have r92 : RA A fs84 := RA.ff r61 hff87 rfl
      refine j_aload_n dX6_readMarked_260 1 rfl ?_
      refine j_get (v := .int (nI 1)) flX6_readMarked_124 hm86 v82 dX6_readMarked_261 ?_
      refine j_if_neN 284 (by decide) dX6_readMarked_264 (by decide) (fun _ => ?_) (fun h9 => absurd h9 (by decide))
      refine j_aload_n dX6_readMarked_284 1 rfl ?_
      refine j_bipush (v := nI 41) dX6_readMarked_285 (by decide) ?_
      refine j_callV (rm := rX6_need) (As := [.int (nI 41)]) (st := []) (b0 := mm) (ci := 6) (na := 1) (m_need1 (c := 41) hAD hm86 r92 v82 (by omega) (by omega)) (by intro E w9 h9; first | exact nomatch h9.1 | (obtain ⟨_, h9, _⟩ := h9; exact nomatch h9) | (obtain ⟨_, _, _, h9, _⟩ := h9; exact nomatch h9)) gX6_readMarked_X6_need rfl rfl hm86 (by decide +kernel) rfl ⟨Nat.le_of_ble_eq_true rfl, Nat.le_of_ble_eq_true rfl⟩ rfl (Nat.le_of_ble_eq_true rfl) dX6_readMarked_287 ⟨(show 0 + 0 ≤ 0 by omega), (show 0 + 0 ≤ 0 by omega)⟩ (fun v93 w94 h95 => ?_)
      obtain ⟨h95, h96⟩ := h95
      cases h95
      subst w94
      refine j_after (st' := []) (k' := 0) (n' := 0) rfl rfl rfl ?_
      refine j_goto 373 dX6_readMarked_290 (by decide) ?_
      refine j_aload_n dX6_readMarked_373 1 rfl ?_
      refine j_bipush (v := nI 58) dX6_readMarked_374 (by decide) ?_
      refine j_callV (rm := rX6_need) (As := [.int (nI 58)]) (st := []) (b0 := mm) (ci := 6) (na := 1) (m_need1 (c := 58) hAD hm86 r92 v82 (by omega) (by omega)) (by intro E w9 h9; first | exact nomatch h9.1 | (obtain ⟨_, h9, _⟩ := h9; exact nomatch h9) | (obtain ⟨_, _, _, h9, _⟩ := h9; exact nomatch h9)) gX6_readMarked_X6_need rfl rfl hm86 (by decide +kernel) rfl ⟨Nat.le_of_ble_eq_true rfl, Nat.le_of_ble_eq_true rfl⟩ rfl (Nat.le_of_ble_eq_true rfl) dX6_readMarked_376 ⟨(show 0 + 0 ≤ 0 by omega), (show 0 + 0 ≤ 0 by omega)⟩ (fun v97 w98 h99 => ?_)
      obtain ⟨h99, h100⟩ := h99
      cases h99
      subst w98
      refine j_after (st' := []) (k' := 0) (n' := 0) rfl rfl rfl ?_
      refine j_aload_n dX6_readMarked_379 1 rfl ?_
      refine j_get (v := .int (nI 1)) flX6_readMarked_124 hm86 v82 dX6_readMarked_380 ?_
      refine j_if_eqN 387 (by decide) dX6_readMarked_383 (by decide) (fun h9 => absurd h9 (by decide)) (fun _ => ?_)
      have f101 := (FrI.a1 hfr85 hAD rfl rfl rfl (FrI.a1 hfr54 hAD rfl rfl rfl f34))
      have f102 := (FrI.a1 hfr85 hAD rfl rfl rfl (FrI.a1 hfr54 hAD rfl rfl rfl (up_ne hw33 (AD.ne hAD 11 10 rfl rfl rfl) (up_ne hw25 (AD.ne hAD 11 13 rfl rfl rfl) (up_ne hw21 (AD.ne hAD 11 16 rfl rfl rfl) (up_ne hw17 (AD.ne hAD 11 15 rfl rfl rfl) (up_ne hw13 (AD.ne hAD 11 19 rfl rfl rfl) (up_ne hw9 (AD.ne hAD 11 18 rfl rfl rfl) (up_ne hw5 (AD.ne hAD 11 17 rfl rfl rfl) f2)))))))))
      have f103 := (FrI.a1 hfr85 hAD rfl rfl rfl (FrI.a1 hfr54 hAD rfl rfl rfl (up_ne hw33 (AD.ne hAD 12 10 rfl rfl rfl) (up_ne hw25 (AD.ne hAD 12 13 rfl rfl rfl) (up_ne hw21 (AD.ne hAD 12 16 rfl rfl rfl) (up_ne hw17 (AD.ne hAD 12 15 rfl rfl rfl) (up_ne hw13 (AD.ne hAD 12 19 rfl rfl rfl) (up_ne hw9 (AD.ne hAD 12 18 rfl rfl rfl) (up_ne hw5 (AD.ne hAD 12 17 rfl rfl rfl) (up_ne hw1 (AD.ne hAD 12 11 rfl rfl rfl) a12))))))))))
      have f104 := (FrI.a1 hfr85 hAD rfl rfl rfl (FrI.a1 hfr54 hAD rfl rfl rfl (up_ne hw33 (AD.ne hAD 13 10 rfl rfl rfl) f26)))
      have f105 := (FrI.a1 hfr85 hAD rfl rfl rfl (FrI.a1 hfr54 hAD rfl rfl rfl (up_ne hw33 (AD.ne hAD 14 10 rfl rfl rfl) (up_ne hw25 (AD.ne hAD 14 13 rfl rfl rfl) (up_ne hw21 (AD.ne hAD 14 16 rfl rfl rfl) (up_ne hw17 (AD.ne hAD 14 15 rfl rfl rfl) (up_ne hw13 (AD.ne hAD 14 19 rfl rfl rfl) (up_ne hw9 (AD.ne hAD 14 18 rfl rfl rfl) (up_ne hw5 (AD.ne hAD 14 17 rfl rfl rfl) (up_ne hw1 (AD.ne hAD 14 11 rfl rfl rfl) a14))))))))))
      have f106 := (FrI.a1 hfr85 hAD rfl rfl rfl (FrI.a1 hfr54 hAD rfl rfl rfl (up_ne hw33 (AD.ne hAD 15 10 rfl rfl rfl) (up_ne hw25 (AD.ne hAD 15 13 rfl rfl rfl) (up_ne hw21 (AD.ne hAD 15 16 rfl rfl rfl) f18)))))
      have f107 := (FrI.a1 hfr85 hAD rfl rfl rfl (FrI.a1 hfr54 hAD rfl rfl rfl (up_ne hw33 (AD.ne hAD 16 10 rfl rfl rfl) (up_ne hw25 (AD.ne hAD 16 13 rfl rfl rfl) f22))))
      have f108 := (FrI.a1 hfr85 hAD rfl rfl rfl (FrI.a1 hfr54 hAD rfl rfl rfl (up_ne hw33 (AD.ne hAD 17 10 rfl rfl rfl) (up_ne hw25 (AD.ne hAD 17 13 rfl rfl rfl) (up_ne hw21 (AD.ne hAD 17 16 rfl rfl rfl) (up_ne hw17 (AD.ne hAD 17 15 rfl rfl rfl) (up_ne hw13 (AD.ne hAD 17 19 rfl rfl rfl) (up_ne hw9 (AD.ne hAD 17 18 rfl rfl rfl) f6))))))))
      have f109 := (FrI.a1 hfr85 hAD rfl rfl rfl (FrI.a1 hfr54 hAD rfl rfl rfl (up_ne hw33 (AD.ne hAD 18 10 rfl rfl rfl) (up_ne hw25 (AD.ne hAD 18 13 rfl rfl rfl) (up_ne hw21 (AD.ne hAD 18 16 rfl rfl rfl) (up_ne hw17 (AD.ne hAD 18 15 rfl rfl rfl) (up_ne hw13 (AD.ne hAD 18 19 rfl rfl rfl) f10)))))))
      have f110 := (FrI.a1 hfr85 hAD rfl rfl rfl (FrI.a1 hfr54 hAD rfl rfl rfl (up_ne hw33 (AD.ne hAD 19 10 rfl rfl rfl) (up_ne hw25 (AD.ne hAD 19 13 rfl rfl rfl) (up_ne hw21 (AD.ne hAD 19 16 rfl rfl rfl) (up_ne hw17 (AD.ne hAD 19 15 rfl rfl rfl) f14))))))
      exact j_vret rfl ⟨rfl, _, ⟨(((((((((((FrI.mono hfr (by simp) rfl : FrI A [mm] [10, 11, 12, 13, 14, 15, 16, 17, 18, 19] w0 _).trans (FrI.ua hw1 rfl)).trans (FrI.ua hw5 rfl)).trans (FrI.ua hw9 rfl)).trans (FrI.ua hw13 rfl)).trans (FrI.ua hw17 rfl)).trans (FrI.ua hw21 rfl)).trans (FrI.ua hw25 rfl)).trans (FrI.ua hw33 rfl)).trans (FrI.sub hfr54 rfl)).trans (FrI.sub hfr85 rfl)), hm86, (((FF.mono hff rfl : FF [5, 8, 9, 22, 24, 25, 26, 27, 28, 29, 30, 31] fs0 _).trans (FF.mono hff56 rfl)).trans (FF.mono hff87 rfl))⟩, _, _, _, _, _, _, _, _, _, _, ⟨f101, f102, f103, f104, f105, f106, f107, f108, f109, f110⟩, Or.inl (RFl.mk hbd80 ⟨by decide, by decide⟩ v82 v83)⟩ (show 0 ≤ 0 by omega) (show 0 ≤ 0 by omega) dX6_readMarked_386
  · skip
    refine j_eqi (y := nI 0) (by rw [decide_eq_false hk40]; rfl) ?_
    refine j_if_eqN 293 (by decide) dX6_readMarked_232 (by decide) (fun _ => ?_) (fun h9 => absurd rfl h9)
    refine j_aload_n dX6_readMarked_293 1 rfl ?_
    refine j_bipush (v := nI 114) dX6_readMarked_294 (by decide) ?_
    refine j_callV (rm := rX6_isSign) (As := [.int (nI 114)]) (st := []) (b0 := mm) (ci := 6) (na := 1) (m_isSign (c := 114) hAD f27 hA h24 h25 hT rfl (by decide)) (by intro E w9 h9; first | exact nomatch h9.1 | (obtain ⟨_, h9, _⟩ := h9; exact nomatch h9) | (obtain ⟨_, _, _, h9, _⟩ := h9; exact nomatch h9)) gX6_readMarked_X6_isSign rfl rfl f27 (by decide +kernel) rfl ⟨Nat.le_of_ble_eq_true rfl, Nat.le_of_ble_eq_true rfl⟩ rfl (Nat.le_of_ble_eq_true rfl) dX6_readMarked_296 ⟨(show 0 + 0 ≤ 0 by omega), (show 0 + 0 ≤ 0 by omega)⟩ (fun v111 w112 h113 => ?_)
    obtain ⟨h113, h114⟩ := h113
    cases h113
    subst w112
    refine j_after (st' := [.int (zb (decide (tkK t ln a = 114)))]) (k' := 0) (n' := 0) rfl rfl rfl ?_
    by_cases hk114 : tkK t ln a = 114
    · skip
      refine j_eqi (y := nI 1) (by rw [decide_eq_true hk114]; rfl) ?_
      refine j_if_eqN 317 (by decide) dX6_readMarked_299 (by decide) (fun h9 => absurd h9 (by decide)) (fun _ => ?_)
      refine j_aload_n dX6_readMarked_302 1 rfl ?_
      refine j_get (v := .ref (A 10)) flX6_readMarked_17 f27 (hA.2 10 rfl) dX6_readMarked_303 ?_
      refine j_iload dX6_readMarked_306 0 rfl ?_
      refine j_iconst (v := nI 3) dX6_readMarked_308 (by decide) ?_
      have f115 := (up_ne hw25 (AD.ne hAD 10 13 rfl rfl rfl) (up_ne hw21 (AD.ne hAD 10 16 rfl rfl rfl) (up_ne hw17 (AD.ne hAD 10 15 rfl rfl rfl) (up_ne hw13 (AD.ne hAD 10 19 rfl rfl rfl) (up_ne hw9 (AD.ne hAD 10 18 rfl rfl rfl) (up_ne hw5 (AD.ne hAD 10 17 rfl rfl rfl) (up_ne hw1 (AD.ne hAD 10 11 rfl rfl rfl) a10)))))))
      refine j_iastn (j := ev) (x := 3) f115 rfl (by omega) (by omega) dX6_readMarked_309 ?_
      refine j_w (fun w116 hw116 => ?_)
      have f117 : w116 (A 10) = some (.inl (0, 100, .inl (fun j9 => nI ((va_up xk ev 3) j9)))) := up_at hw116
      obtain ⟨hR118, hI119, hb120, hl121⟩ := rR_go (s1 := (512, mr, cu, false, false, rep, 0, (if cud then 1 else 0), opF f ev 3 be me pa st (zb mkd) (zb cud), ev, be, cq, st, me, pa)) ht hR ((fOpen hbe hsd6).trans (if_neg (by omega))) (by omega) (by rw [hk114]; rfl) hI ha
      have htb8 := tb_open (k := 3) (be := be) (me := me) (pa := pa) (st := st) (mk := zb mkd) (cq := zb cud) hTB
      have hop8 := op_open (xk := xk) (xm := xm) (xp := xp) (xb := xb) (xe := xe) (xg := xg) (xl := xl) (xi := xi) (xc := xc) (f := f) (ev := ev) (k := 3) (be := be) (me := me) (pa := pa) (st := st) (mk := zb mkd) (cq := zb cud)
      refine j_aload_n dX6_readMarked_310 1 rfl ?_
      obtain ⟨az122, haz122⟩ : ∃ z, tkN t ln a = z := ⟨_, rfl⟩
      have f134 := (up_ne hw116 (AD.mn hAD 10 rfl) f27)
      have f135 := (up_ne hw116 (AD.ne hAD 1 10 rfl rfl rfl) (up_ne hw25 (AD.ne hAD 1 13 rfl rfl rfl) (up_ne hw21 (AD.ne hAD 1 16 rfl rfl rfl) (up_ne hw17 (AD.ne hAD 1 15 rfl rfl rfl) (up_ne hw13 (AD.ne hAD 1 19 rfl rfl rfl) (up_ne hw9 (AD.ne hAD 1 18 rfl rfl rfl) (up_ne hw5 (AD.ne hAD 1 17 rfl rfl rfl) (up_ne hw1 (AD.ne hAD 1 11 rfl rfl rfl) a1))))))))
      refine j_callV (rm := rX6_next) (As := []) (st := []) (b0 := mm) (ci := 6) (na := 0) (m_next1 (a := az122) hAD f134 hA h22 h23 h26 f135 ht hln (tkN_bd ha).2.1 haz122) (by intro E w9 h9; first | exact nomatch h9.1 | (obtain ⟨_, h9, _⟩ := h9; exact nomatch h9) | (obtain ⟨_, _, _, h9, _⟩ := h9; exact nomatch h9)) gX6_readMarked_X6_next rfl rfl f134 (by decide +kernel) rfl ⟨Nat.le_of_ble_eq_true rfl, Nat.le_of_ble_eq_true rfl⟩ rfl (Nat.le_of_ble_eq_true rfl) dX6_readMarked_311 ⟨(show 0 + 0 ≤ 0 by omega), (show 0 + 0 ≤ 0 by omega)⟩ (fun v141 w142 h143 => ?_)
      obtain ⟨h140, fs136, ⟨hfr137, hm138, hff139⟩, ⟨tkn123, sg124, nu125, v128, v129, v130, v131, v132, v133, hT126, hN127⟩⟩ := h143
      cases h140
      refine j_after (st' := []) (k' := 0) (n' := 0) rfl rfl rfl ?_
      have r144 : RA A fs136 := RA.ff hA hff139 rfl
      have hT126b := hT126.1
      rw [haz122] at hR118 hb120 hl121
      refine j_goto 373 dX6_readMarked_314 (by decide) ?_
      refine j_lv (lv' := [(0, .ref mm), (1, .int (nI pa)), (4, .int (nI ev))]) [1, 2, 0] rfl ?_
      have v145 := (FF.at hff139 rfl h5)
      have v146 := (FF.at hff139 rfl h6)
      have v147 := (FF.at hff139 rfl h8)
      have v148 := (FF.at hff139 rfl h9)
      have v149 := (FF.at hff139 rfl h23)
      have v150 := (FF.at hff139 rfl h29)
      have v151 := (FF.at hff139 rfl h31)
      have f152 := (FrI.a1 hfr137 hAD rfl rfl rfl f135)
      have f153 := (FrI.a1 hfr137 hAD rfl rfl rfl f117)
      have f154 := (FrI.a1 hfr137 hAD rfl rfl rfl (up_ne hw116 (AD.ne hAD 11 10 rfl rfl rfl) (up_ne hw25 (AD.ne hAD 11 13 rfl rfl rfl) (up_ne hw21 (AD.ne hAD 11 16 rfl rfl rfl) (up_ne hw17 (AD.ne hAD 11 15 rfl rfl rfl) (up_ne hw13 (AD.ne hAD 11 19 rfl rfl rfl) (up_ne hw9 (AD.ne hAD 11 18 rfl rfl rfl) (up_ne hw5 (AD.ne hAD 11 17 rfl rfl rfl) f2))))))))
      have f155 := (FrI.a1 hfr137 hAD rfl rfl rfl (up_ne hw116 (AD.ne hAD 12 10 rfl rfl rfl) (up_ne hw25 (AD.ne hAD 12 13 rfl rfl rfl) (up_ne hw21 (AD.ne hAD 12 16 rfl rfl rfl) (up_ne hw17 (AD.ne hAD 12 15 rfl rfl rfl) (up_ne hw13 (AD.ne hAD 12 19 rfl rfl rfl) (up_ne hw9 (AD.ne hAD 12 18 rfl rfl rfl) (up_ne hw5 (AD.ne hAD 12 17 rfl rfl rfl) (up_ne hw1 (AD.ne hAD 12 11 rfl rfl rfl) a12)))))))))
      have f156 := (FrI.a1 hfr137 hAD rfl rfl rfl (up_ne hw116 (AD.ne hAD 13 10 rfl rfl rfl) f26))
      have f157 := (FrI.a1 hfr137 hAD rfl rfl rfl (up_ne hw116 (AD.ne hAD 14 10 rfl rfl rfl) (up_ne hw25 (AD.ne hAD 14 13 rfl rfl rfl) (up_ne hw21 (AD.ne hAD 14 16 rfl rfl rfl) (up_ne hw17 (AD.ne hAD 14 15 rfl rfl rfl) (up_ne hw13 (AD.ne hAD 14 19 rfl rfl rfl) (up_ne hw9 (AD.ne hAD 14 18 rfl rfl rfl) (up_ne hw5 (AD.ne hAD 14 17 rfl rfl rfl) (up_ne hw1 (AD.ne hAD 14 11 rfl rfl rfl) a14)))))))))
      have f158 := (FrI.a1 hfr137 hAD rfl rfl rfl (up_ne hw116 (AD.ne hAD 15 10 rfl rfl rfl) (up_ne hw25 (AD.ne hAD 15 13 rfl rfl rfl) (up_ne hw21 (AD.ne hAD 15 16 rfl rfl rfl) f18))))
      have f159 := (FrI.a1 hfr137 hAD rfl rfl rfl (up_ne hw116 (AD.ne hAD 16 10 rfl rfl rfl) (up_ne hw25 (AD.ne hAD 16 13 rfl rfl rfl) f22)))
      have f160 := (FrI.a1 hfr137 hAD rfl rfl rfl (up_ne hw116 (AD.ne hAD 17 10 rfl rfl rfl) (up_ne hw25 (AD.ne hAD 17 13 rfl rfl rfl) (up_ne hw21 (AD.ne hAD 17 16 rfl rfl rfl) (up_ne hw17 (AD.ne hAD 17 15 rfl rfl rfl) (up_ne hw13 (AD.ne hAD 17 19 rfl rfl rfl) (up_ne hw9 (AD.ne hAD 17 18 rfl rfl rfl) f6)))))))
      have f161 := (FrI.a1 hfr137 hAD rfl rfl rfl (up_ne hw116 (AD.ne hAD 18 10 rfl rfl rfl) (up_ne hw25 (AD.ne hAD 18 13 rfl rfl rfl) (up_ne hw21 (AD.ne hAD 18 16 rfl rfl rfl) (up_ne hw17 (AD.ne hAD 18 15 rfl rfl rfl) (up_ne hw13 (AD.ne hAD 18 19 rfl rfl rfl) f10))))))
      have f162 := (FrI.a1 hfr137 hAD rfl rfl rfl (up_ne hw116 (AD.ne hAD 19 10 rfl rfl rfl) (up_ne hw25 (AD.ne hAD 19 13 rfl rfl rfl) (up_ne hw21 (AD.ne hAD 19 16 rfl rfl rfl) (up_ne hw17 (AD.ne hAD 19 15 rfl rfl rfl) f14)))))
      exact s_m373 hAD ht hln hm138 r144 ((((((((((FrI.mono hfr (by simp) rfl : FrI A [mm] [10, 11, 12, 13, 14, 15, 16, 17, 18, 19] w0 _).trans (FrI.ua hw1 rfl)).trans (FrI.ua hw5 rfl)).trans (FrI.ua hw9 rfl)).trans (FrI.ua hw13 rfl)).trans (FrI.ua hw17 rfl)).trans (FrI.ua hw21 rfl)).trans (FrI.ua hw25 rfl)).trans (FrI.ua hw116 rfl)).trans (FrI.sub hfr137 rfl)) ((FF.mono hff rfl : FF [5, 8, 9, 22, 24, 25, 26, 27, 28, 29, 30, 31] fs0 _).trans (FF.mono hff139 rfl)) v145 v146 v147 v148 v149 v150 v151 v128 v129 v130 v131 v132 v133 f152 f153 f154 f155 f156 f157 f158 f159 f160 f161 f162 hT126 hN127 hR118 hI119 hb120 (by omega) htb8 hop8 (va_up_self _ _ _) hev (by omega)
    · skip
      refine j_eqi (y := nI 0) (by rw [decide_eq_false hk114]; rfl) ?_
      refine j_if_eqN 317 (by decide) dX6_readMarked_299 (by decide) (fun _ => ?_) (fun h9 => absurd rfl h9)
      refine j_aload_n dX6_readMarked_317 1 rfl ?_
      refine j_get (v := .ref (A 10)) flX6_readMarked_17 f27 (hA.2 10 rfl) dX6_readMarked_318 ?_
      refine j_iload dX6_readMarked_321 0 rfl ?_
      refine j_aload_n dX6_readMarked_323 1 rfl ?_
      refine j_bipush (v := nI 126) dX6_readMarked_324 (by decide) ?_
      refine j_callV (rm := rX6_isSign) (As := [.int (nI 126)]) (st := [.int (nI ev), .ref (A 10)]) (b0 := mm) (ci := 6) (na := 1) (m_isSign (c := 126) hAD f27 hA h24 h25 hT rfl (by decide)) (by intro E w9 h9; first | exact nomatch h9.1 | (obtain ⟨_, h9, _⟩ := h9; exact nomatch h9) | (obtain ⟨_, _, _, h9, _⟩ := h9; exact nomatch h9)) gX6_readMarked_X6_isSign rfl rfl f27 (by decide +kernel) rfl ⟨Nat.le_of_ble_eq_true rfl, Nat.le_of_ble_eq_true rfl⟩ rfl (Nat.le_of_ble_eq_true rfl) dX6_readMarked_326 ⟨(show 0 + 0 ≤ 0 by omega), (show 0 + 0 ≤ 0 by omega)⟩ (fun v163 w164 h165 => ?_)
      obtain ⟨h165, h166⟩ := h165
      cases h165
      subst w164
      refine j_after (st' := [.int (zb (decide (tkK t ln a = 126))), .int (nI ev), .ref (A 10)]) (k' := 0) (n' := 0) rfl rfl rfl ?_
      by_cases hk126 : tkK t ln a = 126
      · skip
        refine j_eqi (y := nI 1) (by rw [decide_eq_true hk126]; rfl) ?_
        refine j_if_eqN 336 (by decide) dX6_readMarked_329 (by decide) (fun h9 => absurd h9 (by decide)) (fun _ => ?_)
        refine j_iconst (v := nI 2) dX6_readMarked_332 (by decide) ?_
        refine j_goto 337 dX6_readMarked_333 (by decide) ?_
        have f167 := (up_ne hw25 (AD.ne hAD 10 13 rfl rfl rfl) (up_ne hw21 (AD.ne hAD 10 16 rfl rfl rfl) (up_ne hw17 (AD.ne hAD 10 15 rfl rfl rfl) (up_ne hw13 (AD.ne hAD 10 19 rfl rfl rfl) (up_ne hw9 (AD.ne hAD 10 18 rfl rfl rfl) (up_ne hw5 (AD.ne hAD 10 17 rfl rfl rfl) (up_ne hw1 (AD.ne hAD 10 11 rfl rfl rfl) a10)))))))
        refine j_iastn (j := ev) (x := 2) f167 rfl (by omega) (by omega) dX6_readMarked_337 ?_
        refine j_w (fun w168 hw168 => ?_)
        have f169 : w168 (A 10) = some (.inl (0, 100, .inl (fun j9 => nI ((va_up xk ev 2) j9)))) := up_at hw168
        refine j_aload_n dX6_readMarked_338 1 rfl ?_
        refine j_bipush (v := nI 126) dX6_readMarked_339 (by decide) ?_
        have f170 := (up_ne hw168 (AD.mn hAD 10 rfl) f27)
        refine j_callV (rm := rX6_isSign) (As := [.int (nI 126)]) (st := []) (b0 := mm) (ci := 6) (na := 1) (m_isSign (c := 126) hAD f170 hA h24 h25 hT rfl (by decide)) (by intro E w9 h9; first | exact nomatch h9.1 | (obtain ⟨_, h9, _⟩ := h9; exact nomatch h9) | (obtain ⟨_, _, _, h9, _⟩ := h9; exact nomatch h9)) gX6_readMarked_X6_isSign rfl rfl f170 (by decide +kernel) rfl ⟨Nat.le_of_ble_eq_true rfl, Nat.le_of_ble_eq_true rfl⟩ rfl (Nat.le_of_ble_eq_true rfl) dX6_readMarked_341 ⟨(show 0 + 0 ≤ 0 by omega), (show 0 + 0 ≤ 0 by omega)⟩ (fun v171 w172 h173 => ?_)
        obtain ⟨h173, h174⟩ := h173
        cases h173
        subst w172
        refine j_after (st' := [.int (zb (decide (tkK t ln a = 126)))]) (k' := 0) (n' := 0) rfl rfl rfl ?_
        refine j_eqi (y := nI 1) (by rw [decide_eq_true hk126]; rfl) ?_
        refine j_if_eqN 351 (by decide) dX6_readMarked_344 (by decide) (fun h9 => absurd h9 (by decide)) (fun _ => ?_)
        obtain ⟨hR175, hI176, hb177, hl178⟩ := rR_go (s1 := (64, mr, cu, false, false, rep, 0, (if cud then 1 else 0), opF f ev 2 be me pa st (zb mkd) (zb cud), ev, be, cq, st, me, pa)) ht hR ((fOpen hbe hsd6).trans (if_neg (by omega))) (by omega) (by rw [hk126]; rfl) hI ha
        have htb8 := tb_open (k := 2) (be := be) (me := me) (pa := pa) (st := st) (mk := zb mkd) (cq := zb cud) hTB
        have hop8 := op_open (xk := xk) (xm := xm) (xp := xp) (xb := xb) (xe := xe) (xg := xg) (xl := xl) (xi := xi) (xc := xc) (f := f) (ev := ev) (k := 2) (be := be) (me := me) (pa := pa) (st := st) (mk := zb mkd) (cq := zb cud)
        refine j_aload_n dX6_readMarked_347 1 rfl ?_
        obtain ⟨az179, haz179⟩ : ∃ z, tkN t ln a = z := ⟨_, rfl⟩
        have f191 := (up_ne hw168 (AD.ne hAD 1 10 rfl rfl rfl) (up_ne hw25 (AD.ne hAD 1 13 rfl rfl rfl) (up_ne hw21 (AD.ne hAD 1 16 rfl rfl rfl) (up_ne hw17 (AD.ne hAD 1 15 rfl rfl rfl) (up_ne hw13 (AD.ne hAD 1 19 rfl rfl rfl) (up_ne hw9 (AD.ne hAD 1 18 rfl rfl rfl) (up_ne hw5 (AD.ne hAD 1 17 rfl rfl rfl) (up_ne hw1 (AD.ne hAD 1 11 rfl rfl rfl) a1))))))))
        refine j_callV (rm := rX6_next) (As := []) (st := []) (b0 := mm) (ci := 6) (na := 0) (m_next1 (a := az179) hAD f170 hA h22 h23 h26 f191 ht hln (tkN_bd ha).2.1 haz179) (by intro E w9 h9; first | exact nomatch h9.1 | (obtain ⟨_, h9, _⟩ := h9; exact nomatch h9) | (obtain ⟨_, _, _, h9, _⟩ := h9; exact nomatch h9)) gX6_readMarked_X6_next rfl rfl f170 (by decide +kernel) rfl ⟨Nat.le_of_ble_eq_true rfl, Nat.le_of_ble_eq_true rfl⟩ rfl (Nat.le_of_ble_eq_true rfl) dX6_readMarked_348 ⟨(show 0 + 0 ≤ 0 by omega), (show 0 + 0 ≤ 0 by omega)⟩ (fun v197 w198 h199 => ?_)
        obtain ⟨h196, fs192, ⟨hfr193, hm194, hff195⟩, ⟨tkn180, sg181, nu182, v185, v186, v187, v188, v189, v190, hT183, hN184⟩⟩ := h199
        cases h196
        refine j_after (st' := []) (k' := 0) (n' := 0) rfl rfl rfl ?_
        have r200 : RA A fs192 := RA.ff hA hff195 rfl
        have hT183b := hT183.1
        rw [haz179] at hR175 hb177 hl178
        refine j_aload_n dX6_readMarked_351 1 rfl ?_
        refine j_get (v := .int (nI tkn180)) flX6_readMarked_102 hm194 v186 dX6_readMarked_352 ?_
        refine j_iconst (v := nI 1) dX6_readMarked_355 (by decide) ?_
        refine j_icmp_eqN 367 (by omega) (by omega) dX6_readMarked_356 (by decide) (fun c356 => ?_) (fun c356 => ?_)
        · skip
          have hk2 : tkK t ln az179 = 2 := hT183.2.2.1.mp c356
          have hnu := hN184.1 hk2
          obtain ⟨hR201, hI202, hb203, hl204⟩ := rR_go (s1 := (512, mr, cu, false, false, rep, 0 + 1, (if cud then 1 else 0), adF (opF f ev 2 be me pa st (zb mkd) (zb cud)) ev 0 (tkV t ln az179), ev, be, cq, st, me, pa)) ht hR175 ((fPit hk2 (by decide)).trans ((if_neg (by decide)).trans (if_neg (fun q => q.1 rfl)))) (by omega) (tPitN hk2) hI176 hb177
          have htb9 := tb_add (np := 0) (va := tkV t ln az179) htb8
          have hop9 := op_add (va := tkV t ln az179) hop8 (va_up_self _ _ _) (by decide)
          refine j_aload_n dX6_readMarked_367 1 rfl ?_
          refine j_iload dX6_readMarked_368 0 rfl ?_
          have v205 := (FF.at hff195 rfl h23)
          have v206 := (FF.at hff195 rfl h29)
          have f207 := (FrI.a1 hfr193 hAD rfl rfl rfl f191)
          have f208 := (FrI.a1 hfr193 hAD rfl rfl rfl (up_ne hw168 (AD.ne hAD 11 10 rfl rfl rfl) (up_ne hw25 (AD.ne hAD 11 13 rfl rfl rfl) (up_ne hw21 (AD.ne hAD 11 16 rfl rfl rfl) (up_ne hw17 (AD.ne hAD 11 15 rfl rfl rfl) (up_ne hw13 (AD.ne hAD 11 19 rfl rfl rfl) (up_ne hw9 (AD.ne hAD 11 18 rfl rfl rfl) (up_ne hw5 (AD.ne hAD 11 17 rfl rfl rfl) f2))))))))
          have f209 := (FrI.a1 hfr193 hAD rfl rfl rfl (up_ne hw168 (AD.ne hAD 12 10 rfl rfl rfl) (up_ne hw25 (AD.ne hAD 12 13 rfl rfl rfl) (up_ne hw21 (AD.ne hAD 12 16 rfl rfl rfl) (up_ne hw17 (AD.ne hAD 12 15 rfl rfl rfl) (up_ne hw13 (AD.ne hAD 12 19 rfl rfl rfl) (up_ne hw9 (AD.ne hAD 12 18 rfl rfl rfl) (up_ne hw5 (AD.ne hAD 12 17 rfl rfl rfl) (up_ne hw1 (AD.ne hAD 12 11 rfl rfl rfl) a12)))))))))
          obtain ⟨az210, haz210⟩ : ∃ z, tkN t ln az179 = z := ⟨_, rfl⟩
          refine j_callV (rm := rX6_readPitch) (As := [.int (nI ev)]) (st := []) (b0 := mm) (ci := 6) (na := 1) (m_rpN2 (np := 0) hAD hm194 r200 v185 v186 v187 v188 v189 v190 v205 v206 f207 f208 f209 hT183 ht hln hb177 (by omega) (va_up_self _ _ _) hnu (by omega) (fun k hk => by omega) haz210) (by intro E w9 h9; first | exact nomatch h9.1 | (obtain ⟨_, h9, _⟩ := h9; exact nomatch h9) | (obtain ⟨_, _, _, h9, _⟩ := h9; exact nomatch h9)) gX6_readMarked_X6_readPitch rfl rfl hm194 (by decide +kernel) rfl ⟨Nat.le_of_ble_eq_true rfl, Nat.le_of_ble_eq_true rfl⟩ rfl (Nat.le_of_ble_eq_true rfl) dX6_readMarked_370 ⟨(show 0 + 0 ≤ 0 by omega), (show 0 + 0 ≤ 0 by omega)⟩ (fun v229 w230 h231 => ?_)
          obtain ⟨h228, fs224, ⟨hfr225, hm226, hff227⟩, ⟨tkn211, sg212, nu213, v216, v217, v218, v219, v220, v221, hT214, hN215⟩, f222, f223⟩ := h231
          cases h228
          refine j_after (st' := []) (k' := 0) (n' := 0) rfl rfl rfl ?_
          have r232 : RA A fs224 := RA.ff r200 hff227 rfl
          have hT214b := hT214.1
          rw [haz210] at hR201 hb203 hl204
          refine j_lv (lv' := [(0, .ref mm), (1, .int (nI pa)), (4, .int (nI ev))]) [1, 2, 0] rfl ?_
          have v233 := (FF.at hff227 rfl (FF.at hff195 rfl h5))
          have v234 := (FF.at hff227 rfl (FF.at hff195 rfl h6))
          have v235 := (FF.at hff227 rfl (FF.at hff195 rfl h8))
          have v236 := (FF.at hff227 rfl (FF.at hff195 rfl h9))
          have v237 := (FF.at hff227 rfl v205)
          have v238 := (FF.at hff227 rfl v206)
          have v239 := (FF.at hff227 rfl (FF.at hff195 rfl h31))
          have f240 := (FrI.a1 hfr225 hAD rfl rfl rfl f207)
          have f241 := (FrI.a1 hfr225 hAD rfl rfl rfl (FrI.a1 hfr193 hAD rfl rfl rfl f169))
          have f242 := (FrI.a1 hfr225 hAD rfl rfl rfl (FrI.a1 hfr193 hAD rfl rfl rfl (up_ne hw168 (AD.ne hAD 13 10 rfl rfl rfl) f26)))
          have f243 := (FrI.a1 hfr225 hAD rfl rfl rfl (FrI.a1 hfr193 hAD rfl rfl rfl (up_ne hw168 (AD.ne hAD 14 10 rfl rfl rfl) (up_ne hw25 (AD.ne hAD 14 13 rfl rfl rfl) (up_ne hw21 (AD.ne hAD 14 16 rfl rfl rfl) (up_ne hw17 (AD.ne hAD 14 15 rfl rfl rfl) (up_ne hw13 (AD.ne hAD 14 19 rfl rfl rfl) (up_ne hw9 (AD.ne hAD 14 18 rfl rfl rfl) (up_ne hw5 (AD.ne hAD 14 17 rfl rfl rfl) (up_ne hw1 (AD.ne hAD 14 11 rfl rfl rfl) a14))))))))))
          have f244 := (FrI.a1 hfr225 hAD rfl rfl rfl (FrI.a1 hfr193 hAD rfl rfl rfl (up_ne hw168 (AD.ne hAD 15 10 rfl rfl rfl) (up_ne hw25 (AD.ne hAD 15 13 rfl rfl rfl) (up_ne hw21 (AD.ne hAD 15 16 rfl rfl rfl) f18)))))
          have f245 := (FrI.a1 hfr225 hAD rfl rfl rfl (FrI.a1 hfr193 hAD rfl rfl rfl (up_ne hw168 (AD.ne hAD 16 10 rfl rfl rfl) (up_ne hw25 (AD.ne hAD 16 13 rfl rfl rfl) f22))))
          have f246 := (FrI.a1 hfr225 hAD rfl rfl rfl (FrI.a1 hfr193 hAD rfl rfl rfl (up_ne hw168 (AD.ne hAD 17 10 rfl rfl rfl) (up_ne hw25 (AD.ne hAD 17 13 rfl rfl rfl) (up_ne hw21 (AD.ne hAD 17 16 rfl rfl rfl) (up_ne hw17 (AD.ne hAD 17 15 rfl rfl rfl) (up_ne hw13 (AD.ne hAD 17 19 rfl rfl rfl) (up_ne hw9 (AD.ne hAD 17 18 rfl rfl rfl) f6))))))))
          have f247 := (FrI.a1 hfr225 hAD rfl rfl rfl (FrI.a1 hfr193 hAD rfl rfl rfl (up_ne hw168 (AD.ne hAD 18 10 rfl rfl rfl) (up_ne hw25 (AD.ne hAD 18 13 rfl rfl rfl) (up_ne hw21 (AD.ne hAD 18 16 rfl rfl rfl) (up_ne hw17 (AD.ne hAD 18 15 rfl rfl rfl) (up_ne hw13 (AD.ne hAD 18 19 rfl rfl rfl) f10)))))))
          have f248 := (FrI.a1 hfr225 hAD rfl rfl rfl (FrI.a1 hfr193 hAD rfl rfl rfl (up_ne hw168 (AD.ne hAD 19 10 rfl rfl rfl) (up_ne hw25 (AD.ne hAD 19 13 rfl rfl rfl) (up_ne hw21 (AD.ne hAD 19 16 rfl rfl rfl) (up_ne hw17 (AD.ne hAD 19 15 rfl rfl rfl) f14))))))
          exact s_m373 hAD ht hln hm226 r232 (((((((((((FrI.mono hfr (by simp) rfl : FrI A [mm] [10, 11, 12, 13, 14, 15, 16, 17, 18, 19] w0 _).trans (FrI.ua hw1 rfl)).trans (FrI.ua hw5 rfl)).trans (FrI.ua hw9 rfl)).trans (FrI.ua hw13 rfl)).trans (FrI.ua hw17 rfl)).trans (FrI.ua hw21 rfl)).trans (FrI.ua hw25 rfl)).trans (FrI.ua hw168 rfl)).trans (FrI.sub hfr193 rfl)).trans (FrI.sub hfr225 rfl)) (((FF.mono hff rfl : FF [5, 8, 9, 22, 24, 25, 26, 27, 28, 29, 30, 31] fs0 _).trans (FF.mono hff195 rfl)).trans (FF.mono hff227 rfl)) v233 v234 v235 v236 v237 v238 v239 v216 v217 v218 v219 v220 v221 f240 f241 f222 f223 f242 f243 f244 f245 f246 f247 f248 hT214 hN215 hR201 hI202 hb203 (by omega) htb9 hop9 (va_up_self _ _ _) hev (by omega)
        · skip
          have hk2 : ¬ tkK t ln az179 = 2 := fun q => c356 (hT183.2.2.1.mpr q)
          have hbd249 := rR_bad (b := 1) hR175 (rf_1 (f1_64 (tk_k ht) hk2)) (by decide)
          refine j_aload_n dX6_readMarked_359 1 rfl ?_
          refine j_iconst (v := nI 1) dX6_readMarked_360 (by decide) ?_
          have v250 := (FF.at hff195 rfl h29)
          refine j_callV (rm := rX6_wrong) (As := [.int (nI 1)]) (st := []) (b0 := mm) (ci := 6) (na := 1) (m_wrong0 (k := 1) hAD hm194 r200 v250 v189) (by intro E w9 h9; first | exact nomatch h9.1 | (obtain ⟨_, h9, _⟩ := h9; exact nomatch h9) | (obtain ⟨_, _, _, h9, _⟩ := h9; exact nomatch h9)) gX6_readMarked_X6_wrong rfl rfl hm194 (by decide +kernel) rfl ⟨Nat.le_of_ble_eq_true rfl, Nat.le_of_ble_eq_true rfl⟩ rfl (Nat.le_of_ble_eq_true rfl) dX6_readMarked_361 ⟨(show 0 + 0 ≤ 0 by omega), (show 0 + 0 ≤ 0 by omega)⟩ (fun v258 w259 h260 => ?_)
          obtain ⟨h257, fs253, ⟨hfr254, hm255, hff256⟩, v251, v252⟩ := h260
          cases h257
          refine j_after (st' := []) (k' := 0) (n' := 0) rfl rfl rfl ?_
          have r261 : RA A fs253 := RA.ff r200 hff256 rfl
          refine j_goto 373 dX6_readMarked_364 (by decide) ?_
          refine j_aload_n dX6_readMarked_373 1 rfl ?_
          refine j_bipush (v := nI 58) dX6_readMarked_374 (by decide) ?_
          refine j_callV (rm := rX6_need) (As := [.int (nI 58)]) (st := []) (b0 := mm) (ci := 6) (na := 1) (m_need1 (c := 58) hAD hm255 r261 v251 (by omega) (by omega)) (by intro E w9 h9; first | exact nomatch h9.1 | (obtain ⟨_, h9, _⟩ := h9; exact nomatch h9) | (obtain ⟨_, _, _, h9, _⟩ := h9; exact nomatch h9)) gX6_readMarked_X6_need rfl rfl hm255 (by decide +kernel) rfl ⟨Nat.le_of_ble_eq_true rfl, Nat.le_of_ble_eq_true rfl⟩ rfl (Nat.le_of_ble_eq_true rfl) dX6_readMarked_376 ⟨(show 0 + 0 ≤ 0 by omega), (show 0 + 0 ≤ 0 by omega)⟩ (fun v262 w263 h264 => ?_)
          obtain ⟨h264, h265⟩ := h264
          cases h264
          subst w263
          refine j_after (st' := []) (k' := 0) (n' := 0) rfl rfl rfl ?_
          refine j_aload_n dX6_readMarked_379 1 rfl ?_
          refine j_get (v := .int (nI 1)) flX6_readMarked_124 hm255 v251 dX6_readMarked_380 ?_
          refine j_if_eqN 387 (by decide) dX6_readMarked_383 (by decide) (fun h9 => absurd h9 (by decide)) (fun _ => ?_)
          have f266 := (FrI.a1 hfr254 hAD rfl rfl rfl (FrI.a1 hfr193 hAD rfl rfl rfl f169))
          have f267 := (FrI.a1 hfr254 hAD rfl rfl rfl (FrI.a1 hfr193 hAD rfl rfl rfl (up_ne hw168 (AD.ne hAD 11 10 rfl rfl rfl) (up_ne hw25 (AD.ne hAD 11 13 rfl rfl rfl) (up_ne hw21 (AD.ne hAD 11 16 rfl rfl rfl) (up_ne hw17 (AD.ne hAD 11 15 rfl rfl rfl) (up_ne hw13 (AD.ne hAD 11 19 rfl rfl rfl) (up_ne hw9 (AD.ne hAD 11 18 rfl rfl rfl) (up_ne hw5 (AD.ne hAD 11 17 rfl rfl rfl) f2)))))))))
          have f268 := (FrI.a1 hfr254 hAD rfl rfl rfl (FrI.a1 hfr193 hAD rfl rfl rfl (up_ne hw168 (AD.ne hAD 12 10 rfl rfl rfl) (up_ne hw25 (AD.ne hAD 12 13 rfl rfl rfl) (up_ne hw21 (AD.ne hAD 12 16 rfl rfl rfl) (up_ne hw17 (AD.ne hAD 12 15 rfl rfl rfl) (up_ne hw13 (AD.ne hAD 12 19 rfl rfl rfl) (up_ne hw9 (AD.ne hAD 12 18 rfl rfl rfl) (up_ne hw5 (AD.ne hAD 12 17 rfl rfl rfl) (up_ne hw1 (AD.ne hAD 12 11 rfl rfl rfl) a12))))))))))
          have f269 := (FrI.a1 hfr254 hAD rfl rfl rfl (FrI.a1 hfr193 hAD rfl rfl rfl (up_ne hw168 (AD.ne hAD 13 10 rfl rfl rfl) f26)))
          have f270 := (FrI.a1 hfr254 hAD rfl rfl rfl (FrI.a1 hfr193 hAD rfl rfl rfl (up_ne hw168 (AD.ne hAD 14 10 rfl rfl rfl) (up_ne hw25 (AD.ne hAD 14 13 rfl rfl rfl) (up_ne hw21 (AD.ne hAD 14 16 rfl rfl rfl) (up_ne hw17 (AD.ne hAD 14 15 rfl rfl rfl) (up_ne hw13 (AD.ne hAD 14 19 rfl rfl rfl) (up_ne hw9 (AD.ne hAD 14 18 rfl rfl rfl) (up_ne hw5 (AD.ne hAD 14 17 rfl rfl rfl) (up_ne hw1 (AD.ne hAD 14 11 rfl rfl rfl) a14))))))))))
          have f271 := (FrI.a1 hfr254 hAD rfl rfl rfl (FrI.a1 hfr193 hAD rfl rfl rfl (up_ne hw168 (AD.ne hAD 15 10 rfl rfl rfl) (up_ne hw25 (AD.ne hAD 15 13 rfl rfl rfl) (up_ne hw21 (AD.ne hAD 15 16 rfl rfl rfl) f18)))))
          have f272 := (FrI.a1 hfr254 hAD rfl rfl rfl (FrI.a1 hfr193 hAD rfl rfl rfl (up_ne hw168 (AD.ne hAD 16 10 rfl rfl rfl) (up_ne hw25 (AD.ne hAD 16 13 rfl rfl rfl) f22))))
          have f273 := (FrI.a1 hfr254 hAD rfl rfl rfl (FrI.a1 hfr193 hAD rfl rfl rfl (up_ne hw168 (AD.ne hAD 17 10 rfl rfl rfl) (up_ne hw25 (AD.ne hAD 17 13 rfl rfl rfl) (up_ne hw21 (AD.ne hAD 17 16 rfl rfl rfl) (up_ne hw17 (AD.ne hAD 17 15 rfl rfl rfl) (up_ne hw13 (AD.ne hAD 17 19 rfl rfl rfl) (up_ne hw9 (AD.ne hAD 17 18 rfl rfl rfl) f6))))))))
          have f274 := (FrI.a1 hfr254 hAD rfl rfl rfl (FrI.a1 hfr193 hAD rfl rfl rfl (up_ne hw168 (AD.ne hAD 18 10 rfl rfl rfl) (up_ne hw25 (AD.ne hAD 18 13 rfl rfl rfl) (up_ne hw21 (AD.ne hAD 18 16 rfl rfl rfl) (up_ne hw17 (AD.ne hAD 18 15 rfl rfl rfl) (up_ne hw13 (AD.ne hAD 18 19 rfl rfl rfl) f10)))))))
          have f275 := (FrI.a1 hfr254 hAD rfl rfl rfl (FrI.a1 hfr193 hAD rfl rfl rfl (up_ne hw168 (AD.ne hAD 19 10 rfl rfl rfl) (up_ne hw25 (AD.ne hAD 19 13 rfl rfl rfl) (up_ne hw21 (AD.ne hAD 19 16 rfl rfl rfl) (up_ne hw17 (AD.ne hAD 19 15 rfl rfl rfl) f14))))))
          exact j_vret rfl ⟨rfl, _, ⟨(((((((((((FrI.mono hfr (by simp) rfl : FrI A [mm] [10, 11, 12, 13, 14, 15, 16, 17, 18, 19] w0 _).trans (FrI.ua hw1 rfl)).trans (FrI.ua hw5 rfl)).trans (FrI.ua hw9 rfl)).trans (FrI.ua hw13 rfl)).trans (FrI.ua hw17 rfl)).trans (FrI.ua hw21 rfl)).trans (FrI.ua hw25 rfl)).trans (FrI.ua hw168 rfl)).trans (FrI.sub hfr193 rfl)).trans (FrI.sub hfr254 rfl)), hm255, (((FF.mono hff rfl : FF [5, 8, 9, 22, 24, 25, 26, 27, 28, 29, 30, 31] fs0 _).trans (FF.mono hff195 rfl)).trans (FF.mono hff256 rfl))⟩, _, _, _, _, _, _, _, _, _, _, ⟨f266, f267, f268, f269, f270, f271, f272, f273, f274, f275⟩, Or.inl (RFl.mk hbd249 ⟨by decide, by decide⟩ v251 v252)⟩ (show 0 ≤ 0 by omega) (show 0 ≤ 0 by omega) dX6_readMarked_386
      · skip
        refine j_eqi (y := nI 0) (by rw [decide_eq_false hk126]; rfl) ?_
        refine j_if_eqN 336 (by decide) dX6_readMarked_329 (by decide) (fun _ => ?_) (fun h9 => absurd rfl h9)
        refine j_iconst (v := nI 0) dX6_readMarked_336 (by decide) ?_
        have f276 := (up_ne hw25 (AD.ne hAD 10 13 rfl rfl rfl) (up_ne hw21 (AD.ne hAD 10 16 rfl rfl rfl) (up_ne hw17 (AD.ne hAD 10 15 rfl rfl rfl) (up_ne hw13 (AD.ne hAD 10 19 rfl rfl rfl) (up_ne hw9 (AD.ne hAD 10 18 rfl rfl rfl) (up_ne hw5 (AD.ne hAD 10 17 rfl rfl rfl) (up_ne hw1 (AD.ne hAD 10 11 rfl rfl rfl) a10)))))))
        refine j_iastn (j := ev) (x := 0) f276 rfl (by omega) (by omega) dX6_readMarked_337 ?_
        refine j_w (fun w277 hw277 => ?_)
        have f278 : w277 (A 10) = some (.inl (0, 100, .inl (fun j9 => nI ((va_up xk ev 0) j9)))) := up_at hw277
        refine j_aload_n dX6_readMarked_338 1 rfl ?_
        refine j_bipush (v := nI 126) dX6_readMarked_339 (by decide) ?_
        have f279 := (up_ne hw277 (AD.mn hAD 10 rfl) f27)
        refine j_callV (rm := rX6_isSign) (As := [.int (nI 126)]) (st := []) (b0 := mm) (ci := 6) (na := 1) (m_isSign (c := 126) hAD f279 hA h24 h25 hT rfl (by decide)) (by intro E w9 h9; first | exact nomatch h9.1 | (obtain ⟨_, h9, _⟩ := h9; exact nomatch h9) | (obtain ⟨_, _, _, h9, _⟩ := h9; exact nomatch h9)) gX6_readMarked_X6_isSign rfl rfl f279 (by decide +kernel) rfl ⟨Nat.le_of_ble_eq_true rfl, Nat.le_of_ble_eq_true rfl⟩ rfl (Nat.le_of_ble_eq_true rfl) dX6_readMarked_341 ⟨(show 0 + 0 ≤ 0 by omega), (show 0 + 0 ≤ 0 by omega)⟩ (fun v280 w281 h282 => ?_)
        obtain ⟨h282, h283⟩ := h282
        cases h282
        subst w281
        refine j_after (st' := [.int (zb (decide (tkK t ln a = 126)))]) (k' := 0) (n' := 0) rfl rfl rfl ?_
        refine j_eqi (y := nI 0) (by rw [decide_eq_false hk126]; rfl) ?_
        refine j_if_eqN 351 (by decide) dX6_readMarked_344 (by decide) (fun _ => ?_) (fun h9 => absurd rfl h9)
        refine j_aload_n dX6_readMarked_351 1 rfl ?_
        refine j_get (v := .int (nI tkn)) flX6_readMarked_102 f279 h24 dX6_readMarked_352 ?_
        refine j_iconst (v := nI 1) dX6_readMarked_355 (by decide) ?_
        refine j_icmp_eqN 367 (by omega) (by omega) dX6_readMarked_356 (by decide) (fun c356 => ?_) (fun c356 => ?_)
        · skip
          have hk2 : tkK t ln a = 2 := hT.2.2.1.mp c356
          have hnu := hN.1 hk2
          obtain ⟨hR284, hI285, hb286, hl287⟩ := rR_go (s1 := (512, mr, cu, false, false, rep, 0 + 1, (if cud then 1 else 0), adF (opF f ev 0 be me pa st (zb mkd) (zb cud)) ev 0 (tkV t ln a), ev, be, cq, st, me, pa)) ht hR ((fOpen hbe hsd6).trans (if_neg (by omega))) (by omega) (tPitO hk2 hsd6) hI ha
          have htb8 := tb_open (k := 0) (be := be) (me := me) (pa := pa) (st := st) (mk := zb mkd) (cq := zb cud) hTB
          have hop8 := op_open (xk := xk) (xm := xm) (xp := xp) (xb := xb) (xe := xe) (xg := xg) (xl := xl) (xi := xi) (xc := xc) (f := f) (ev := ev) (k := 0) (be := be) (me := me) (pa := pa) (st := st) (mk := zb mkd) (cq := zb cud)
          have htb9 := tb_add (np := 0) (va := tkV t ln a) htb8
          have hop9 := op_add (va := tkV t ln a) hop8 (va_up_self _ _ _) (by decide)
          refine j_aload_n dX6_readMarked_367 1 rfl ?_
          refine j_iload dX6_readMarked_368 0 rfl ?_
          have f288 := (up_ne hw277 (AD.ne hAD 1 10 rfl rfl rfl) (up_ne hw25 (AD.ne hAD 1 13 rfl rfl rfl) (up_ne hw21 (AD.ne hAD 1 16 rfl rfl rfl) (up_ne hw17 (AD.ne hAD 1 15 rfl rfl rfl) (up_ne hw13 (AD.ne hAD 1 19 rfl rfl rfl) (up_ne hw9 (AD.ne hAD 1 18 rfl rfl rfl) (up_ne hw5 (AD.ne hAD 1 17 rfl rfl rfl) (up_ne hw1 (AD.ne hAD 1 11 rfl rfl rfl) a1))))))))
          have f289 := (up_ne hw277 (AD.ne hAD 11 10 rfl rfl rfl) (up_ne hw25 (AD.ne hAD 11 13 rfl rfl rfl) (up_ne hw21 (AD.ne hAD 11 16 rfl rfl rfl) (up_ne hw17 (AD.ne hAD 11 15 rfl rfl rfl) (up_ne hw13 (AD.ne hAD 11 19 rfl rfl rfl) (up_ne hw9 (AD.ne hAD 11 18 rfl rfl rfl) (up_ne hw5 (AD.ne hAD 11 17 rfl rfl rfl) f2)))))))
          have f290 := (up_ne hw277 (AD.ne hAD 12 10 rfl rfl rfl) (up_ne hw25 (AD.ne hAD 12 13 rfl rfl rfl) (up_ne hw21 (AD.ne hAD 12 16 rfl rfl rfl) (up_ne hw17 (AD.ne hAD 12 15 rfl rfl rfl) (up_ne hw13 (AD.ne hAD 12 19 rfl rfl rfl) (up_ne hw9 (AD.ne hAD 12 18 rfl rfl rfl) (up_ne hw5 (AD.ne hAD 12 17 rfl rfl rfl) (up_ne hw1 (AD.ne hAD 12 11 rfl rfl rfl) a12))))))))
          obtain ⟨az291, haz291⟩ : ∃ z, tkN t ln a = z := ⟨_, rfl⟩
          refine j_callV (rm := rX6_readPitch) (As := [.int (nI ev)]) (st := []) (b0 := mm) (ci := 6) (na := 1) (m_rpN2 (np := 0) hAD f279 hA h22 h24 h25 h26 h27 h28 h23 h29 f288 f289 f290 hT ht hln ha (by omega) (va_up_self _ _ _) hnu (by omega) (fun k hk => by omega) haz291) (by intro E w9 h9; first | exact nomatch h9.1 | (obtain ⟨_, h9, _⟩ := h9; exact nomatch h9) | (obtain ⟨_, _, _, h9, _⟩ := h9; exact nomatch h9)) gX6_readMarked_X6_readPitch rfl rfl f279 (by decide +kernel) rfl ⟨Nat.le_of_ble_eq_true rfl, Nat.le_of_ble_eq_true rfl⟩ rfl (Nat.le_of_ble_eq_true rfl) dX6_readMarked_370 ⟨(show 0 + 0 ≤ 0 by omega), (show 0 + 0 ≤ 0 by omega)⟩ (fun v310 w311 h312 => ?_)
          obtain ⟨h309, fs305, ⟨hfr306, hm307, hff308⟩, ⟨tkn292, sg293, nu294, v297, v298, v299, v300, v301, v302, hT295, hN296⟩, f303, f304⟩ := h312
          cases h309
          refine j_after (st' := []) (k' := 0) (n' := 0) rfl rfl rfl ?_
          have r313 : RA A fs305 := RA.ff hA hff308 rfl
          have hT295b := hT295.1
          rw [haz291] at hR284 hb286 hl287
          refine j_lv (lv' := [(0, .ref mm), (1, .int (nI pa)), (4, .int (nI ev))]) [1, 2, 0] rfl ?_
          have v314 := (FF.at hff308 rfl h5)
          have v315 := (FF.at hff308 rfl h6)
          have v316 := (FF.at hff308 rfl h8)
          have v317 := (FF.at hff308 rfl h9)
          have v318 := (FF.at hff308 rfl h23)
          have v319 := (FF.at hff308 rfl h29)
          have v320 := (FF.at hff308 rfl h31)
          have f321 := (FrI.a1 hfr306 hAD rfl rfl rfl f288)
          have f322 := (FrI.a1 hfr306 hAD rfl rfl rfl f278)
          have f323 := (FrI.a1 hfr306 hAD rfl rfl rfl (up_ne hw277 (AD.ne hAD 13 10 rfl rfl rfl) f26))
          have f324 := (FrI.a1 hfr306 hAD rfl rfl rfl (up_ne hw277 (AD.ne hAD 14 10 rfl rfl rfl) (up_ne hw25 (AD.ne hAD 14 13 rfl rfl rfl) (up_ne hw21 (AD.ne hAD 14 16 rfl rfl rfl) (up_ne hw17 (AD.ne hAD 14 15 rfl rfl rfl) (up_ne hw13 (AD.ne hAD 14 19 rfl rfl rfl) (up_ne hw9 (AD.ne hAD 14 18 rfl rfl rfl) (up_ne hw5 (AD.ne hAD 14 17 rfl rfl rfl) (up_ne hw1 (AD.ne hAD 14 11 rfl rfl rfl) a14)))))))))
          have f325 := (FrI.a1 hfr306 hAD rfl rfl rfl (up_ne hw277 (AD.ne hAD 15 10 rfl rfl rfl) (up_ne hw25 (AD.ne hAD 15 13 rfl rfl rfl) (up_ne hw21 (AD.ne hAD 15 16 rfl rfl rfl) f18))))
          have f326 := (FrI.a1 hfr306 hAD rfl rfl rfl (up_ne hw277 (AD.ne hAD 16 10 rfl rfl rfl) (up_ne hw25 (AD.ne hAD 16 13 rfl rfl rfl) f22)))
          have f327 := (FrI.a1 hfr306 hAD rfl rfl rfl (up_ne hw277 (AD.ne hAD 17 10 rfl rfl rfl) (up_ne hw25 (AD.ne hAD 17 13 rfl rfl rfl) (up_ne hw21 (AD.ne hAD 17 16 rfl rfl rfl) (up_ne hw17 (AD.ne hAD 17 15 rfl rfl rfl) (up_ne hw13 (AD.ne hAD 17 19 rfl rfl rfl) (up_ne hw9 (AD.ne hAD 17 18 rfl rfl rfl) f6)))))))
          have f328 := (FrI.a1 hfr306 hAD rfl rfl rfl (up_ne hw277 (AD.ne hAD 18 10 rfl rfl rfl) (up_ne hw25 (AD.ne hAD 18 13 rfl rfl rfl) (up_ne hw21 (AD.ne hAD 18 16 rfl rfl rfl) (up_ne hw17 (AD.ne hAD 18 15 rfl rfl rfl) (up_ne hw13 (AD.ne hAD 18 19 rfl rfl rfl) f10))))))
          have f329 := (FrI.a1 hfr306 hAD rfl rfl rfl (up_ne hw277 (AD.ne hAD 19 10 rfl rfl rfl) (up_ne hw25 (AD.ne hAD 19 13 rfl rfl rfl) (up_ne hw21 (AD.ne hAD 19 16 rfl rfl rfl) (up_ne hw17 (AD.ne hAD 19 15 rfl rfl rfl) f14)))))
          exact s_m373 hAD ht hln hm307 r313 ((((((((((FrI.mono hfr (by simp) rfl : FrI A [mm] [10, 11, 12, 13, 14, 15, 16, 17, 18, 19] w0 _).trans (FrI.ua hw1 rfl)).trans (FrI.ua hw5 rfl)).trans (FrI.ua hw9 rfl)).trans (FrI.ua hw13 rfl)).trans (FrI.ua hw17 rfl)).trans (FrI.ua hw21 rfl)).trans (FrI.ua hw25 rfl)).trans (FrI.ua hw277 rfl)).trans (FrI.sub hfr306 rfl)) ((FF.mono hff rfl : FF [5, 8, 9, 22, 24, 25, 26, 27, 28, 29, 30, 31] fs0 _).trans (FF.mono hff308 rfl)) v314 v315 v316 v317 v318 v319 v320 v297 v298 v299 v300 v301 v302 f321 f322 f303 f304 f323 f324 f325 f326 f327 f328 f329 hT295 hN296 hR284 hI285 hb286 (by omega) htb9 hop9 (va_up_self _ _ _) hev (by omega)
        · skip
          exact absurd (hT.2.2.1.mpr (by omega)) c356
set_option maxHeartbeats 4000000 in
set_option maxRecDepth 100000 in
theorem s_m107 {t : Nat → Nat} {ln aS : Nat} {w0 : pW} {fs0 : List Value} {A : Nat → Nat} {mm : Nat} {R : Nat × Nat × RSt} (hAD : AD A mm) (ht : ∀ j, t j < 256) (hln : ln ≤ 2400) {w : pW} {fs : List Value} (hmm : w mm = some (.inr (6, fs))) (hA : RA A fs) (hfr : FrI A [mm] [10, 11, 12, 13, 14, 15, 16, 17, 18, 19] w0 w) (hff : FF [5, 8, 9, 22, 24, 25, 26, 27, 28, 29, 30, 31] fs0 fs) {a tkn sg mr cu rep np oc ev be cq st me pa : Nat} {nu : Int32} {f : Nat → Int32} {xk xm : Nat → Nat} {xp : Nat → Int32} {xb xs xe xg : Nat → Nat} {xl xi xc : Nat → Int32} {sd : Nat} {mkd cud : Bool} (h5 : fs[5]? = some (.int (nI ev))) (h6 : fs[6]? = some (.int (nI me))) (h8 : fs[8]? = some (.int (nI be))) (h9 : fs[9]? = some (.int (nI cu))) (h23 : fs[23]? = some (.int (nI ln))) (h29 : fs[29]? = some (.int (nI 0))) (h31 : fs[31]? = some (.int (nI mr))) (h22 : fs[22]? = some (.int (nI ((tk t ln a).1)))) (h24 : fs[24]? = some (.int (nI tkn))) (h25 : fs[25]? = some (.int (nI sg))) (h26 : fs[26]? = some (.int nu)) (h27 : fs[27]? = some (.int (nI a))) (h28 : fs[28]? = some (.int (nI ((tk t ln a).1)))) (a1 : w (A 1) = some (.inl (0, 2400, .inl (fun j9 => nI (t j9))))) (a10 : w (A 10) = some (.inl (0, 100, .inl (fun j9 => nI (xk j9))))) (a11 : w (A 11) = some (.inl (0, 100, .inl (fun j9 => nI (xm j9))))) (a12 : w (A 12) = some (.inl (0, 400, .inl xp))) (a13 : w (A 13) = some (.inl (0, 100, .inl (fun j9 => nI (xb j9))))) (a14 : w (A 14) = some (.inl (0, 100, .inl (fun j9 => nI (xs j9))))) (a15 : w (A 15) = some (.inl (0, 100, .inl (fun j9 => nI (xe j9))))) (a16 : w (A 16) = some (.inl (0, 100, .inl (fun j9 => nI (xg j9))))) (a17 : w (A 17) = some (.inl (0, 100, .inl xl))) (a18 : w (A 18) = some (.inl (2, 100, .inl xi))) (a19 : w (A 19) = some (.inl (2, 100, .inl xc))) (hT : TS tkn sg (tkK t ln a)) (hN : NS nu (tkK t ln a) (tkV t ln a) ((tk t ln a).1 - a)) (hR : R = rR t ln a (sd, mr, cu, mkd, cud, rep, np, oc, f, ev, be, cq, st, me, pa)) (hI : RJ (sd, mr, cu, mkd, cud, rep, np, oc, f, ev, be, cq, st, me, pa)) (ha : a ≤ ln + 1) (haS : aS ≤ a) (hTB : TBL xk xm xp xb xs xe xg xl xi xc f ev) (hsd6 : sd = 1 ∨ sd = 2 ∨ sd = 4 ∨ sd = 8 ∨ sd = 16 ∨ sd = 32) (hkd : sd = 32 ∨ (sd = 16 ∧ tkK t ln a ≠ 33) ∨ (tkK t ln a = 2 ∨ tkK t ln a = 40 ∨ tkK t ln a = 126 ∨ tkK t ln a = 114)) : J ((cX6_readMarked, RX6, 5, wsX6_readMarked), (rX6_readMarked, none, "readMarked", []), fun o w9 => o = .inl none ∧ ∃ fs9 : List Value, MU A mm [10, 11, 12, 13, 14, 15, 16, 17, 18, 19] [5, 8, 9, 22, 24, 25, 26, 27, 28, 29, 30, 31] w0 w9 fs0 fs9 ∧ ∃ (xk xm : Nat → Nat) (xp : Nat → Int32) (xb xs xe xg : Nat → Nat) (xl xi xc : Nat → Int32), TA A w9 xk xm xp xb xs xe xg xl xi xc ∧ (RFl fs9 R ∨ ∃ (a9 mr9 cu9 np9 oc9 : Nat) (f9 : Nat → Int32) (ev9 be9 cq9 st9 : Nat), aS < a9 ∧ a9 ≤ ln + 1 ∧ R = rR t ln a9 (8, mr9, cu9, false, false, rep, np9, oc9, f9, ev9, be9, cq9, st9, me, pa) ∧ RJ (8, mr9, cu9, false, false, rep, np9, oc9, f9, ev9, be9, cq9, st9, me, pa) ∧ fs9[5]? = some (.int (nI ev9)) ∧ fs9[8]? = some (.int (nI be9)) ∧ fs9[9]? = some (.int (nI cu9)) ∧ fs9[29]? = some (.int (nI 0)) ∧ fs9[31]? = some (.int (nI mr9)) ∧ AtT t ln a9 fs9 ∧ TBL xk xm xp xb xs xe xg xl xi xc f9 ev9), fun _ _ _ => True) 107 [(0, .ref mm), (1, .int (nI pa)), (2, .int (zb mkd)), (3, .int (zb cud))] [] w 0 0 := by
  have hTb := hT.1
  obtain ⟨i1, i2, i3, i4, i5, i6, i7⟩ := id hI.1
  refine j_aload_n dX6_readMarked_107 0 rfl ?_
  refine j_get (v := .int (nI 0)) flX6_readMarked_124 hmm h29 dX6_readMarked_108 ?_
  refine j_if_neN 129 (by decide) dX6_readMarked_111 (by decide) (fun h9 => absurd rfl h9) (fun _ => ?_)
  refine j_aload_n dX6_readMarked_114 0 rfl ?_
  refine j_callV (rm := rX6_beginsEvent) (As := []) (st := []) (b0 := mm) (ci := 6) (na := 0) (m_beginsEvent hAD hmm hA h24 h25 hT) (by intro E w9 h9; first | exact nomatch h9.1 | (obtain ⟨_, h9, _⟩ := h9; exact nomatch h9) | (obtain ⟨_, _, _, h9, _⟩ := h9; exact nomatch h9)) gX6_readMarked_X6_beginsEvent rfl rfl hmm (by decide +kernel) rfl ⟨Nat.le_of_ble_eq_true rfl, Nat.le_of_ble_eq_true rfl⟩ rfl (Nat.le_of_ble_eq_true rfl) dX6_readMarked_115 ⟨(show 0 + 0 ≤ 0 by omega), (show 0 + 0 ≤ 0 by omega)⟩ (fun v1 w2 h3 => ?_)
  obtain ⟨h3, h4⟩ := h3
  cases h3
  subst w2
  refine j_after (st' := [.int (zb (bE (tkK t ln a)))]) (k' := 0) (n' := 0) rfl rfl rfl ?_
  by_cases hbe : (tkK t ln a = 2 ∨ tkK t ln a = 40 ∨ tkK t ln a = 126 ∨ tkK t ln a = 114)
  · skip
    refine j_eqi (y := nI 1) (by unfold bE; rw [decide_eq_true hbe]; rfl) ?_
    refine j_if_neN 129 (by decide) dX6_readMarked_118 (by decide) (fun _ => ?_) (fun h9 => absurd h9 (by decide))
    refine j_aload_n dX6_readMarked_129 0 rfl ?_
    refine j_get (v := .int (nI 0)) flX6_readMarked_124 hmm h29 dX6_readMarked_130 ?_
    refine j_if_neN 150 (by decide) dX6_readMarked_133 (by decide) (fun h9 => absurd rfl h9) (fun _ => ?_)
    refine j_aload_n dX6_readMarked_136 0 rfl ?_
    refine j_get (v := .int (nI ev)) flX6_readMarked_144 hmm h5 dX6_readMarked_137 ?_
    refine j_bipush (v := nI 100) dX6_readMarked_140 (by decide) ?_
    refine j_icmp_neN 150 (by omega) (by omega) dX6_readMarked_142 (by decide) (fun c142 => ?_) (fun c142 => ?_)
    · skip
      refine j_aload_n dX6_readMarked_150 0 rfl ?_
      refine j_get (v := .int (nI 0)) flX6_readMarked_124 hmm h29 dX6_readMarked_151 ?_
      refine j_if_eqN 158 (by decide) dX6_readMarked_154 (by decide) (fun _ => ?_) (fun h9 => absurd rfl h9)
      refine j_lv (lv' := [(0, .ref mm), (1, .int (nI pa)), (2, .int (zb mkd)), (3, .int (zb cud))]) [0, 1, 2, 3] rfl ?_
      exact s_m158 hAD ht hln hmm hA (FrI.mono hfr (by simp) rfl : FrI A [mm] [10, 11, 12, 13, 14, 15, 16, 17, 18, 19] w0 _) (FF.mono hff rfl : FF [5, 8, 9, 22, 24, 25, 26, 27, 28, 29, 30, 31] fs0 _) h5 h6 h8 h9 h23 h29 h31 h22 h24 h25 h26 h27 h28 a1 a10 a11 a12 a13 a14 a15 a16 a17 a18 a19 hT hN hR hI ha (by omega) hTB hbe hsd6 (by omega)
    · skip
      have hbd5 := rR_bad (b := 2) hR ((fOpen hbe hsd6).trans (if_pos (by omega))) (by decide)
      refine j_aload_n dX6_readMarked_145 0 rfl ?_
      refine j_iconst (v := nI 2) dX6_readMarked_146 (by decide) ?_
      refine j_callV (rm := rX6_wrong) (As := [.int (nI 2)]) (st := []) (b0 := mm) (ci := 6) (na := 1) (m_wrong0 (k := 2) hAD hmm hA h29 h27) (by intro E w9 h9; first | exact nomatch h9.1 | (obtain ⟨_, h9, _⟩ := h9; exact nomatch h9) | (obtain ⟨_, _, _, h9, _⟩ := h9; exact nomatch h9)) gX6_readMarked_X6_wrong rfl rfl hmm (by decide +kernel) rfl ⟨Nat.le_of_ble_eq_true rfl, Nat.le_of_ble_eq_true rfl⟩ rfl (Nat.le_of_ble_eq_true rfl) dX6_readMarked_147 ⟨(show 0 + 0 ≤ 0 by omega), (show 0 + 0 ≤ 0 by omega)⟩ (fun v13 w14 h15 => ?_)
      obtain ⟨h12, fs8, ⟨hfr9, hm10, hff11⟩, v6, v7⟩ := h15
      cases h12
      refine j_after (st' := []) (k' := 0) (n' := 0) rfl rfl rfl ?_
      have r16 : RA A fs8 := RA.ff hA hff11 rfl
      refine j_aload_n dX6_readMarked_150 0 rfl ?_
      refine j_get (v := .int (nI 2)) flX6_readMarked_124 hm10 v6 dX6_readMarked_151 ?_
      refine j_if_eqN 158 (by decide) dX6_readMarked_154 (by decide) (fun h9 => absurd h9 (by decide)) (fun _ => ?_)
      have f17 := (FrI.a1 hfr9 hAD rfl rfl rfl a10)
      have f18 := (FrI.a1 hfr9 hAD rfl rfl rfl a11)
      have f19 := (FrI.a1 hfr9 hAD rfl rfl rfl a12)
      have f20 := (FrI.a1 hfr9 hAD rfl rfl rfl a13)
      have f21 := (FrI.a1 hfr9 hAD rfl rfl rfl a14)
      have f22 := (FrI.a1 hfr9 hAD rfl rfl rfl a15)
      have f23 := (FrI.a1 hfr9 hAD rfl rfl rfl a16)
      have f24 := (FrI.a1 hfr9 hAD rfl rfl rfl a17)
      have f25 := (FrI.a1 hfr9 hAD rfl rfl rfl a18)
      have f26 := (FrI.a1 hfr9 hAD rfl rfl rfl a19)
      exact j_vret rfl ⟨rfl, _, ⟨((FrI.mono hfr (by simp) rfl : FrI A [mm] [10, 11, 12, 13, 14, 15, 16, 17, 18, 19] w0 _).trans (FrI.sub hfr9 rfl)), hm10, ((FF.mono hff rfl : FF [5, 8, 9, 22, 24, 25, 26, 27, 28, 29, 30, 31] fs0 _).trans (FF.mono hff11 rfl))⟩, _, _, _, _, _, _, _, _, _, _, ⟨f17, f18, f19, f20, f21, f22, f23, f24, f25, f26⟩, Or.inl (RFl.mk hbd5 ⟨by decide, by decide⟩ v6 v7)⟩ (show 0 ≤ 0 by omega) (show 0 ≤ 0 by omega) dX6_readMarked_157
  · skip
    refine j_eqi (y := nI 0) (by unfold bE; rw [decide_eq_false hbe]; rfl) ?_
    refine j_if_neN 129 (by decide) dX6_readMarked_118 (by decide) (fun h9 => absurd rfl h9) (fun _ => ?_)
    have hf : rFault (tkK t ln a) (tkV t ln a) (sd, mr, cu, mkd, cud, rep, np, oc, f, ev, be, cq, st, me, pa) = 1 := by
      rcases hkd with h | ⟨h, h33⟩ | hx
      · subst h; exact rf_1 (f1_32 (tk_k ht) (by omega))
      · subst h; exact rf_1 (f1_16 (tk_k ht) (by omega))
      · exact absurd hx hbe
    have hbd27 := rR_bad (b := 1) hR hf (by decide)
    refine j_aload_n dX6_readMarked_121 0 rfl ?_
    refine j_iconst (v := nI 1) dX6_readMarked_122 (by decide) ?_
    refine j_callV (rm := rX6_wrong) (As := [.int (nI 1)]) (st := []) (b0 := mm) (ci := 6) (na := 1) (m_wrong0 (k := 1) hAD hmm hA h29 h27) (by intro E w9 h9; first | exact nomatch h9.1 | (obtain ⟨_, h9, _⟩ := h9; exact nomatch h9) | (obtain ⟨_, _, _, h9, _⟩ := h9; exact nomatch h9)) gX6_readMarked_X6_wrong rfl rfl hmm (by decide +kernel) rfl ⟨Nat.le_of_ble_eq_true rfl, Nat.le_of_ble_eq_true rfl⟩ rfl (Nat.le_of_ble_eq_true rfl) dX6_readMarked_123 ⟨(show 0 + 0 ≤ 0 by omega), (show 0 + 0 ≤ 0 by omega)⟩ (fun v35 w36 h37 => ?_)
    obtain ⟨h34, fs30, ⟨hfr31, hm32, hff33⟩, v28, v29⟩ := h37
    cases h34
    refine j_after (st' := []) (k' := 0) (n' := 0) rfl rfl rfl ?_
    have r38 : RA A fs30 := RA.ff hA hff33 rfl
    refine j_goto 150 dX6_readMarked_126 (by decide) ?_
    refine j_aload_n dX6_readMarked_150 0 rfl ?_
    refine j_get (v := .int (nI 1)) flX6_readMarked_124 hm32 v28 dX6_readMarked_151 ?_
    refine j_if_eqN 158 (by decide) dX6_readMarked_154 (by decide) (fun h9 => absurd h9 (by decide)) (fun _ => ?_)
    have f39 := (FrI.a1 hfr31 hAD rfl rfl rfl a10)
    have f40 := (FrI.a1 hfr31 hAD rfl rfl rfl a11)
    have f41 := (FrI.a1 hfr31 hAD rfl rfl rfl a12)
    have f42 := (FrI.a1 hfr31 hAD rfl rfl rfl a13)
    have f43 := (FrI.a1 hfr31 hAD rfl rfl rfl a14)
    have f44 := (FrI.a1 hfr31 hAD rfl rfl rfl a15)
    have f45 := (FrI.a1 hfr31 hAD rfl rfl rfl a16)
    have f46 := (FrI.a1 hfr31 hAD rfl rfl rfl a17)
    have f47 := (FrI.a1 hfr31 hAD rfl rfl rfl a18)
    have f48 := (FrI.a1 hfr31 hAD rfl rfl rfl a19)
    exact j_vret rfl ⟨rfl, _, ⟨((FrI.mono hfr (by simp) rfl : FrI A [mm] [10, 11, 12, 13, 14, 15, 16, 17, 18, 19] w0 _).trans (FrI.sub hfr31 rfl)), hm32, ((FF.mono hff rfl : FF [5, 8, 9, 22, 24, 25, 26, 27, 28, 29, 30, 31] fs0 _).trans (FF.mono hff33 rfl))⟩, _, _, _, _, _, _, _, _, _, _, ⟨f39, f40, f41, f42, f43, f44, f45, f46, f47, f48⟩, Or.inl (RFl.mk hbd27 ⟨by decide, by decide⟩ v28 v29)⟩ (show 0 ≤ 0 by omega) (show 0 ≤ 0 by omega) dX6_readMarked_157
theorem flX6_readMarked_156 : FL wsX6_readMarked RX6 156 6 9 := ⟨RX6, TX6, 45, rfl, by decide, by decide +kernel, by decide +kernel⟩
theorem fsX6_readMarked_156 : FS wsX6_readMarked RX6 156 6 9 false (.int) := ⟨RX6, TX6, 45, tyX6, rfl, by decide, by decide +kernel, by decide +kernel, tyX6_ok, nmX6, rfl, rfl, rfl⟩
set_option maxHeartbeats 4000000 in
set_option maxRecDepth 100000 in
theorem s_m46 {t : Nat → Nat} {ln aS : Nat} {w0 : pW} {fs0 : List Value} {A : Nat → Nat} {mm : Nat} {R : Nat × Nat × RSt} (hAD : AD A mm) (ht : ∀ j, t j < 256) (hln : ln ≤ 2400) {w : pW} {fs : List Value} (hmm : w mm = some (.inr (6, fs))) (hA : RA A fs) (hfr : FrI A [mm] [10, 11, 12, 13, 14, 15, 16, 17, 18, 19] w0 w) (hff : FF [5, 8, 9, 22, 24, 25, 26, 27, 28, 29, 30, 31] fs0 fs) {a tkn sg mr cu rep np oc ev be cq st me pa : Nat} {nu : Int32} {f : Nat → Int32} {xk xm : Nat → Nat} {xp : Nat → Int32} {xb xs xe xg : Nat → Nat} {xl xi xc : Nat → Int32} {sd : Nat} {mkd : Bool} (h5 : fs[5]? = some (.int (nI ev))) (h6 : fs[6]? = some (.int (nI me))) (h8 : fs[8]? = some (.int (nI be))) (h9 : fs[9]? = some (.int (nI cu))) (h23 : fs[23]? = some (.int (nI ln))) (h29 : fs[29]? = some (.int (nI 0))) (h31 : fs[31]? = some (.int (nI mr))) (h22 : fs[22]? = some (.int (nI ((tk t ln a).1)))) (h24 : fs[24]? = some (.int (nI tkn))) (h25 : fs[25]? = some (.int (nI sg))) (h26 : fs[26]? = some (.int nu)) (h27 : fs[27]? = some (.int (nI a))) (h28 : fs[28]? = some (.int (nI ((tk t ln a).1)))) (a1 : w (A 1) = some (.inl (0, 2400, .inl (fun j9 => nI (t j9))))) (a10 : w (A 10) = some (.inl (0, 100, .inl (fun j9 => nI (xk j9))))) (a11 : w (A 11) = some (.inl (0, 100, .inl (fun j9 => nI (xm j9))))) (a12 : w (A 12) = some (.inl (0, 400, .inl xp))) (a13 : w (A 13) = some (.inl (0, 100, .inl (fun j9 => nI (xb j9))))) (a14 : w (A 14) = some (.inl (0, 100, .inl (fun j9 => nI (xs j9))))) (a15 : w (A 15) = some (.inl (0, 100, .inl (fun j9 => nI (xe j9))))) (a16 : w (A 16) = some (.inl (0, 100, .inl (fun j9 => nI (xg j9))))) (a17 : w (A 17) = some (.inl (0, 100, .inl xl))) (a18 : w (A 18) = some (.inl (2, 100, .inl xi))) (a19 : w (A 19) = some (.inl (2, 100, .inl xc))) (hT : TS tkn sg (tkK t ln a)) (hN : NS nu (tkK t ln a) (tkV t ln a) ((tk t ln a).1 - a)) (hR : R = rR t ln a (sd, mr, cu, mkd, false, rep, np, oc, f, ev, be, cq, st, me, pa)) (hI : RJ (sd, mr, cu, mkd, false, rep, np, oc, f, ev, be, cq, st, me, pa)) (ha : a ≤ ln + 1) (haS : aS ≤ a) (hTB : TBL xk xm xp xb xs xe xg xl xi xc f ev) (hsd5 : sd = 1 ∨ sd = 2 ∨ sd = 4 ∨ sd = 8 ∨ sd = 16) (hkc : sd = 16 ∨ (tkK t ln a = 33 ∨ tkK t ln a = 2 ∨ tkK t ln a = 40 ∨ tkK t ln a = 126 ∨ tkK t ln a = 114)) : J ((cX6_readMarked, RX6, 5, wsX6_readMarked), (rX6_readMarked, none, "readMarked", []), fun o w9 => o = .inl none ∧ ∃ fs9 : List Value, MU A mm [10, 11, 12, 13, 14, 15, 16, 17, 18, 19] [5, 8, 9, 22, 24, 25, 26, 27, 28, 29, 30, 31] w0 w9 fs0 fs9 ∧ ∃ (xk xm : Nat → Nat) (xp : Nat → Int32) (xb xs xe xg : Nat → Nat) (xl xi xc : Nat → Int32), TA A w9 xk xm xp xb xs xe xg xl xi xc ∧ (RFl fs9 R ∨ ∃ (a9 mr9 cu9 np9 oc9 : Nat) (f9 : Nat → Int32) (ev9 be9 cq9 st9 : Nat), aS < a9 ∧ a9 ≤ ln + 1 ∧ R = rR t ln a9 (8, mr9, cu9, false, false, rep, np9, oc9, f9, ev9, be9, cq9, st9, me, pa) ∧ RJ (8, mr9, cu9, false, false, rep, np9, oc9, f9, ev9, be9, cq9, st9, me, pa) ∧ fs9[5]? = some (.int (nI ev9)) ∧ fs9[8]? = some (.int (nI be9)) ∧ fs9[9]? = some (.int (nI cu9)) ∧ fs9[29]? = some (.int (nI 0)) ∧ fs9[31]? = some (.int (nI mr9)) ∧ AtT t ln a9 fs9 ∧ TBL xk xm xp xb xs xe xg xl xi xc f9 ev9), fun _ _ _ => True) 46 [(0, .ref mm), (1, .int (nI pa)), (2, .int (zb mkd))] [] w 0 0 := by
  have hTb := hT.1
  obtain ⟨i1, i2, i3, i4, i5, i6, i7⟩ := id hI.1
  refine j_aload_n dX6_readMarked_46 0 rfl ?_
  refine j_get (v := .int (nI 0)) flX6_readMarked_124 hmm h29 dX6_readMarked_47 ?_
  refine j_if_neN 66 (by decide) dX6_readMarked_50 (by decide) (fun h9 => absurd rfl h9) (fun _ => ?_)
  refine j_aload_n dX6_readMarked_53 0 rfl ?_
  refine j_bipush (v := nI 33) dX6_readMarked_54 (by decide) ?_
  refine j_callV (rm := rX6_isSign) (As := [.int (nI 33)]) (st := []) (b0 := mm) (ci := 6) (na := 1) (m_isSign (c := 33) hAD hmm hA h24 h25 hT rfl (by decide)) (by intro E w9 h9; first | exact nomatch h9.1 | (obtain ⟨_, h9, _⟩ := h9; exact nomatch h9) | (obtain ⟨_, _, _, h9, _⟩ := h9; exact nomatch h9)) gX6_readMarked_X6_isSign rfl rfl hmm (by decide +kernel) rfl ⟨Nat.le_of_ble_eq_true rfl, Nat.le_of_ble_eq_true rfl⟩ rfl (Nat.le_of_ble_eq_true rfl) dX6_readMarked_56 ⟨(show 0 + 0 ≤ 0 by omega), (show 0 + 0 ≤ 0 by omega)⟩ (fun v1 w2 h3 => ?_)
  obtain ⟨h3, h4⟩ := h3
  cases h3
  subst w2
  refine j_after (st' := [.int (zb (decide (tkK t ln a = 33)))]) (k' := 0) (n' := 0) rfl rfl rfl ?_
  by_cases hk33 : tkK t ln a = 33
  · skip
    refine j_eqi (y := nI 1) (by rw [decide_eq_true hk33]; rfl) ?_
    refine j_if_eqN 66 (by decide) dX6_readMarked_59 (by decide) (fun h9 => absurd h9 (by decide)) (fun _ => ?_)
    refine j_iconst (v := nI 1) dX6_readMarked_62 (by decide) ?_
    refine j_goto 67 dX6_readMarked_63 (by decide) ?_
    refine j_istore_n (lv' := [(3, .int (nI 1)), (0, .ref mm), (1, .int (nI pa)), (2, .int (zb mkd))]) dX6_readMarked_67 (Nat.le_of_ble_eq_true rfl) rfl ?_
    refine j_iload_n dX6_readMarked_68 0 rfl ?_
    refine j_if_eqN 107 (by decide) dX6_readMarked_69 (by decide) (fun h9 => absurd h9 (by decide)) (fun _ => ?_)
    refine j_aload_n dX6_readMarked_72 1 rfl ?_
    refine j_get (v := .int (nI cu)) flX6_readMarked_156 hmm h9 dX6_readMarked_73 ?_
    refine j_bipush (v := nI 20) dX6_readMarked_76 (by decide) ?_
    refine j_icmp_neN 86 (by omega) (by omega) dX6_readMarked_78 (by decide) (fun c78 => ?_) (fun c78 => ?_)
    · skip
      refine j_aload_n dX6_readMarked_86 1 rfl ?_
      refine j_dup dX6_readMarked_87 rfl ?_
      refine j_get (v := .int (nI cu)) flX6_readMarked_156 hmm h9 dX6_readMarked_88 ?_
      refine j_iconst (v := nI 1) dX6_readMarked_91 (by decide) ?_
      refine j_iaddN dX6_readMarked_92 ?_
      refine j_putM fsX6_readMarked_156 hmm rfl rfl (RA.lt hA (by decide)) dX6_readMarked_93 (fun w5 fs6 sfs6 hw5 => ?_)
      have f7 : w5 mm = some (.inr (6, fs6)) := up_at hw5
      have rfs6 : RA A fs6 := RA.set hA sfs6 rfl
      have v8 := st_at sfs6 hA (by decide : 9 < 45)
      refine j_aload_n dX6_readMarked_96 1 rfl ?_
      have v9 := (st_ne sfs6 rfl h29)
      refine j_get (v := .int (nI 0)) flX6_readMarked_124 f7 v9 dX6_readMarked_97 ?_
      refine j_if_neN 107 (by decide) dX6_readMarked_100 (by decide) (fun h9 => absurd rfl h9) (fun _ => ?_)
      obtain ⟨hR10, hI11, hb12, hl13⟩ := rR_go (s1 := (32, mr, cu + 1, mkd, true, rep, np, oc, f, ev, be, cq, st, me, pa)) ht hR ((f33 hk33 hsd5).trans (if_neg (by omega))) (by omega) (by rw [hk33]; rfl) hI ha
      refine j_aload_n dX6_readMarked_103 1 rfl ?_
      obtain ⟨az14, haz14⟩ : ∃ z, tkN t ln a = z := ⟨_, rfl⟩
      have v26 := (st_ne sfs6 rfl h22)
      have v27 := (st_ne sfs6 rfl h23)
      have v28 := (st_ne sfs6 rfl h26)
      have f29 := (up_ne hw5 (AD.nm hAD 1 rfl) a1)
      refine j_callV (rm := rX6_next) (As := []) (st := []) (b0 := mm) (ci := 6) (na := 0) (m_next1 (a := az14) hAD f7 rfs6 v26 v27 v28 f29 ht hln (tkN_bd ha).2.1 haz14) (by intro E w9 h9; first | exact nomatch h9.1 | (obtain ⟨_, h9, _⟩ := h9; exact nomatch h9) | (obtain ⟨_, _, _, h9, _⟩ := h9; exact nomatch h9)) gX6_readMarked_X6_next rfl rfl f7 (by decide +kernel) rfl ⟨Nat.le_of_ble_eq_true rfl, Nat.le_of_ble_eq_true rfl⟩ rfl (Nat.le_of_ble_eq_true rfl) dX6_readMarked_104 ⟨(show 0 + 0 ≤ 0 by omega), (show 0 + 0 ≤ 0 by omega)⟩ (fun v35 w36 h37 => ?_)
      obtain ⟨h34, fs30, ⟨hfr31, hm32, hff33⟩, ⟨tkn15, sg16, nu17, v20, v21, v22, v23, v24, v25, hT18, hN19⟩⟩ := h37
      cases h34
      refine j_after (st' := []) (k' := 0) (n' := 0) rfl rfl rfl ?_
      have r38 : RA A fs30 := RA.ff rfs6 hff33 rfl
      have hT18b := hT18.1
      rw [haz14] at hR10 hb12 hl13
      refine j_lv (lv' := [(0, .ref mm), (1, .int (nI pa)), (2, .int (zb mkd)), (3, .int (zb true))]) [1, 2, 3, 0] rfl ?_
      have v39 := (FF.at hff33 rfl (st_ne sfs6 rfl h5))
      have v40 := (FF.at hff33 rfl (st_ne sfs6 rfl h6))
      have v41 := (FF.at hff33 rfl (st_ne sfs6 rfl h8))
      have v42 := (FF.at hff33 rfl v8)
      have v43 := (FF.at hff33 rfl v27)
      have v44 := (FF.at hff33 rfl v9)
      have v45 := (FF.at hff33 rfl (st_ne sfs6 rfl h31))
      have f46 := (FrI.a1 hfr31 hAD rfl rfl rfl f29)
      have f47 := (FrI.a1 hfr31 hAD rfl rfl rfl (up_ne hw5 (AD.nm hAD 10 rfl) a10))
      have f48 := (FrI.a1 hfr31 hAD rfl rfl rfl (up_ne hw5 (AD.nm hAD 11 rfl) a11))
      have f49 := (FrI.a1 hfr31 hAD rfl rfl rfl (up_ne hw5 (AD.nm hAD 12 rfl) a12))
      have f50 := (FrI.a1 hfr31 hAD rfl rfl rfl (up_ne hw5 (AD.nm hAD 13 rfl) a13))
      have f51 := (FrI.a1 hfr31 hAD rfl rfl rfl (up_ne hw5 (AD.nm hAD 14 rfl) a14))
      have f52 := (FrI.a1 hfr31 hAD rfl rfl rfl (up_ne hw5 (AD.nm hAD 15 rfl) a15))
      have f53 := (FrI.a1 hfr31 hAD rfl rfl rfl (up_ne hw5 (AD.nm hAD 16 rfl) a16))
      have f54 := (FrI.a1 hfr31 hAD rfl rfl rfl (up_ne hw5 (AD.nm hAD 17 rfl) a17))
      have f55 := (FrI.a1 hfr31 hAD rfl rfl rfl (up_ne hw5 (AD.nm hAD 18 rfl) a18))
      have f56 := (FrI.a1 hfr31 hAD rfl rfl rfl (up_ne hw5 (AD.nm hAD 19 rfl) a19))
      exact s_m107 hAD ht hln hm32 r38 (((FrI.mono hfr (by simp) rfl : FrI A [mm] [10, 11, 12, 13, 14, 15, 16, 17, 18, 19] w0 _).trans (FrI.ux hw5 (by simp))).trans (FrI.sub hfr31 rfl)) (((FF.mono hff rfl : FF [5, 8, 9, 22, 24, 25, 26, 27, 28, 29, 30, 31] fs0 _).trans (FF.set sfs6 rfl)).trans (FF.mono hff33 rfl)) v39 v40 v41 v42 v43 v44 v45 v20 v21 v22 v23 v24 v25 f46 f47 f48 f49 f50 f51 f52 f53 f54 f55 f56 hT18 hN19 hR10 hI11 hb12 (by omega) hTB (by omega) (by omega)
    · skip
      have hbd57 := rR_bad (b := 2) hR ((f33 hk33 hsd5).trans (if_pos (by omega))) (by decide)
      refine j_aload_n dX6_readMarked_81 1 rfl ?_
      refine j_iconst (v := nI 2) dX6_readMarked_82 (by decide) ?_
      refine j_callV (rm := rX6_wrong) (As := [.int (nI 2)]) (st := []) (b0 := mm) (ci := 6) (na := 1) (m_wrong0 (k := 2) hAD hmm hA h29 h27) (by intro E w9 h9; first | exact nomatch h9.1 | (obtain ⟨_, h9, _⟩ := h9; exact nomatch h9) | (obtain ⟨_, _, _, h9, _⟩ := h9; exact nomatch h9)) gX6_readMarked_X6_wrong rfl rfl hmm (by decide +kernel) rfl ⟨Nat.le_of_ble_eq_true rfl, Nat.le_of_ble_eq_true rfl⟩ rfl (Nat.le_of_ble_eq_true rfl) dX6_readMarked_83 ⟨(show 0 + 0 ≤ 0 by omega), (show 0 + 0 ≤ 0 by omega)⟩ (fun v65 w66 h67 => ?_)
      obtain ⟨h64, fs60, ⟨hfr61, hm62, hff63⟩, v58, v59⟩ := h67
      cases h64
      refine j_after (st' := []) (k' := 0) (n' := 0) rfl rfl rfl ?_
      have r68 : RA A fs60 := RA.ff hA hff63 rfl
      refine j_aload_n dX6_readMarked_86 1 rfl ?_
      refine j_dup dX6_readMarked_87 rfl ?_
      have v69 := (FF.at hff63 rfl h9)
      refine j_get (v := .int (nI cu)) flX6_readMarked_156 hm62 v69 dX6_readMarked_88 ?_
      refine j_iconst (v := nI 1) dX6_readMarked_91 (by decide) ?_
      refine j_iaddN dX6_readMarked_92 ?_
      refine j_putM fsX6_readMarked_156 hm62 rfl rfl (RA.lt r68 (by decide)) dX6_readMarked_93 (fun w70 fs71 sfs71 hw70 => ?_)
      have f72 : w70 mm = some (.inr (6, fs71)) := up_at hw70
      have rfs71 : RA A fs71 := RA.set r68 sfs71 rfl
      have v73 := st_at sfs71 r68 (by decide : 9 < 45)
      refine j_aload_n dX6_readMarked_96 1 rfl ?_
      have v74 := (st_ne sfs71 rfl v58)
      refine j_get (v := .int (nI 2)) flX6_readMarked_124 f72 v74 dX6_readMarked_97 ?_
      refine j_if_neN 107 (by decide) dX6_readMarked_100 (by decide) (fun _ => ?_) (fun h9 => absurd h9 (by decide))
      refine j_aload_n dX6_readMarked_107 1 rfl ?_
      refine j_get (v := .int (nI 2)) flX6_readMarked_124 f72 v74 dX6_readMarked_108 ?_
      refine j_if_neN 129 (by decide) dX6_readMarked_111 (by decide) (fun _ => ?_) (fun h9 => absurd h9 (by decide))
      refine j_aload_n dX6_readMarked_129 1 rfl ?_
      refine j_get (v := .int (nI 2)) flX6_readMarked_124 f72 v74 dX6_readMarked_130 ?_
      refine j_if_neN 150 (by decide) dX6_readMarked_133 (by decide) (fun _ => ?_) (fun h9 => absurd h9 (by decide))
      refine j_aload_n dX6_readMarked_150 1 rfl ?_
      refine j_get (v := .int (nI 2)) flX6_readMarked_124 f72 v74 dX6_readMarked_151 ?_
      refine j_if_eqN 158 (by decide) dX6_readMarked_154 (by decide) (fun h9 => absurd h9 (by decide)) (fun _ => ?_)
      have f75 := (up_ne hw70 (AD.nm hAD 10 rfl) (FrI.a1 hfr61 hAD rfl rfl rfl a10))
      have f76 := (up_ne hw70 (AD.nm hAD 11 rfl) (FrI.a1 hfr61 hAD rfl rfl rfl a11))
      have f77 := (up_ne hw70 (AD.nm hAD 12 rfl) (FrI.a1 hfr61 hAD rfl rfl rfl a12))
      have f78 := (up_ne hw70 (AD.nm hAD 13 rfl) (FrI.a1 hfr61 hAD rfl rfl rfl a13))
      have f79 := (up_ne hw70 (AD.nm hAD 14 rfl) (FrI.a1 hfr61 hAD rfl rfl rfl a14))
      have f80 := (up_ne hw70 (AD.nm hAD 15 rfl) (FrI.a1 hfr61 hAD rfl rfl rfl a15))
      have f81 := (up_ne hw70 (AD.nm hAD 16 rfl) (FrI.a1 hfr61 hAD rfl rfl rfl a16))
      have f82 := (up_ne hw70 (AD.nm hAD 17 rfl) (FrI.a1 hfr61 hAD rfl rfl rfl a17))
      have f83 := (up_ne hw70 (AD.nm hAD 18 rfl) (FrI.a1 hfr61 hAD rfl rfl rfl a18))
      have f84 := (up_ne hw70 (AD.nm hAD 19 rfl) (FrI.a1 hfr61 hAD rfl rfl rfl a19))
      have v85 := (st_ne sfs71 rfl v59)
      exact j_vret rfl ⟨rfl, _, ⟨(((FrI.mono hfr (by simp) rfl : FrI A [mm] [10, 11, 12, 13, 14, 15, 16, 17, 18, 19] w0 _).trans (FrI.sub hfr61 rfl)).trans (FrI.ux hw70 (by simp))), f72, (((FF.mono hff rfl : FF [5, 8, 9, 22, 24, 25, 26, 27, 28, 29, 30, 31] fs0 _).trans (FF.mono hff63 rfl)).trans (FF.set sfs71 rfl))⟩, _, _, _, _, _, _, _, _, _, _, ⟨f75, f76, f77, f78, f79, f80, f81, f82, f83, f84⟩, Or.inl (RFl.mk hbd57 ⟨by decide, by decide⟩ v74 v85)⟩ (show 0 ≤ 0 by omega) (show 0 ≤ 0 by omega) dX6_readMarked_157
  · skip
    refine j_eqi (y := nI 0) (by rw [decide_eq_false hk33]; rfl) ?_
    refine j_if_eqN 66 (by decide) dX6_readMarked_59 (by decide) (fun _ => ?_) (fun h9 => absurd rfl h9)
    refine j_iconst (v := nI 0) dX6_readMarked_66 (by decide) ?_
    refine j_istore_n (lv' := [(3, .int (nI 0)), (0, .ref mm), (1, .int (nI pa)), (2, .int (zb mkd))]) dX6_readMarked_67 (Nat.le_of_ble_eq_true rfl) rfl ?_
    refine j_iload_n dX6_readMarked_68 0 rfl ?_
    refine j_if_eqN 107 (by decide) dX6_readMarked_69 (by decide) (fun _ => ?_) (fun h9 => absurd rfl h9)
    refine j_lv (lv' := [(0, .ref mm), (1, .int (nI pa)), (2, .int (zb mkd)), (3, .int (zb false))]) [1, 2, 3, 0] rfl ?_
    exact s_m107 hAD ht hln hmm hA (FrI.mono hfr (by simp) rfl : FrI A [mm] [10, 11, 12, 13, 14, 15, 16, 17, 18, 19] w0 _) (FF.mono hff rfl : FF [5, 8, 9, 22, 24, 25, 26, 27, 28, 29, 30, 31] fs0 _) h5 h6 h8 h9 h23 h29 h31 h22 h24 h25 h26 h27 h28 a1 a10 a11 a12 a13 a14 a15 a16 a17 a18 a19 hT hN hR hI ha (by omega) hTB (by omega) (by omega)
theorem flX6_readMarked_159 : FL wsX6_readMarked RX6 159 6 31 := ⟨RX6, TX6, 45, rfl, by decide, by decide +kernel, by decide +kernel⟩
theorem fsX6_readMarked_159 : FS wsX6_readMarked RX6 159 6 31 false (.int) := ⟨RX6, TX6, 45, tyX6, rfl, by decide, by decide +kernel, by decide +kernel, tyX6_ok, nmX6, rfl, rfl, rfl⟩
set_option maxHeartbeats 4000000 in
set_option maxRecDepth 100000 in
theorem m_readMarked {t : Nat → Nat} {ln : Nat} {R : Nat × Nat × RSt} {a tkn sg mr cu rep np oc ev be cq st me pa : Nat} {nu : Int32} {f : Nat → Int32} {xk xm : Nat → Nat} {xp : Nat → Int32} {xb xs xe xg : Nat → Nat} {xl xi xc : Nat → Int32} {sd : Nat} {w : pW} {A : Nat → Nat} {mm : Nat} {fs : List Value} (hAD : AD A mm) (hmm : w mm = some (.inr (6, fs))) (hA : RA A fs) (h5 : fs[5]? = some (.int (nI ev))) (h6 : fs[6]? = some (.int (nI me))) (h8 : fs[8]? = some (.int (nI be))) (h9 : fs[9]? = some (.int (nI cu))) (h23 : fs[23]? = some (.int (nI ln))) (h29 : fs[29]? = some (.int (nI 0))) (h31 : fs[31]? = some (.int (nI mr))) (h22 : fs[22]? = some (.int (nI ((tk t ln a).1)))) (h24 : fs[24]? = some (.int (nI tkn))) (h25 : fs[25]? = some (.int (nI sg))) (h26 : fs[26]? = some (.int nu)) (h27 : fs[27]? = some (.int (nI a))) (h28 : fs[28]? = some (.int (nI ((tk t ln a).1)))) (a1 : w (A 1) = some (.inl (0, 2400, .inl (fun j9 => nI (t j9))))) (a10 : w (A 10) = some (.inl (0, 100, .inl (fun j9 => nI (xk j9))))) (a11 : w (A 11) = some (.inl (0, 100, .inl (fun j9 => nI (xm j9))))) (a12 : w (A 12) = some (.inl (0, 400, .inl xp))) (a13 : w (A 13) = some (.inl (0, 100, .inl (fun j9 => nI (xb j9))))) (a14 : w (A 14) = some (.inl (0, 100, .inl (fun j9 => nI (xs j9))))) (a15 : w (A 15) = some (.inl (0, 100, .inl (fun j9 => nI (xe j9))))) (a16 : w (A 16) = some (.inl (0, 100, .inl (fun j9 => nI (xg j9))))) (a17 : w (A 17) = some (.inl (0, 100, .inl xl))) (a18 : w (A 18) = some (.inl (2, 100, .inl xi))) (a19 : w (A 19) = some (.inl (2, 100, .inl xc))) (ht : ∀ j, t j < 256) (hln : ln ≤ 2400) (hT : TS tkn sg (tkK t ln a)) (hN : NS nu (tkK t ln a) (tkV t ln a) ((tk t ln a).1 - a)) (hR : R = rR t ln a (sd, mr, cu, false, false, rep, np, oc, f, ev, be, cq, st, me, pa)) (hI : RJ (sd, mr, cu, false, false, rep, np, oc, f, ev, be, cq, st, me, pa)) (ha : a ≤ ln + 1) (hTB : TBL xk xm xp xb xs xe xg xl xi xc f ev) (hsd4 : sd = 1 ∨ sd = 2 ∨ sd = 4 ∨ sd = 8) (hbM : bM (tkK t ln a) = true) : Ct yX6_readMarked wsX6_readMarked rX6_readMarked [.ref mm, .int (nI pa)] w (fun o w9 => o = .inl none ∧ ∃ fs9 : List Value, MU A mm [10, 11, 12, 13, 14, 15, 16, 17, 18, 19] [5, 8, 9, 22, 24, 25, 26, 27, 28, 29, 30, 31] w w9 fs fs9 ∧ ∃ (xk xm : Nat → Nat) (xp : Nat → Int32) (xb xs xe xg : Nat → Nat) (xl xi xc : Nat → Int32), TA A w9 xk xm xp xb xs xe xg xl xi xc ∧ (RFl fs9 R ∨ ∃ (a9 mr9 cu9 np9 oc9 : Nat) (f9 : Nat → Int32) (ev9 be9 cq9 st9 : Nat), a < a9 ∧ a9 ≤ ln + 1 ∧ R = rR t ln a9 (8, mr9, cu9, false, false, rep, np9, oc9, f9, ev9, be9, cq9, st9, me, pa) ∧ RJ (8, mr9, cu9, false, false, rep, np9, oc9, f9, ev9, be9, cq9, st9, me, pa) ∧ fs9[5]? = some (.int (nI ev9)) ∧ fs9[8]? = some (.int (nI be9)) ∧ fs9[9]? = some (.int (nI cu9)) ∧ fs9[29]? = some (.int (nI 0)) ∧ fs9[31]? = some (.int (nI mr9)) ∧ AtT t ln a9 fs9 ∧ TBL xk xm xp xb xs xe xg xl xi xc f9 ev9)) := by
  refine Ct.of (cc := cX6_readMarked) (own := RX6) (nm := "readMarked") (nL := 5) (ret := none) (by decide +kernel) rfl rfl rfl (Nat.le_of_ble_eq_true rfl) ?_
  refine j_lvE (lv' := [(0, .ref mm), (1, .int (nI pa))]) rfl ?_
  have hTb := hT.1
  obtain ⟨i1, i2, i3, i4, i5, i6, i7⟩ := id hI.1
  have hbm := of_decide_eq_true hbM
  refine j_aload_n dX6_readMarked_0 0 rfl ?_
  refine j_bipush (v := nI 64) dX6_readMarked_1 (by decide) ?_
  refine j_callV (rm := rX6_isSign) (As := [.int (nI 64)]) (st := []) (b0 := mm) (ci := 6) (na := 1) (m_isSign (c := 64) hAD hmm hA h24 h25 hT rfl (by decide)) (by intro E w9 h9; first | exact nomatch h9.1 | (obtain ⟨_, h9, _⟩ := h9; exact nomatch h9) | (obtain ⟨_, _, _, h9, _⟩ := h9; exact nomatch h9)) gX6_readMarked_X6_isSign rfl rfl hmm (by decide +kernel) rfl ⟨Nat.le_of_ble_eq_true rfl, Nat.le_of_ble_eq_true rfl⟩ rfl (Nat.le_of_ble_eq_true rfl) dX6_readMarked_3 ⟨(show 0 + 0 ≤ 0 by omega), (show 0 + 0 ≤ 0 by omega)⟩ (fun v1 w2 h3 => ?_)
  obtain ⟨h3, h4⟩ := h3
  cases h3
  subst w2
  refine j_after (st' := [.int (zb (decide (tkK t ln a = 64)))]) (k' := 0) (n' := 0) rfl rfl rfl ?_
  by_cases hk64 : tkK t ln a = 64
  · skip
    refine j_eqi (y := nI 1) (by rw [decide_eq_true hk64]; rfl) ?_
    refine j_istore_n (lv' := [(2, .int (nI 1)), (0, .ref mm), (1, .int (nI pa))]) dX6_readMarked_6 (Nat.le_of_ble_eq_true rfl) rfl ?_
    refine j_iload_n dX6_readMarked_7 0 rfl ?_
    refine j_if_eqN 46 (by decide) dX6_readMarked_8 (by decide) (fun h9 => absurd h9 (by decide)) (fun _ => ?_)
    refine j_aload_n dX6_readMarked_11 1 rfl ?_
    refine j_get (v := .int (nI mr)) flX6_readMarked_159 hmm h31 dX6_readMarked_12 ?_
    refine j_bipush (v := nI 10) dX6_readMarked_15 (by decide) ?_
    refine j_icmp_neN 25 (by omega) (by omega) dX6_readMarked_17 (by decide) (fun c17 => ?_) (fun c17 => ?_)
    · skip
      refine j_aload_n dX6_readMarked_25 1 rfl ?_
      refine j_dup dX6_readMarked_26 rfl ?_
      refine j_get (v := .int (nI mr)) flX6_readMarked_159 hmm h31 dX6_readMarked_27 ?_
      refine j_iconst (v := nI 1) dX6_readMarked_30 (by decide) ?_
      refine j_iaddN dX6_readMarked_31 ?_
      refine j_putM fsX6_readMarked_159 hmm rfl rfl (RA.lt hA (by decide)) dX6_readMarked_32 (fun w5 fs6 sfs6 hw5 => ?_)
      have f7 : w5 mm = some (.inr (6, fs6)) := up_at hw5
      have rfs6 : RA A fs6 := RA.set hA sfs6 rfl
      have v8 := st_at sfs6 hA (by decide : 31 < 45)
      refine j_aload_n dX6_readMarked_35 1 rfl ?_
      have v9 := (st_ne sfs6 rfl h29)
      refine j_get (v := .int (nI 0)) flX6_readMarked_124 f7 v9 dX6_readMarked_36 ?_
      refine j_if_neN 46 (by decide) dX6_readMarked_39 (by decide) (fun h9 => absurd rfl h9) (fun _ => ?_)
      obtain ⟨hR10, hI11, hb12, hl13⟩ := rR_go (s1 := (16, mr + 1, cu, true, false, rep, np, oc, f, ev, be, cq, st, me, pa)) ht hR ((f64 hk64 hsd4).trans (if_neg (by omega))) (by omega) (by rw [hk64]; rfl) hI ha
      refine j_aload_n dX6_readMarked_42 1 rfl ?_
      obtain ⟨az14, haz14⟩ : ∃ z, tkN t ln a = z := ⟨_, rfl⟩
      have v26 := (st_ne sfs6 rfl h22)
      have v27 := (st_ne sfs6 rfl h23)
      have v28 := (st_ne sfs6 rfl h26)
      have f29 := (up_ne hw5 (AD.nm hAD 1 rfl) a1)
      refine j_callV (rm := rX6_next) (As := []) (st := []) (b0 := mm) (ci := 6) (na := 0) (m_next1 (a := az14) hAD f7 rfs6 v26 v27 v28 f29 ht hln (tkN_bd ha).2.1 haz14) (by intro E w9 h9; first | exact nomatch h9.1 | (obtain ⟨_, h9, _⟩ := h9; exact nomatch h9) | (obtain ⟨_, _, _, h9, _⟩ := h9; exact nomatch h9)) gX6_readMarked_X6_next rfl rfl f7 (by decide +kernel) rfl ⟨Nat.le_of_ble_eq_true rfl, Nat.le_of_ble_eq_true rfl⟩ rfl (Nat.le_of_ble_eq_true rfl) dX6_readMarked_43 ⟨(show 0 + 0 ≤ 0 by omega), (show 0 + 0 ≤ 0 by omega)⟩ (fun v35 w36 h37 => ?_)
      obtain ⟨h34, fs30, ⟨hfr31, hm32, hff33⟩, ⟨tkn15, sg16, nu17, v20, v21, v22, v23, v24, v25, hT18, hN19⟩⟩ := h37
      cases h34
      refine j_after (st' := []) (k' := 0) (n' := 0) rfl rfl rfl ?_
      have r38 : RA A fs30 := RA.ff rfs6 hff33 rfl
      have hT18b := hT18.1
      rw [haz14] at hR10 hb12 hl13
      refine j_lv (lv' := [(0, .ref mm), (1, .int (nI pa)), (2, .int (zb true))]) [1, 2, 0] rfl ?_
      have v39 := (FF.at hff33 rfl (st_ne sfs6 rfl h5))
      have v40 := (FF.at hff33 rfl (st_ne sfs6 rfl h6))
      have v41 := (FF.at hff33 rfl (st_ne sfs6 rfl h8))
      have v42 := (FF.at hff33 rfl (st_ne sfs6 rfl h9))
      have v43 := (FF.at hff33 rfl v27)
      have v44 := (FF.at hff33 rfl v9)
      have v45 := (FF.at hff33 rfl v8)
      have f46 := (FrI.a1 hfr31 hAD rfl rfl rfl f29)
      have f47 := (FrI.a1 hfr31 hAD rfl rfl rfl (up_ne hw5 (AD.nm hAD 10 rfl) a10))
      have f48 := (FrI.a1 hfr31 hAD rfl rfl rfl (up_ne hw5 (AD.nm hAD 11 rfl) a11))
      have f49 := (FrI.a1 hfr31 hAD rfl rfl rfl (up_ne hw5 (AD.nm hAD 12 rfl) a12))
      have f50 := (FrI.a1 hfr31 hAD rfl rfl rfl (up_ne hw5 (AD.nm hAD 13 rfl) a13))
      have f51 := (FrI.a1 hfr31 hAD rfl rfl rfl (up_ne hw5 (AD.nm hAD 14 rfl) a14))
      have f52 := (FrI.a1 hfr31 hAD rfl rfl rfl (up_ne hw5 (AD.nm hAD 15 rfl) a15))
      have f53 := (FrI.a1 hfr31 hAD rfl rfl rfl (up_ne hw5 (AD.nm hAD 16 rfl) a16))
      have f54 := (FrI.a1 hfr31 hAD rfl rfl rfl (up_ne hw5 (AD.nm hAD 17 rfl) a17))
      have f55 := (FrI.a1 hfr31 hAD rfl rfl rfl (up_ne hw5 (AD.nm hAD 18 rfl) a18))
      have f56 := (FrI.a1 hfr31 hAD rfl rfl rfl (up_ne hw5 (AD.nm hAD 19 rfl) a19))
      exact s_m46 hAD ht hln hm32 r38 (((FrI.refl : FrI A [mm] [10, 11, 12, 13, 14, 15, 16, 17, 18, 19] w w).trans (FrI.ux hw5 (by simp))).trans (FrI.sub hfr31 rfl)) (((FF.refl : FF [5, 8, 9, 22, 24, 25, 26, 27, 28, 29, 30, 31] fs fs).trans (FF.set sfs6 rfl)).trans (FF.mono hff33 rfl)) v39 v40 v41 v42 v43 v44 v45 v20 v21 v22 v23 v24 v25 f46 f47 f48 f49 f50 f51 f52 f53 f54 f55 f56 hT18 hN19 hR10 hI11 hb12 (by omega) hTB (by omega) (by omega)
    · skip
      have hbd57 := rR_bad (b := 2) hR ((f64 hk64 hsd4).trans (if_pos (by omega))) (by decide)
      refine j_aload_n dX6_readMarked_20 1 rfl ?_
      refine j_iconst (v := nI 2) dX6_readMarked_21 (by decide) ?_
      refine j_callV (rm := rX6_wrong) (As := [.int (nI 2)]) (st := []) (b0 := mm) (ci := 6) (na := 1) (m_wrong0 (k := 2) hAD hmm hA h29 h27) (by intro E w9 h9; first | exact nomatch h9.1 | (obtain ⟨_, h9, _⟩ := h9; exact nomatch h9) | (obtain ⟨_, _, _, h9, _⟩ := h9; exact nomatch h9)) gX6_readMarked_X6_wrong rfl rfl hmm (by decide +kernel) rfl ⟨Nat.le_of_ble_eq_true rfl, Nat.le_of_ble_eq_true rfl⟩ rfl (Nat.le_of_ble_eq_true rfl) dX6_readMarked_22 ⟨(show 0 + 0 ≤ 0 by omega), (show 0 + 0 ≤ 0 by omega)⟩ (fun v65 w66 h67 => ?_)
      obtain ⟨h64, fs60, ⟨hfr61, hm62, hff63⟩, v58, v59⟩ := h67
      cases h64
      refine j_after (st' := []) (k' := 0) (n' := 0) rfl rfl rfl ?_
      have r68 : RA A fs60 := RA.ff hA hff63 rfl
      refine j_aload_n dX6_readMarked_25 1 rfl ?_
      refine j_dup dX6_readMarked_26 rfl ?_
      have v69 := (FF.at hff63 rfl h31)
      refine j_get (v := .int (nI mr)) flX6_readMarked_159 hm62 v69 dX6_readMarked_27 ?_
      refine j_iconst (v := nI 1) dX6_readMarked_30 (by decide) ?_
      refine j_iaddN dX6_readMarked_31 ?_
      refine j_putM fsX6_readMarked_159 hm62 rfl rfl (RA.lt r68 (by decide)) dX6_readMarked_32 (fun w70 fs71 sfs71 hw70 => ?_)
      have f72 : w70 mm = some (.inr (6, fs71)) := up_at hw70
      have rfs71 : RA A fs71 := RA.set r68 sfs71 rfl
      have v73 := st_at sfs71 r68 (by decide : 31 < 45)
      refine j_aload_n dX6_readMarked_35 1 rfl ?_
      have v74 := (st_ne sfs71 rfl v58)
      refine j_get (v := .int (nI 2)) flX6_readMarked_124 f72 v74 dX6_readMarked_36 ?_
      refine j_if_neN 46 (by decide) dX6_readMarked_39 (by decide) (fun _ => ?_) (fun h9 => absurd h9 (by decide))
      refine j_aload_n dX6_readMarked_46 1 rfl ?_
      refine j_get (v := .int (nI 2)) flX6_readMarked_124 f72 v74 dX6_readMarked_47 ?_
      refine j_if_neN 66 (by decide) dX6_readMarked_50 (by decide) (fun _ => ?_) (fun h9 => absurd h9 (by decide))
      refine j_iconst (v := nI 0) dX6_readMarked_66 (by decide) ?_
      refine j_istore_n (lv' := [(3, .int (nI 0)), (2, .int (nI 1)), (0, .ref mm), (1, .int (nI pa))]) dX6_readMarked_67 (Nat.le_of_ble_eq_true rfl) rfl ?_
      refine j_iload_n dX6_readMarked_68 0 rfl ?_
      refine j_if_eqN 107 (by decide) dX6_readMarked_69 (by decide) (fun _ => ?_) (fun h9 => absurd rfl h9)
      refine j_aload_n dX6_readMarked_107 2 rfl ?_
      refine j_get (v := .int (nI 2)) flX6_readMarked_124 f72 v74 dX6_readMarked_108 ?_
      refine j_if_neN 129 (by decide) dX6_readMarked_111 (by decide) (fun _ => ?_) (fun h9 => absurd h9 (by decide))
      refine j_aload_n dX6_readMarked_129 2 rfl ?_
      refine j_get (v := .int (nI 2)) flX6_readMarked_124 f72 v74 dX6_readMarked_130 ?_
      refine j_if_neN 150 (by decide) dX6_readMarked_133 (by decide) (fun _ => ?_) (fun h9 => absurd h9 (by decide))
      refine j_aload_n dX6_readMarked_150 2 rfl ?_
      refine j_get (v := .int (nI 2)) flX6_readMarked_124 f72 v74 dX6_readMarked_151 ?_
      refine j_if_eqN 158 (by decide) dX6_readMarked_154 (by decide) (fun h9 => absurd h9 (by decide)) (fun _ => ?_)
      have f75 := (up_ne hw70 (AD.nm hAD 10 rfl) (FrI.a1 hfr61 hAD rfl rfl rfl a10))
      have f76 := (up_ne hw70 (AD.nm hAD 11 rfl) (FrI.a1 hfr61 hAD rfl rfl rfl a11))
      have f77 := (up_ne hw70 (AD.nm hAD 12 rfl) (FrI.a1 hfr61 hAD rfl rfl rfl a12))
      have f78 := (up_ne hw70 (AD.nm hAD 13 rfl) (FrI.a1 hfr61 hAD rfl rfl rfl a13))
      have f79 := (up_ne hw70 (AD.nm hAD 14 rfl) (FrI.a1 hfr61 hAD rfl rfl rfl a14))
      have f80 := (up_ne hw70 (AD.nm hAD 15 rfl) (FrI.a1 hfr61 hAD rfl rfl rfl a15))
      have f81 := (up_ne hw70 (AD.nm hAD 16 rfl) (FrI.a1 hfr61 hAD rfl rfl rfl a16))
      have f82 := (up_ne hw70 (AD.nm hAD 17 rfl) (FrI.a1 hfr61 hAD rfl rfl rfl a17))
      have f83 := (up_ne hw70 (AD.nm hAD 18 rfl) (FrI.a1 hfr61 hAD rfl rfl rfl a18))
      have f84 := (up_ne hw70 (AD.nm hAD 19 rfl) (FrI.a1 hfr61 hAD rfl rfl rfl a19))
      have v85 := (st_ne sfs71 rfl v59)
      exact j_vret rfl ⟨rfl, _, ⟨(((FrI.refl : FrI A [mm] [10, 11, 12, 13, 14, 15, 16, 17, 18, 19] w w).trans (FrI.sub hfr61 rfl)).trans (FrI.ux hw70 (by simp))), f72, (((FF.refl : FF [5, 8, 9, 22, 24, 25, 26, 27, 28, 29, 30, 31] fs fs).trans (FF.mono hff63 rfl)).trans (FF.set sfs71 rfl))⟩, _, _, _, _, _, _, _, _, _, _, ⟨f75, f76, f77, f78, f79, f80, f81, f82, f83, f84⟩, Or.inl (RFl.mk hbd57 ⟨by decide, by decide⟩ v74 v85)⟩ (show 0 ≤ 0 by omega) (show 0 ≤ 0 by omega) dX6_readMarked_157
  · skip
    refine j_eqi (y := nI 0) (by rw [decide_eq_false hk64]; rfl) ?_
    refine j_istore_n (lv' := [(2, .int (nI 0)), (0, .ref mm), (1, .int (nI pa))]) dX6_readMarked_6 (Nat.le_of_ble_eq_true rfl) rfl ?_
    refine j_iload_n dX6_readMarked_7 0 rfl ?_
    refine j_if_eqN 46 (by decide) dX6_readMarked_8 (by decide) (fun _ => ?_) (fun h9 => absurd rfl h9)
    refine j_lv (lv' := [(0, .ref mm), (1, .int (nI pa)), (2, .int (zb false))]) [1, 2, 0] rfl ?_
    exact s_m46 hAD ht hln hmm hA (FrI.refl : FrI A [mm] [10, 11, 12, 13, 14, 15, 16, 17, 18, 19] w w) (FF.refl : FF [5, 8, 9, 22, 24, 25, 26, 27, 28, 29, 30, 31] fs fs) h5 h6 h8 h9 h23 h29 h31 h22 h24 h25 h26 h27 h28 a1 a10 a11 a12 a13 a14 a15 a16 a17 a18 a19 hT hN hR hI ha (by omega) hTB (by omega) (by omega)
