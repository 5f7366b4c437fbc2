theorem flX6_readMarked_20 : FL wsX6_readMarked RX6 20 6 11 := ⟨RX6, TX6, 45, rfl, by decide, by decide +kernel, by decide +kernel⟩
theorem flX6_readMarked_38 : FL wsX6_readMarked RX6 38 6 17 := ⟨RX6, TX6, 45, rfl, by decide, by decide +kernel, by decide +kernel⟩
theorem flX6_readMarked_41 : FL wsX6_readMarked RX6 41 6 18 := ⟨RX6, TX6, 45, rfl, by decide, by decide +kernel, by decide +kernel⟩
theorem flX6_readMarked_45 : FL wsX6_readMarked RX6 45 6 19 := ⟨RX6, TX6, 45, rfl, by decide, by decide +kernel, by decide +kernel⟩
theorem flX6_readMarked_32 : FL wsX6_readMarked RX6 32 6 15 := ⟨RX6, TX6, 45, rfl, by decide, by decide +kernel, by decide +kernel⟩
theorem flX6_readMarked_147 : FL wsX6_readMarked RX6 147 6 6 := ⟨RX6, TX6, 45, rfl, by decide, by decide +kernel, by decide +kernel⟩
theorem flX6_readMarked_35 : FL wsX6_readMarked RX6 35 6 16 := ⟨RX6, TX6, 45, rfl, by decide, by decide +kernel, by decide +kernel⟩
theorem flX6_readMarked_26 : FL wsX6_readMarked RX6 26 6 13 := ⟨RX6, TX6, 45, rfl, by decide, by decide +kernel, by decide +kernel⟩
theorem flX6_readMarked_17 : FL wsX6_readMarked RX6 17 6 10 := ⟨RX6, TX6, 45, rfl, by decide, by decide +kernel, by decide +kernel⟩
set_option maxHeartbeats 4000000 in
set_option maxRecDepth 100000 in
theorem s_m158 {t : Nat → Nat} {ln aS : Nat} {w0 : pW} {fs0 : List Value} {A : Nat → Nat} {mm : Nat} {R : Nat × Nat × RSt} (hAD : AD A mm) (ht : ∀ j, t j < 256) (hln : ln ≤ 2400) {w : pW} {fs : List Value} (hmm : w mm = some (.inr (6, fs))) (hA : RA A fs) (hfr : FrI A [mm] [10, 11, 12, 13, 14, 15, 16, 17, 18, 19] w0 w) (hff : FF [5, 8, 9, 22, 24, 25, 26, 27, 28, 29, 30, 31] fs0 fs) {a tkn sg mr cu rep np oc ev be cq st me pa : Nat} {nu : Int32} {f : Nat → Int32} {xk xm : Nat → Nat} {xp : Nat → Int32} {xb xs xe xg : Nat → Nat} {xl xi xc : Nat → Int32} {sd : Nat} {mkd cud : Bool} (h5 : fs[5]? = some (.int (nI ev))) (h6 : fs[6]? = some (.int (nI me))) (h8 : fs[8]? = some (.int (nI be))) (h9 : fs[9]? = some (.int (nI cu))) (h23 : fs[23]? = some (.int (nI ln))) (h29 : fs[29]? = some (.int (nI 0))) (h31 : fs[31]? = some (.int (nI mr))) (h22 : fs[22]? = some (.int (nI ((tk t ln a).1)))) (h24 : fs[24]? = some (.int (nI tkn))) (h25 : fs[25]? = some (.int (nI sg))) (h26 : fs[26]? = some (.int nu)) (h27 : fs[27]? = some (.int (nI a))) (h28 : fs[28]? = some (.int (nI ((tk t ln a).1)))) (a1 : w (A 1) = some (.inl (0, 2400, .inl (fun j9 => nI (t j9))))) (a10 : w (A 10) = some (.inl (0, 100, .inl (fun j9 => nI (xk j9))))) (a11 : w (A 11) = some (.inl (0, 100, .inl (fun j9 => nI (xm j9))))) (a12 : w (A 12) = some (.inl (0, 400, .inl xp))) (a13 : w (A 13) = some (.inl (0, 100, .inl (fun j9 => nI (xb j9))))) (a14 : w (A 14) = some (.inl (0, 100, .inl (fun j9 => nI (xs j9))))) (a15 : w (A 15) = some (.inl (0, 100, .inl (fun j9 => nI (xe j9))))) (a16 : w (A 16) = some (.inl (0, 100, .inl (fun j9 => nI (xg j9))))) (a17 : w (A 17) = some (.inl (0, 100, .inl xl))) (a18 : w (A 18) = some (.inl (2, 100, .inl xi))) (a19 : w (A 19) = some (.inl (2, 100, .inl xc))) (hT : TS tkn sg (tkK t ln a)) (hN : NS nu (tkK t ln a) (tkV t ln a) ((tk t ln a).1 - a)) (hR : R = rR t ln a (sd, mr, cu, mkd, cud, rep, np, oc, f, ev, be, cq, st, me, pa)) (hI : RJ (sd, mr, cu, mkd, cud, rep, np, oc, f, ev, be, cq, st, me, pa)) (ha : a ≤ ln + 1) (haS : aS ≤ a) (hTB : TBL xk xm xp xb xs xe xg xl xi xc f ev) (hbe : tkK t ln a = 2 ∨ tkK t ln a = 40 ∨ tkK t ln a = 126 ∨ tkK t ln a = 114) (hsd6 : sd = 1 ∨ sd = 2 ∨ sd = 4 ∨ sd = 8 ∨ sd = 16 ∨ sd = 32) (hev : ev < 100) : J ((cX6_readMarked, RX6, 5, wsX6_readMarked), (rX6_readMarked, none, "readMarked", []), fun o w9 => o = .inl none ∧ ∃ fs9 : List Value, MU A mm [10, 11, 12, 13, 14, 15, 16, 17, 18, 19] [5, 8, 9, 22, 24, 25, 26, 27, 28, 29, 30, 31] w0 w9 fs0 fs9 ∧ ∃ (xk xm : Nat → Nat) (xp : Nat → Int32) (xb xs xe xg : Nat → Nat) (xl xi xc : Nat → Int32), TA A w9 xk xm xp xb xs xe xg xl xi xc ∧ (∃ nu9 : Int32, fs9[26]? = some (.int nu9)) ∧ (RFl fs9 R ∨ ∃ (a9 mr9 cu9 np9 oc9 : Nat) (f9 : Nat → Int32) (ev9 be9 cq9 st9 : Nat), aS < a9 ∧ a9 ≤ ln + 1 ∧ R = rR t ln a9 (8, mr9, cu9, false, false, rep, np9, oc9, f9, ev9, be9, cq9, st9, me, pa) ∧ RJ (8, mr9, cu9, false, false, rep, np9, oc9, f9, ev9, be9, cq9, st9, me, pa) ∧ fs9[5]? = some (.int (nI ev9)) ∧ fs9[8]? = some (.int (nI be9)) ∧ fs9[9]? = some (.int (nI cu9)) ∧ fs9[29]? = some (.int (nI 0)) ∧ fs9[31]? = some (.int (nI mr9)) ∧ AtT t ln a9 fs9 ∧ TBL xk xm xp xb xs xe xg xl xi xc f9 ev9), fun _ _ _ => True) 158 [(0, .ref mm), (1, .int (nI pa)), (2, .int (zb mkd)), (3, .int (zb cud))] [] w 0 0 := by
  have hTb := hT.1
  obtain ⟨i1, i2, i3, i4, i5, i6, i7⟩ := id hI.1
  refine j_aload_n dX6_readMarked_158 0 rfl ?_
  refine j_get (v := .int (nI ev)) flX6_readMarked_144 hmm h5 dX6_readMarked_159 ?_
  refine j_istore (lv' := [(4, .int (nI ev)), (0, .ref mm), (1, .int (nI pa)), (2, .int (zb mkd)), (3, .int (zb cud))]) dX6_readMarked_162 (Nat.le_of_ble_eq_true rfl) rfl ?_
  refine j_aload_n dX6_readMarked_164 1 rfl ?_
  refine j_get (v := .ref (A 11)) flX6_readMarked_20 hmm (hA.2 11 rfl) dX6_readMarked_165 ?_
  refine j_iload dX6_readMarked_168 0 rfl ?_
  refine j_iconst (v := nI 0) dX6_readMarked_170 (by decide) ?_
  refine j_iastn (j := ev) (x := 0) a11 rfl (by omega) (by omega) dX6_readMarked_171 ?_
  refine j_w (fun w1 hw1 => ?_)
  have f2 : w1 (A 11) = some (.inl (0, 100, .inl (fun j9 => nI ((va_up xm ev 0) j9)))) := up_at hw1
  refine j_aload_n dX6_readMarked_172 1 rfl ?_
  have f3 := (up_ne hw1 (AD.mn hAD 11 rfl) hmm)
  refine j_get (v := .ref (A 17)) flX6_readMarked_38 f3 (hA.2 17 rfl) dX6_readMarked_173 ?_
  refine j_iload dX6_readMarked_176 0 rfl ?_
  refine j_iconst (v := (-1)) dX6_readMarked_178 (by decide) ?_
  have f4 := (up_ne hw1 (AD.ne hAD 17 11 rfl rfl rfl) a17)
  refine j_iastN (j := ev) f4 rfl (by omega) (by omega) dX6_readMarked_179 ?_
  refine j_w (fun w5 hw5 => ?_)
  have f6 : w5 (A 17) = some (.inl (0, 100, .inl (upd xl ev ((-1))))) := up_at hw5
  refine j_aload_n dX6_readMarked_180 1 rfl ?_
  have f7 := (up_ne hw5 (AD.mn hAD 17 rfl) f3)
  refine j_get (v := .ref (A 18)) flX6_readMarked_41 f7 (hA.2 18 rfl) dX6_readMarked_181 ?_
  refine j_iload dX6_readMarked_184 0 rfl ?_
  refine j_iload_n dX6_readMarked_186 3 rfl ?_
  have f8 := (up_ne hw5 (AD.ne hAD 18 17 rfl rfl rfl) (up_ne hw1 (AD.ne hAD 18 11 rfl rfl rfl) a18))
  refine j_zastN (j := ev) f8 rfl (by omega) (by omega) (zb_01 _) dX6_readMarked_187 ?_
  refine j_w (fun w9 hw9 => ?_)
  have f10 : w9 (A 18) = some (.inl (2, 100, .inl (upd xi ev (zb mkd)))) := up_at hw9
  refine j_aload_n dX6_readMarked_188 1 rfl ?_
  have f11 := (up_ne hw9 (AD.mn hAD 18 rfl) f7)
  refine j_get (v := .ref (A 19)) flX6_readMarked_45 f11 (hA.2 19 rfl) dX6_readMarked_189 ?_
  refine j_iload dX6_readMarked_192 0 rfl ?_
  refine j_iload_n dX6_readMarked_194 4 rfl ?_
  have f12 := (up_ne hw9 (AD.ne hAD 19 18 rfl rfl rfl) (up_ne hw5 (AD.ne hAD 19 17 rfl rfl rfl) (up_ne hw1 (AD.ne hAD 19 11 rfl rfl rfl) a19)))
  refine j_zastN (j := ev) f12 rfl (by omega) (by omega) (zb_01 _) dX6_readMarked_195 ?_
  refine j_w (fun w13 hw13 => ?_)
  have f14 : w13 (A 19) = some (.inl (2, 100, .inl (upd xc ev (zb cud)))) := up_at hw13
  refine j_aload_n dX6_readMarked_196 1 rfl ?_
  have f15 := (up_ne hw13 (AD.mn hAD 19 rfl) f11)
  refine j_get (v := .ref (A 15)) flX6_readMarked_32 f15 (hA.2 15 rfl) dX6_readMarked_197 ?_
  refine j_iload dX6_readMarked_200 0 rfl ?_
  refine j_aload_n dX6_readMarked_202 1 rfl ?_
  refine j_get (v := .int (nI me)) flX6_readMarked_147 f15 h6 dX6_readMarked_203 ?_
  have f16 := (up_ne hw13 (AD.ne hAD 15 19 rfl rfl rfl) (up_ne hw9 (AD.ne hAD 15 18 rfl rfl rfl) (up_ne hw5 (AD.ne hAD 15 17 rfl rfl rfl) (up_ne hw1 (AD.ne hAD 15 11 rfl rfl rfl) a15))))
  refine j_iastn (j := ev) (x := me) f16 rfl (by omega) (by omega) dX6_readMarked_206 ?_
  refine j_w (fun w17 hw17 => ?_)
  have f18 : w17 (A 15) = some (.inl (0, 100, .inl (fun j9 => nI ((va_up xe ev me) j9)))) := up_at hw17
  refine j_aload_n dX6_readMarked_207 1 rfl ?_
  have f19 := (up_ne hw17 (AD.mn hAD 15 rfl) f15)
  refine j_get (v := .ref (A 16)) flX6_readMarked_35 f19 (hA.2 16 rfl) dX6_readMarked_208 ?_
  refine j_iload dX6_readMarked_211 0 rfl ?_
  refine j_iload_n dX6_readMarked_213 2 rfl ?_
  have f20 := (up_ne hw17 (AD.ne hAD 16 15 rfl rfl rfl) (up_ne hw13 (AD.ne hAD 16 19 rfl rfl rfl) (up_ne hw9 (AD.ne hAD 16 18 rfl rfl rfl) (up_ne hw5 (AD.ne hAD 16 17 rfl rfl rfl) (up_ne hw1 (AD.ne hAD 16 11 rfl rfl rfl) a16)))))
  refine j_iastn (j := ev) (x := pa) f20 rfl (by omega) (by omega) dX6_readMarked_214 ?_
  refine j_w (fun w21 hw21 => ?_)
  have f22 : w21 (A 16) = some (.inl (0, 100, .inl (fun j9 => nI ((va_up xg ev pa) j9)))) := up_at hw21
  refine j_aload_n dX6_readMarked_215 1 rfl ?_
  have f23 := (up_ne hw21 (AD.mn hAD 16 rfl) f19)
  refine j_get (v := .ref (A 13)) flX6_readMarked_26 f23 (hA.2 13 rfl) dX6_readMarked_216 ?_
  refine j_iload dX6_readMarked_219 0 rfl ?_
  refine j_aload_n dX6_readMarked_221 1 rfl ?_
  refine j_get (v := .int (nI be)) flX6_readMarked_153 f23 h8 dX6_readMarked_222 ?_
  have f24 := (up_ne hw21 (AD.ne hAD 13 16 rfl rfl rfl) (up_ne hw17 (AD.ne hAD 13 15 rfl rfl rfl) (up_ne hw13 (AD.ne hAD 13 19 rfl rfl rfl) (up_ne hw9 (AD.ne hAD 13 18 rfl rfl rfl) (up_ne hw5 (AD.ne hAD 13 17 rfl rfl rfl) (up_ne hw1 (AD.ne hAD 13 11 rfl rfl rfl) a13))))))
  refine j_iastn (j := ev) (x := be) f24 rfl (by omega) (by omega) dX6_readMarked_225 ?_
  refine j_w (fun w25 hw25 => ?_)
  have f26 : w25 (A 13) = some (.inl (0, 100, .inl (fun j9 => nI ((va_up xb ev be) j9)))) := up_at hw25
  refine j_aload_n dX6_readMarked_226 1 rfl ?_
  refine j_bipush (v := nI 40) dX6_readMarked_227 (by decide) ?_
  have f27 := (up_ne hw25 (AD.mn hAD 13 rfl) f23)
  refine j_callV (rm := rX6_isSign) (As := [.int (nI 40)]) (st := []) (b0 := mm) (ci := 6) (na := 1) (m_isSign (c := 40) hAD f27 hA h24 h25 hT rfl (by decide)) (by intro E w9 h9; first | exact nomatch h9.1 | (obtain ⟨_, h9, _⟩ := h9; exact nomatch h9) | (obtain ⟨_, _, _, h9, _⟩ := h9; exact nomatch h9)) gX6_readMarked_X6_isSign rfl rfl f27 (by decide +kernel) rfl ⟨Nat.le_of_ble_eq_true rfl, Nat.le_of_ble_eq_true rfl⟩ rfl (Nat.le_of_ble_eq_true rfl) dX6_readMarked_229 ⟨(show 0 + 0 ≤ 0 by omega), (show 0 + 0 ≤ 0 by omega)⟩ (fun v28 w29 h30 => ?_)
  obtain ⟨h30, h31⟩ := h30
  cases h30
  subst w29
  refine j_after (st' := [.int (zb (decide (tkK t ln a = 40)))]) (k' := 0) (n' := 0) rfl rfl rfl ?_
  by_cases hk40 : tkK t ln a = 40
  · skip
    refine j_eqi (y := nI 1) (by rw [decide_eq_true hk40]; rfl) ?_
    refine j_if_eqN 293 (by decide) dX6_readMarked_232 (by decide) (fun h9 => absurd h9 (by decide)) (fun _ => ?_)
    refine j_aload_n dX6_readMarked_235 1 rfl ?_
    refine j_get (v := .ref (A 10)) flX6_readMarked_17 f27 (hA.2 10 rfl) dX6_readMarked_236 ?_
    refine j_iload dX6_readMarked_239 0 rfl ?_
    refine j_iconst (v := nI 1) dX6_readMarked_241 (by decide) ?_
    have f32 := (up_ne hw25 (AD.ne hAD 10 13 rfl rfl rfl) (up_ne hw21 (AD.ne hAD 10 16 rfl rfl rfl) (up_ne hw17 (AD.ne hAD 10 15 rfl rfl rfl) (up_ne hw13 (AD.ne hAD 10 19 rfl rfl rfl) (up_ne hw9 (AD.ne hAD 10 18 rfl rfl rfl) (up_ne hw5 (AD.ne hAD 10 17 rfl rfl rfl) (up_ne hw1 (AD.ne hAD 10 11 rfl rfl rfl) a10)))))))
    refine j_iastn (j := ev) (x := 1) f32 rfl (by omega) (by omega) dX6_readMarked_242 ?_
    refine j_w (fun w33 hw33 => ?_)
    have f34 : w33 (A 10) = some (.inl (0, 100, .inl (fun j9 => nI ((va_up xk ev 1) j9)))) := up_at hw33
    obtain ⟨hR35, hI36, hb37, hl38⟩ := rR_go (s1 := (128, mr, cu, false, false, rep, 0, (if cud then 1 else 0), opF f ev 1 be me pa st (zb mkd) (zb cud), ev, be, cq, st, me, pa)) ht hR ((fOpen hbe hsd6).trans (if_neg (by omega))) (by omega) (by rw [hk40]; rfl) hI ha
    have htb8 := tb_open (k := 1) (be := be) (me := me) (pa := pa) (st := st) (mk := zb mkd) (cq := zb cud) hTB
    have hop8 := op_open (xk := xk) (xm := xm) (xp := xp) (xb := xb) (xe := xe) (xg := xg) (xl := xl) (xi := xi) (xc := xc) (f := f) (ev := ev) (k := 1) (be := be) (me := me) (pa := pa) (st := st) (mk := zb mkd) (cq := zb cud)
    refine j_aload_n dX6_readMarked_243 1 rfl ?_
    obtain ⟨az39, haz39⟩ : ∃ z, tkN t ln a = z := ⟨_, rfl⟩
    have f51 := (up_ne hw33 (AD.mn hAD 10 rfl) f27)
    have f52 := (up_ne hw33 (AD.ne hAD 1 10 rfl rfl rfl) (up_ne hw25 (AD.ne hAD 1 13 rfl rfl rfl) (up_ne hw21 (AD.ne hAD 1 16 rfl rfl rfl) (up_ne hw17 (AD.ne hAD 1 15 rfl rfl rfl) (up_ne hw13 (AD.ne hAD 1 19 rfl rfl rfl) (up_ne hw9 (AD.ne hAD 1 18 rfl rfl rfl) (up_ne hw5 (AD.ne hAD 1 17 rfl rfl rfl) (up_ne hw1 (AD.ne hAD 1 11 rfl rfl rfl) a1))))))))
    refine j_callV (rm := rX6_next) (As := []) (st := []) (b0 := mm) (ci := 6) (na := 0) (m_next1 (a := az39) hAD f51 hA h22 h23 h26 f52 ht hln (tkN_bd ha).2.1 haz39) (by intro E w9 h9; first | exact nomatch h9.1 | (obtain ⟨_, h9, _⟩ := h9; exact nomatch h9) | (obtain ⟨_, _, _, h9, _⟩ := h9; exact nomatch h9)) gX6_readMarked_X6_next rfl rfl f51 (by decide +kernel) rfl ⟨Nat.le_of_ble_eq_true rfl, Nat.le_of_ble_eq_true rfl⟩ rfl (Nat.le_of_ble_eq_true rfl) dX6_readMarked_244 ⟨(show 0 + 0 ≤ 0 by omega), (show 0 + 0 ≤ 0 by omega)⟩ (fun v58 w59 h60 => ?_)
    obtain ⟨h57, fs53, ⟨hfr54, hm55, hff56⟩, ⟨tkn40, sg41, nu42, v45, v46, v47, v48, v49, v50, hT43, hN44⟩⟩ := h60
    cases h57
    refine j_after (st' := []) (k' := 0) (n' := 0) rfl rfl rfl ?_
    have r61 : RA A fs53 := RA.ff hA hff56 rfl
    have hT43b := hT43.1
    rw [haz39] at hR35 hb37 hl38
    refine j_aload_n dX6_readMarked_247 1 rfl ?_
    refine j_get (v := .int (nI tkn40)) flX6_readMarked_102 hm55 v46 dX6_readMarked_248 ?_
    refine j_iconst (v := nI 1) dX6_readMarked_251 (by decide) ?_
    refine j_icmp_eqN 260 (by omega) (by omega) dX6_readMarked_252 (by decide) (fun c252 => ?_) (fun c252 => ?_)
    · skip
      have hk2 : tkK t ln az39 = 2 := hT43.2.2.1.mp c252
      refine j_lv (lv' := [(0, .ref mm), (1, .int (nI pa)), (4, .int (nI ev))]) [1, 2, 0] rfl ?_
      have v62 := (FF.at hff56 rfl h5)
      have v63 := (FF.at hff56 rfl h6)
      have v64 := (FF.at hff56 rfl h8)
      have v65 := (FF.at hff56 rfl h9)
      have v66 := (FF.at hff56 rfl h23)
      have v67 := (FF.at hff56 rfl h29)
      have v68 := (FF.at hff56 rfl h31)
      have f69 := (FrI.gen hfr54 (nm1 (AD.nm hAD 1 rfl)) (AD.nl hAD 1 rfl rfl rfl) f52)
      have f70 := (FrI.gen hfr54 (nm1 (AD.nm hAD 10 rfl)) (AD.nl hAD 10 rfl rfl rfl) f34)
      have f71 := (FrI.gen hfr54 (nm1 (AD.nm hAD 11 rfl)) (AD.nl hAD 11 rfl rfl rfl) (up_ne hw33 (AD.ne hAD 11 10 rfl rfl rfl) (up_ne hw25 (AD.ne hAD 11 13 rfl rfl rfl) (up_ne hw21 (AD.ne hAD 11 16 rfl rfl rfl) (up_ne hw17 (AD.ne hAD 11 15 rfl rfl rfl) (up_ne hw13 (AD.ne hAD 11 19 rfl rfl rfl) (up_ne hw9 (AD.ne hAD 11 18 rfl rfl rfl) (up_ne hw5 (AD.ne hAD 11 17 rfl rfl rfl) f2))))))))
      have f72 := (FrI.gen hfr54 (nm1 (AD.nm hAD 12 rfl)) (AD.nl hAD 12 rfl rfl rfl) (up_ne hw33 (AD.ne hAD 12 10 rfl rfl rfl) (up_ne hw25 (AD.ne hAD 12 13 rfl rfl rfl) (up_ne hw21 (AD.ne hAD 12 16 rfl rfl rfl) (up_ne hw17 (AD.ne hAD 12 15 rfl rfl rfl) (up_ne hw13 (AD.ne hAD 12 19 rfl rfl rfl) (up_ne hw9 (AD.ne hAD 12 18 rfl rfl rfl) (up_ne hw5 (AD.ne hAD 12 17 rfl rfl rfl) (up_ne hw1 (AD.ne hAD 12 11 rfl rfl rfl) a12)))))))))
      have f73 := (FrI.gen hfr54 (nm1 (AD.nm hAD 13 rfl)) (AD.nl hAD 13 rfl rfl rfl) (up_ne hw33 (AD.ne hAD 13 10 rfl rfl rfl) f26))
      have f74 := (FrI.gen hfr54 (nm1 (AD.nm hAD 14 rfl)) (AD.nl hAD 14 rfl rfl rfl) (up_ne hw33 (AD.ne hAD 14 10 rfl rfl rfl) (up_ne hw25 (AD.ne hAD 14 13 rfl rfl rfl) (up_ne hw21 (AD.ne hAD 14 16 rfl rfl rfl) (up_ne hw17 (AD.ne hAD 14 15 rfl rfl rfl) (up_ne hw13 (AD.ne hAD 14 19 rfl rfl rfl) (up_ne hw9 (AD.ne hAD 14 18 rfl rfl rfl) (up_ne hw5 (AD.ne hAD 14 17 rfl rfl rfl) (up_ne hw1 (AD.ne hAD 14 11 rfl rfl rfl) a14)))))))))
      have f75 := (FrI.gen hfr54 (nm1 (AD.nm hAD 15 rfl)) (AD.nl hAD 15 rfl rfl rfl) (up_ne hw33 (AD.ne hAD 15 10 rfl rfl rfl) (up_ne hw25 (AD.ne hAD 15 13 rfl rfl rfl) (up_ne hw21 (AD.ne hAD 15 16 rfl rfl rfl) f18))))
      have f76 := (FrI.gen hfr54 (nm1 (AD.nm hAD 16 rfl)) (AD.nl hAD 16 rfl rfl rfl) (up_ne hw33 (AD.ne hAD 16 10 rfl rfl rfl) (up_ne hw25 (AD.ne hAD 16 13 rfl rfl rfl) f22)))
      have f77 := (FrI.gen hfr54 (nm1 (AD.nm hAD 17 rfl)) (AD.nl hAD 17 rfl rfl rfl) (up_ne hw33 (AD.ne hAD 17 10 rfl rfl rfl) (up_ne hw25 (AD.ne hAD 17 13 rfl rfl rfl) (up_ne hw21 (AD.ne hAD 17 16 rfl rfl rfl) (up_ne hw17 (AD.ne hAD 17 15 rfl rfl rfl) (up_ne hw13 (AD.ne hAD 17 19 rfl rfl rfl) (up_ne hw9 (AD.ne hAD 17 18 rfl rfl rfl) f6)))))))
      have f78 := (FrI.gen hfr54 (nm1 (AD.nm hAD 18 rfl)) (AD.nl hAD 18 rfl rfl rfl) (up_ne hw33 (AD.ne hAD 18 10 rfl rfl rfl) (up_ne hw25 (AD.ne hAD 18 13 rfl rfl rfl) (up_ne hw21 (AD.ne hAD 18 16 rfl rfl rfl) (up_ne hw17 (AD.ne hAD 18 15 rfl rfl rfl) (up_ne hw13 (AD.ne hAD 18 19 rfl rfl rfl) f10))))))
      have f79 := (FrI.gen hfr54 (nm1 (AD.nm hAD 19 rfl)) (AD.nl hAD 19 rfl rfl rfl) (up_ne hw33 (AD.ne hAD 19 10 rfl rfl rfl) (up_ne hw25 (AD.ne hAD 19 13 rfl rfl rfl) (up_ne hw21 (AD.ne hAD 19 16 rfl rfl rfl) (up_ne hw17 (AD.ne hAD 19 15 rfl rfl rfl) f14)))))
      exact l_m260 hAD ht hln hev _ _ _ _ _ _ _ _ _ _ _ _ (Nat.lt_succ_self _) hm55 r61 ((((((((((FrI.mono hfr (by simp) rfl : FrI A [mm] [10, 11, 12, 13, 14, 15, 16, 17, 18, 19] w0 _).trans (FrI.ua hw1 rfl)).trans (FrI.ua hw5 rfl)).trans (FrI.ua hw9 rfl)).trans (FrI.ua hw13 rfl)).trans (FrI.ua hw17 rfl)).trans (FrI.ua hw21 rfl)).trans (FrI.ua hw25 rfl)).trans (FrI.ua hw33 rfl)).trans (FrI.sub hfr54 rfl)) ((FF.mono hff rfl : FF [5, 8, 9, 22, 24, 25, 26, 27, 28, 29, 30, 31] fs0 _).trans (FF.mono hff56 rfl)) v62 v63 v64 v65 v66 v67 v68 v45 v46 v47 v48 v49 v50 f69 f70 f71 f72 f73 f74 f75 f76 f77 f78 f79 hT43 hN44 hR35 hI36 hb37 (by omega) htb8 hop8 (va_up_self _ _ _) (Or.inr ⟨rfl, hk2⟩)
    · skip
      have hk2 : ¬ tkK t ln az39 = 2 := fun q => c252 (hT43.2.2.1.mpr q)
      have hbd80 := rR_bad (b := 1) hR35 (rf_1 (f1_128 (tk_k ht) hk2)) (by decide)
      refine j_aload_n dX6_readMarked_255 1 rfl ?_
      refine j_iconst (v := nI 1) dX6_readMarked_256 (by decide) ?_
      have v81 := (FF.at hff56 rfl h29)
      refine j_callV (rm := rX6_wrong) (As := [.int (nI 1)]) (st := []) (b0 := mm) (ci := 6) (na := 1) (m_wrong0 (k := 1) hAD hm55 r61 v81 v49) (by intro E w9 h9; first | exact nomatch h9.1 | (obtain ⟨_, h9, _⟩ := h9; exact nomatch h9) | (obtain ⟨_, _, _, h9, _⟩ := h9; exact nomatch h9)) gX6_readMarked_X6_wrong rfl rfl hm55 (by decide +kernel) rfl ⟨Nat.le_of_ble_eq_true rfl, Nat.le_of_ble_eq_true rfl⟩ rfl (Nat.le_of_ble_eq_true rfl) dX6_readMarked_257 ⟨(show 0 + 0 ≤ 0 by omega), (show 0 + 0 ≤ 0 by omega)⟩ (fun v89 w90 h91 => ?_)
      obtain ⟨h88, fs84, ⟨hfr85, hm86, hff87⟩, v82, v83⟩ := h91
      cases h88
      refine j_after (st' := []) (k' := 0) (n' := 0) rfl rfl rfl ?_
      have r92 : RA A fs84 := RA.ff r61 hff87 rfl
      refine j_aload_n dX6_readMarked_260 1 rfl ?_
      refine j_get (v := .int (nI 1)) flX6_readMarked_124 hm86 v82 dX6_readMarked_261 ?_
      refine j_if_neN 284 (by decide) dX6_readMarked_264 (by decide) (fun _ => ?_) (fun h9 => absurd h9 (by decide))
      refine j_aload_n dX6_readMarked_284 1 rfl ?_
      refine j_bipush (v := nI 41) dX6_readMarked_285 (by decide) ?_
      refine j_callV (rm := rX6_need) (As := [.int (nI 41)]) (st := []) (b0 := mm) (ci := 6) (na := 1) (m_need1 (c := 41) hAD hm86 r92 v82 (by omega) (by omega)) (by intro E w9 h9; first | exact nomatch h9.1 | (obtain ⟨_, h9, _⟩ := h9; exact nomatch h9) | (obtain ⟨_, _, _, h9, _⟩ := h9; exact nomatch h9)) gX6_readMarked_X6_need rfl rfl hm86 (by decide +kernel) rfl ⟨Nat.le_of_ble_eq_true rfl, Nat.le_of_ble_eq_true rfl⟩ rfl (Nat.le_of_ble_eq_true rfl) dX6_readMarked_287 ⟨(show 0 + 0 ≤ 0 by omega), (show 0 + 0 ≤ 0 by omega)⟩ (fun v93 w94 h95 => ?_)
      obtain ⟨h95, h96⟩ := h95
      cases h95
      subst w94
      refine j_after (st' := []) (k' := 0) (n' := 0) rfl rfl rfl ?_
      refine j_goto 373 dX6_readMarked_290 (by decide) ?_
      refine j_aload_n dX6_readMarked_373 1 rfl ?_
      refine j_bipush (v := nI 58) dX6_readMarked_374 (by decide) ?_
      refine j_callV (rm := rX6_need) (As := [.int (nI 58)]) (st := []) (b0 := mm) (ci := 6) (na := 1) (m_need1 (c := 58) hAD hm86 r92 v82 (by omega) (by omega)) (by intro E w9 h9; first | exact nomatch h9.1 | (obtain ⟨_, h9, _⟩ := h9; exact nomatch h9) | (obtain ⟨_, _, _, h9, _⟩ := h9; exact nomatch h9)) gX6_readMarked_X6_need rfl rfl hm86 (by decide +kernel) rfl ⟨Nat.le_of_ble_eq_true rfl, Nat.le_of_ble_eq_true rfl⟩ rfl (Nat.le_of_ble_eq_true rfl) dX6_readMarked_376 ⟨(show 0 + 0 ≤ 0 by omega), (show 0 + 0 ≤ 0 by omega)⟩ (fun v97 w98 h99 => ?_)
      obtain ⟨h99, h100⟩ := h99
      cases h99
      subst w98
      refine j_after (st' := []) (k' := 0) (n' := 0) rfl rfl rfl ?_
      refine j_aload_n dX6_readMarked_379 1 rfl ?_
      refine j_get (v := .int (nI 1)) flX6_readMarked_124 hm86 v82 dX6_readMarked_380 ?_
      refine j_if_eqN 387 (by decide) dX6_readMarked_383 (by decide) (fun h9 => absurd h9 (by decide)) (fun _ => ?_)
      have f101 := (FrI.gen hfr85 (nm1 (AD.nm hAD 10 rfl)) (AD.nl hAD 10 rfl rfl rfl) (FrI.gen hfr54 (nm1 (AD.nm hAD 10 rfl)) (AD.nl hAD 10 rfl rfl rfl) f34))
      have f102 := (FrI.gen hfr85 (nm1 (AD.nm hAD 11 rfl)) (AD.nl hAD 11 rfl rfl rfl) (FrI.gen hfr54 (nm1 (AD.nm hAD 11 rfl)) (AD.nl hAD 11 rfl rfl rfl) (up_ne hw33 (AD.ne hAD 11 10 rfl rfl rfl) (up_ne hw25 (AD.ne hAD 11 13 rfl rfl rfl) (up_ne hw21 (AD.ne hAD 11 16 rfl rfl rfl) (up_ne hw17 (AD.ne hAD 11 15 rfl rfl rfl) (up_ne hw13 (AD.ne hAD 11 19 rfl rfl rfl) (up_ne hw9 (AD.ne hAD 11 18 rfl rfl rfl) (up_ne hw5 (AD.ne hAD 11 17 rfl rfl rfl) f2)))))))))
      have f103 := (FrI.gen hfr85 (nm1 (AD.nm hAD 12 rfl)) (AD.nl hAD 12 rfl rfl rfl) (FrI.gen hfr54 (nm1 (AD.nm hAD 12 rfl)) (AD.nl hAD 12 rfl rfl rfl) (up_ne hw33 (AD.ne hAD 12 10 rfl rfl rfl) (up_ne hw25 (AD.ne hAD 12 13 rfl rfl rfl) (up_ne hw21 (AD.ne hAD 12 16 rfl rfl rfl) (up_ne hw17 (AD.ne hAD 12 15 rfl rfl rfl) (up_ne hw13 (AD.ne hAD 12 19 rfl rfl rfl) (up_ne hw9 (AD.ne hAD 12 18 rfl rfl rfl) (up_ne hw5 (AD.ne hAD 12 17 rfl rfl rfl) (up_ne hw1 (AD.ne hAD 12 11 rfl rfl rfl) a12))))))))))
      have f104 := (FrI.gen hfr85 (nm1 (AD.nm hAD 13 rfl)) (AD.nl hAD 13 rfl rfl rfl) (FrI.gen hfr54 (nm1 (AD.nm hAD 13 rfl)) (AD.nl hAD 13 rfl rfl rfl) (up_ne hw33 (AD.ne hAD 13 10 rfl rfl rfl) f26)))
      have f105 := (FrI.gen hfr85 (nm1 (AD.nm hAD 14 rfl)) (AD.nl hAD 14 rfl rfl rfl) (FrI.gen hfr54 (nm1 (AD.nm hAD 14 rfl)) (AD.nl hAD 14 rfl rfl rfl) (up_ne hw33 (AD.ne hAD 14 10 rfl rfl rfl) (up_ne hw25 (AD.ne hAD 14 13 rfl rfl rfl) (up_ne hw21 (AD.ne hAD 14 16 rfl rfl rfl) (up_ne hw17 (AD.ne hAD 14 15 rfl rfl rfl) (up_ne hw13 (AD.ne hAD 14 19 rfl rfl rfl) (up_ne hw9 (AD.ne hAD 14 18 rfl rfl rfl) (up_ne hw5 (AD.ne hAD 14 17 rfl rfl rfl) (up_ne hw1 (AD.ne hAD 14 11 rfl rfl rfl) a14))))))))))
      have f106 := (FrI.gen hfr85 (nm1 (AD.nm hAD 15 rfl)) (AD.nl hAD 15 rfl rfl rfl) (FrI.gen hfr54 (nm1 (AD.nm hAD 15 rfl)) (AD.nl hAD 15 rfl rfl rfl) (up_ne hw33 (AD.ne hAD 15 10 rfl rfl rfl) (up_ne hw25 (AD.ne hAD 15 13 rfl rfl rfl) (up_ne hw21 (AD.ne hAD 15 16 rfl rfl rfl) f18)))))
      have f107 := (FrI.gen hfr85 (nm1 (AD.nm hAD 16 rfl)) (AD.nl hAD 16 rfl rfl rfl) (FrI.gen hfr54 (nm1 (AD.nm hAD 16 rfl)) (AD.nl hAD 16 rfl rfl rfl) (up_ne hw33 (AD.ne hAD 16 10 rfl rfl rfl) (up_ne hw25 (AD.ne hAD 16 13 rfl rfl rfl) f22))))
      have f108 := (FrI.gen hfr85 (nm1 (AD.nm hAD 17 rfl)) (AD.nl hAD 17 rfl rfl rfl) (FrI.gen hfr54 (nm1 (AD.nm hAD 17 rfl)) (AD.nl hAD 17 rfl rfl rfl) (up_ne hw33 (AD.ne hAD 17 10 rfl rfl rfl) (up_ne hw25 (AD.ne hAD 17 13 rfl rfl rfl) (up_ne hw21 (AD.ne hAD 17 16 rfl rfl rfl) (up_ne hw17 (AD.ne hAD 17 15 rfl rfl rfl) (up_ne hw13 (AD.ne hAD 17 19 rfl rfl rfl) (up_ne hw9 (AD.ne hAD 17 18 rfl rfl rfl) f6))))))))
      have f109 := (FrI.gen hfr85 (nm1 (AD.nm hAD 18 rfl)) (AD.nl hAD 18 rfl rfl rfl) (FrI.gen hfr54 (nm1 (AD.nm hAD 18 rfl)) (AD.nl hAD 18 rfl rfl rfl) (up_ne hw33 (AD.ne hAD 18 10 rfl rfl rfl) (up_ne hw25 (AD.ne hAD 18 13 rfl rfl rfl) (up_ne hw21 (AD.ne hAD 18 16 rfl rfl rfl) (up_ne hw17 (AD.ne hAD 18 15 rfl rfl rfl) (up_ne hw13 (AD.ne hAD 18 19 rfl rfl rfl) f10)))))))
      have f110 := (FrI.gen hfr85 (nm1 (AD.nm hAD 19 rfl)) (AD.nl hAD 19 rfl rfl rfl) (FrI.gen hfr54 (nm1 (AD.nm hAD 19 rfl)) (AD.nl hAD 19 rfl rfl rfl) (up_ne hw33 (AD.ne hAD 19 10 rfl rfl rfl) (up_ne hw25 (AD.ne hAD 19 13 rfl rfl rfl) (up_ne hw21 (AD.ne hAD 19 16 rfl rfl rfl) (up_ne hw17 (AD.ne hAD 19 15 rfl rfl rfl) f14))))))
      have v111 := (FF.at hff87 rfl v48)
      exact j_vret rfl ⟨rfl, _, ⟨(((((((((((FrI.mono hfr (by simp) rfl : FrI A [mm] [10, 11, 12, 13, 14, 15, 16, 17, 18, 19] w0 _).trans (FrI.ua hw1 rfl)).trans (FrI.ua hw5 rfl)).trans (FrI.ua hw9 rfl)).trans (FrI.ua hw13 rfl)).trans (FrI.ua hw17 rfl)).trans (FrI.ua hw21 rfl)).trans (FrI.ua hw25 rfl)).trans (FrI.ua hw33 rfl)).trans (FrI.sub hfr54 rfl)).trans (FrI.sub hfr85 rfl)), hm86, (((FF.mono hff rfl : FF [5, 8, 9, 22, 24, 25, 26, 27, 28, 29, 30, 31] fs0 _).trans (FF.mono hff56 rfl)).trans (FF.mono hff87 rfl))⟩, _, _, _, _, _, _, _, _, _, _, ⟨f101, f102, f103, f104, f105, f106, f107, f108, f109, f110⟩, ⟨_, v111⟩, Or.inl (RFl.mk hbd80 ⟨by decide, by decide⟩ v82 v83)⟩ (show 0 ≤ 0 by omega) (show 0 ≤ 0 by omega) dX6_readMarked_386
  · skip
    refine j_eqi (y := nI 0) (by rw [decide_eq_false hk40]; rfl) ?_
    refine j_if_eqN 293 (by decide) dX6_readMarked_232 (by decide) (fun _ => ?_) (fun h9 => absurd rfl h9)
    refine j_aload_n dX6_readMarked_293 1 rfl ?_
    refine j_bipush (v := nI 114) dX6_readMarked_294 (by decide) ?_
    refine j_callV (rm := rX6_isSign) (As := [.int (nI 114)]) (st := []) (b0 := mm) (ci := 6) (na := 1) (m_isSign (c := 114) hAD f27 hA h24 h25 hT rfl (by decide)) (by intro E w9 h9; first | exact nomatch h9.1 | (obtain ⟨_, h9, _⟩ := h9; exact nomatch h9) | (obtain ⟨_, _, _, h9, _⟩ := h9; exact nomatch h9)) gX6_readMarked_X6_isSign rfl rfl f27 (by decide +kernel) rfl ⟨Nat.le_of_ble_eq_true rfl, Nat.le_of_ble_eq_true rfl⟩ rfl (Nat.le_of_ble_eq_true rfl) dX6_readMarked_296 ⟨(show 0 + 0 ≤ 0 by omega), (show 0 + 0 ≤ 0 by omega)⟩ (fun v112 w113 h114 => ?_)
    obtain ⟨h114, h115⟩ := h114
    cases h114
    subst w113
    refine j_after (st' := [.int (zb (decide (tkK t ln a = 114)))]) (k' := 0) (n' := 0) rfl rfl rfl ?_
    by_cases hk114 : tkK t ln a = 114
    · skip
      refine j_eqi (y := nI 1) (by rw [decide_eq_true hk114]; rfl) ?_
      refine j_if_eqN 317 (by decide) dX6_readMarked_299 (by decide) (fun h9 => absurd h9 (by decide)) (fun _ => ?_)
      refine j_aload_n dX6_readMarked_302 1 rfl ?_
      refine j_get (v := .ref (A 10)) flX6_readMarked_17 f27 (hA.2 10 rfl) dX6_readMarked_303 ?_
      refine j_iload dX6_readMarked_306 0 rfl ?_
      refine j_iconst (v := nI 3) dX6_readMarked_308 (by decide) ?_
      have f116 := (up_ne hw25 (AD.ne hAD 10 13 rfl rfl rfl) (up_ne hw21 (AD.ne hAD 10 16 rfl rfl rfl) (up_ne hw17 (AD.ne hAD 10 15 rfl rfl rfl) (up_ne hw13 (AD.ne hAD 10 19 rfl rfl rfl) (up_ne hw9 (AD.ne hAD 10 18 rfl rfl rfl) (up_ne hw5 (AD.ne hAD 10 17 rfl rfl rfl) (up_ne hw1 (AD.ne hAD 10 11 rfl rfl rfl) a10)))))))
      refine j_iastn (j := ev) (x := 3) f116 rfl (by omega) (by omega) dX6_readMarked_309 ?_
      refine j_w (fun w117 hw117 => ?_)
      have f118 : w117 (A 10) = some (.inl (0, 100, .inl (fun j9 => nI ((va_up xk ev 3) j9)))) := up_at hw117
      obtain ⟨hR119, hI120, hb121, hl122⟩ := rR_go (s1 := (512, mr, cu, false, false, rep, 0, (if cud then 1 else 0), opF f ev 3 be me pa st (zb mkd) (zb cud), ev, be, cq, st, me, pa)) ht hR ((fOpen hbe hsd6).trans (if_neg (by omega))) (by omega) (by rw [hk114]; rfl) hI ha
      have htb8 := tb_open (k := 3) (be := be) (me := me) (pa := pa) (st := st) (mk := zb mkd) (cq := zb cud) hTB
      have hop8 := op_open (xk := xk) (xm := xm) (xp := xp) (xb := xb) (xe := xe) (xg := xg) (xl := xl) (xi := xi) (xc := xc) (f := f) (ev := ev) (k := 3) (be := be) (me := me) (pa := pa) (st := st) (mk := zb mkd) (cq := zb cud)
      refine j_aload_n dX6_readMarked_310 1 rfl ?_
      obtain ⟨az123, haz123⟩ : ∃ z, tkN t ln a = z := ⟨_, rfl⟩
      have f135 := (up_ne hw117 (AD.mn hAD 10 rfl) f27)
      have f136 := (up_ne hw117 (AD.ne hAD 1 10 rfl rfl rfl) (up_ne hw25 (AD.ne hAD 1 13 rfl rfl rfl) (up_ne hw21 (AD.ne hAD 1 16 rfl rfl rfl) (up_ne hw17 (AD.ne hAD 1 15 rfl rfl rfl) (up_ne hw13 (AD.ne hAD 1 19 rfl rfl rfl) (up_ne hw9 (AD.ne hAD 1 18 rfl rfl rfl) (up_ne hw5 (AD.ne hAD 1 17 rfl rfl rfl) (up_ne hw1 (AD.ne hAD 1 11 rfl rfl rfl) a1))))))))
      refine j_callV (rm := rX6_next) (As := []) (st := []) (b0 := mm) (ci := 6) (na := 0) (m_next1 (a := az123) hAD f135 hA h22 h23 h26 f136 ht hln (tkN_bd ha).2.1 haz123) (by intro E w9 h9; first | exact nomatch h9.1 | (obtain ⟨_, h9, _⟩ := h9; exact nomatch h9) | (obtain ⟨_, _, _, h9, _⟩ := h9; exact nomatch h9)) gX6_readMarked_X6_next rfl rfl f135 (by decide +kernel) rfl ⟨Nat.le_of_ble_eq_true rfl, Nat.le_of_ble_eq_true rfl⟩ rfl (Nat.le_of_ble_eq_true rfl) dX6_readMarked_311 ⟨(show 0 + 0 ≤ 0 by omega), (show 0 + 0 ≤ 0 by omega)⟩ (fun v142 w143 h144 => ?_)
      obtain ⟨h141, fs137, ⟨hfr138, hm139, hff140⟩, ⟨tkn124, sg125, nu126, v129, v130, v131, v132, v133, v134, hT127, hN128⟩⟩ := h144
      cases h141
      refine j_after (st' := []) (k' := 0) (n' := 0) rfl rfl rfl ?_
      have r145 : RA A fs137 := RA.ff hA hff140 rfl
      have hT127b := hT127.1
      rw [haz123] at hR119 hb121 hl122
      refine j_goto 373 dX6_readMarked_314 (by decide) ?_
      refine j_lv (lv' := [(0, .ref mm), (1, .int (nI pa)), (4, .int (nI ev))]) [1, 2, 0] rfl ?_
      have v146 := (FF.at hff140 rfl h5)
      have v147 := (FF.at hff140 rfl h6)
      have v148 := (FF.at hff140 rfl h8)
      have v149 := (FF.at hff140 rfl h9)
      have v150 := (FF.at hff140 rfl h23)
      have v151 := (FF.at hff140 rfl h29)
      have v152 := (FF.at hff140 rfl h31)
      have f153 := (FrI.gen hfr138 (nm1 (AD.nm hAD 1 rfl)) (AD.nl hAD 1 rfl rfl rfl) f136)
      have f154 := (FrI.gen hfr138 (nm1 (AD.nm hAD 10 rfl)) (AD.nl hAD 10 rfl rfl rfl) f118)
      have f155 := (FrI.gen hfr138 (nm1 (AD.nm hAD 11 rfl)) (AD.nl hAD 11 rfl rfl rfl) (up_ne hw117 (AD.ne hAD 11 10 rfl rfl rfl) (up_ne hw25 (AD.ne hAD 11 13 rfl rfl rfl) (up_ne hw21 (AD.ne hAD 11 16 rfl rfl rfl) (up_ne hw17 (AD.ne hAD 11 15 rfl rfl rfl) (up_ne hw13 (AD.ne hAD 11 19 rfl rfl rfl) (up_ne hw9 (AD.ne hAD 11 18 rfl rfl rfl) (up_ne hw5 (AD.ne hAD 11 17 rfl rfl rfl) f2))))))))
      have f156 := (FrI.gen hfr138 (nm1 (AD.nm hAD 12 rfl)) (AD.nl hAD 12 rfl rfl rfl) (up_ne hw117 (AD.ne hAD 12 10 rfl rfl rfl) (up_ne hw25 (AD.ne hAD 12 13 rfl rfl rfl) (up_ne hw21 (AD.ne hAD 12 16 rfl rfl rfl) (up_ne hw17 (AD.ne hAD 12 15 rfl rfl rfl) (up_ne hw13 (AD.ne hAD 12 19 rfl rfl rfl) (up_ne hw9 (AD.ne hAD 12 18 rfl rfl rfl) (up_ne hw5 (AD.ne hAD 12 17 rfl rfl rfl) (up_ne hw1 (AD.ne hAD 12 11 rfl rfl rfl) a12)))))))))
      have f157 := (FrI.gen hfr138 (nm1 (AD.nm hAD 13 rfl)) (AD.nl hAD 13 rfl rfl rfl) (up_ne hw117 (AD.ne hAD 13 10 rfl rfl rfl) f26))
      have f158 := (FrI.gen hfr138 (nm1 (AD.nm hAD 14 rfl)) (AD.nl hAD 14 rfl rfl rfl) (up_ne hw117 (AD.ne hAD 14 10 rfl rfl rfl) (up_ne hw25 (AD.ne hAD 14 13 rfl rfl rfl) (up_ne hw21 (AD.ne hAD 14 16 rfl rfl rfl) (up_ne hw17 (AD.ne hAD 14 15 rfl rfl rfl) (up_ne hw13 (AD.ne hAD 14 19 rfl rfl rfl) (up_ne hw9 (AD.ne hAD 14 18 rfl rfl rfl) (up_ne hw5 (AD.ne hAD 14 17 rfl rfl rfl) (up_ne hw1 (AD.ne hAD 14 11 rfl rfl rfl) a14)))))))))
      have f159 := (FrI.gen hfr138 (nm1 (AD.nm hAD 15 rfl)) (AD.nl hAD 15 rfl rfl rfl) (up_ne hw117 (AD.ne hAD 15 10 rfl rfl rfl) (up_ne hw25 (AD.ne hAD 15 13 rfl rfl rfl) (up_ne hw21 (AD.ne hAD 15 16 rfl rfl rfl) f18))))
      have f160 := (FrI.gen hfr138 (nm1 (AD.nm hAD 16 rfl)) (AD.nl hAD 16 rfl rfl rfl) (up_ne hw117 (AD.ne hAD 16 10 rfl rfl rfl) (up_ne hw25 (AD.ne hAD 16 13 rfl rfl rfl) f22)))
      have f161 := (FrI.gen hfr138 (nm1 (AD.nm hAD 17 rfl)) (AD.nl hAD 17 rfl rfl rfl) (up_ne hw117 (AD.ne hAD 17 10 rfl rfl rfl) (up_ne hw25 (AD.ne hAD 17 13 rfl rfl rfl) (up_ne hw21 (AD.ne hAD 17 16 rfl rfl rfl) (up_ne hw17 (AD.ne hAD 17 15 rfl rfl rfl) (up_ne hw13 (AD.ne hAD 17 19 rfl rfl rfl) (up_ne hw9 (AD.ne hAD 17 18 rfl rfl rfl) f6)))))))
      have f162 := (FrI.gen hfr138 (nm1 (AD.nm hAD 18 rfl)) (AD.nl hAD 18 rfl rfl rfl) (up_ne hw117 (AD.ne hAD 18 10 rfl rfl rfl) (up_ne hw25 (AD.ne hAD 18 13 rfl rfl rfl) (up_ne hw21 (AD.ne hAD 18 16 rfl rfl rfl) (up_ne hw17 (AD.ne hAD 18 15 rfl rfl rfl) (up_ne hw13 (AD.ne hAD 18 19 rfl rfl rfl) f10))))))
      have f163 := (FrI.gen hfr138 (nm1 (AD.nm hAD 19 rfl)) (AD.nl hAD 19 rfl rfl rfl) (up_ne hw117 (AD.ne hAD 19 10 rfl rfl rfl) (up_ne hw25 (AD.ne hAD 19 13 rfl rfl rfl) (up_ne hw21 (AD.ne hAD 19 16 rfl rfl rfl) (up_ne hw17 (AD.ne hAD 19 15 rfl rfl rfl) f14)))))
      exact s_m373 hAD ht hln hm139 r145 ((((((((((FrI.mono hfr (by simp) rfl : FrI A [mm] [10, 11, 12, 13, 14, 15, 16, 17, 18, 19] w0 _).trans (FrI.ua hw1 rfl)).trans (FrI.ua hw5 rfl)).trans (FrI.ua hw9 rfl)).trans (FrI.ua hw13 rfl)).trans (FrI.ua hw17 rfl)).trans (FrI.ua hw21 rfl)).trans (FrI.ua hw25 rfl)).trans (FrI.ua hw117 rfl)).trans (FrI.sub hfr138 rfl)) ((FF.mono hff rfl : FF [5, 8, 9, 22, 24, 25, 26, 27, 28, 29, 30, 31] fs0 _).trans (FF.mono hff140 rfl)) v146 v147 v148 v149 v150 v151 v152 v129 v130 v131 v132 v133 v134 f153 f154 f155 f156 f157 f158 f159 f160 f161 f162 f163 hT127 hN128 hR119 hI120 hb121 (by omega) htb8 hop8 (va_up_self _ _ _) hev (by omega)
    · skip
      refine j_eqi (y := nI 0) (by rw [decide_eq_false hk114]; rfl) ?_
      refine j_if_eqN 317 (by decide) dX6_readMarked_299 (by decide) (fun _ => ?_) (fun h9 => absurd rfl h9)
      refine j_aload_n dX6_readMarked_317 1 rfl ?_
      refine j_get (v := .ref (A 10)) flX6_readMarked_17 f27 (hA.2 10 rfl) dX6_readMarked_318 ?_
      refine j_iload dX6_readMarked_321 0 rfl ?_
      refine j_aload_n dX6_readMarked_323 1 rfl ?_
      refine j_bipush (v := nI 126) dX6_readMarked_324 (by decide) ?_
      refine j_callV (rm := rX6_isSign) (As := [.int (nI 126)]) (st := [.int (nI ev), .ref (A 10)]) (b0 := mm) (ci := 6) (na := 1) (m_isSign (c := 126) hAD f27 hA h24 h25 hT rfl (by decide)) (by intro E w9 h9; first | exact nomatch h9.1 | (obtain ⟨_, h9, _⟩ := h9; exact nomatch h9) | (obtain ⟨_, _, _, h9, _⟩ := h9; exact nomatch h9)) gX6_readMarked_X6_isSign rfl rfl f27 (by decide +kernel) rfl ⟨Nat.le_of_ble_eq_true rfl, Nat.le_of_ble_eq_true rfl⟩ rfl (Nat.le_of_ble_eq_true rfl) dX6_readMarked_326 ⟨(show 0 + 0 ≤ 0 by omega), (show 0 + 0 ≤ 0 by omega)⟩ (fun v164 w165 h166 => ?_)
      obtain ⟨h166, h167⟩ := h166
      cases h166
      subst w165
      refine j_after (st' := [.int (zb (decide (tkK t ln a = 126))), .int (nI ev), .ref (A 10)]) (k' := 0) (n' := 0) rfl rfl rfl ?_
      by_cases hk126 : tkK t ln a = 126
      · skip
        refine j_eqi (y := nI 1) (by rw [decide_eq_true hk126]; rfl) ?_
        refine j_if_eqN 336 (by decide) dX6_readMarked_329 (by decide) (fun h9 => absurd h9 (by decide)) (fun _ => ?_)
        refine j_iconst (v := nI 2) dX6_readMarked_332 (by decide) ?_
        refine j_goto 337 dX6_readMarked_333 (by decide) ?_
        have f168 := (up_ne hw25 (AD.ne hAD 10 13 rfl rfl rfl) (up_ne hw21 (AD.ne hAD 10 16 rfl rfl rfl) (up_ne hw17 (AD.ne hAD 10 15 rfl rfl rfl) (up_ne hw13 (AD.ne hAD 10 19 rfl rfl rfl) (up_ne hw9 (AD.ne hAD 10 18 rfl rfl rfl) (up_ne hw5 (AD.ne hAD 10 17 rfl rfl rfl) (up_ne hw1 (AD.ne hAD 10 11 rfl rfl rfl) a10)))))))
        refine j_iastn (j := ev) (x := 2) f168 rfl (by omega) (by omega) dX6_readMarked_337 ?_
        refine j_w (fun w169 hw169 => ?_)
        have f170 : w169 (A 10) = some (.inl (0, 100, .inl (fun j9 => nI ((va_up xk ev 2) j9)))) := up_at hw169
        refine j_aload_n dX6_readMarked_338 1 rfl ?_
        refine j_bipush (v := nI 126) dX6_readMarked_339 (by decide) ?_
        have f171 := (up_ne hw169 (AD.mn hAD 10 rfl) f27)
        refine j_callV (rm := rX6_isSign) (As := [.int (nI 126)]) (st := []) (b0 := mm) (ci := 6) (na := 1) (m_isSign (c := 126) hAD f171 hA h24 h25 hT rfl (by decide)) (by intro E w9 h9; first | exact nomatch h9.1 | (obtain ⟨_, h9, _⟩ := h9; exact nomatch h9) | (obtain ⟨_, _, _, h9, _⟩ := h9; exact nomatch h9)) gX6_readMarked_X6_isSign rfl rfl f171 (by decide +kernel) rfl ⟨Nat.le_of_ble_eq_true rfl, Nat.le_of_ble_eq_true rfl⟩ rfl (Nat.le_of_ble_eq_true rfl) dX6_readMarked_341 ⟨(show 0 + 0 ≤ 0 by omega), (show 0 + 0 ≤ 0 by omega)⟩ (fun v172 w173 h174 => ?_)
        obtain ⟨h174, h175⟩ := h174
        cases h174
        subst w173
        refine j_after (st' := [.int (zb (decide (tkK t ln a = 126)))]) (k' := 0) (n' := 0) rfl rfl rfl ?_
        refine j_eqi (y := nI 1) (by rw [decide_eq_true hk126]; rfl) ?_
        refine j_if_eqN 351 (by decide) dX6_readMarked_344 (by decide) (fun h9 => absurd h9 (by decide)) (fun _ => ?_)
        obtain ⟨hR176, hI177, hb178, hl179⟩ := rR_go (s1 := (64, mr, cu, false, false, rep, 0, (if cud then 1 else 0), opF f ev 2 be me pa st (zb mkd) (zb cud), ev, be, cq, st, me, pa)) ht hR ((fOpen hbe hsd6).trans (if_neg (by omega))) (by omega) (by rw [hk126]; rfl) hI ha
        have htb8 := tb_open (k := 2) (be := be) (me := me) (pa := pa) (st := st) (mk := zb mkd) (cq := zb cud) hTB
        have hop8 := op_open (xk := xk) (xm := xm) (xp := xp) (xb := xb) (xe := xe) (xg := xg) (xl := xl) (xi := xi) (xc := xc) (f := f) (ev := ev) (k := 2) (be := be) (me := me) (pa := pa) (st := st) (mk := zb mkd) (cq := zb cud)
        refine j_aload_n dX6_readMarked_347 1 rfl ?_
        obtain ⟨az180, haz180⟩ : ∃ z, tkN t ln a = z := ⟨_, rfl⟩
        have f192 := (up_ne hw169 (AD.ne hAD 1 10 rfl rfl rfl) (up_ne hw25 (AD.ne hAD 1 13 rfl rfl rfl) (up_ne hw21 (AD.ne hAD 1 16 rfl rfl rfl) (up_ne hw17 (AD.ne hAD 1 15 rfl rfl rfl) (up_ne hw13 (AD.ne hAD 1 19 rfl rfl rfl) (up_ne hw9 (AD.ne hAD 1 18 rfl rfl rfl) (up_ne hw5 (AD.ne hAD 1 17 rfl rfl rfl) (up_ne hw1 (AD.ne hAD 1 11 rfl rfl rfl) a1))))))))
        refine j_callV (rm := rX6_next) (As := []) (st := []) (b0 := mm) (ci := 6) (na := 0) (m_next1 (a := az180) hAD f171 hA h22 h23 h26 f192 ht hln (tkN_bd ha).2.1 haz180) (by intro E w9 h9; first | exact nomatch h9.1 | (obtain ⟨_, h9, _⟩ := h9; exact nomatch h9) | (obtain ⟨_, _, _, h9, _⟩ := h9; exact nomatch h9)) gX6_readMarked_X6_next rfl rfl f171 (by decide +kernel) rfl ⟨Nat.le_of_ble_eq_true rfl, Nat.le_of_ble_eq_true rfl⟩ rfl (Nat.le_of_ble_eq_true rfl) dX6_readMarked_348 ⟨(show 0 + 0 ≤ 0 by omega), (show 0 + 0 ≤ 0 by omega)⟩ (fun v198 w199 h200 => ?_)
        obtain ⟨h197, fs193, ⟨hfr194, hm195, hff196⟩, ⟨tkn181, sg182, nu183, v186, v187, v188, v189, v190, v191, hT184, hN185⟩⟩ := h200
        cases h197
        refine j_after (st' := []) (k' := 0) (n' := 0) rfl rfl rfl ?_
        have r201 : RA A fs193 := RA.ff hA hff196 rfl
        have hT184b := hT184.1
        rw [haz180] at hR176 hb178 hl179
        refine j_aload_n dX6_readMarked_351 1 rfl ?_
        refine j_get (v := .int (nI tkn181)) flX6_readMarked_102 hm195 v187 dX6_readMarked_352 ?_
        refine j_iconst (v := nI 1) dX6_readMarked_355 (by decide) ?_
        refine j_icmp_eqN 367 (by omega) (by omega) dX6_readMarked_356 (by decide) (fun c356 => ?_) (fun c356 => ?_)
        · skip
          have hk2 : tkK t ln az180 = 2 := hT184.2.2.1.mp c356
          have hnu := hN185.1 hk2
          obtain ⟨hR202, hI203, hb204, hl205⟩ := rR_go (s1 := (512, mr, cu, false, false, rep, 0 + 1, (if cud then 1 else 0), adF (opF f ev 2 be me pa st (zb mkd) (zb cud)) ev 0 (tkV t ln az180), ev, be, cq, st, me, pa)) ht hR176 ((fPit hk2 (by decide)).trans ((if_neg (by decide)).trans (if_neg (fun q => q.1 rfl)))) (by omega) (tPitN hk2) hI177 hb178
          have htb9 := tb_add (np := 0) (va := tkV t ln az180) htb8
          have hop9 := op_add (va := tkV t ln az180) hop8 (va_up_self _ _ _) (by decide)
          refine j_aload_n dX6_readMarked_367 1 rfl ?_
          refine j_iload dX6_readMarked_368 0 rfl ?_
          have v206 := (FF.at hff196 rfl h23)
          have v207 := (FF.at hff196 rfl h29)
          have f208 := (FrI.gen hfr194 (nm1 (AD.nm hAD 1 rfl)) (AD.nl hAD 1 rfl rfl rfl) f192)
          have f209 := (FrI.gen hfr194 (nm1 (AD.nm hAD 11 rfl)) (AD.nl hAD 11 rfl rfl rfl) (up_ne hw169 (AD.ne hAD 11 10 rfl rfl rfl) (up_ne hw25 (AD.ne hAD 11 13 rfl rfl rfl) (up_ne hw21 (AD.ne hAD 11 16 rfl rfl rfl) (up_ne hw17 (AD.ne hAD 11 15 rfl rfl rfl) (up_ne hw13 (AD.ne hAD 11 19 rfl rfl rfl) (up_ne hw9 (AD.ne hAD 11 18 rfl rfl rfl) (up_ne hw5 (AD.ne hAD 11 17 rfl rfl rfl) f2))))))))
          have f210 := (FrI.gen hfr194 (nm1 (AD.nm hAD 12 rfl)) (AD.nl hAD 12 rfl rfl rfl) (up_ne hw169 (AD.ne hAD 12 10 rfl rfl rfl) (up_ne hw25 (AD.ne hAD 12 13 rfl rfl rfl) (up_ne hw21 (AD.ne hAD 12 16 rfl rfl rfl) (up_ne hw17 (AD.ne hAD 12 15 rfl rfl rfl) (up_ne hw13 (AD.ne hAD 12 19 rfl rfl rfl) (up_ne hw9 (AD.ne hAD 12 18 rfl rfl rfl) (up_ne hw5 (AD.ne hAD 12 17 rfl rfl rfl) (up_ne hw1 (AD.ne hAD 12 11 rfl rfl rfl) a12)))))))))
          obtain ⟨az211, haz211⟩ : ∃ z, tkN t ln az180 = z := ⟨_, rfl⟩
          refine j_callV (rm := rX6_readPitch) (As := [.int (nI ev)]) (st := []) (b0 := mm) (ci := 6) (na := 1) (m_rpN2 (np := 0) hAD hm195 r201 v186 v187 v188 v189 v190 v191 v206 v207 f208 f209 f210 hT184 ht hln hb178 (by omega) (va_up_self _ _ _) hnu (by omega) (fun k hk => by omega) haz211) (by intro E w9 h9; first | exact nomatch h9.1 | (obtain ⟨_, h9, _⟩ := h9; exact nomatch h9) | (obtain ⟨_, _, _, h9, _⟩ := h9; exact nomatch h9)) gX6_readMarked_X6_readPitch rfl rfl hm195 (by decide +kernel) rfl ⟨Nat.le_of_ble_eq_true rfl, Nat.le_of_ble_eq_true rfl⟩ rfl (Nat.le_of_ble_eq_true rfl) dX6_readMarked_370 ⟨(show 0 + 0 ≤ 0 by omega), (show 0 + 0 ≤ 0 by omega)⟩ (fun v230 w231 h232 => ?_)
          obtain ⟨h229, fs225, ⟨hfr226, hm227, hff228⟩, ⟨tkn212, sg213, nu214, v217, v218, v219, v220, v221, v222, hT215, hN216⟩, f223, f224⟩ := h232
          cases h229
          refine j_after (st' := []) (k' := 0) (n' := 0) rfl rfl rfl ?_
          have r233 : RA A fs225 := RA.ff r201 hff228 rfl
          have hT215b := hT215.1
          rw [haz211] at hR202 hb204 hl205
          refine j_lv (lv' := [(0, .ref mm), (1, .int (nI pa)), (4, .int (nI ev))]) [1, 2, 0] rfl ?_
          have v234 := (FF.at hff228 rfl (FF.at hff196 rfl h5))
          have v235 := (FF.at hff228 rfl (FF.at hff196 rfl h6))
          have v236 := (FF.at hff228 rfl (FF.at hff196 rfl h8))
          have v237 := (FF.at hff228 rfl (FF.at hff196 rfl h9))
          have v238 := (FF.at hff228 rfl v206)
          have v239 := (FF.at hff228 rfl v207)
          have v240 := (FF.at hff228 rfl (FF.at hff196 rfl h31))
          have f241 := (FrI.gen hfr226 (nm1 (AD.nm hAD 1 rfl)) (AD.nl hAD 1 rfl rfl rfl) f208)
          have f242 := (FrI.gen hfr226 (nm1 (AD.nm hAD 10 rfl)) (AD.nl hAD 10 rfl rfl rfl) (FrI.gen hfr194 (nm1 (AD.nm hAD 10 rfl)) (AD.nl hAD 10 rfl rfl rfl) f170))
          have f243 := (FrI.gen hfr226 (nm1 (AD.nm hAD 13 rfl)) (AD.nl hAD 13 rfl rfl rfl) (FrI.gen hfr194 (nm1 (AD.nm hAD 13 rfl)) (AD.nl hAD 13 rfl rfl rfl) (up_ne hw169 (AD.ne hAD 13 10 rfl rfl rfl) f26)))
          have f244 := (FrI.gen hfr226 (nm1 (AD.nm hAD 14 rfl)) (AD.nl hAD 14 rfl rfl rfl) (FrI.gen hfr194 (nm1 (AD.nm hAD 14 rfl)) (AD.nl hAD 14 rfl rfl rfl) (up_ne hw169 (AD.ne hAD 14 10 rfl rfl rfl) (up_ne hw25 (AD.ne hAD 14 13 rfl rfl rfl) (up_ne hw21 (AD.ne hAD 14 16 rfl rfl rfl) (up_ne hw17 (AD.ne hAD 14 15 rfl rfl rfl) (up_ne hw13 (AD.ne hAD 14 19 rfl rfl rfl) (up_ne hw9 (AD.ne hAD 14 18 rfl rfl rfl) (up_ne hw5 (AD.ne hAD 14 17 rfl rfl rfl) (up_ne hw1 (AD.ne hAD 14 11 rfl rfl rfl) a14))))))))))
          have f245 := (FrI.gen hfr226 (nm1 (AD.nm hAD 15 rfl)) (AD.nl hAD 15 rfl rfl rfl) (FrI.gen hfr194 (nm1 (AD.nm hAD 15 rfl)) (AD.nl hAD 15 rfl rfl rfl) (up_ne hw169 (AD.ne hAD 15 10 rfl rfl rfl) (up_ne hw25 (AD.ne hAD 15 13 rfl rfl rfl) (up_ne hw21 (AD.ne hAD 15 16 rfl rfl rfl) f18)))))
          have f246 := (FrI.gen hfr226 (nm1 (AD.nm hAD 16 rfl)) (AD.nl hAD 16 rfl rfl rfl) (FrI.gen hfr194 (nm1 (AD.nm hAD 16 rfl)) (AD.nl hAD 16 rfl rfl rfl) (up_ne hw169 (AD.ne hAD 16 10 rfl rfl rfl) (up_ne hw25 (AD.ne hAD 16 13 rfl rfl rfl) f22))))
          have f247 := (FrI.gen hfr226 (nm1 (AD.nm hAD 17 rfl)) (AD.nl hAD 17 rfl rfl rfl) (FrI.gen hfr194 (nm1 (AD.nm hAD 17 rfl)) (AD.nl hAD 17 rfl rfl rfl) (up_ne hw169 (AD.ne hAD 17 10 rfl rfl rfl) (up_ne hw25 (AD.ne hAD 17 13 rfl rfl rfl) (up_ne hw21 (AD.ne hAD 17 16 rfl rfl rfl) (up_ne hw17 (AD.ne hAD 17 15 rfl rfl rfl) (up_ne hw13 (AD.ne hAD 17 19 rfl rfl rfl) (up_ne hw9 (AD.ne hAD 17 18 rfl rfl rfl) f6))))))))
          have f248 := (FrI.gen hfr226 (nm1 (AD.nm hAD 18 rfl)) (AD.nl hAD 18 rfl rfl rfl) (FrI.gen hfr194 (nm1 (AD.nm hAD 18 rfl)) (AD.nl hAD 18 rfl rfl rfl) (up_ne hw169 (AD.ne hAD 18 10 rfl rfl rfl) (up_ne hw25 (AD.ne hAD 18 13 rfl rfl rfl) (up_ne hw21 (AD.ne hAD 18 16 rfl rfl rfl) (up_ne hw17 (AD.ne hAD 18 15 rfl rfl rfl) (up_ne hw13 (AD.ne hAD 18 19 rfl rfl rfl) f10)))))))
          have f249 := (FrI.gen hfr226 (nm1 (AD.nm hAD 19 rfl)) (AD.nl hAD 19 rfl rfl rfl) (FrI.gen hfr194 (nm1 (AD.nm hAD 19 rfl)) (AD.nl hAD 19 rfl rfl rfl) (up_ne hw169 (AD.ne hAD 19 10 rfl rfl rfl) (up_ne hw25 (AD.ne hAD 19 13 rfl rfl rfl) (up_ne hw21 (AD.ne hAD 19 16 rfl rfl rfl) (up_ne hw17 (AD.ne hAD 19 15 rfl rfl rfl) f14))))))
          exact s_m373 hAD ht hln hm227 r233 (((((((((((FrI.mono hfr (by simp) rfl : FrI A [mm] [10, 11, 12, 13, 14, 15, 16, 17, 18, 19] w0 _).trans (FrI.ua hw1 rfl)).trans (FrI.ua hw5 rfl)).trans (FrI.ua hw9 rfl)).trans (FrI.ua hw13 rfl)).trans (FrI.ua hw17 rfl)).trans (FrI.ua hw21 rfl)).trans (FrI.ua hw25 rfl)).trans (FrI.ua hw169 rfl)).trans (FrI.sub hfr194 rfl)).trans (FrI.sub hfr226 rfl)) (((FF.mono hff rfl : FF [5, 8, 9, 22, 24, 25, 26, 27, 28, 29, 30, 31] fs0 _).trans (FF.mono hff196 rfl)).trans (FF.mono hff228 rfl)) v234 v235 v236 v237 v238 v239 v240 v217 v218 v219 v220 v221 v222 f241 f242 f223 f224 f243 f244 f245 f246 f247 f248 f249 hT215 hN216 hR202 hI203 hb204 (by omega) htb9 hop9 (va_up_self _ _ _) hev (by omega)
        · skip
          have hk2 : ¬ tkK t ln az180 = 2 := fun q => c356 (hT184.2.2.1.mpr q)
          have hbd250 := rR_bad (b := 1) hR176 (rf_1 (f1_64 (tk_k ht) hk2)) (by decide)
          refine j_aload_n dX6_readMarked_359 1 rfl ?_
          refine j_iconst (v := nI 1) dX6_readMarked_360 (by decide) ?_
          have v251 := (FF.at hff196 rfl h29)
          refine j_callV (rm := rX6_wrong) (As := [.int (nI 1)]) (st := []) (b0 := mm) (ci := 6) (na := 1) (m_wrong0 (k := 1) hAD hm195 r201 v251 v190) (by intro E w9 h9; first | exact nomatch h9.1 | (obtain ⟨_, h9, _⟩ := h9; exact nomatch h9) | (obtain ⟨_, _, _, h9, _⟩ := h9; exact nomatch h9)) gX6_readMarked_X6_wrong rfl rfl hm195 (by decide +kernel) rfl ⟨Nat.le_of_ble_eq_true rfl, Nat.le_of_ble_eq_true rfl⟩ rfl (Nat.le_of_ble_eq_true rfl) dX6_readMarked_361 ⟨(show 0 + 0 ≤ 0 by omega), (show 0 + 0 ≤ 0 by omega)⟩ (fun v259 w260 h261 => ?_)
          obtain ⟨h258, fs254, ⟨hfr255, hm256, hff257⟩, v252, v253⟩ := h261
          cases h258
          refine j_after (st' := []) (k' := 0) (n' := 0) rfl rfl rfl ?_
          have r262 : RA A fs254 := RA.ff r201 hff257 rfl
          refine j_goto 373 dX6_readMarked_364 (by decide) ?_
          refine j_aload_n dX6_readMarked_373 1 rfl ?_
          refine j_bipush (v := nI 58) dX6_readMarked_374 (by decide) ?_
          refine j_callV (rm := rX6_need) (As := [.int (nI 58)]) (st := []) (b0 := mm) (ci := 6) (na := 1) (m_need1 (c := 58) hAD hm256 r262 v252 (by omega) (by omega)) (by intro E w9 h9; first | exact nomatch h9.1 | (obtain ⟨_, h9, _⟩ := h9; exact nomatch h9) | (obtain ⟨_, _, _, h9, _⟩ := h9; exact nomatch h9)) gX6_readMarked_X6_need rfl rfl hm256 (by decide +kernel) rfl ⟨Nat.le_of_ble_eq_true rfl, Nat.le_of_ble_eq_true rfl⟩ rfl (Nat.le_of_ble_eq_true rfl) dX6_readMarked_376 ⟨(show 0 + 0 ≤ 0 by omega), (show 0 + 0 ≤ 0 by omega)⟩ (fun v263 w264 h265 => ?_)
          obtain ⟨h265, h266⟩ := h265
          cases h265
          subst w264
          refine j_after (st' := []) (k' := 0) (n' := 0) rfl rfl rfl ?_
          refine j_aload_n dX6_readMarked_379 1 rfl ?_
          refine j_get (v := .int (nI 1)) flX6_readMarked_124 hm256 v252 dX6_readMarked_380 ?_
          refine j_if_eqN 387 (by decide) dX6_readMarked_383 (by decide) (fun h9 => absurd h9 (by decide)) (fun _ => ?_)
          have f267 := (FrI.gen hfr255 (nm1 (AD.nm hAD 10 rfl)) (AD.nl hAD 10 rfl rfl rfl) (FrI.gen hfr194 (nm1 (AD.nm hAD 10 rfl)) (AD.nl hAD 10 rfl rfl rfl) f170))
          have f268 := (FrI.gen hfr255 (nm1 (AD.nm hAD 11 rfl)) (AD.nl hAD 11 rfl rfl rfl) (FrI.gen hfr194 (nm1 (AD.nm hAD 11 rfl)) (AD.nl hAD 11 rfl rfl rfl) (up_ne hw169 (AD.ne hAD 11 10 rfl rfl rfl) (up_ne hw25 (AD.ne hAD 11 13 rfl rfl rfl) (up_ne hw21 (AD.ne hAD 11 16 rfl rfl rfl) (up_ne hw17 (AD.ne hAD 11 15 rfl rfl rfl) (up_ne hw13 (AD.ne hAD 11 19 rfl rfl rfl) (up_ne hw9 (AD.ne hAD 11 18 rfl rfl rfl) (up_ne hw5 (AD.ne hAD 11 17 rfl rfl rfl) f2)))))))))
          have f269 := (FrI.gen hfr255 (nm1 (AD.nm hAD 12 rfl)) (AD.nl hAD 12 rfl rfl rfl) (FrI.gen hfr194 (nm1 (AD.nm hAD 12 rfl)) (AD.nl hAD 12 rfl rfl rfl) (up_ne hw169 (AD.ne hAD 12 10 rfl rfl rfl) (up_ne hw25 (AD.ne hAD 12 13 rfl rfl rfl) (up_ne hw21 (AD.ne hAD 12 16 rfl rfl rfl) (up_ne hw17 (AD.ne hAD 12 15 rfl rfl rfl) (up_ne hw13 (AD.ne hAD 12 19 rfl rfl rfl) (up_ne hw9 (AD.ne hAD 12 18 rfl rfl rfl) (up_ne hw5 (AD.ne hAD 12 17 rfl rfl rfl) (up_ne hw1 (AD.ne hAD 12 11 rfl rfl rfl) a12))))))))))
          have f270 := (FrI.gen hfr255 (nm1 (AD.nm hAD 13 rfl)) (AD.nl hAD 13 rfl rfl rfl) (FrI.gen hfr194 (nm1 (AD.nm hAD 13 rfl)) (AD.nl hAD 13 rfl rfl rfl) (up_ne hw169 (AD.ne hAD 13 10 rfl rfl rfl) f26)))
          have f271 := (FrI.gen hfr255 (nm1 (AD.nm hAD 14 rfl)) (AD.nl hAD 14 rfl rfl rfl) (FrI.gen hfr194 (nm1 (AD.nm hAD 14 rfl)) (AD.nl hAD 14 rfl rfl rfl) (up_ne hw169 (AD.ne hAD 14 10 rfl rfl rfl) (up_ne hw25 (AD.ne hAD 14 13 rfl rfl rfl) (up_ne hw21 (AD.ne hAD 14 16 rfl rfl rfl) (up_ne hw17 (AD.ne hAD 14 15 rfl rfl rfl) (up_ne hw13 (AD.ne hAD 14 19 rfl rfl rfl) (up_ne hw9 (AD.ne hAD 14 18 rfl rfl rfl) (up_ne hw5 (AD.ne hAD 14 17 rfl rfl rfl) (up_ne hw1 (AD.ne hAD 14 11 rfl rfl rfl) a14))))))))))
          have f272 := (FrI.gen hfr255 (nm1 (AD.nm hAD 15 rfl)) (AD.nl hAD 15 rfl rfl rfl) (FrI.gen hfr194 (nm1 (AD.nm hAD 15 rfl)) (AD.nl hAD 15 rfl rfl rfl) (up_ne hw169 (AD.ne hAD 15 10 rfl rfl rfl) (up_ne hw25 (AD.ne hAD 15 13 rfl rfl rfl) (up_ne hw21 (AD.ne hAD 15 16 rfl rfl rfl) f18)))))
          have f273 := (FrI.gen hfr255 (nm1 (AD.nm hAD 16 rfl)) (AD.nl hAD 16 rfl rfl rfl) (FrI.gen hfr194 (nm1 (AD.nm hAD 16 rfl)) (AD.nl hAD 16 rfl rfl rfl) (up_ne hw169 (AD.ne hAD 16 10 rfl rfl rfl) (up_ne hw25 (AD.ne hAD 16 13 rfl rfl rfl) f22))))
          have f274 := (FrI.gen hfr255 (nm1 (AD.nm hAD 17 rfl)) (AD.nl hAD 17 rfl rfl rfl) (FrI.gen hfr194 (nm1 (AD.nm hAD 17 rfl)) (AD.nl hAD 17 rfl rfl rfl) (up_ne hw169 (AD.ne hAD 17 10 rfl rfl rfl) (up_ne hw25 (AD.ne hAD 17 13 rfl rfl rfl) (up_ne hw21 (AD.ne hAD 17 16 rfl rfl rfl) (up_ne hw17 (AD.ne hAD 17 15 rfl rfl rfl) (up_ne hw13 (AD.ne hAD 17 19 rfl rfl rfl) (up_ne hw9 (AD.ne hAD 17 18 rfl rfl rfl) f6))))))))
          have f275 := (FrI.gen hfr255 (nm1 (AD.nm hAD 18 rfl)) (AD.nl hAD 18 rfl rfl rfl) (FrI.gen hfr194 (nm1 (AD.nm hAD 18 rfl)) (AD.nl hAD 18 rfl rfl rfl) (up_ne hw169 (AD.ne hAD 18 10 rfl rfl rfl) (up_ne hw25 (AD.ne hAD 18 13 rfl rfl rfl) (up_ne hw21 (AD.ne hAD 18 16 rfl rfl rfl) (up_ne hw17 (AD.ne hAD 18 15 rfl rfl rfl) (up_ne hw13 (AD.ne hAD 18 19 rfl rfl rfl) f10)))))))
          have f276 := (FrI.gen hfr255 (nm1 (AD.nm hAD 19 rfl)) (AD.nl hAD 19 rfl rfl rfl) (FrI.gen hfr194 (nm1 (AD.nm hAD 19 rfl)) (AD.nl hAD 19 rfl rfl rfl) (up_ne hw169 (AD.ne hAD 19 10 rfl rfl rfl) (up_ne hw25 (AD.ne hAD 19 13 rfl rfl rfl) (up_ne hw21 (AD.ne hAD 19 16 rfl rfl rfl) (up_ne hw17 (AD.ne hAD 19 15 rfl rfl rfl) f14))))))
          have v277 := (FF.at hff257 rfl v189)
          exact j_vret rfl ⟨rfl, _, ⟨(((((((((((FrI.mono hfr (by simp) rfl : FrI A [mm] [10, 11, 12, 13, 14, 15, 16, 17, 18, 19] w0 _).trans (FrI.ua hw1 rfl)).trans (FrI.ua hw5 rfl)).trans (FrI.ua hw9 rfl)).trans (FrI.ua hw13 rfl)).trans (FrI.ua hw17 rfl)).trans (FrI.ua hw21 rfl)).trans (FrI.ua hw25 rfl)).trans (FrI.ua hw169 rfl)).trans (FrI.sub hfr194 rfl)).trans (FrI.sub hfr255 rfl)), hm256, (((FF.mono hff rfl : FF [5, 8, 9, 22, 24, 25, 26, 27, 28, 29, 30, 31] fs0 _).trans (FF.mono hff196 rfl)).trans (FF.mono hff257 rfl))⟩, _, _, _, _, _, _, _, _, _, _, ⟨f267, f268, f269, f270, f271, f272, f273, f274, f275, f276⟩, ⟨_, v277⟩, Or.inl (RFl.mk hbd250 ⟨by decide, by decide⟩ v252 v253)⟩ (show 0 ≤ 0 by omega) (show 0 ≤ 0 by omega) dX6_readMarked_386
      · skip
        refine j_eqi (y := nI 0) (by rw [decide_eq_false hk126]; rfl) ?_
        refine j_if_eqN 336 (by decide) dX6_readMarked_329 (by decide) (fun _ => ?_) (fun h9 => absurd rfl h9)
        refine j_iconst (v := nI 0) dX6_readMarked_336 (by decide) ?_
        have f278 := (up_ne hw25 (AD.ne hAD 10 13 rfl rfl rfl) (up_ne hw21 (AD.ne hAD 10 16 rfl rfl rfl) (up_ne hw17 (AD.ne hAD 10 15 rfl rfl rfl) (up_ne hw13 (AD.ne hAD 10 19 rfl rfl rfl) (up_ne hw9 (AD.ne hAD 10 18 rfl rfl rfl) (up_ne hw5 (AD.ne hAD 10 17 rfl rfl rfl) (up_ne hw1 (AD.ne hAD 10 11 rfl rfl rfl) a10)))))))
        refine j_iastn (j := ev) (x := 0) f278 rfl (by omega) (by omega) dX6_readMarked_337 ?_
        refine j_w (fun w279 hw279 => ?_)
        have f280 : w279 (A 10) = some (.inl (0, 100, .inl (fun j9 => nI ((va_up xk ev 0) j9)))) := up_at hw279
        refine j_aload_n dX6_readMarked_338 1 rfl ?_
        refine j_bipush (v := nI 126) dX6_readMarked_339 (by decide) ?_
        have f281 := (up_ne hw279 (AD.mn hAD 10 rfl) f27)
        refine j_callV (rm := rX6_isSign) (As := [.int (nI 126)]) (st := []) (b0 := mm) (ci := 6) (na := 1) (m_isSign (c := 126) hAD f281 hA h24 h25 hT rfl (by decide)) (by intro E w9 h9; first | exact nomatch h9.1 | (obtain ⟨_, h9, _⟩ := h9; exact nomatch h9) | (obtain ⟨_, _, _, h9, _⟩ := h9; exact nomatch h9)) gX6_readMarked_X6_isSign rfl rfl f281 (by decide +kernel) rfl ⟨Nat.le_of_ble_eq_true rfl, Nat.le_of_ble_eq_true rfl⟩ rfl (Nat.le_of_ble_eq_true rfl) dX6_readMarked_341 ⟨(show 0 + 0 ≤ 0 by omega), (show 0 + 0 ≤ 0 by omega)⟩ (fun v282 w283 h284 => ?_)
        obtain ⟨h284, h285⟩ := h284
        cases h284
        subst w283
        refine j_after (st' := [.int (zb (decide (tkK t ln a = 126)))]) (k' := 0) (n' := 0) rfl rfl rfl ?_
        refine j_eqi (y := nI 0) (by rw [decide_eq_false hk126]; rfl) ?_
        refine j_if_eqN 351 (by decide) dX6_readMarked_344 (by decide) (fun _ => ?_) (fun h9 => absurd rfl h9)
        refine j_aload_n dX6_readMarked_351 1 rfl ?_
        refine j_get (v := .int (nI tkn)) flX6_readMarked_102 f281 h24 dX6_readMarked_352 ?_
        refine j_iconst (v := nI 1) dX6_readMarked_355 (by decide) ?_
        refine j_icmp_eqN 367 (by omega) (by omega) dX6_readMarked_356 (by decide) (fun c356 => ?_) (fun c356 => ?_)
        · skip
          have hk2 : tkK t ln a = 2 := hT.2.2.1.mp c356
          have hnu := hN.1 hk2
          obtain ⟨hR286, hI287, hb288, hl289⟩ := rR_go (s1 := (512, mr, cu, false, false, rep, 0 + 1, (if cud then 1 else 0), adF (opF f ev 0 be me pa st (zb mkd) (zb cud)) ev 0 (tkV t ln a), ev, be, cq, st, me, pa)) ht hR ((fOpen hbe hsd6).trans (if_neg (by omega))) (by omega) (tPitO hk2 hsd6) hI ha
          have htb8 := tb_open (k := 0) (be := be) (me := me) (pa := pa) (st := st) (mk := zb mkd) (cq := zb cud) hTB
          have hop8 := op_open (xk := xk) (xm := xm) (xp := xp) (xb := xb) (xe := xe) (xg := xg) (xl := xl) (xi := xi) (xc := xc) (f := f) (ev := ev) (k := 0) (be := be) (me := me) (pa := pa) (st := st) (mk := zb mkd) (cq := zb cud)
          have htb9 := tb_add (np := 0) (va := tkV t ln a) htb8
          have hop9 := op_add (va := tkV t ln a) hop8 (va_up_self _ _ _) (by decide)
          refine j_aload_n dX6_readMarked_367 1 rfl ?_
          refine j_iload dX6_readMarked_368 0 rfl ?_
          have f290 := (up_ne hw279 (AD.ne hAD 1 10 rfl rfl rfl) (up_ne hw25 (AD.ne hAD 1 13 rfl rfl rfl) (up_ne hw21 (AD.ne hAD 1 16 rfl rfl rfl) (up_ne hw17 (AD.ne hAD 1 15 rfl rfl rfl) (up_ne hw13 (AD.ne hAD 1 19 rfl rfl rfl) (up_ne hw9 (AD.ne hAD 1 18 rfl rfl rfl) (up_ne hw5 (AD.ne hAD 1 17 rfl rfl rfl) (up_ne hw1 (AD.ne hAD 1 11 rfl rfl rfl) a1))))))))
          have f291 := (up_ne hw279 (AD.ne hAD 11 10 rfl rfl rfl) (up_ne hw25 (AD.ne hAD 11 13 rfl rfl rfl) (up_ne hw21 (AD.ne hAD 11 16 rfl rfl rfl) (up_ne hw17 (AD.ne hAD 11 15 rfl rfl rfl) (up_ne hw13 (AD.ne hAD 11 19 rfl rfl rfl) (up_ne hw9 (AD.ne hAD 11 18 rfl rfl rfl) (up_ne hw5 (AD.ne hAD 11 17 rfl rfl rfl) f2)))))))
          have f292 := (up_ne hw279 (AD.ne hAD 12 10 rfl rfl rfl) (up_ne hw25 (AD.ne hAD 12 13 rfl rfl rfl) (up_ne hw21 (AD.ne hAD 12 16 rfl rfl rfl) (up_ne hw17 (AD.ne hAD 12 15 rfl rfl rfl) (up_ne hw13 (AD.ne hAD 12 19 rfl rfl rfl) (up_ne hw9 (AD.ne hAD 12 18 rfl rfl rfl) (up_ne hw5 (AD.ne hAD 12 17 rfl rfl rfl) (up_ne hw1 (AD.ne hAD 12 11 rfl rfl rfl) a12))))))))
          obtain ⟨az293, haz293⟩ : ∃ z, tkN t ln a = z := ⟨_, rfl⟩
          refine j_callV (rm := rX6_readPitch) (As := [.int (nI ev)]) (st := []) (b0 := mm) (ci := 6) (na := 1) (m_rpN2 (np := 0) hAD f281 hA h22 h24 h25 h26 h27 h28 h23 h29 f290 f291 f292 hT ht hln ha (by omega) (va_up_self _ _ _) hnu (by omega) (fun k hk => by omega) haz293) (by intro E w9 h9; first | exact nomatch h9.1 | (obtain ⟨_, h9, _⟩ := h9; exact nomatch h9) | (obtain ⟨_, _, _, h9, _⟩ := h9; exact nomatch h9)) gX6_readMarked_X6_readPitch rfl rfl f281 (by decide +kernel) rfl ⟨Nat.le_of_ble_eq_true rfl, Nat.le_of_ble_eq_true rfl⟩ rfl (Nat.le_of_ble_eq_true rfl) dX6_readMarked_370 ⟨(show 0 + 0 ≤ 0 by omega), (show 0 + 0 ≤ 0 by omega)⟩ (fun v312 w313 h314 => ?_)
          obtain ⟨h311, fs307, ⟨hfr308, hm309, hff310⟩, ⟨tkn294, sg295, nu296, v299, v300, v301, v302, v303, v304, hT297, hN298⟩, f305, f306⟩ := h314
          cases h311
          refine j_after (st' := []) (k' := 0) (n' := 0) rfl rfl rfl ?_
          have r315 : RA A fs307 := RA.ff hA hff310 rfl
          have hT297b := hT297.1
          rw [haz293] at hR286 hb288 hl289
          refine j_lv (lv' := [(0, .ref mm), (1, .int (nI pa)), (4, .int (nI ev))]) [1, 2, 0] rfl ?_
          have v316 := (FF.at hff310 rfl h5)
          have v317 := (FF.at hff310 rfl h6)
          have v318 := (FF.at hff310 rfl h8)
          have v319 := (FF.at hff310 rfl h9)
          have v320 := (FF.at hff310 rfl h23)
          have v321 := (FF.at hff310 rfl h29)
          have v322 := (FF.at hff310 rfl h31)
          have f323 := (FrI.gen hfr308 (nm1 (AD.nm hAD 1 rfl)) (AD.nl hAD 1 rfl rfl rfl) f290)
          have f324 := (FrI.gen hfr308 (nm1 (AD.nm hAD 10 rfl)) (AD.nl hAD 10 rfl rfl rfl) f280)
          have f325 := (FrI.gen hfr308 (nm1 (AD.nm hAD 13 rfl)) (AD.nl hAD 13 rfl rfl rfl) (up_ne hw279 (AD.ne hAD 13 10 rfl rfl rfl) f26))
          have f326 := (FrI.gen hfr308 (nm1 (AD.nm hAD 14 rfl)) (AD.nl hAD 14 rfl rfl rfl) (up_ne hw279 (AD.ne hAD 14 10 rfl rfl rfl) (up_ne hw25 (AD.ne hAD 14 13 rfl rfl rfl) (up_ne hw21 (AD.ne hAD 14 16 rfl rfl rfl) (up_ne hw17 (AD.ne hAD 14 15 rfl rfl rfl) (up_ne hw13 (AD.ne hAD 14 19 rfl rfl rfl) (up_ne hw9 (AD.ne hAD 14 18 rfl rfl rfl) (up_ne hw5 (AD.ne hAD 14 17 rfl rfl rfl) (up_ne hw1 (AD.ne hAD 14 11 rfl rfl rfl) a14)))))))))
          have f327 := (FrI.gen hfr308 (nm1 (AD.nm hAD 15 rfl)) (AD.nl hAD 15 rfl rfl rfl) (up_ne hw279 (AD.ne hAD 15 10 rfl rfl rfl) (up_ne hw25 (AD.ne hAD 15 13 rfl rfl rfl) (up_ne hw21 (AD.ne hAD 15 16 rfl rfl rfl) f18))))
          have f328 := (FrI.gen hfr308 (nm1 (AD.nm hAD 16 rfl)) (AD.nl hAD 16 rfl rfl rfl) (up_ne hw279 (AD.ne hAD 16 10 rfl rfl rfl) (up_ne hw25 (AD.ne hAD 16 13 rfl rfl rfl) f22)))
          have f329 := (FrI.gen hfr308 (nm1 (AD.nm hAD 17 rfl)) (AD.nl hAD 17 rfl rfl rfl) (up_ne hw279 (AD.ne hAD 17 10 rfl rfl rfl) (up_ne hw25 (AD.ne hAD 17 13 rfl rfl rfl) (up_ne hw21 (AD.ne hAD 17 16 rfl rfl rfl) (up_ne hw17 (AD.ne hAD 17 15 rfl rfl rfl) (up_ne hw13 (AD.ne hAD 17 19 rfl rfl rfl) (up_ne hw9 (AD.ne hAD 17 18 rfl rfl rfl) f6)))))))
          have f330 := (FrI.gen hfr308 (nm1 (AD.nm hAD 18 rfl)) (AD.nl hAD 18 rfl rfl rfl) (up_ne hw279 (AD.ne hAD 18 10 rfl rfl rfl) (up_ne hw25 (AD.ne hAD 18 13 rfl rfl rfl) (up_ne hw21 (AD.ne hAD 18 16 rfl rfl rfl) (up_ne hw17 (AD.ne hAD 18 15 rfl rfl rfl) (up_ne hw13 (AD.ne hAD 18 19 rfl rfl rfl) f10))))))
          have f331 := (FrI.gen hfr308 (nm1 (AD.nm hAD 19 rfl)) (AD.nl hAD 19 rfl rfl rfl) (up_ne hw279 (AD.ne hAD 19 10 rfl rfl rfl) (up_ne hw25 (AD.ne hAD 19 13 rfl rfl rfl) (up_ne hw21 (AD.ne hAD 19 16 rfl rfl rfl) (up_ne hw17 (AD.ne hAD 19 15 rfl rfl rfl) f14)))))
          exact s_m373 hAD ht hln hm309 r315 ((((((((((FrI.mono hfr (by simp) rfl : FrI A [mm] [10, 11, 12, 13, 14, 15, 16, 17, 18, 19] w0 _).trans (FrI.ua hw1 rfl)).trans (FrI.ua hw5 rfl)).trans (FrI.ua hw9 rfl)).trans (FrI.ua hw13 rfl)).trans (FrI.ua hw17 rfl)).trans (FrI.ua hw21 rfl)).trans (FrI.ua hw25 rfl)).trans (FrI.ua hw279 rfl)).trans (FrI.sub hfr308 rfl)) ((FF.mono hff rfl : FF [5, 8, 9, 22, 24, 25, 26, 27, 28, 29, 30, 31] fs0 _).trans (FF.mono hff310 rfl)) v316 v317 v318 v319 v320 v321 v322 v299 v300 v301 v302 v303 v304 f323 f324 f305 f306 f325 f326 f327 f328 f329 f330 f331 hT297 hN298 hR286 hI287 hb288 (by omega) htb9 hop9 (va_up_self _ _ _) hev (by omega)
        · skip
          exact absurd (hT.2.2.1.mpr (by omega)) c356
set_option maxHeartbeats 4000000 in
set_option maxRecDepth 100000 in
theorem s_m107 {t : Nat → Nat} {ln aS : Nat} {w0 : pW} {fs0 : List Value} {A : Nat → Nat} {mm : Nat} {R : Nat × Nat × RSt} (hAD : AD A mm) (ht : ∀ j, t j < 256) (hln : ln ≤ 2400) {w : pW} {fs : List Value} (hmm : w mm = some (.inr (6, fs))) (hA : RA A fs) (hfr : FrI A [mm] [10, 11, 12, 13, 14, 15, 16, 17, 18, 19] w0 w) (hff : FF [5, 8, 9, 22, 24, 25, 26, 27, 28, 29, 30, 31] fs0 fs) {a tkn sg mr cu rep np oc ev be cq st me pa : Nat} {nu : Int32} {f : Nat → Int32} {xk xm : Nat → Nat} {xp : Nat → Int32} {xb xs xe xg : Nat → Nat} {xl xi xc : Nat → Int32} {sd : Nat} {mkd cud : Bool} (h5 : fs[5]? = some (.int (nI ev))) (h6 : fs[6]? = some (.int (nI me))) (h8 : fs[8]? = some (.int (nI be))) (h9 : fs[9]? = some (.int (nI cu))) (h23 : fs[23]? = some (.int (nI ln))) (h29 : fs[29]? = some (.int (nI 0))) (h31 : fs[31]? = some (.int (nI mr))) (h22 : fs[22]? = some (.int (nI ((tk t ln a).1)))) (h24 : fs[24]? = some (.int (nI tkn))) (h25 : fs[25]? = some (.int (nI sg))) (h26 : fs[26]? = some (.int nu)) (h27 : fs[27]? = some (.int (nI a))) (h28 : fs[28]? = some (.int (nI ((tk t ln a).1)))) (a1 : w (A 1) = some (.inl (0, 2400, .inl (fun j9 => nI (t j9))))) (a10 : w (A 10) = some (.inl (0, 100, .inl (fun j9 => nI (xk j9))))) (a11 : w (A 11) = some (.inl (0, 100, .inl (fun j9 => nI (xm j9))))) (a12 : w (A 12) = some (.inl (0, 400, .inl xp))) (a13 : w (A 13) = some (.inl (0, 100, .inl (fun j9 => nI (xb j9))))) (a14 : w (A 14) = some (.inl (0, 100, .inl (fun j9 => nI (xs j9))))) (a15 : w (A 15) = some (.inl (0, 100, .inl (fun j9 => nI (xe j9))))) (a16 : w (A 16) = some (.inl (0, 100, .inl (fun j9 => nI (xg j9))))) (a17 : w (A 17) = some (.inl (0, 100, .inl xl))) (a18 : w (A 18) = some (.inl (2, 100, .inl xi))) (a19 : w (A 19) = some (.inl (2, 100, .inl xc))) (hT : TS tkn sg (tkK t ln a)) (hN : NS nu (tkK t ln a) (tkV t ln a) ((tk t ln a).1 - a)) (hR : R = rR t ln a (sd, mr, cu, mkd, cud, rep, np, oc, f, ev, be, cq, st, me, pa)) (hI : RJ (sd, mr, cu, mkd, cud, rep, np, oc, f, ev, be, cq, st, me, pa)) (ha : a ≤ ln + 1) (haS : aS ≤ a) (hTB : TBL xk xm xp xb xs xe xg xl xi xc f ev) (hsd6 : sd = 1 ∨ sd = 2 ∨ sd = 4 ∨ sd = 8 ∨ sd = 16 ∨ sd = 32) (hkd : sd = 32 ∨ (sd = 16 ∧ tkK t ln a ≠ 33) ∨ (tkK t ln a = 2 ∨ tkK t ln a = 40 ∨ tkK t ln a = 126 ∨ tkK t ln a = 114)) : J ((cX6_readMarked, RX6, 5, wsX6_readMarked), (rX6_readMarked, none, "readMarked", []), fun o w9 => o = .inl none ∧ ∃ fs9 : List Value, MU A mm [10, 11, 12, 13, 14, 15, 16, 17, 18, 19] [5, 8, 9, 22, 24, 25, 26, 27, 28, 29, 30, 31] w0 w9 fs0 fs9 ∧ ∃ (xk xm : Nat → Nat) (xp : Nat → Int32) (xb xs xe xg : Nat → Nat) (xl xi xc : Nat → Int32), TA A w9 xk xm xp xb xs xe xg xl xi xc ∧ (∃ nu9 : Int32, fs9[26]? = some (.int nu9)) ∧ (RFl fs9 R ∨ ∃ (a9 mr9 cu9 np9 oc9 : Nat) (f9 : Nat → Int32) (ev9 be9 cq9 st9 : Nat), aS < a9 ∧ a9 ≤ ln + 1 ∧ R = rR t ln a9 (8, mr9, cu9, false, false, rep, np9, oc9, f9, ev9, be9, cq9, st9, me, pa) ∧ RJ (8, mr9, cu9, false, false, rep, np9, oc9, f9, ev9, be9, cq9, st9, me, pa) ∧ fs9[5]? = some (.int (nI ev9)) ∧ fs9[8]? = some (.int (nI be9)) ∧ fs9[9]? = some (.int (nI cu9)) ∧ fs9[29]? = some (.int (nI 0)) ∧ fs9[31]? = some (.int (nI mr9)) ∧ AtT t ln a9 fs9 ∧ TBL xk xm xp xb xs xe xg xl xi xc f9 ev9), fun _ _ _ => True) 107 [(0, .ref mm), (1, .int (nI pa)), (2, .int (zb mkd)), (3, .int (zb cud))] [] w 0 0 := by
  have hTb := hT.1
  obtain ⟨i1, i2, i3, i4, i5, i6, i7⟩ := id hI.1
  refine j_aload_n dX6_readMarked_107 0 rfl ?_
  refine j_get (v := .int (nI 0)) flX6_readMarked_124 hmm h29 dX6_readMarked_108 ?_
  refine j_if_neN 129 (by decide) dX6_readMarked_111 (by decide) (fun h9 => absurd rfl h9) (fun _ => ?_)
  refine j_aload_n dX6_readMarked_114 0 rfl ?_
  refine j_callV (rm := rX6_beginsEvent) (As := []) (st := []) (b0 := mm) (ci := 6) (na := 0) (m_beginsEvent hAD hmm hA h24 h25 hT) (by intro E w9 h9; first | exact nomatch h9.1 | (obtain ⟨_, h9, _⟩ := h9; exact nomatch h9) | (obtain ⟨_, _, _, h9, _⟩ := h9; exact nomatch h9)) gX6_readMarked_X6_beginsEvent rfl rfl hmm (by decide +kernel) rfl ⟨Nat.le_of_ble_eq_true rfl, Nat.le_of_ble_eq_true rfl⟩ rfl (Nat.le_of_ble_eq_true rfl) dX6_readMarked_115 ⟨(show 0 + 0 ≤ 0 by omega), (show 0 + 0 ≤ 0 by omega)⟩ (fun v1 w2 h3 => ?_)
  obtain ⟨h3, h4⟩ := h3
  cases h3
  subst w2
  refine j_after (st' := [.int (zb (bE (tkK t ln a)))]) (k' := 0) (n' := 0) rfl rfl rfl ?_
  by_cases hbe : (tkK t ln a = 2 ∨ tkK t ln a = 40 ∨ tkK t ln a = 126 ∨ tkK t ln a = 114)
  · skip
    refine j_eqi (y := nI 1) (by unfold bE; rw [decide_eq_true hbe]; rfl) ?_
    refine j_if_neN 129 (by decide) dX6_readMarked_118 (by decide) (fun _ => ?_) (fun h9 => absurd h9 (by decide))
    refine j_aload_n dX6_readMarked_129 0 rfl ?_
    refine j_get (v := .int (nI 0)) flX6_readMarked_124 hmm h29 dX6_readMarked_130 ?_
    refine j_if_neN 150 (by decide) dX6_readMarked_133 (by decide) (fun h9 => absurd rfl h9) (fun _ => ?_)
    refine j_aload_n dX6_readMarked_136 0 rfl ?_
    refine j_get (v := .int (nI ev)) flX6_readMarked_144 hmm h5 dX6_readMarked_137 ?_
    refine j_bipush (v := nI 100) dX6_readMarked_140 (by decide) ?_
    refine j_icmp_neN 150 (by omega) (by omega) dX6_readMarked_142 (by decide) (fun c142 => ?_) (fun c142 => ?_)
    · skip
      refine j_aload_n dX6_readMarked_150 0 rfl ?_
      refine j_get (v := .int (nI 0)) flX6_readMarked_124 hmm h29 dX6_readMarked_151 ?_
      refine j_if_eqN 158 (by decide) dX6_readMarked_154 (by decide) (fun _ => ?_) (fun h9 => absurd rfl h9)
      refine j_lv (lv' := [(0, .ref mm), (1, .int (nI pa)), (2, .int (zb mkd)), (3, .int (zb cud))]) [0, 1, 2, 3] rfl ?_
      exact s_m158 hAD ht hln hmm hA (FrI.mono hfr (by simp) rfl : FrI A [mm] [10, 11, 12, 13, 14, 15, 16, 17, 18, 19] w0 _) (FF.mono hff rfl : FF [5, 8, 9, 22, 24, 25, 26, 27, 28, 29, 30, 31] fs0 _) h5 h6 h8 h9 h23 h29 h31 h22 h24 h25 h26 h27 h28 a1 a10 a11 a12 a13 a14 a15 a16 a17 a18 a19 hT hN hR hI ha (by omega) hTB hbe hsd6 (by omega)
    · skip
      have hbd5 := rR_bad (b := 2) hR ((fOpen hbe hsd6).trans (if_pos (by omega))) (by decide)
      refine j_aload_n dX6_readMarked_145 0 rfl ?_
      refine j_iconst (v := nI 2) dX6_readMarked_146 (by decide) ?_
      refine j_callV (rm := rX6_wrong) (As := [.int (nI 2)]) (st := []) (b0 := mm) (ci := 6) (na := 1) (m_wrong0 (k := 2) hAD hmm hA h29 h27) (by intro E w9 h9; first | exact nomatch h9.1 | (obtain ⟨_, h9, _⟩ := h9; exact nomatch h9) | (obtain ⟨_, _, _, h9, _⟩ := h9; exact nomatch h9)) gX6_readMarked_X6_wrong rfl rfl hmm (by decide +kernel) rfl ⟨Nat.le_of_ble_eq_true rfl, Nat.le_of_ble_eq_true rfl⟩ rfl (Nat.le_of_ble_eq_true rfl) dX6_readMarked_147 ⟨(show 0 + 0 ≤ 0 by omega), (show 0 + 0 ≤ 0 by omega)⟩ (fun v13 w14 h15 => ?_)
      obtain ⟨h12, fs8, ⟨hfr9, hm10, hff11⟩, v6, v7⟩ := h15
      cases h12
      refine j_after (st' := []) (k' := 0) (n' := 0) rfl rfl rfl ?_
      have r16 : RA A fs8 := RA.ff hA hff11 rfl
      refine j_aload_n dX6_readMarked_150 0 rfl ?_
      refine j_get (v := .int (nI 2)) flX6_readMarked_124 hm10 v6 dX6_readMarked_151 ?_
      refine j_if_eqN 158 (by decide) dX6_readMarked_154 (by decide) (fun h9 => absurd h9 (by decide)) (fun _ => ?_)
      have f17 := (FrI.gen hfr9 (nm1 (AD.nm hAD 10 rfl)) (AD.nl hAD 10 rfl rfl rfl) a10)
      have f18 := (FrI.gen hfr9 (nm1 (AD.nm hAD 11 rfl)) (AD.nl hAD 11 rfl rfl rfl) a11)
      have f19 := (FrI.gen hfr9 (nm1 (AD.nm hAD 12 rfl)) (AD.nl hAD 12 rfl rfl rfl) a12)
      have f20 := (FrI.gen hfr9 (nm1 (AD.nm hAD 13 rfl)) (AD.nl hAD 13 rfl rfl rfl) a13)
      have f21 := (FrI.gen hfr9 (nm1 (AD.nm hAD 14 rfl)) (AD.nl hAD 14 rfl rfl rfl) a14)
      have f22 := (FrI.gen hfr9 (nm1 (AD.nm hAD 15 rfl)) (AD.nl hAD 15 rfl rfl rfl) a15)
      have f23 := (FrI.gen hfr9 (nm1 (AD.nm hAD 16 rfl)) (AD.nl hAD 16 rfl rfl rfl) a16)
      have f24 := (FrI.gen hfr9 (nm1 (AD.nm hAD 17 rfl)) (AD.nl hAD 17 rfl rfl rfl) a17)
      have f25 := (FrI.gen hfr9 (nm1 (AD.nm hAD 18 rfl)) (AD.nl hAD 18 rfl rfl rfl) a18)
      have f26 := (FrI.gen hfr9 (nm1 (AD.nm hAD 19 rfl)) (AD.nl hAD 19 rfl rfl rfl) a19)
      have v27 := (FF.at hff11 rfl h26)
      exact j_vret rfl ⟨rfl, _, ⟨((FrI.mono hfr (by simp) rfl : FrI A [mm] [10, 11, 12, 13, 14, 15, 16, 17, 18, 19] w0 _).trans (FrI.sub hfr9 rfl)), hm10, ((FF.mono hff rfl : FF [5, 8, 9, 22, 24, 25, 26, 27, 28, 29, 30, 31] fs0 _).trans (FF.mono hff11 rfl))⟩, _, _, _, _, _, _, _, _, _, _, ⟨f17, f18, f19, f20, f21, f22, f23, f24, f25, f26⟩, ⟨_, v27⟩, Or.inl (RFl.mk hbd5 ⟨by decide, by decide⟩ v6 v7)⟩ (show 0 ≤ 0 by omega) (show 0 ≤ 0 by omega) dX6_readMarked_157
  · skip
    refine j_eqi (y := nI 0) (by unfold bE; rw [decide_eq_false hbe]; rfl) ?_
    refine j_if_neN 129 (by decide) dX6_readMarked_118 (by decide) (fun h9 => absurd rfl h9) (fun _ => ?_)
    have hf : rFault (tkK t ln a) (tkV t ln a) (sd, mr, cu, mkd, cud, rep, np, oc, f, ev, be, cq, st, me, pa) = 1 := by
      rcases hkd with h | ⟨h, h33⟩ | hx
      · subst h; exact rf_1 (f1_32 (tk_k ht) (by omega))
      · subst h; exact rf_1 (f1_16 (tk_k ht) (by omega))
      · exact absurd hx hbe
    have hbd28 := rR_bad (b := 1) hR hf (by decide)
    refine j_aload_n dX6_readMarked_121 0 rfl ?_
    refine j_iconst (v := nI 1) dX6_readMarked_122 (by decide) ?_
    refine j_callV (rm := rX6_wrong) (As := [.int (nI 1)]) (st := []) (b0 := mm) (ci := 6) (na := 1) (m_wrong0 (k := 1) hAD hmm hA h29 h27) (by intro E w9 h9; first | exact nomatch h9.1 | (obtain ⟨_, h9, _⟩ := h9; exact nomatch h9) | (obtain ⟨_, _, _, h9, _⟩ := h9; exact nomatch h9)) gX6_readMarked_X6_wrong rfl rfl hmm (by decide +kernel) rfl ⟨Nat.le_of_ble_eq_true rfl, Nat.le_of_ble_eq_true rfl⟩ rfl (Nat.le_of_ble_eq_true rfl) dX6_readMarked_123 ⟨(show 0 + 0 ≤ 0 by omega), (show 0 + 0 ≤ 0 by omega)⟩ (fun v36 w37 h38 => ?_)
    obtain ⟨h35, fs31, ⟨hfr32, hm33, hff34⟩, v29, v30⟩ := h38
    cases h35
    refine j_after (st' := []) (k' := 0) (n' := 0) rfl rfl rfl ?_
    have r39 : RA A fs31 := RA.ff hA hff34 rfl
    refine j_goto 150 dX6_readMarked_126 (by decide) ?_
    refine j_aload_n dX6_readMarked_150 0 rfl ?_
    refine j_get (v := .int (nI 1)) flX6_readMarked_124 hm33 v29 dX6_readMarked_151 ?_
    refine j_if_eqN 158 (by decide) dX6_readMarked_154 (by decide) (fun h9 => absurd h9 (by decide)) (fun _ => ?_)
    have f40 := (FrI.gen hfr32 (nm1 (AD.nm hAD 10 rfl)) (AD.nl hAD 10 rfl rfl rfl) a10)
    have f41 := (FrI.gen hfr32 (nm1 (AD.nm hAD 11 rfl)) (AD.nl hAD 11 rfl rfl rfl) a11)
    have f42 := (FrI.gen hfr32 (nm1 (AD.nm hAD 12 rfl)) (AD.nl hAD 12 rfl rfl rfl) a12)
    have f43 := (FrI.gen hfr32 (nm1 (AD.nm hAD 13 rfl)) (AD.nl hAD 13 rfl rfl rfl) a13)
    have f44 := (FrI.gen hfr32 (nm1 (AD.nm hAD 14 rfl)) (AD.nl hAD 14 rfl rfl rfl) a14)
    have f45 := (FrI.gen hfr32 (nm1 (AD.nm hAD 15 rfl)) (AD.nl hAD 15 rfl rfl rfl) a15)
    have f46 := (FrI.gen hfr32 (nm1 (AD.nm hAD 16 rfl)) (AD.nl hAD 16 rfl rfl rfl) a16)
    have f47 := (FrI.gen hfr32 (nm1 (AD.nm hAD 17 rfl)) (AD.nl hAD 17 rfl rfl rfl) a17)
    have f48 := (FrI.gen hfr32 (nm1 (AD.nm hAD 18 rfl)) (AD.nl hAD 18 rfl rfl rfl) a18)
    have f49 := (FrI.gen hfr32 (nm1 (AD.nm hAD 19 rfl)) (AD.nl hAD 19 rfl rfl rfl) a19)
    have v50 := (FF.at hff34 rfl h26)
    exact j_vret rfl ⟨rfl, _, ⟨((FrI.mono hfr (by simp) rfl : FrI A [mm] [10, 11, 12, 13, 14, 15, 16, 17, 18, 19] w0 _).trans (FrI.sub hfr32 rfl)), hm33, ((FF.mono hff rfl : FF [5, 8, 9, 22, 24, 25, 26, 27, 28, 29, 30, 31] fs0 _).trans (FF.mono hff34 rfl))⟩, _, _, _, _, _, _, _, _, _, _, ⟨f40, f41, f42, f43, f44, f45, f46, f47, f48, f49⟩, ⟨_, v50⟩, Or.inl (RFl.mk hbd28 ⟨by decide, by decide⟩ v29 v30)⟩ (show 0 ≤ 0 by omega) (show 0 ≤ 0 by omega) dX6_readMarked_157
theorem flX6_readMarked_156 : FL wsX6_readMarked RX6 156 6 9 := ⟨RX6, TX6, 45, rfl, by decide, by decide +kernel, by decide +kernel⟩
theorem fsX6_readMarked_156 : FS wsX6_readMarked RX6 156 6 9 false (.int) := ⟨RX6, TX6, 45, tyX6, rfl, by decide, by decide +kernel, by decide +kernel, tyX6_ok, nmX6, rfl, rfl, rfl⟩
set_option maxHeartbeats 4000000 in
set_option maxRecDepth 100000 in
theorem s_m46 {t : Nat → Nat} {ln aS : Nat} {w0 : pW} {fs0 : List Value} {A : Nat → Nat} {mm : Nat} {R : Nat × Nat × RSt} (hAD : AD A mm) (ht : ∀ j, t j < 256) (hln : ln ≤ 2400) {w : pW} {fs : List Value} (hmm : w mm = some (.inr (6, fs))) (hA : RA A fs) (hfr : FrI A [mm] [10, 11, 12, 13, 14, 15, 16, 17, 18, 19] w0 w) (hff : FF [5, 8, 9, 22, 24, 25, 26, 27, 28, 29, 30, 31] fs0 fs) {a tkn sg mr cu rep np oc ev be cq st me pa : Nat} {nu : Int32} {f : Nat → Int32} {xk xm : Nat → Nat} {xp : Nat → Int32} {xb xs xe xg : Nat → Nat} {xl xi xc : Nat → Int32} {sd : Nat} {mkd : Bool} (h5 : fs[5]? = some (.int (nI ev))) (h6 : fs[6]? = some (.int (nI me))) (h8 : fs[8]? = some (.int (nI be))) (h9 : fs[9]? = some (.int (nI cu))) (h23 : fs[23]? = some (.int (nI ln))) (h29 : fs[29]? = some (.int (nI 0))) (h31 : fs[31]? = some (.int (nI mr))) (h22 : fs[22]? = some (.int (nI ((tk t ln a).1)))) (h24 : fs[24]? = some (.int (nI tkn))) (h25 : fs[25]? = some (.int (nI sg))) (h26 : fs[26]? = some (.int nu)) (h27 : fs[27]? = some (.int (nI a))) (h28 : fs[28]? = some (.int (nI ((tk t ln a).1)))) (a1 : w (A 1) = some (.inl (0, 2400, .inl (fun j9 => nI (t j9))))) (a10 : w (A 10) = some (.inl (0, 100, .inl (fun j9 => nI (xk j9))))) (a11 : w (A 11) = some (.inl (0, 100, .inl (fun j9 => nI (xm j9))))) (a12 : w (A 12) = some (.inl (0, 400, .inl xp))) (a13 : w (A 13) = some (.inl (0, 100, .inl (fun j9 => nI (xb j9))))) (a14 : w (A 14) = some (.inl (0, 100, .inl (fun j9 => nI (xs j9))))) (a15 : w (A 15) = some (.inl (0, 100, .inl (fun j9 => nI (xe j9))))) (a16 : w (A 16) = some (.inl (0, 100, .inl (fun j9 => nI (xg j9))))) (a17 : w (A 17) = some (.inl (0, 100, .inl xl))) (a18 : w (A 18) = some (.inl (2, 100, .inl xi))) (a19 : w (A 19) = some (.inl (2, 100, .inl xc))) (hT : TS tkn sg (tkK t ln a)) (hN : NS nu (tkK t ln a) (tkV t ln a) ((tk t ln a).1 - a)) (hR : R = rR t ln a (sd, mr, cu, mkd, false, rep, np, oc, f, ev, be, cq, st, me, pa)) (hI : RJ (sd, mr, cu, mkd, false, rep, np, oc, f, ev, be, cq, st, me, pa)) (ha : a ≤ ln + 1) (haS : aS ≤ a) (hTB : TBL xk xm xp xb xs xe xg xl xi xc f ev) (hsd5 : sd = 1 ∨ sd = 2 ∨ sd = 4 ∨ sd = 8 ∨ sd = 16) (hkc : sd = 16 ∨ (tkK t ln a = 33 ∨ tkK t ln a = 2 ∨ tkK t ln a = 40 ∨ tkK t ln a = 126 ∨ tkK t ln a = 114)) : J ((cX6_readMarked, RX6, 5, wsX6_readMarked), (rX6_readMarked, none, "readMarked", []), fun o w9 => o = .inl none ∧ ∃ fs9 : List Value, MU A mm [10, 11, 12, 13, 14, 15, 16, 17, 18, 19] [5, 8, 9, 22, 24, 25, 26, 27, 28, 29, 30, 31] w0 w9 fs0 fs9 ∧ ∃ (xk xm : Nat → Nat) (xp : Nat → Int32) (xb xs xe xg : Nat → Nat) (xl xi xc : Nat → Int32), TA A w9 xk xm xp xb xs xe xg xl xi xc ∧ (∃ nu9 : Int32, fs9[26]? = some (.int nu9)) ∧ (RFl fs9 R ∨ ∃ (a9 mr9 cu9 np9 oc9 : Nat) (f9 : Nat → Int32) (ev9 be9 cq9 st9 : Nat), aS < a9 ∧ a9 ≤ ln + 1 ∧ R = rR t ln a9 (8, mr9, cu9, false, false, rep, np9, oc9, f9, ev9, be9, cq9, st9, me, pa) ∧ RJ (8, mr9, cu9, false, false, rep, np9, oc9, f9, ev9, be9, cq9, st9, me, pa) ∧ fs9[5]? = some (.int (nI ev9)) ∧ fs9[8]? = some (.int (nI be9)) ∧ fs9[9]? = some (.int (nI cu9)) ∧ fs9[29]? = some (.int (nI 0)) ∧ fs9[31]? = some (.int (nI mr9)) ∧ AtT t ln a9 fs9 ∧ TBL xk xm xp xb xs xe xg xl xi xc f9 ev9), fun _ _ _ => True) 46 [(0, .ref mm), (1, .int (nI pa)), (2, .int (zb mkd))] [] w 0 0 := by
  have hTb := hT.1
  obtain ⟨i1, i2, i3, i4, i5, i6, i7⟩ := id hI.1
  refine j_aload_n dX6_readMarked_46 0 rfl ?_
  refine j_get (v := .int (nI 0)) flX6_readMarked_124 hmm h29 dX6_readMarked_47 ?_
  refine j_if_neN 66 (by decide) dX6_readMarked_50 (by decide) (fun h9 => absurd rfl h9) (fun _ => ?_)
  refine j_aload_n dX6_readMarked_53 0 rfl ?_
  refine j_bipush (v := nI 33) dX6_readMarked_54 (by decide) ?_
  refine j_callV (rm := rX6_isSign) (As := [.int (nI 33)]) (st := []) (b0 := mm) (ci := 6) (na := 1) (m_isSign (c := 33) hAD hmm hA h24 h25 hT rfl (by decide)) (by intro E w9 h9; first | exact nomatch h9.1 | (obtain ⟨_, h9, _⟩ := h9; exact nomatch h9) | (obtain ⟨_, _, _, h9, _⟩ := h9; exact nomatch h9)) gX6_readMarked_X6_isSign rfl rfl hmm (by decide +kernel) rfl ⟨Nat.le_of_ble_eq_true rfl, Nat.le_of_ble_eq_true rfl⟩ rfl (Nat.le_of_ble_eq_true rfl) dX6_readMarked_56 ⟨(show 0 + 0 ≤ 0 by omega), (show 0 + 0 ≤ 0 by omega)⟩ (fun v1 w2 h3 => ?_)
  obtain ⟨h3, h4⟩ := h3
  cases h3
  subst w2
  refine j_after (st' := [.int (zb (decide (tkK t ln a = 33)))]) (k' := 0) (n' := 0) rfl rfl rfl ?_
  by_cases hk33 : tkK t ln a = 33
  · skip
    refine j_eqi (y := nI 1) (by rw [decide_eq_true hk33]; rfl) ?_
    refine j_if_eqN 66 (by decide) dX6_readMarked_59 (by decide) (fun h9 => absurd h9 (by decide)) (fun _ => ?_)
    refine j_iconst (v := nI 1) dX6_readMarked_62 (by decide) ?_
    refine j_goto 67 dX6_readMarked_63 (by decide) ?_
    refine j_istore_n (lv' := [(3, .int (nI 1)), (0, .ref mm), (1, .int (nI pa)), (2, .int (zb mkd))]) dX6_readMarked_67 (Nat.le_of_ble_eq_true rfl) rfl ?_
    refine j_iload_n dX6_readMarked_68 0 rfl ?_
    refine j_if_eqN 107 (by decide) dX6_readMarked_69 (by decide) (fun h9 => absurd h9 (by decide)) (fun _ => ?_)
    refine j_aload_n dX6_readMarked_72 1 rfl ?_
    refine j_get (v := .int (nI cu)) flX6_readMarked_156 hmm h9 dX6_readMarked_73 ?_
    refine j_bipush (v := nI 20) dX6_readMarked_76 (by decide) ?_
    refine j_icmp_neN 86 (by omega) (by omega) dX6_readMarked_78 (by decide) (fun c78 => ?_) (fun c78 => ?_)
    · skip
      refine j_aload_n dX6_readMarked_86 1 rfl ?_
      refine j_dup dX6_readMarked_87 rfl ?_
      refine j_get (v := .int (nI cu)) flX6_readMarked_156 hmm h9 dX6_readMarked_88 ?_
      refine j_iconst (v := nI 1) dX6_readMarked_91 (by decide) ?_
      refine j_iaddN dX6_readMarked_92 ?_
      refine j_putM fsX6_readMarked_156 hmm rfl rfl (RA.lt hA (by decide)) dX6_readMarked_93 (fun w5 fs6 sfs6 hw5 => ?_)
      have f7 : w5 mm = some (.inr (6, fs6)) := up_at hw5
      have rfs6 : RA A fs6 := RA.set hA sfs6 rfl
      have v8 := st_at sfs6 hA (by decide : 9 < 45)
      refine j_aload_n dX6_readMarked_96 1 rfl ?_
      have v9 := (st_ne sfs6 rfl h29)
      refine j_get (v := .int (nI 0)) flX6_readMarked_124 f7 v9 dX6_readMarked_97 ?_
      refine j_if_neN 107 (by decide) dX6_readMarked_100 (by decide) (fun h9 => absurd rfl h9) (fun _ => ?_)
      obtain ⟨hR10, hI11, hb12, hl13⟩ := rR_go (s1 := (32, mr, cu + 1, mkd, true, rep, np, oc, f, ev, be, cq, st, me, pa)) ht hR ((f33 hk33 hsd5).trans (if_neg (by omega))) (by omega) (by rw [hk33]; rfl) hI ha
      refine j_aload_n dX6_readMarked_103 1 rfl ?_
      obtain ⟨az14, haz14⟩ : ∃ z, tkN t ln a = z := ⟨_, rfl⟩
      have v26 := (st_ne sfs6 rfl h22)
      have v27 := (st_ne sfs6 rfl h23)
      have v28 := (st_ne sfs6 rfl h26)
      have f29 := (up_ne hw5 (AD.nm hAD 1 rfl) a1)
      refine j_callV (rm := rX6_next) (As := []) (st := []) (b0 := mm) (ci := 6) (na := 0) (m_next1 (a := az14) hAD f7 rfs6 v26 v27 v28 f29 ht hln (tkN_bd ha).2.1 haz14) (by intro E w9 h9; first | exact nomatch h9.1 | (obtain ⟨_, h9, _⟩ := h9; exact nomatch h9) | (obtain ⟨_, _, _, h9, _⟩ := h9; exact nomatch h9)) gX6_readMarked_X6_next rfl rfl f7 (by decide +kernel) rfl ⟨Nat.le_of_ble_eq_true rfl, Nat.le_of_ble_eq_true rfl⟩ rfl (Nat.le_of_ble_eq_true rfl) dX6_readMarked_104 ⟨(show 0 + 0 ≤ 0 by omega), (show 0 + 0 ≤ 0 by omega)⟩ (fun v35 w36 h37 => ?_)
      obtain ⟨h34, fs30, ⟨hfr31, hm32, hff33⟩, ⟨tkn15, sg16, nu17, v20, v21, v22, v23, v24, v25, hT18, hN19⟩⟩ := h37
      cases h34
      refine j_after (st' := []) (k' := 0) (n' := 0) rfl rfl rfl ?_
      have r38 : RA A fs30 := RA.ff rfs6 hff33 rfl
      have hT18b := hT18.1
      rw [haz14] at hR10 hb12 hl13
      refine j_lv (lv' := [(0, .ref mm), (1, .int (nI pa)), (2, .int (zb mkd)), (3, .int (zb true))]) [1, 2, 3, 0] rfl ?_
      have v39 := (FF.at hff33 rfl (st_ne sfs6 rfl h5))
      have v40 := (FF.at hff33 rfl (st_ne sfs6 rfl h6))
      have v41 := (FF.at hff33 rfl (st_ne sfs6 rfl h8))
      have v42 := (FF.at hff33 rfl v8)
      have v43 := (FF.at hff33 rfl v27)
      have v44 := (FF.at hff33 rfl v9)
      have v45 := (FF.at hff33 rfl (st_ne sfs6 rfl h31))
      have f46 := (FrI.gen hfr31 (nm1 (AD.nm hAD 1 rfl)) (AD.nl hAD 1 rfl rfl rfl) f29)
      have f47 := (FrI.gen hfr31 (nm1 (AD.nm hAD 10 rfl)) (AD.nl hAD 10 rfl rfl rfl) (up_ne hw5 (AD.nm hAD 10 rfl) a10))
      have f48 := (FrI.gen hfr31 (nm1 (AD.nm hAD 11 rfl)) (AD.nl hAD 11 rfl rfl rfl) (up_ne hw5 (AD.nm hAD 11 rfl) a11))
      have f49 := (FrI.gen hfr31 (nm1 (AD.nm hAD 12 rfl)) (AD.nl hAD 12 rfl rfl rfl) (up_ne hw5 (AD.nm hAD 12 rfl) a12))
      have f50 := (FrI.gen hfr31 (nm1 (AD.nm hAD 13 rfl)) (AD.nl hAD 13 rfl rfl rfl) (up_ne hw5 (AD.nm hAD 13 rfl) a13))
      have f51 := (FrI.gen hfr31 (nm1 (AD.nm hAD 14 rfl)) (AD.nl hAD 14 rfl rfl rfl) (up_ne hw5 (AD.nm hAD 14 rfl) a14))
      have f52 := (FrI.gen hfr31 (nm1 (AD.nm hAD 15 rfl)) (AD.nl hAD 15 rfl rfl rfl) (up_ne hw5 (AD.nm hAD 15 rfl) a15))
      have f53 := (FrI.gen hfr31 (nm1 (AD.nm hAD 16 rfl)) (AD.nl hAD 16 rfl rfl rfl) (up_ne hw5 (AD.nm hAD 16 rfl) a16))
      have f54 := (FrI.gen hfr31 (nm1 (AD.nm hAD 17 rfl)) (AD.nl hAD 17 rfl rfl rfl) (up_ne hw5 (AD.nm hAD 17 rfl) a17))
      have f55 := (FrI.gen hfr31 (nm1 (AD.nm hAD 18 rfl)) (AD.nl hAD 18 rfl rfl rfl) (up_ne hw5 (AD.nm hAD 18 rfl) a18))
      have f56 := (FrI.gen hfr31 (nm1 (AD.nm hAD 19 rfl)) (AD.nl hAD 19 rfl rfl rfl) (up_ne hw5 (AD.nm hAD 19 rfl) a19))
      exact s_m107 hAD ht hln hm32 r38 (((FrI.mono hfr (by simp) rfl : FrI A [mm] [10, 11, 12, 13, 14, 15, 16, 17, 18, 19] w0 _).trans (FrI.ux hw5 (by simp))).trans (FrI.sub hfr31 rfl)) (((FF.mono hff rfl : FF [5, 8, 9, 22, 24, 25, 26, 27, 28, 29, 30, 31] fs0 _).trans (FF.set sfs6 rfl)).trans (FF.mono hff33 rfl)) v39 v40 v41 v42 v43 v44 v45 v20 v21 v22 v23 v24 v25 f46 f47 f48 f49 f50 f51 f52 f53 f54 f55 f56 hT18 hN19 hR10 hI11 hb12 (by omega) hTB (by omega) (by omega)
    · skip
      have hbd57 := rR_bad (b := 2) hR ((f33 hk33 hsd5).trans (if_pos (by omega))) (by decide)
      refine j_aload_n dX6_readMarked_81 1 rfl ?_
      refine j_iconst (v := nI 2) dX6_readMarked_82 (by decide) ?_
      refine j_callV (rm := rX6_wrong) (As := [.int (nI 2)]) (st := []) (b0 := mm) (ci := 6) (na := 1) (m_wrong0 (k := 2) hAD hmm hA h29 h27) (by intro E w9 h9; first | exact nomatch h9.1 | (obtain ⟨_, h9, _⟩ := h9; exact nomatch h9) | (obtain ⟨_, _, _, h9, _⟩ := h9; exact nomatch h9)) gX6_readMarked_X6_wrong rfl rfl hmm (by decide +kernel) rfl ⟨Nat.le_of_ble_eq_true rfl, Nat.le_of_ble_eq_true rfl⟩ rfl (Nat.le_of_ble_eq_true rfl) dX6_readMarked_83 ⟨(show 0 + 0 ≤ 0 by omega), (show 0 + 0 ≤ 0 by omega)⟩ (fun v65 w66 h67 => ?_)
      obtain ⟨h64, fs60, ⟨hfr61, hm62, hff63⟩, v58, v59⟩ := h67
      cases h64
      refine j_after (st' := []) (k' := 0) (n' := 0) rfl rfl rfl ?_
      have r68 : RA A fs60 := RA.ff hA hff63 rfl
      refine j_aload_n dX6_readMarked_86 1 rfl ?_
      refine j_dup dX6_readMarked_87 rfl ?_
      have v69 := (FF.at hff63 rfl h9)
      refine j_get (v := .int (nI cu)) flX6_readMarked_156 hm62 v69 dX6_readMarked_88 ?_
      refine j_iconst (v := nI 1) dX6_readMarked_91 (by decide) ?_
      refine j_iaddN dX6_readMarked_92 ?_
      refine j_putM fsX6_readMarked_156 hm62 rfl rfl (RA.lt r68 (by decide)) dX6_readMarked_93 (fun w70 fs71 sfs71 hw70 => ?_)
      have f72 : w70 mm = some (.inr (6, fs71)) := up_at hw70
      have rfs71 : RA A fs71 := RA.set r68 sfs71 rfl
      have v73 := st_at sfs71 r68 (by decide : 9 < 45)
      refine j_aload_n dX6_readMarked_96 1 rfl ?_
      have v74 := (st_ne sfs71 rfl v58)
      refine j_get (v := .int (nI 2)) flX6_readMarked_124 f72 v74 dX6_readMarked_97 ?_
      refine j_if_neN 107 (by decide) dX6_readMarked_100 (by decide) (fun _ => ?_) (fun h9 => absurd h9 (by decide))
      refine j_aload_n dX6_readMarked_107 1 rfl ?_
      refine j_get (v := .int (nI 2)) flX6_readMarked_124 f72 v74 dX6_readMarked_108 ?_
      refine j_if_neN 129 (by decide) dX6_readMarked_111 (by decide) (fun _ => ?_) (fun h9 => absurd h9 (by decide))
      refine j_aload_n dX6_readMarked_129 1 rfl ?_
      refine j_get (v := .int (nI 2)) flX6_readMarked_124 f72 v74 dX6_readMarked_130 ?_
      refine j_if_neN 150 (by decide) dX6_readMarked_133 (by decide) (fun _ => ?_) (fun h9 => absurd h9 (by decide))
      refine j_aload_n dX6_readMarked_150 1 rfl ?_
      refine j_get (v := .int (nI 2)) flX6_readMarked_124 f72 v74 dX6_readMarked_151 ?_
      refine j_if_eqN 158 (by decide) dX6_readMarked_154 (by decide) (fun h9 => absurd h9 (by decide)) (fun _ => ?_)
      have f75 := (up_ne hw70 (AD.nm hAD 10 rfl) (FrI.gen hfr61 (nm1 (AD.nm hAD 10 rfl)) (AD.nl hAD 10 rfl rfl rfl) a10))
      have f76 := (up_ne hw70 (AD.nm hAD 11 rfl) (FrI.gen hfr61 (nm1 (AD.nm hAD 11 rfl)) (AD.nl hAD 11 rfl rfl rfl) a11))
      have f77 := (up_ne hw70 (AD.nm hAD 12 rfl) (FrI.gen hfr61 (nm1 (AD.nm hAD 12 rfl)) (AD.nl hAD 12 rfl rfl rfl) a12))
      have f78 := (up_ne hw70 (AD.nm hAD 13 rfl) (FrI.gen hfr61 (nm1 (AD.nm hAD 13 rfl)) (AD.nl hAD 13 rfl rfl rfl) a13))
      have f79 := (up_ne hw70 (AD.nm hAD 14 rfl) (FrI.gen hfr61 (nm1 (AD.nm hAD 14 rfl)) (AD.nl hAD 14 rfl rfl rfl) a14))
      have f80 := (up_ne hw70 (AD.nm hAD 15 rfl) (FrI.gen hfr61 (nm1 (AD.nm hAD 15 rfl)) (AD.nl hAD 15 rfl rfl rfl) a15))
      have f81 := (up_ne hw70 (AD.nm hAD 16 rfl) (FrI.gen hfr61 (nm1 (AD.nm hAD 16 rfl)) (AD.nl hAD 16 rfl rfl rfl) a16))
      have f82 := (up_ne hw70 (AD.nm hAD 17 rfl) (FrI.gen hfr61 (nm1 (AD.nm hAD 17 rfl)) (AD.nl hAD 17 rfl rfl rfl) a17))
      have f83 := (up_ne hw70 (AD.nm hAD 18 rfl) (FrI.gen hfr61 (nm1 (AD.nm hAD 18 rfl)) (AD.nl hAD 18 rfl rfl rfl) a18))
      have f84 := (up_ne hw70 (AD.nm hAD 19 rfl) (FrI.gen hfr61 (nm1 (AD.nm hAD 19 rfl)) (AD.nl hAD 19 rfl rfl rfl) a19))
      have v85 := (st_ne sfs71 rfl (FF.at hff63 rfl h26))
      have v86 := (st_ne sfs71 rfl v59)
      exact j_vret rfl ⟨rfl, _, ⟨(((FrI.mono hfr (by simp) rfl : FrI A [mm] [10, 11, 12, 13, 14, 15, 16, 17, 18, 19] w0 _).trans (FrI.sub hfr61 rfl)).trans (FrI.ux hw70 (by simp))), f72, (((FF.mono hff rfl : FF [5, 8, 9, 22, 24, 25, 26, 27, 28, 29, 30, 31] fs0 _).trans (FF.mono hff63 rfl)).trans (FF.set sfs71 rfl))⟩, _, _, _, _, _, _, _, _, _, _, ⟨f75, f76, f77, f78, f79, f80, f81, f82, f83, f84⟩, ⟨_, v85⟩, Or.inl (RFl.mk hbd57 ⟨by decide, by decide⟩ v74 v86)⟩ (show 0 ≤ 0 by omega) (show 0 ≤ 0 by omega) dX6_readMarked_157
  · skip
    refine j_eqi (y := nI 0) (by rw [decide_eq_false hk33]; rfl) ?_
    refine j_if_eqN 66 (by decide) dX6_readMarked_59 (by decide) (fun _ => ?_) (fun h9 => absurd rfl h9)
    refine j_iconst (v := nI 0) dX6_readMarked_66 (by decide) ?_
    refine j_istore_n (lv' := [(3, .int (nI 0)), (0, .ref mm), (1, .int (nI pa)), (2, .int (zb mkd))]) dX6_readMarked_67 (Nat.le_of_ble_eq_true rfl) rfl ?_
    refine j_iload_n dX6_readMarked_68 0 rfl ?_
    refine j_if_eqN 107 (by decide) dX6_readMarked_69 (by decide) (fun _ => ?_) (fun h9 => absurd rfl h9)
    refine j_lv (lv' := [(0, .ref mm), (1, .int (nI pa)), (2, .int (zb mkd)), (3, .int (zb false))]) [1, 2, 3, 0] rfl ?_
    exact s_m107 hAD ht hln hmm hA (FrI.mono hfr (by simp) rfl : FrI A [mm] [10, 11, 12, 13, 14, 15, 16, 17, 18, 19] w0 _) (FF.mono hff rfl : FF [5, 8, 9, 22, 24, 25, 26, 27, 28, 29, 30, 31] fs0 _) h5 h6 h8 h9 h23 h29 h31 h22 h24 h25 h26 h27 h28 a1 a10 a11 a12 a13 a14 a15 a16 a17 a18 a19 hT hN hR hI ha (by omega) hTB (by omega) (by omega)
theorem flX6_readMarked_159 : FL wsX6_readMarked RX6 159 6 31 := ⟨RX6, TX6, 45, rfl, by decide, by decide +kernel, by decide +kernel⟩
theorem fsX6_readMarked_159 : FS wsX6_readMarked RX6 159 6 31 false (.int) := ⟨RX6, TX6, 45, tyX6, rfl, by decide, by decide +kernel, by decide +kernel, tyX6_ok, nmX6, rfl, rfl, rfl⟩
set_option maxHeartbeats 4000000 in
set_option maxRecDepth 100000 in
theorem m_readMarked {t : Nat → Nat} {ln : Nat} {R : Nat × Nat × RSt} {a tkn sg mr cu rep np oc ev be cq st me pa : Nat} {nu : Int32} {f : Nat → Int32} {xk xm : Nat → Nat} {xp : Nat → Int32} {xb xs xe xg : Nat → Nat} {xl xi xc : Nat → Int32} {sd : Nat} {w : pW} {A : Nat → Nat} {mm : Nat} {fs : List Value} (hAD : AD A mm) (hmm : w mm = some (.inr (6, fs))) (hA : RA A fs) (h5 : fs[5]? = some (.int (nI ev))) (h6 : fs[6]? = some (.int (nI me))) (h8 : fs[8]? = some (.int (nI be))) (h9 : fs[9]? = some (.int (nI cu))) (h23 : fs[23]? = some (.int (nI ln))) (h29 : fs[29]? = some (.int (nI 0))) (h31 : fs[31]? = some (.int (nI mr))) (h22 : fs[22]? = some (.int (nI ((tk t ln a).1)))) (h24 : fs[24]? = some (.int (nI tkn))) (h25 : fs[25]? = some (.int (nI sg))) (h26 : fs[26]? = some (.int nu)) (h27 : fs[27]? = some (.int (nI a))) (h28 : fs[28]? = some (.int (nI ((tk t ln a).1)))) (a1 : w (A 1) = some (.inl (0, 2400, .inl (fun j9 => nI (t j9))))) (a10 : w (A 10) = some (.inl (0, 100, .inl (fun j9 => nI (xk j9))))) (a11 : w (A 11) = some (.inl (0, 100, .inl (fun j9 => nI (xm j9))))) (a12 : w (A 12) = some (.inl (0, 400, .inl xp))) (a13 : w (A 13) = some (.inl (0, 100, .inl (fun j9 => nI (xb j9))))) (a14 : w (A 14) = some (.inl (0, 100, .inl (fun j9 => nI (xs j9))))) (a15 : w (A 15) = some (.inl (0, 100, .inl (fun j9 => nI (xe j9))))) (a16 : w (A 16) = some (.inl (0, 100, .inl (fun j9 => nI (xg j9))))) (a17 : w (A 17) = some (.inl (0, 100, .inl xl))) (a18 : w (A 18) = some (.inl (2, 100, .inl xi))) (a19 : w (A 19) = some (.inl (2, 100, .inl xc))) (ht : ∀ j, t j < 256) (hln : ln ≤ 2400) (hT : TS tkn sg (tkK t ln a)) (hN : NS nu (tkK t ln a) (tkV t ln a) ((tk t ln a).1 - a)) (hR : R = rR t ln a (sd, mr, cu, false, false, rep, np, oc, f, ev, be, cq, st, me, pa)) (hI : RJ (sd, mr, cu, false, false, rep, np, oc, f, ev, be, cq, st, me, pa)) (ha : a ≤ ln + 1) (hTB : TBL xk xm xp xb xs xe xg xl xi xc f ev) (hsd4 : sd = 1 ∨ sd = 2 ∨ sd = 4 ∨ sd = 8) (hbM : bM (tkK t ln a) = true) : Ct yX6_readMarked wsX6_readMarked rX6_readMarked [.ref mm, .int (nI pa)] w (fun o w9 => o = .inl none ∧ ∃ fs9 : List Value, MU A mm [10, 11, 12, 13, 14, 15, 16, 17, 18, 19] [5, 8, 9, 22, 24, 25, 26, 27, 28, 29, 30, 31] w w9 fs fs9 ∧ ∃ (xk xm : Nat → Nat) (xp : Nat → Int32) (xb xs xe xg : Nat → Nat) (xl xi xc : Nat → Int32), TA A w9 xk xm xp xb xs xe xg xl xi xc ∧ (∃ nu9 : Int32, fs9[26]? = some (.int nu9)) ∧ (RFl fs9 R ∨ ∃ (a9 mr9 cu9 np9 oc9 : Nat) (f9 : Nat → Int32) (ev9 be9 cq9 st9 : Nat), a < a9 ∧ a9 ≤ ln + 1 ∧ R = rR t ln a9 (8, mr9, cu9, false, false, rep, np9, oc9, f9, ev9, be9, cq9, st9, me, pa) ∧ RJ (8, mr9, cu9, false, false, rep, np9, oc9, f9, ev9, be9, cq9, st9, me, pa) ∧ fs9[5]? = some (.int (nI ev9)) ∧ fs9[8]? = some (.int (nI be9)) ∧ fs9[9]? = some (.int (nI cu9)) ∧ fs9[29]? = some (.int (nI 0)) ∧ fs9[31]? = some (.int (nI mr9)) ∧ AtT t ln a9 fs9 ∧ TBL xk xm xp xb xs xe xg xl xi xc f9 ev9)) := by
  refine Ct.of (cc := cX6_readMarked) (own := RX6) (nm := "readMarked") (nL := 5) (ret := none) (by decide +kernel) rfl rfl rfl (Nat.le_of_ble_eq_true rfl) ?_
  refine j_lvE (lv' := [(0, .ref mm), (1, .int (nI pa))]) rfl ?_
  have hTb := hT.1
  obtain ⟨i1, i2, i3, i4, i5, i6, i7⟩ := id hI.1
  have hbm := of_decide_eq_true hbM
  refine j_aload_n dX6_readMarked_0 0 rfl ?_
  refine j_bipush (v := nI 64) dX6_readMarked_1 (by decide) ?_
  refine j_callV (rm := rX6_isSign) (As := [.int (nI 64)]) (st := []) (b0 := mm) (ci := 6) (na := 1) (m_isSign (c := 64) hAD hmm hA h24 h25 hT rfl (by decide)) (by intro E w9 h9; first | exact nomatch h9.1 | (obtain ⟨_, h9, _⟩ := h9; exact nomatch h9) | (obtain ⟨_, _, _, h9, _⟩ := h9; exact nomatch h9)) gX6_readMarked_X6_isSign rfl rfl hmm (by decide +kernel) rfl ⟨Nat.le_of_ble_eq_true rfl, Nat.le_of_ble_eq_true rfl⟩ rfl (Nat.le_of_ble_eq_true rfl) dX6_readMarked_3 ⟨(show 0 + 0 ≤ 0 by omega), (show 0 + 0 ≤ 0 by omega)⟩ (fun v1 w2 h3 => ?_)
  obtain ⟨h3, h4⟩ := h3
  cases h3
  subst w2
  refine j_after (st' := [.int (zb (decide (tkK t ln a = 64)))]) (k' := 0) (n' := 0) rfl rfl rfl ?_
  by_cases hk64 : tkK t ln a = 64
  · skip
    refine j_eqi (y := nI 1) (by rw [decide_eq_true hk64]; rfl) ?_
    refine j_istore_n (lv' := [(2, .int (nI 1)), (0, .ref mm), (1, .int (nI pa))]) dX6_readMarked_6 (Nat.le_of_ble_eq_true rfl) rfl ?_
    refine j_iload_n dX6_readMarked_7 0 rfl ?_
    refine j_if_eqN 46 (by decide) dX6_readMarked_8 (by decide) (fun h9 => absurd h9 (by decide)) (fun _ => ?_)
    refine j_aload_n dX6_readMarked_11 1 rfl ?_
    refine j_get (v := .int (nI mr)) flX6_readMarked_159 hmm h31 dX6_readMarked_12 ?_
    refine j_bipush (v := nI 10) dX6_readMarked_15 (by decide) ?_
    refine j_icmp_neN 25 (by omega) (by omega) dX6_readMarked_17 (by decide) (fun c17 => ?_) (fun c17 => ?_)
    · skip
      refine j_aload_n dX6_readMarked_25 1 rfl ?_
      refine j_dup dX6_readMarked_26 rfl ?_
      refine j_get (v := .int (nI mr)) flX6_readMarked_159 hmm h31 dX6_readMarked_27 ?_
      refine j_iconst (v := nI 1) dX6_readMarked_30 (by decide) ?_
      refine j_iaddN dX6_readMarked_31 ?_
      refine j_putM fsX6_readMarked_159 hmm rfl rfl (RA.lt hA (by decide)) dX6_readMarked_32 (fun w5 fs6 sfs6 hw5 => ?_)
      have f7 : w5 mm = some (.inr (6, fs6)) := up_at hw5
      have rfs6 : RA A fs6 := RA.set hA sfs6 rfl
      have v8 := st_at sfs6 hA (by decide : 31 < 45)
      refine j_aload_n dX6_readMarked_35 1 rfl ?_
      have v9 := (st_ne sfs6 rfl h29)
      refine j_get (v := .int (nI 0)) flX6_readMarked_124 f7 v9 dX6_readMarked_36 ?_
      refine j_if_neN 46 (by decide) dX6_readMarked_39 (by decide) (fun h9 => absurd rfl h9) (fun _ => ?_)
      obtain ⟨hR10, hI11, hb12, hl13⟩ := rR_go (s1 := (16, mr + 1, cu, true, false, rep, np, oc, f, ev, be, cq, st, me, pa)) ht hR ((f64 hk64 hsd4).trans (if_neg (by omega))) (by omega) (by rw [hk64]; rfl) hI ha
      refine j_aload_n dX6_readMarked_42 1 rfl ?_
      obtain ⟨az14, haz14⟩ : ∃ z, tkN t ln a = z := ⟨_, rfl⟩
      have v26 := (st_ne sfs6 rfl h22)
      have v27 := (st_ne sfs6 rfl h23)
      have v28 := (st_ne sfs6 rfl h26)
      have f29 := (up_ne hw5 (AD.nm hAD 1 rfl) a1)
      refine j_callV (rm := rX6_next) (As := []) (st := []) (b0 := mm) (ci := 6) (na := 0) (m_next1 (a := az14) hAD f7 rfs6 v26 v27 v28 f29 ht hln (tkN_bd ha).2.1 haz14) (by intro E w9 h9; first | exact nomatch h9.1 | (obtain ⟨_, h9, _⟩ := h9; exact nomatch h9) | (obtain ⟨_, _, _, h9, _⟩ := h9; exact nomatch h9)) gX6_readMarked_X6_next rfl rfl f7 (by decide +kernel) rfl ⟨Nat.le_of_ble_eq_true rfl, Nat.le_of_ble_eq_true rfl⟩ rfl (Nat.le_of_ble_eq_true rfl) dX6_readMarked_43 ⟨(show 0 + 0 ≤ 0 by omega), (show 0 + 0 ≤ 0 by omega)⟩ (fun v35 w36 h37 => ?_)
      obtain ⟨h34, fs30, ⟨hfr31, hm32, hff33⟩, ⟨tkn15, sg16, nu17, v20, v21, v22, v23, v24, v25, hT18, hN19⟩⟩ := h37
      cases h34
      refine j_after (st' := []) (k' := 0) (n' := 0) rfl rfl rfl ?_
      have r38 : RA A fs30 := RA.ff rfs6 hff33 rfl
      have hT18b := hT18.1
      rw [haz14] at hR10 hb12 hl13
      refine j_lv (lv' := [(0, .ref mm), (1, .int (nI pa)), (2, .int (zb true))]) [1, 2, 0] rfl ?_
      have v39 := (FF.at hff33 rfl (st_ne sfs6 rfl h5))
      have v40 := (FF.at hff33 rfl (st_ne sfs6 rfl h6))
      have v41 := (FF.at hff33 rfl (st_ne sfs6 rfl h8))
      have v42 := (FF.at hff33 rfl (st_ne sfs6 rfl h9))
      have v43 := (FF.at hff33 rfl v27)
      have v44 := (FF.at hff33 rfl v9)
      have v45 := (FF.at hff33 rfl v8)
      have f46 := (FrI.gen hfr31 (nm1 (AD.nm hAD 1 rfl)) (AD.nl hAD 1 rfl rfl rfl) f29)
      have f47 := (FrI.gen hfr31 (nm1 (AD.nm hAD 10 rfl)) (AD.nl hAD 10 rfl rfl rfl) (up_ne hw5 (AD.nm hAD 10 rfl) a10))
      have f48 := (FrI.gen hfr31 (nm1 (AD.nm hAD 11 rfl)) (AD.nl hAD 11 rfl rfl rfl) (up_ne hw5 (AD.nm hAD 11 rfl) a11))
      have f49 := (FrI.gen hfr31 (nm1 (AD.nm hAD 12 rfl)) (AD.nl hAD 12 rfl rfl rfl) (up_ne hw5 (AD.nm hAD 12 rfl) a12))
      have f50 := (FrI.gen hfr31 (nm1 (AD.nm hAD 13 rfl)) (AD.nl hAD 13 rfl rfl rfl) (up_ne hw5 (AD.nm hAD 13 rfl) a13))
      have f51 := (FrI.gen hfr31 (nm1 (AD.nm hAD 14 rfl)) (AD.nl hAD 14 rfl rfl rfl) (up_ne hw5 (AD.nm hAD 14 rfl) a14))
      have f52 := (FrI.gen hfr31 (nm1 (AD.nm hAD 15 rfl)) (AD.nl hAD 15 rfl rfl rfl) (up_ne hw5 (AD.nm hAD 15 rfl) a15))
      have f53 := (FrI.gen hfr31 (nm1 (AD.nm hAD 16 rfl)) (AD.nl hAD 16 rfl rfl rfl) (up_ne hw5 (AD.nm hAD 16 rfl) a16))
      have f54 := (FrI.gen hfr31 (nm1 (AD.nm hAD 17 rfl)) (AD.nl hAD 17 rfl rfl rfl) (up_ne hw5 (AD.nm hAD 17 rfl) a17))
      have f55 := (FrI.gen hfr31 (nm1 (AD.nm hAD 18 rfl)) (AD.nl hAD 18 rfl rfl rfl) (up_ne hw5 (AD.nm hAD 18 rfl) a18))
      have f56 := (FrI.gen hfr31 (nm1 (AD.nm hAD 19 rfl)) (AD.nl hAD 19 rfl rfl rfl) (up_ne hw5 (AD.nm hAD 19 rfl) a19))
      exact s_m46 hAD ht hln hm32 r38 (((FrI.refl : FrI A [mm] [10, 11, 12, 13, 14, 15, 16, 17, 18, 19] w w).trans (FrI.ux hw5 (by simp))).trans (FrI.sub hfr31 rfl)) (((FF.refl : FF [5, 8, 9, 22, 24, 25, 26, 27, 28, 29, 30, 31] fs fs).trans (FF.set sfs6 rfl)).trans (FF.mono hff33 rfl)) v39 v40 v41 v42 v43 v44 v45 v20 v21 v22 v23 v24 v25 f46 f47 f48 f49 f50 f51 f52 f53 f54 f55 f56 hT18 hN19 hR10 hI11 hb12 (by omega) hTB (by omega) (by omega)
    · skip
      have hbd57 := rR_bad (b := 2) hR ((f64 hk64 hsd4).trans (if_pos (by omega))) (by decide)
      refine j_aload_n dX6_readMarked_20 1 rfl ?_
      refine j_iconst (v := nI 2) dX6_readMarked_21 (by decide) ?_
      refine j_callV (rm := rX6_wrong) (As := [.int (nI 2)]) (st := []) (b0 := mm) (ci := 6) (na := 1) (m_wrong0 (k := 2) hAD hmm hA h29 h27) (by intro E w9 h9; first | exact nomatch h9.1 | (obtain ⟨_, h9, _⟩ := h9; exact nomatch h9) | (obtain ⟨_, _, _, h9, _⟩ := h9; exact nomatch h9)) gX6_readMarked_X6_wrong rfl rfl hmm (by decide +kernel) rfl ⟨Nat.le_of_ble_eq_true rfl, Nat.le_of_ble_eq_true rfl⟩ rfl (Nat.le_of_ble_eq_true rfl) dX6_readMarked_22 ⟨(show 0 + 0 ≤ 0 by omega), (show 0 + 0 ≤ 0 by omega)⟩ (fun v65 w66 h67 => ?_)
      obtain ⟨h64, fs60, ⟨hfr61, hm62, hff63⟩, v58, v59⟩ := h67
      cases h64
      refine j_after (st' := []) (k' := 0) (n' := 0) rfl rfl rfl ?_
      have r68 : RA A fs60 := RA.ff hA hff63 rfl
      refine j_aload_n dX6_readMarked_25 1 rfl ?_
      refine j_dup dX6_readMarked_26 rfl ?_
      have v69 := (FF.at hff63 rfl h31)
      refine j_get (v := .int (nI mr)) flX6_readMarked_159 hm62 v69 dX6_readMarked_27 ?_
      refine j_iconst (v := nI 1) dX6_readMarked_30 (by decide) ?_
      refine j_iaddN dX6_readMarked_31 ?_
      refine j_putM fsX6_readMarked_159 hm62 rfl rfl (RA.lt r68 (by decide)) dX6_readMarked_32 (fun w70 fs71 sfs71 hw70 => ?_)
      have f72 : w70 mm = some (.inr (6, fs71)) := up_at hw70
      have rfs71 : RA A fs71 := RA.set r68 sfs71 rfl
      have v73 := st_at sfs71 r68 (by decide : 31 < 45)
      refine j_aload_n dX6_readMarked_35 1 rfl ?_
      have v74 := (st_ne sfs71 rfl v58)
      refine j_get (v := .int (nI 2)) flX6_readMarked_124 f72 v74 dX6_readMarked_36 ?_
      refine j_if_neN 46 (by decide) dX6_readMarked_39 (by decide) (fun _ => ?_) (fun h9 => absurd h9 (by decide))
      refine j_aload_n dX6_readMarked_46 1 rfl ?_
      refine j_get (v := .int (nI 2)) flX6_readMarked_124 f72 v74 dX6_readMarked_47 ?_
      refine j_if_neN 66 (by decide) dX6_readMarked_50 (by decide) (fun _ => ?_) (fun h9 => absurd h9 (by decide))
      refine j_iconst (v := nI 0) dX6_readMarked_66 (by decide) ?_
      refine j_istore_n (lv' := [(3, .int (nI 0)), (2, .int (nI 1)), (0, .ref mm), (1, .int (nI pa))]) dX6_readMarked_67 (Nat.le_of_ble_eq_true rfl) rfl ?_
      refine j_iload_n dX6_readMarked_68 0 rfl ?_
      refine j_if_eqN 107 (by decide) dX6_readMarked_69 (by decide) (fun _ => ?_) (fun h9 => absurd rfl h9)
      refine j_aload_n dX6_readMarked_107 2 rfl ?_
      refine j_get (v := .int (nI 2)) flX6_readMarked_124 f72 v74 dX6_readMarked_108 ?_
      refine j_if_neN 129 (by decide) dX6_readMarked_111 (by decide) (fun _ => ?_) (fun h9 => absurd h9 (by decide))
      refine j_aload_n dX6_readMarked_129 2 rfl ?_
      refine j_get (v := .int (nI 2)) flX6_readMarked_124 f72 v74 dX6_readMarked_130 ?_
      refine j_if_neN 150 (by decide) dX6_readMarked_133 (by decide) (fun _ => ?_) (fun h9 => absurd h9 (by decide))
      refine j_aload_n dX6_readMarked_150 2 rfl ?_
      refine j_get (v := .int (nI 2)) flX6_readMarked_124 f72 v74 dX6_readMarked_151 ?_
      refine j_if_eqN 158 (by decide) dX6_readMarked_154 (by decide) (fun h9 => absurd h9 (by decide)) (fun _ => ?_)
      have f75 := (up_ne hw70 (AD.nm hAD 10 rfl) (FrI.gen hfr61 (nm1 (AD.nm hAD 10 rfl)) (AD.nl hAD 10 rfl rfl rfl) a10))
      have f76 := (up_ne hw70 (AD.nm hAD 11 rfl) (FrI.gen hfr61 (nm1 (AD.nm hAD 11 rfl)) (AD.nl hAD 11 rfl rfl rfl) a11))
      have f77 := (up_ne hw70 (AD.nm hAD 12 rfl) (FrI.gen hfr61 (nm1 (AD.nm hAD 12 rfl)) (AD.nl hAD 12 rfl rfl rfl) a12))
      have f78 := (up_ne hw70 (AD.nm hAD 13 rfl) (FrI.gen hfr61 (nm1 (AD.nm hAD 13 rfl)) (AD.nl hAD 13 rfl rfl rfl) a13))
      have f79 := (up_ne hw70 (AD.nm hAD 14 rfl) (FrI.gen hfr61 (nm1 (AD.nm hAD 14 rfl)) (AD.nl hAD 14 rfl rfl rfl) a14))
      have f80 := (up_ne hw70 (AD.nm hAD 15 rfl) (FrI.gen hfr61 (nm1 (AD.nm hAD 15 rfl)) (AD.nl hAD 15 rfl rfl rfl) a15))
      have f81 := (up_ne hw70 (AD.nm hAD 16 rfl) (FrI.gen hfr61 (nm1 (AD.nm hAD 16 rfl)) (AD.nl hAD 16 rfl rfl rfl) a16))
      have f82 := (up_ne hw70 (AD.nm hAD 17 rfl) (FrI.gen hfr61 (nm1 (AD.nm hAD 17 rfl)) (AD.nl hAD 17 rfl rfl rfl) a17))
      have f83 := (up_ne hw70 (AD.nm hAD 18 rfl) (FrI.gen hfr61 (nm1 (AD.nm hAD 18 rfl)) (AD.nl hAD 18 rfl rfl rfl) a18))
      have f84 := (up_ne hw70 (AD.nm hAD 19 rfl) (FrI.gen hfr61 (nm1 (AD.nm hAD 19 rfl)) (AD.nl hAD 19 rfl rfl rfl) a19))
      have v85 := (st_ne sfs71 rfl (FF.at hff63 rfl h26))
      have v86 := (st_ne sfs71 rfl v59)
      exact j_vret rfl ⟨rfl, _, ⟨(((FrI.refl : FrI A [mm] [10, 11, 12, 13, 14, 15, 16, 17, 18, 19] w w).trans (FrI.sub hfr61 rfl)).trans (FrI.ux hw70 (by simp))), f72, (((FF.refl : FF [5, 8, 9, 22, 24, 25, 26, 27, 28, 29, 30, 31] fs fs).trans (FF.mono hff63 rfl)).trans (FF.set sfs71 rfl))⟩, _, _, _, _, _, _, _, _, _, _, ⟨f75, f76, f77, f78, f79, f80, f81, f82, f83, f84⟩, ⟨_, v85⟩, Or.inl (RFl.mk hbd57 ⟨by decide, by decide⟩ v74 v86)⟩ (show 0 ≤ 0 by omega) (show 0 ≤ 0 by omega) dX6_readMarked_157
  · skip
    refine j_eqi (y := nI 0) (by rw [decide_eq_false hk64]; rfl) ?_
    refine j_istore_n (lv' := [(2, .int (nI 0)), (0, .ref mm), (1, .int (nI pa))]) dX6_readMarked_6 (Nat.le_of_ble_eq_true rfl) rfl ?_
    refine j_iload_n dX6_readMarked_7 0 rfl ?_
    refine j_if_eqN 46 (by decide) dX6_readMarked_8 (by decide) (fun _ => ?_) (fun h9 => absurd rfl h9)
    refine j_lv (lv' := [(0, .ref mm), (1, .int (nI pa)), (2, .int (zb false))]) [1, 2, 0] rfl ?_
    exact s_m46 hAD ht hln hmm hA (FrI.refl : FrI A [mm] [10, 11, 12, 13, 14, 15, 16, 17, 18, 19] w w) (FF.refl : FF [5, 8, 9, 22, 24, 25, 26, 27, 28, 29, 30, 31] fs fs) h5 h6 h8 h9 h23 h29 h31 h22 h24 h25 h26 h27 h28 a1 a10 a11 a12 a13 a14 a15 a16 a17 a18 a19 hT hN hR hI ha (by omega) hTB (by omega) (by omega)
