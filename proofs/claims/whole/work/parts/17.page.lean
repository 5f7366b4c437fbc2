section JT
/-- throw new E("text") of the class, for the two kinds of E -/
theorem j_throwS {P : JP} {pc : Nat} {lv : List (Nat × Value)} {st : List Value} {w : pW} {k n ik is ic : Nat} {cls text : String} (hown0 : P.1.2.1 = RX5)
    (hE : cls = "java/lang/IllegalArgumentException" ∧ ic = 51 ∨ cls = "java/util/NoSuchElementException" ∧ ic = 75) (hz : (RX5, is, text) ∈ bgStr)
    (h1 : Cond.classLink RX5 ik cls ∈ P.1.2.2.2) (h2 : Cond.initialized cls ∈ P.1.2.2.2) (h3 : ∀ x ∈ (vx_atS RX5 ic cls ["java/lang/RuntimeException", "java/lang/Exception"]).filter goodWord, x ∈ P.1.2.2.2)
    (hg : ((Cond.classLink RX5 ik cls :: Cond.initialized cls :: vx_atS RX5 ic cls ["java/lang/RuntimeException", "java/lang/Exception"]).all vx_ot) = true) (htb0 : P.2.1.2.2.2 = [])
    (hfr : 5 < P.2.1.1.frames) (hlo : (st.map fun v => v.category).sum + 82 ≤ P.2.1.1.locals) (hk : k + 1 ≤ P.2.1.1.cells) (hn : n + 6 ≤ P.2.1.1.slots)
    (d0 : decode P.1.1 pc = .ok (.new ik, 3)) (d3 : decode P.1.1 (pc + 3) = .ok (.dup, 1)) (d4 : decode P.1.1 (pc + 4) = .ok (.ldc is, 2)) (d6 : decode P.1.1 (pc + 6) = .ok (.invokespecial ic, 3)) (d9 : decode P.1.1 (pc + 9) = .ok (.athrow, 1))
    (hp : P.2.2.1 (.inr cls) w) : J P pc lv st w k n := by
  intro p l e s m args below meth cd H locs G b ls F hP hD hS hl
  obtain ⟨hx, hb, hml, hown, hts, hr, hlk, hnm, htb, hK, hBg, hst2, hbs, hXX⟩ := id F
  obtain ⟨z1, z2, z3, -, -, -, -, -, z9, z10, z11⟩ := hBg
  obtain ⟨sa, hsa⟩ := z3 _ hz
  rw [hown0] at hown
  have hcast : (Cond.castable cls cls).before args s = true := by
    rcases hE with ⟨rfl, -⟩ | ⟨rfl, -⟩
    · exact z9
    · exact z10
  have hno : ∀ x ∈ vx_atS RX5 ic cls ["java/lang/RuntimeException", "java/lang/Exception"], goodWord x = true ∨ x = Cond.castable cls cls ∨ x ∈ bgDecl.map (fun z => Cond.declares (Bundle.initS z)) := by
    rcases hE with ⟨rfl, rfl⟩ | ⟨rfl, rfl⟩ <;> decide +kernel
  refine vx_throwS hx hb hst2 (own := RX5) (cls := cls) (text := text) (names := ["java/lang/RuntimeException", "java/lang/Exception"]) (sa := sa) hown ?_ (by decide +kernel) (hts _ h1) (hts _ h2) hsa (fun x hx9 => ?_) (fun x hx9 => List.all_eq_true.mp hg x hx9) z1 z2 hS (hl.1.trans hml.symm) d0 d3 d4 d6 d9 (fun x hx9 => ?_) hfr (by show _ + (13 * (2 + 1) + 43) ≤ _; omega) hk hn hlk (fun t ha h5 h6 => ⟨w, hp, ⟨fun a c hc => (hP a c hc).kept (h6 a (hP.lt hc)), hD⟩, Nat.le_trans hS.1 h5, fun q q1 q2 => (h6 q (Nat.lt_of_lt_of_le q1 hS.1)).trans (hS.2.1 q q1 q2)⟩) hS.2.2 hk hn
  · rcases hE with ⟨rfl, -⟩ | ⟨rfl, -⟩ <;> decide +kernel
  · rcases hno x hx9 with h | rfl | h
    · exact hts _ (h3 x (List.mem_filter.mpr ⟨hx9, h⟩))
    · exact hcast
    · obtain ⟨z, hz9, rfl⟩ := List.mem_map.mp h
      exact z11 z hz9
  · rw [htb, htb0] at hx9; cases hx9
theorem j_throwX {P : JP} {pc : Nat} {lv : List (Nat × Value)} {st : List Value} {w : pW} {k n ik is ic : Nat} {cls text : String} (hown0 : P.1.2.1 = RX5)
    (hE : cls = "java/lang/IllegalArgumentException" ∧ ic = 51 ∨ cls = "java/util/NoSuchElementException" ∧ ic = 75) (hz : (RX5, is, text) ∈ bgStr)
    (h1 : Cond.classLink RX5 ik cls ∈ P.1.2.2.2) (h2 : Cond.initialized cls ∈ P.1.2.2.2) (h3 : ∀ x ∈ (vx_atX RX5 ic cls ["java/lang/RuntimeException", "java/lang/Exception"]).filter goodWord, x ∈ P.1.2.2.2)
    (hg : ((Cond.classLink RX5 ik cls :: Cond.initialized cls :: vx_atX RX5 ic cls ["java/lang/RuntimeException", "java/lang/Exception"]).all vx_ot) = true) (htb0 : P.2.1.2.2.2 = [])
    (hfr : 5 < P.2.1.1.frames) (hlo : (st.map fun v => v.category).sum + 82 ≤ P.2.1.1.locals) (hk : k + 1 ≤ P.2.1.1.cells) (hn : n + 6 ≤ P.2.1.1.slots)
    (d0 : decode P.1.1 pc = .ok (.new ik, 3)) (d3 : decode P.1.1 (pc + 3) = .ok (.dup, 1)) (d4 : decode P.1.1 (pc + 4) = .ok (.ldc is, 2)) (d6 : decode P.1.1 (pc + 6) = .ok (.invokespecial ic, 3)) (d9 : decode P.1.1 (pc + 9) = .ok (.athrow, 1))
    (hp : P.2.2.1 (.inr cls) w) : J P pc lv st w k n := by
  intro p l e s m args below meth cd H locs G b ls F hP hD hS hl
  obtain ⟨hx, hb, hml, hown, hts, hr, hlk, hnm, htb, hK, hBg, hst2, hbs, hXX⟩ := id F
  obtain ⟨z1, z2, z3, -, -, -, -, -, z9, z10, z11⟩ := hBg
  obtain ⟨sa, hsa⟩ := z3 _ hz
  rw [hown0] at hown
  have hcast : (Cond.castable cls cls).before args s = true := by
    rcases hE with ⟨rfl, -⟩ | ⟨rfl, -⟩
    · exact z9
    · exact z10
  have hno : ∀ x ∈ vx_atX RX5 ic cls ["java/lang/RuntimeException", "java/lang/Exception"], goodWord x = true ∨ x = Cond.castable cls cls ∨ x ∈ bgDecl.map (fun z => Cond.declares (Bundle.initS z)) := by
    rcases hE with ⟨rfl, rfl⟩ | ⟨rfl, rfl⟩ <;> decide +kernel
  refine vx_throwX hx hb hst2 (own := RX5) (cls := cls) (text := text) (names := ["java/lang/RuntimeException", "java/lang/Exception"]) (sa := sa) hown ?_ (by decide +kernel) (hts _ h1) (hts _ h2) hsa (fun x hx9 => ?_) (fun x hx9 => List.all_eq_true.mp hg x hx9) z1 z2 hS (hl.1.trans hml.symm) d0 d3 d4 d6 d9 (fun x hx9 => ?_) hfr (by show _ + (13 * (2 + 1) + 43) ≤ _; omega) hk hn hlk (fun t ha h5 h6 => ⟨w, hp, ⟨fun a c hc => (hP a c hc).kept (h6 a (hP.lt hc)), hD⟩, Nat.le_trans hS.1 h5, fun q q1 q2 => (h6 q (Nat.lt_of_lt_of_le q1 hS.1)).trans (hS.2.1 q q1 q2)⟩) hS.2.2 hk hn
  · rcases hE with ⟨rfl, -⟩ | ⟨rfl, -⟩ <;> decide +kernel
  · rcases hno x hx9 with h | rfl | h
    · exact hts _ (h3 x (List.mem_filter.mpr ⟨hx9, h⟩))
    · exact hcast
    · obtain ⟨z, hz9, rfl⟩ := List.mem_map.mp h
      exact z11 z hz9
  · rw [htb, htb0] at hx9; cases hx9
end JT
section PG
theorem and255 (y : Int32) : (y &&& 255).toInt8 = y.toInt8 := by
  apply Int8.toBitVec_inj.mp
  show (y.toBitVec &&& (255 : Int32).toBitVec).signExtend 8 = y.toBitVec.signExtend 8
  apply BitVec.eq_of_getLsbD_eq
  intro i hi
  have h9 : (255 : Int32).toBitVec.getLsbD i = true := by
    have : ∀ j : Fin 8, (255 : Int32).toBitVec.getLsbD j.1 = true := by decide +kernel
    exact this ⟨i, hi⟩
  rw [BitVec.getLsbD_signExtend, BitVec.getLsbD_signExtend]
  simp only [show i < 32 by omega, if_true, BitVec.getLsbD_and, h9, Bool.and_true]
/-- the byte of x that lies v bits up -/
def byN (x v : Int32) : Nat := (x >>> v).toBitVec.toNat % 256
theorem byN_lt (x v : Int32) : byN x v < 256 := Nat.mod_lt _ (by decide)
theorem byN_sb (x v : Int32) : (x >>> v).toInt8.toInt32 = sb_b (byN x v) := by
  unfold sb_b byN
  rw [← pk_and (x >>> v) (m := 255) 8 (by decide), and255]
theorem nar_sb (c : Nat) : vp_nar .byte (sb_b c) = sb_b c := by
  unfold sb_b
  show (((nI c).toInt8.toInt32).toInt8).toInt32 = _
  rw [Int8.toInt8_toInt32]
theorem upd_sb (t : Nat → Nat) (i c : Nat) : upd (fun j9 => sb_b (t j9)) i (vp_nar .byte (sb_b c)) = fun j9 => sb_b (va_up t i c j9) := by
  funext j
  rw [nar_sb]
  by_cases h : j = i
  · subst h; rw [pk_us, va_up_self]
  · rw [pk_un h, va_up_ne _ _ h]
theorem va_up_lt {t : Nat → Nat} {i c : Nat} (ht : ∀ j, t j < 256) (hc : c < 256) : ∀ j, va_up t i c j < 256 := by
  intro j
  by_cases h : j = i
  · subst h; rw [va_up_self]; exact hc
  · rw [va_up_ne _ _ h]; exact ht j
theorem up2_eq {w w9 : pW} {a b : Nat} {x y : Option pE} (hF : Fr [a, b] w w9) (h1 : w9 a = x) (h2 : w9 b = y) : w9 = va_up (va_up w a x) b y := by
  funext z
  by_cases c2 : z = b
  · subst c2; rw [va_up_self]; exact h2
  rw [va_up_ne _ _ c2]
  by_cases c1 : z = a
  · subst c1; rw [va_up_self]; exact h1
  rw [va_up_ne _ _ c1]
  exact hF z (by simp only [List.mem_cons, List.not_mem_nil, or_false, not_or]; exact ⟨c1, c2⟩)
/-- four bytes more on the tape -/
def put4 (t : Nat → Nat) (l : Nat) (x : Int32) : Nat → Nat := va_up (va_up (va_up (va_up t l (byN x (nI 24 &&& 31))) (l + 1) (byN x (nI 16 &&& 31))) (l + 1 + 1) (byN x (nI 8 &&& 31))) (l + 1 + 1 + 1) (byN x (nI 0 &&& 31))
theorem put4_lt {t : Nat → Nat} {l : Nat} {x : Int32} (ht : ∀ j, t j < 256) : ∀ j, put4 t l x j < 256 := va_up_lt (va_up_lt (va_up_lt (va_up_lt ht (byN_lt _ _)) (byN_lt _ _)) (byN_lt _ _)) (byN_lt _ _)
/-- Euclid's steps -/
def gcF : Nat → Nat → Nat → Nat
  | 0, a, _ => a
  | k + 1, a, b => if b = 0 then a else gcF k b (a % b)
theorem gcF_step {i a b : Nat} (h : i < 64) (hb : b ≠ 0) : gcF (64 - i) a b = gcF (64 - (i + 1)) b (a % b) := by
  obtain ⟨k, hk⟩ : ∃ k, 64 - i = k + 1 := ⟨64 - i - 1, by omega⟩
  rw [hk, show 64 - (i + 1) = k by omega]
  exact if_neg hb
theorem gcF_stop {k a : Nat} : gcF k a 0 = a := by
  cases k with
  | zero => rfl
  | succ k => exact if_pos rfl
theorem lkI {ps : List (Int × Int)} {d : Int} {x : Int32} (h : ∀ q ∈ ps, q.1 ≠ x.toInt) : Op.lookupswitch.offset ps d x.toInt = d := by
  refine Op.lookupswitch.offset_none ?_
  rw [List.find?_eq_none]
  intro q hq
  have h1 := h q hq
  simpa using h1
theorem toInt_ne {x y : Int32} {z : Int} (h : ¬ x = y) (hz : y.toInt = z) : z ≠ x.toInt := fun e => h (Int32.toInt_inj.mp (e.symm.trans hz.symm))
end PG
abbrev rX5_putBytes : Room := { frames := 0, cells := 0, slots := 0, locals := 0 }
theorem flX5_putBytes_13 : FL wsX5_putBytes RX5 13 5 1 := ⟨RX5, TX5, 6, rfl, by decide, by decide +kernel, by decide +kernel⟩
theorem flX5_putBytes_9 : FL wsX5_putBytes RX5 9 5 0 := ⟨RX5, TX5, 6, rfl, by decide, by decide +kernel, by decide +kernel⟩
theorem fsX5_putBytes_13 : FS wsX5_putBytes RX5 13 5 1 false (.int) := ⟨RX5, TX5, 6, tyX5, rfl, by decide, by decide +kernel, by decide +kernel, tyX5_ok, nmX5, rfl, rfl, rfl⟩
set_option maxHeartbeats 4000000 in
set_option maxRecDepth 100000 in
theorem c_putBytes {w : pW} {pt tx tl rd sc fo ld : Nat} {t : Nat → Nat} (hpt : w pt = some (.inr (5, [.ref tx, .int (nI tl), .ref rd, .ref sc, .ref fo, .int (nI ld)]))) (htx : w tx = some (.inl (1, 2400, .inl (fun j9 => sb_b (t j9))))) {x : Int32} (htl : tl + 4 ≤ 2400) : Ct yX5_putBytes wsX5_putBytes rX5_putBytes [.ref pt, .int x] w (fun o w9 => o = .inl none ∧ w9 = va_up (va_up w tx (some (.inl (1, 2400, .inl (fun j9 => sb_b ((put4 t tl x) j9)))))) pt (some (.inr (5, [.ref tx, .int (nI (tl + 1 + 1 + 1 + 1)), .ref rd, .ref sc, .ref fo, .int (nI ld)])))) := by
  refine Ct.of (cc := cX5_putBytes) (own := RX5) (nm := "putBytes") (nL := 3) (ret := none) (by decide +kernel) rfl rfl rfl (Nat.le_of_ble_eq_true rfl) ?_
  refine j_lvE (lv' := [(0, .ref pt), (1, .int x)]) rfl ?_
  refine j_bipush (v := nI 24) dX5_putBytes_0 (by decide) ?_
  refine j_istore_n (lv' := [(2, .int (nI 24)), (0, .ref pt), (1, .int x)]) dX5_putBytes_2 (Nat.le_of_ble_eq_true rfl) rfl ?_
  refine j_iload_n dX5_putBytes_3 0 rfl ?_
  refine j_if_ltN (by omega) dX5_putBytes_4 (by decide : _ = ((55 : Nat) : Int)) ?_
  refine j_aload_n dX5_putBytes_7 1 rfl ?_
  refine j_get flX5_putBytes_13 hpt rfl dX5_putBytes_8 ?_
  refine j_if_ltN (by omega) dX5_putBytes_11 (by decide : _ = ((49 : Nat) : Int)) ?_
  refine j_aload_n dX5_putBytes_14 1 rfl ?_
  refine j_get flX5_putBytes_13 hpt rfl dX5_putBytes_15 ?_
  refine j_aload_n dX5_putBytes_18 1 rfl ?_
  refine j_get flX5_putBytes_9 hpt rfl dX5_putBytes_19 ?_
  refine j_alen (v := nI 2400) (by decide) htx rfl dX5_putBytes_22 ?_
  refine j_icmp_geN 49 (by omega) (by omega) dX5_putBytes_23 (by decide) (fun c23 => ?_) (fun c23 => ?_)
  · skip
    exfalso; omega
  · skip
    refine j_aload_n dX5_putBytes_26 1 rfl ?_
    refine j_get flX5_putBytes_9 hpt rfl dX5_putBytes_27 ?_
    refine j_aload_n dX5_putBytes_30 1 rfl ?_
    refine j_get flX5_putBytes_13 hpt rfl dX5_putBytes_31 ?_
    refine j_iload_n dX5_putBytes_34 2 rfl ?_
    refine j_iload_n dX5_putBytes_35 0 rfl ?_
    refine j_ishr dX5_putBytes_36 ?_
    refine j_i2b dX5_putBytes_37 rfl ?_
    refine j_eqi (y := sb_b (byN x (nI 24 &&& 31))) (byN_sb x (nI 24 &&& 31)) ?_
    refine j_bastN (j := tl) htx rfl (by omega) (by omega) dX5_putBytes_38 ?_
    refine j_w (fun w1 hw1 => ?_)
    have f2 := up_ne hw1 (fk hpt htx rfl) hpt
    have f3 : w1 tx = some (.inl (1, 2400, .inl (upd (fun j9 => sb_b (t j9)) tl (vp_nar .byte (sb_b (byN x (nI 24 &&& 31))))))) := up_at hw1
    have gt4 : w1 tx = some (.inl (1, 2400, .inl (fun j9 => sb_b ((va_up t tl (byN x (nI 24 &&& 31))) j9)))) := f3.trans (by rw [upd_sb])
    refine j_aload_n dX5_putBytes_39 1 rfl ?_
    refine j_dup dX5_putBytes_40 rfl ?_
    refine j_get flX5_putBytes_13 f2 rfl dX5_putBytes_41 ?_
    refine j_iconst (v := nI 1) dX5_putBytes_44 (by decide) ?_
    refine j_iaddN dX5_putBytes_45 ?_
    refine j_put (fs9 := [.ref tx, .int (nI (tl + 1)), .ref rd, .ref sc, .ref fo, .int (nI ld)]) fsX5_putBytes_13 f2 rfl rfl (Nat.le_of_ble_eq_true rfl) rfl dX5_putBytes_46 ?_
    refine j_w (fun w5 hw5 => ?_)
    have f6 : w5 pt = some (.inr (5, [.ref tx, .int (nI (tl + 1)), .ref rd, .ref sc, .ref fo, .int (nI ld)])) := up_at hw5
    have f7 := up_ne hw5 (fk gt4 f2 rfl) gt4
    refine j_iinc (q := 0) (v := nI 16) (lv' := [(2, .int (nI 16)), (0, .ref pt), (1, .int x)]) dX5_putBytes_49 rfl (by decide) (Nat.le_of_ble_eq_true rfl) rfl ?_
    refine j_goto 3 dX5_putBytes_52 (by decide) ?_
    refine j_iload_n dX5_putBytes_3 0 rfl ?_
    refine j_if_ltN (by omega) dX5_putBytes_4 (by decide : _ = ((55 : Nat) : Int)) ?_
    refine j_aload_n dX5_putBytes_7 1 rfl ?_
    refine j_get flX5_putBytes_13 f6 rfl dX5_putBytes_8 ?_
    refine j_if_ltN (by omega) dX5_putBytes_11 (by decide : _ = ((49 : Nat) : Int)) ?_
    refine j_aload_n dX5_putBytes_14 1 rfl ?_
    refine j_get flX5_putBytes_13 f6 rfl dX5_putBytes_15 ?_
    refine j_aload_n dX5_putBytes_18 1 rfl ?_
    refine j_get flX5_putBytes_9 f6 rfl dX5_putBytes_19 ?_
    refine j_alen (v := nI 2400) (by decide) f7 rfl dX5_putBytes_22 ?_
    refine j_icmp_geN 49 (by omega) (by omega) dX5_putBytes_23 (by decide) (fun c23 => ?_) (fun c23 => ?_)
    · skip
      exfalso; omega
    · skip
      refine j_aload_n dX5_putBytes_26 1 rfl ?_
      refine j_get flX5_putBytes_9 f6 rfl dX5_putBytes_27 ?_
      refine j_aload_n dX5_putBytes_30 1 rfl ?_
      refine j_get flX5_putBytes_13 f6 rfl dX5_putBytes_31 ?_
      refine j_iload_n dX5_putBytes_34 2 rfl ?_
      refine j_iload_n dX5_putBytes_35 0 rfl ?_
      refine j_ishr dX5_putBytes_36 ?_
      refine j_i2b dX5_putBytes_37 rfl ?_
      refine j_eqi (y := sb_b (byN x (nI 16 &&& 31))) (byN_sb x (nI 16 &&& 31)) ?_
      refine j_bastN (j := tl + 1) f7 rfl (by omega) (by omega) dX5_putBytes_38 ?_
      refine j_w (fun w8 hw8 => ?_)
      have f9 := up_ne hw8 (fk f6 f7 rfl) f6
      have f10 : w8 tx = some (.inl (1, 2400, .inl (upd (fun j9 => sb_b ((va_up t tl (byN x (nI 24 &&& 31))) j9)) (tl + 1) (vp_nar .byte (sb_b (byN x (nI 16 &&& 31))))))) := up_at hw8
      have gt11 : w8 tx = some (.inl (1, 2400, .inl (fun j9 => sb_b ((va_up (va_up t tl (byN x (nI 24 &&& 31))) (tl + 1) (byN x (nI 16 &&& 31))) j9)))) := f10.trans (by rw [upd_sb])
      refine j_aload_n dX5_putBytes_39 1 rfl ?_
      refine j_dup dX5_putBytes_40 rfl ?_
      refine j_get flX5_putBytes_13 f9 rfl dX5_putBytes_41 ?_
      refine j_iconst (v := nI 1) dX5_putBytes_44 (by decide) ?_
      refine j_iaddN dX5_putBytes_45 ?_
      refine j_put (fs9 := [.ref tx, .int (nI ((tl + 1) + 1)), .ref rd, .ref sc, .ref fo, .int (nI ld)]) fsX5_putBytes_13 f9 rfl rfl (Nat.le_of_ble_eq_true rfl) rfl dX5_putBytes_46 ?_
      refine j_w (fun w12 hw12 => ?_)
      have f13 : w12 pt = some (.inr (5, [.ref tx, .int (nI ((tl + 1) + 1)), .ref rd, .ref sc, .ref fo, .int (nI ld)])) := up_at hw12
      have f14 := up_ne hw12 (fk gt11 f9 rfl) gt11
      refine j_iinc (q := 0) (v := nI 8) (lv' := [(2, .int (nI 8)), (0, .ref pt), (1, .int x)]) dX5_putBytes_49 rfl (by decide) (Nat.le_of_ble_eq_true rfl) rfl ?_
      refine j_goto 3 dX5_putBytes_52 (by decide) ?_
      refine j_iload_n dX5_putBytes_3 0 rfl ?_
      refine j_if_ltN (by omega) dX5_putBytes_4 (by decide : _ = ((55 : Nat) : Int)) ?_
      refine j_aload_n dX5_putBytes_7 1 rfl ?_
      refine j_get flX5_putBytes_13 f13 rfl dX5_putBytes_8 ?_
      refine j_if_ltN (by omega) dX5_putBytes_11 (by decide : _ = ((49 : Nat) : Int)) ?_
      refine j_aload_n dX5_putBytes_14 1 rfl ?_
      refine j_get flX5_putBytes_13 f13 rfl dX5_putBytes_15 ?_
      refine j_aload_n dX5_putBytes_18 1 rfl ?_
      refine j_get flX5_putBytes_9 f13 rfl dX5_putBytes_19 ?_
      refine j_alen (v := nI 2400) (by decide) f14 rfl dX5_putBytes_22 ?_
      refine j_icmp_geN 49 (by omega) (by omega) dX5_putBytes_23 (by decide) (fun c23 => ?_) (fun c23 => ?_)
      · skip
        exfalso; omega
      · skip
        refine j_aload_n dX5_putBytes_26 1 rfl ?_
        refine j_get flX5_putBytes_9 f13 rfl dX5_putBytes_27 ?_
        refine j_aload_n dX5_putBytes_30 1 rfl ?_
        refine j_get flX5_putBytes_13 f13 rfl dX5_putBytes_31 ?_
        refine j_iload_n dX5_putBytes_34 2 rfl ?_
        refine j_iload_n dX5_putBytes_35 0 rfl ?_
        refine j_ishr dX5_putBytes_36 ?_
        refine j_i2b dX5_putBytes_37 rfl ?_
        refine j_eqi (y := sb_b (byN x (nI 8 &&& 31))) (byN_sb x (nI 8 &&& 31)) ?_
        refine j_bastN (j := (tl + 1) + 1) f14 rfl (by omega) (by omega) dX5_putBytes_38 ?_
        refine j_w (fun w15 hw15 => ?_)
        have f16 := up_ne hw15 (fk f13 f14 rfl) f13
        have f17 : w15 tx = some (.inl (1, 2400, .inl (upd (fun j9 => sb_b ((va_up (va_up t tl (byN x (nI 24 &&& 31))) (tl + 1) (byN x (nI 16 &&& 31))) j9)) ((tl + 1) + 1) (vp_nar .byte (sb_b (byN x (nI 8 &&& 31))))))) := up_at hw15
        have gt18 : w15 tx = some (.inl (1, 2400, .inl (fun j9 => sb_b ((va_up (va_up (va_up t tl (byN x (nI 24 &&& 31))) (tl + 1) (byN x (nI 16 &&& 31))) ((tl + 1) + 1) (byN x (nI 8 &&& 31))) j9)))) := f17.trans (by rw [upd_sb])
        refine j_aload_n dX5_putBytes_39 1 rfl ?_
        refine j_dup dX5_putBytes_40 rfl ?_
        refine j_get flX5_putBytes_13 f16 rfl dX5_putBytes_41 ?_
        refine j_iconst (v := nI 1) dX5_putBytes_44 (by decide) ?_
        refine j_iaddN dX5_putBytes_45 ?_
        refine j_put (fs9 := [.ref tx, .int (nI (((tl + 1) + 1) + 1)), .ref rd, .ref sc, .ref fo, .int (nI ld)]) fsX5_putBytes_13 f16 rfl rfl (Nat.le_of_ble_eq_true rfl) rfl dX5_putBytes_46 ?_
        refine j_w (fun w19 hw19 => ?_)
        have f20 : w19 pt = some (.inr (5, [.ref tx, .int (nI (((tl + 1) + 1) + 1)), .ref rd, .ref sc, .ref fo, .int (nI ld)])) := up_at hw19
        have f21 := up_ne hw19 (fk gt18 f16 rfl) gt18
        refine j_iinc (q := 0) (v := nI 0) (lv' := [(2, .int (nI 0)), (0, .ref pt), (1, .int x)]) dX5_putBytes_49 rfl (by decide) (Nat.le_of_ble_eq_true rfl) rfl ?_
        refine j_goto 3 dX5_putBytes_52 (by decide) ?_
        refine j_iload_n dX5_putBytes_3 0 rfl ?_
        refine j_if_ltN (by omega) dX5_putBytes_4 (by decide : _ = ((55 : Nat) : Int)) ?_
        refine j_aload_n dX5_putBytes_7 1 rfl ?_
        refine j_get flX5_putBytes_13 f20 rfl dX5_putBytes_8 ?_
        refine j_if_ltN (by omega) dX5_putBytes_11 (by decide : _ = ((49 : Nat) : Int)) ?_
        refine j_aload_n dX5_putBytes_14 1 rfl ?_
        refine j_get flX5_putBytes_13 f20 rfl dX5_putBytes_15 ?_
        refine j_aload_n dX5_putBytes_18 1 rfl ?_
        refine j_get flX5_putBytes_9 f20 rfl dX5_putBytes_19 ?_
        refine j_alen (v := nI 2400) (by decide) f21 rfl dX5_putBytes_22 ?_
        refine j_icmp_geN 49 (by omega) (by omega) dX5_putBytes_23 (by decide) (fun c23 => ?_) (fun c23 => ?_)
        · skip
          exfalso; omega
        · skip
          refine j_aload_n dX5_putBytes_26 1 rfl ?_
          refine j_get flX5_putBytes_9 f20 rfl dX5_putBytes_27 ?_
          refine j_aload_n dX5_putBytes_30 1 rfl ?_
          refine j_get flX5_putBytes_13 f20 rfl dX5_putBytes_31 ?_
          refine j_iload_n dX5_putBytes_34 2 rfl ?_
          refine j_iload_n dX5_putBytes_35 0 rfl ?_
          refine j_ishr dX5_putBytes_36 ?_
          refine j_i2b dX5_putBytes_37 rfl ?_
          refine j_eqi (y := sb_b (byN x (nI 0 &&& 31))) (byN_sb x (nI 0 &&& 31)) ?_
          refine j_bastN (j := ((tl + 1) + 1) + 1) f21 rfl (by omega) (by omega) dX5_putBytes_38 ?_
          refine j_w (fun w22 hw22 => ?_)
          have f23 := up_ne hw22 (fk f20 f21 rfl) f20
          have f24 : w22 tx = some (.inl (1, 2400, .inl (upd (fun j9 => sb_b ((va_up (va_up (va_up t tl (byN x (nI 24 &&& 31))) (tl + 1) (byN x (nI 16 &&& 31))) ((tl + 1) + 1) (byN x (nI 8 &&& 31))) j9)) (((tl + 1) + 1) + 1) (vp_nar .byte (sb_b (byN x (nI 0 &&& 31))))))) := up_at hw22
          have gt25 : w22 tx = some (.inl (1, 2400, .inl (fun j9 => sb_b ((va_up (va_up (va_up (va_up t tl (byN x (nI 24 &&& 31))) (tl + 1) (byN x (nI 16 &&& 31))) ((tl + 1) + 1) (byN x (nI 8 &&& 31))) (((tl + 1) + 1) + 1) (byN x (nI 0 &&& 31))) j9)))) := f24.trans (by rw [upd_sb])
          refine j_aload_n dX5_putBytes_39 1 rfl ?_
          refine j_dup dX5_putBytes_40 rfl ?_
          refine j_get flX5_putBytes_13 f23 rfl dX5_putBytes_41 ?_
          refine j_iconst (v := nI 1) dX5_putBytes_44 (by decide) ?_
          refine j_iaddN dX5_putBytes_45 ?_
          refine j_put (fs9 := [.ref tx, .int (nI ((((tl + 1) + 1) + 1) + 1)), .ref rd, .ref sc, .ref fo, .int (nI ld)]) fsX5_putBytes_13 f23 rfl rfl (Nat.le_of_ble_eq_true rfl) rfl dX5_putBytes_46 ?_
          refine j_w (fun w26 hw26 => ?_)
          have f27 : w26 pt = some (.inr (5, [.ref tx, .int (nI ((((tl + 1) + 1) + 1) + 1)), .ref rd, .ref sc, .ref fo, .int (nI ld)])) := up_at hw26
          have f28 := up_ne hw26 (fk gt25 f23 rfl) gt25
          refine j_iinc (q := 0) (v := (-8)) (lv' := [(2, .int ((-8))), (0, .ref pt), (1, .int x)]) dX5_putBytes_49 rfl (by decide) (Nat.le_of_ble_eq_true rfl) rfl ?_
          refine j_goto 3 dX5_putBytes_52 (by decide) ?_
          refine j_iload_n dX5_putBytes_3 0 rfl ?_
          refine j_if_lt 55 dX5_putBytes_4 (by decide) (fun _ => ?_) (fun q => absurd (by decide) q)
          exact j_vret rfl ⟨rfl, up2_eq (((((((((Fr.refl : Fr [tx, pt] w w).trans (Fr.up hw1 (by simp))).trans (Fr.up hw5 (by simp))).trans (Fr.up hw8 (by simp))).trans (Fr.up hw12 (by simp))).trans (Fr.up hw15 (by simp))).trans (Fr.up hw19 (by simp))).trans (Fr.up hw22 (by simp))).trans (Fr.up hw26 (by simp))) f28 f27⟩ (show 0 ≤ 0 by omega) (show 0 ≤ 0 by omega) dX5_putBytes_55
abbrev rX5_feed : Room := { frames := 1, cells := 0, slots := 0, locals := 22 }
def fd5 (t : Nat → Nat) (tl : Nat) (za zb zc zd ze : Int32) : Nat → Nat := put4 (put4 (put4 (put4 (put4 t tl za) (tl + 1 + 1 + 1 + 1) zb) (tl + 1 + 1 + 1 + 1 + 1 + 1 + 1 + 1) zc) (tl + 1 + 1 + 1 + 1 + 1 + 1 + 1 + 1 + 1 + 1 + 1 + 1) zd) (tl + 1 + 1 + 1 + 1 + 1 + 1 + 1 + 1 + 1 + 1 + 1 + 1 + 1 + 1 + 1 + 1) ze
theorem flX5_feed_13 : FL wsX5_feed RX5 13 5 1 := ⟨RX5, TX5, 6, rfl, by decide, by decide +kernel, by decide +kernel⟩
set_option maxHeartbeats 4000000 in
set_option maxRecDepth 100000 in
theorem c_feed {w : pW} {pt tx tl rd sc fo ld : Nat} {t : Nat → Nat} (hpt : w pt = some (.inr (5, [.ref tx, .int (nI tl), .ref rd, .ref sc, .ref fo, .int (nI ld)]))) (htx : w tx = some (.inl (1, 2400, .inl (fun j9 => sb_b (t j9))))) {za zb zc zd ze : Int32} (htl : tl ≤ 2400) : Ct yX5_feed wsX5_feed rX5_feed [.ref pt, .int za, .int zb, .int zc, .int zd, .int ze] w (fun o w9 => (2380 < tl ∧ o = .inl (some (.int (-1))) ∧ w9 = w) ∨ (tl ≤ 2380 ∧ o = .inl (some (.int (nI (tl + 20)))) ∧ w9 = va_up (va_up w tx (some (.inl (1, 2400, .inl (fun j9 => sb_b ((fd5 t tl za zb zc zd ze) j9)))))) pt (some (.inr (5, [.ref tx, .int (nI (tl + 20)), .ref rd, .ref sc, .ref fo, .int (nI ld)]))))) := by
  refine Ct.of (cc := cX5_feed) (own := RX5) (nm := "feed") (nL := 6) (ret := (some .int)) (by decide +kernel) rfl rfl rfl (Nat.le_of_ble_eq_true rfl) ?_
  refine j_lvE (lv' := [(0, .ref pt), (1, .int za), (2, .int zb), (3, .int zc), (4, .int zd), (5, .int ze)]) rfl ?_
  refine j_aload_n dX5_feed_0 0 rfl ?_
  refine j_get flX5_feed_13 hpt rfl dX5_feed_1 ?_
  refine j_sipush (v := nI 2380) dX5_feed_4 (by decide) ?_
  refine j_icmp_leN 12 (by omega) (by omega) dX5_feed_7 (by decide) (fun c7 => ?_) (fun c7 => ?_)
  · skip
    refine j_aload_n dX5_feed_12 0 rfl ?_
    refine j_iload_n dX5_feed_13 1 rfl ?_
    refine j_callV (rm := rX5_putBytes) (As := [.int za]) (st := []) (b0 := pt) (ci := 5) (na := 1) (c_putBytes (x := za) hpt htx (by omega)) (by intro E w9 h9; first | exact nomatch h9.1 | (obtain ⟨_, h9, _⟩ := h9; exact nomatch h9) | (obtain ⟨_, _, _, h9, _⟩ := h9; exact nomatch h9)) gX5_feed_X5_putBytes rfl rfl hpt (by decide +kernel) rfl ⟨Nat.le_of_ble_eq_true rfl, Nat.le_of_ble_eq_true rfl⟩ rfl (Nat.le_of_ble_eq_true rfl) dX5_feed_14 ⟨(show 0 + 0 ≤ 0 by omega), (show 0 + 0 ≤ 0 by omega)⟩ (fun v1 w2 h3 => ?_)
    obtain ⟨h3, h4⟩ := h3
    cases h3
    -- w2
    refine j_after (st' := []) (k' := 0) (n' := 0) rfl rfl rfl ?_
    have f5 : w2 pt = some (.inr (5, [.ref tx, .int (nI (tl + 1 + 1 + 1 + 1)), .ref rd, .ref sc, .ref fo, .int (nI ld)])) := by rw [h4]; exact va_up_self _ _ _
    have f6 : w2 tx = some (.inl (1, 2400, .inl (fun j9 => sb_b ((put4 t tl za) j9)))) := by rw [h4]; exact (va_up_ne _ _ (fk htx hpt rfl)).trans (va_up_self _ _ _)
    refine j_aload_n dX5_feed_17 0 rfl ?_
    refine j_iload_n dX5_feed_18 2 rfl ?_
    refine j_callV (rm := rX5_putBytes) (As := [.int zb]) (st := []) (b0 := pt) (ci := 5) (na := 1) (c_putBytes (x := zb) f5 f6 (by omega)) (by intro E w9 h9; first | exact nomatch h9.1 | (obtain ⟨_, h9, _⟩ := h9; exact nomatch h9) | (obtain ⟨_, _, _, h9, _⟩ := h9; exact nomatch h9)) gX5_feed_X5_putBytes rfl rfl f5 (by decide +kernel) rfl ⟨Nat.le_of_ble_eq_true rfl, Nat.le_of_ble_eq_true rfl⟩ rfl (Nat.le_of_ble_eq_true rfl) dX5_feed_19 ⟨(show 0 + 0 ≤ 0 by omega), (show 0 + 0 ≤ 0 by omega)⟩ (fun v7 w8 h9 => ?_)
    obtain ⟨h9, h10⟩ := h9
    cases h9
    -- w8
    refine j_after (st' := []) (k' := 0) (n' := 0) rfl rfl rfl ?_
    have f11 : w8 pt = some (.inr (5, [.ref tx, .int (nI (tl + 1 + 1 + 1 + 1 + 1 + 1 + 1 + 1)), .ref rd, .ref sc, .ref fo, .int (nI ld)])) := by rw [h10]; exact va_up_self _ _ _
    have f12 : w8 tx = some (.inl (1, 2400, .inl (fun j9 => sb_b ((put4 (put4 t tl za) (tl + 1 + 1 + 1 + 1) zb) j9)))) := by rw [h10]; exact (va_up_ne _ _ (fk f6 f5 rfl)).trans (va_up_self _ _ _)
    refine j_aload_n dX5_feed_22 0 rfl ?_
    refine j_iload_n dX5_feed_23 3 rfl ?_
    refine j_callV (rm := rX5_putBytes) (As := [.int zc]) (st := []) (b0 := pt) (ci := 5) (na := 1) (c_putBytes (x := zc) f11 f12 (by omega)) (by intro E w9 h9; first | exact nomatch h9.1 | (obtain ⟨_, h9, _⟩ := h9; exact nomatch h9) | (obtain ⟨_, _, _, h9, _⟩ := h9; exact nomatch h9)) gX5_feed_X5_putBytes rfl rfl f11 (by decide +kernel) rfl ⟨Nat.le_of_ble_eq_true rfl, Nat.le_of_ble_eq_true rfl⟩ rfl (Nat.le_of_ble_eq_true rfl) dX5_feed_24 ⟨(show 0 + 0 ≤ 0 by omega), (show 0 + 0 ≤ 0 by omega)⟩ (fun v13 w14 h15 => ?_)
    obtain ⟨h15, h16⟩ := h15
    cases h15
    -- w14
    refine j_after (st' := []) (k' := 0) (n' := 0) rfl rfl rfl ?_
    have f17 : w14 pt = some (.inr (5, [.ref tx, .int (nI (tl + 1 + 1 + 1 + 1 + 1 + 1 + 1 + 1 + 1 + 1 + 1 + 1)), .ref rd, .ref sc, .ref fo, .int (nI ld)])) := by rw [h16]; exact va_up_self _ _ _
    have f18 : w14 tx = some (.inl (1, 2400, .inl (fun j9 => sb_b ((put4 (put4 (put4 t tl za) (tl + 1 + 1 + 1 + 1) zb) (tl + 1 + 1 + 1 + 1 + 1 + 1 + 1 + 1) zc) j9)))) := by rw [h16]; exact (va_up_ne _ _ (fk f12 f11 rfl)).trans (va_up_self _ _ _)
    refine j_aload_n dX5_feed_27 0 rfl ?_
    refine j_iload dX5_feed_28 4 rfl ?_
    refine j_callV (rm := rX5_putBytes) (As := [.int zd]) (st := []) (b0 := pt) (ci := 5) (na := 1) (c_putBytes (x := zd) f17 f18 (by omega)) (by intro E w9 h9; first | exact nomatch h9.1 | (obtain ⟨_, h9, _⟩ := h9; exact nomatch h9) | (obtain ⟨_, _, _, h9, _⟩ := h9; exact nomatch h9)) gX5_feed_X5_putBytes rfl rfl f17 (by decide +kernel) rfl ⟨Nat.le_of_ble_eq_true rfl, Nat.le_of_ble_eq_true rfl⟩ rfl (Nat.le_of_ble_eq_true rfl) dX5_feed_30 ⟨(show 0 + 0 ≤ 0 by omega), (show 0 + 0 ≤ 0 by omega)⟩ (fun v19 w20 h21 => ?_)
    obtain ⟨h21, h22⟩ := h21
    cases h21
    -- w20
    refine j_after (st' := []) (k' := 0) (n' := 0) rfl rfl rfl ?_
    have f23 : w20 pt = some (.inr (5, [.ref tx, .int (nI (tl + 1 + 1 + 1 + 1 + 1 + 1 + 1 + 1 + 1 + 1 + 1 + 1 + 1 + 1 + 1 + 1)), .ref rd, .ref sc, .ref fo, .int (nI ld)])) := by rw [h22]; exact va_up_self _ _ _
    have f24 : w20 tx = some (.inl (1, 2400, .inl (fun j9 => sb_b ((put4 (put4 (put4 (put4 t tl za) (tl + 1 + 1 + 1 + 1) zb) (tl + 1 + 1 + 1 + 1 + 1 + 1 + 1 + 1) zc) (tl + 1 + 1 + 1 + 1 + 1 + 1 + 1 + 1 + 1 + 1 + 1 + 1) zd) j9)))) := by rw [h22]; exact (va_up_ne _ _ (fk f18 f17 rfl)).trans (va_up_self _ _ _)
    refine j_aload_n dX5_feed_33 0 rfl ?_
    refine j_iload dX5_feed_34 5 rfl ?_
    refine j_callV (rm := rX5_putBytes) (As := [.int ze]) (st := []) (b0 := pt) (ci := 5) (na := 1) (c_putBytes (x := ze) f23 f24 (by omega)) (by intro E w9 h9; first | exact nomatch h9.1 | (obtain ⟨_, h9, _⟩ := h9; exact nomatch h9) | (obtain ⟨_, _, _, h9, _⟩ := h9; exact nomatch h9)) gX5_feed_X5_putBytes rfl rfl f23 (by decide +kernel) rfl ⟨Nat.le_of_ble_eq_true rfl, Nat.le_of_ble_eq_true rfl⟩ rfl (Nat.le_of_ble_eq_true rfl) dX5_feed_36 ⟨(show 0 + 0 ≤ 0 by omega), (show 0 + 0 ≤ 0 by omega)⟩ (fun v25 w26 h27 => ?_)
    obtain ⟨h27, h28⟩ := h27
    cases h27
    -- w26
    refine j_after (st' := []) (k' := 0) (n' := 0) rfl rfl rfl ?_
    have f29 : w26 pt = some (.inr (5, [.ref tx, .int (nI (tl + 1 + 1 + 1 + 1 + 1 + 1 + 1 + 1 + 1 + 1 + 1 + 1 + 1 + 1 + 1 + 1 + 1 + 1 + 1 + 1)), .ref rd, .ref sc, .ref fo, .int (nI ld)])) := by rw [h28]; exact va_up_self _ _ _
    have f30 : w26 tx = some (.inl (1, 2400, .inl (fun j9 => sb_b ((put4 (put4 (put4 (put4 (put4 t tl za) (tl + 1 + 1 + 1 + 1) zb) (tl + 1 + 1 + 1 + 1 + 1 + 1 + 1 + 1) zc) (tl + 1 + 1 + 1 + 1 + 1 + 1 + 1 + 1 + 1 + 1 + 1 + 1) zd) (tl + 1 + 1 + 1 + 1 + 1 + 1 + 1 + 1 + 1 + 1 + 1 + 1 + 1 + 1 + 1 + 1) ze) j9)))) := by rw [h28]; exact (va_up_ne _ _ (fk f24 f23 rfl)).trans (va_up_self _ _ _)
    refine j_aload_n dX5_feed_39 0 rfl ?_
    refine j_get flX5_feed_13 f29 rfl dX5_feed_40 ?_
    exact j_iret rfl (Or.inr ⟨by omega, rfl, up2_eq ((((((Fr.refl : Fr [tx, pt] w w).trans (Fr.up2 h4 (by simp) (by simp))).trans (Fr.up2 h10 (by simp) (by simp))).trans (Fr.up2 h16 (by simp) (by simp))).trans (Fr.up2 h22 (by simp) (by simp))).trans (Fr.up2 h28 (by simp) (by simp))) f30 f29⟩) (show 0 ≤ 0 by omega) (show 0 ≤ 0 by omega) dX5_feed_43
  · skip
    refine j_iconst (v := (-1)) dX5_feed_10 (by decide) ?_
    exact j_iret rfl (Or.inl ⟨by omega, rfl, rfl⟩) (show 0 ≤ 0 by omega) (show 0 ≤ 0 by omega) dX5_feed_11
abbrev rX5_lead : Room := { frames := 6, cells := 1, slots := 6, locals := 90 }
set_option maxRecDepth 100000 in
theorem mX5_lead_0 : Cond.constant RX5 186 (60000) ∈ wsX5_lead := by decide +kernel
theorem flX5_lead_40 : FL wsX5_lead RX5 40 5 5 := ⟨RX5, TX5, 6, rfl, by decide, by decide +kernel, by decide +kernel⟩
theorem fsX5_lead_40 : FS wsX5_lead RX5 40 5 5 false (.int) := ⟨RX5, TX5, 6, tyX5, rfl, by decide, by decide +kernel, by decide +kernel, tyX5_ok, nmX5, rfl, rfl, rfl⟩
set_option maxHeartbeats 4000000 in
set_option maxRecDepth 100000 in
theorem c_leadOk {w : pW} {pt tx tl rd sc fo ld : Nat} {t : Nat → Nat} (hpt : w pt = some (.inr (5, [.ref tx, .int (nI tl), .ref rd, .ref sc, .ref fo, .int (nI ld)]))) (htx : w tx = some (.inl (1, 2400, .inl (fun j9 => sb_b (t j9))))) {v : Nat} (hv : v ≤ 60000) : Ct yX5_lead wsX5_lead rX5_lead [.ref pt, .int (nI v)] w (fun o w9 => o = .inl (some (.int (nI ld))) ∧ w9 = va_up w pt (some (.inr (5, [.ref tx, .int (nI tl), .ref rd, .ref sc, .ref fo, .int (nI v)])))) := by
  refine Ct.of (cc := cX5_lead) (own := RX5) (nm := "lead") (nL := 3) (ret := (some .int)) (by decide +kernel) rfl rfl rfl (Nat.le_of_ble_eq_true rfl) ?_
  refine j_lvE (lv' := [(0, .ref pt), (1, .int (nI v))]) rfl ?_
  refine j_iload_n dX5_lead_0 1 rfl ?_
  refine j_if_ltN (by omega) dX5_lead_1 (by decide : _ = ((10 : Nat) : Int)) ?_
  refine j_iload_n dX5_lead_4 1 rfl ?_
  refine j_ldc (v := nI 60000) dX5_lead_5 mX5_lead_0 ?_
  refine j_icmp_leN 20 (by omega) (by omega) dX5_lead_7 (by decide) (fun c7 => ?_) (fun c7 => ?_)
  · skip
    refine j_aload_n dX5_lead_20 0 rfl ?_
    refine j_get flX5_lead_40 hpt rfl dX5_lead_21 ?_
    refine j_istore_n (lv' := [(2, .int (nI ld)), (0, .ref pt), (1, .int (nI v))]) dX5_lead_24 (Nat.le_of_ble_eq_true rfl) rfl ?_
    refine j_aload_n dX5_lead_25 1 rfl ?_
    refine j_iload_n dX5_lead_26 2 rfl ?_
    refine j_put (fs9 := [.ref tx, .int (nI tl), .ref rd, .ref sc, .ref fo, .int (nI v)]) fsX5_lead_40 hpt rfl rfl (Nat.le_of_ble_eq_true rfl) rfl dX5_lead_27 ?_
    refine j_w (fun w1 hw1 => ?_)
    have f2 : w1 pt = some (.inr (5, [.ref tx, .int (nI tl), .ref rd, .ref sc, .ref fo, .int (nI v)])) := up_at hw1
    have f3 := up_ne hw1 (fk htx hpt rfl) htx
    refine j_iload_n dX5_lead_30 0 rfl ?_
    exact j_iret rfl ⟨rfl, hw1⟩ (show 0 ≤ 1 by omega) (show 0 ≤ 6 by omega) dX5_lead_31
  · skip
    exfalso; omega
set_option maxRecDepth 100000 in
theorem atX5_lead_51 : ∀ x ∈ (vx_atS RX5 51 "java/lang/IllegalArgumentException" ["java/lang/RuntimeException", "java/lang/Exception"]).filter goodWord, x ∈ wsX5_lead := by decide +kernel
theorem otX5_lead_51 : ((Cond.classLink RX5 47 "java/lang/IllegalArgumentException" :: Cond.initialized "java/lang/IllegalArgumentException" :: vx_atS RX5 51 "java/lang/IllegalArgumentException" ["java/lang/RuntimeException", "java/lang/Exception"]).all vx_ot) = true := by decide +kernel
set_option maxRecDepth 100000 in
theorem mX5_lead_1 : Cond.classLink RX5 47 "java/lang/IllegalArgumentException" ∈ wsX5_lead := by decide +kernel
set_option maxRecDepth 100000 in
theorem mX5_lead_2 : Cond.initialized "java/lang/IllegalArgumentException" ∈ wsX5_lead := by decide +kernel
set_option maxHeartbeats 4000000 in
set_option maxRecDepth 100000 in
theorem c_leadBad {w : pW} {pt tx tl rd sc fo ld : Nat} {t : Nat → Nat} (hpt : w pt = some (.inr (5, [.ref tx, .int (nI tl), .ref rd, .ref sc, .ref fo, .int (nI ld)]))) (htx : w tx = some (.inl (1, 2400, .inl (fun j9 => sb_b (t j9))))) {v : Int32} (hb : v < 0 ∨ nI 60000 < v) : Ct yX5_lead wsX5_lead rX5_lead [.ref pt, .int v] w (fun o w9 => o = .inr "java/lang/IllegalArgumentException" ∧ w9 = w) := by
  refine Ct.of (cc := cX5_lead) (own := RX5) (nm := "lead") (nL := 3) (ret := (some .int)) (by decide +kernel) rfl rfl rfl (Nat.le_of_ble_eq_true rfl) ?_
  refine j_lvE (lv' := [(0, .ref pt), (1, .int v)]) rfl ?_
  refine j_iload_n dX5_lead_0 1 rfl ?_
  refine j_if_lt 10 dX5_lead_1 (by decide) (fun c1 => ?_) (fun c1 => ?_)
  · skip
    exact j_throwS (ik := 47) (is := 187) (ic := 51) (cls := "java/lang/IllegalArgumentException") (text := "no such lead") rfl (Or.inl ⟨rfl, rfl⟩) (by simp [bgStr]) mX5_lead_1 mX5_lead_2 atX5_lead_51 otX5_lead_51 rfl (Nat.le_of_ble_eq_true rfl) (Nat.le_of_ble_eq_true rfl) (show 0 + 1 ≤ 1 by omega) (show 0 + 6 ≤ 6 by omega) dX5_lead_10 dX5_lead_13 dX5_lead_14 dX5_lead_16 dX5_lead_19 ⟨rfl, rfl⟩
  · skip
    refine j_iload_n dX5_lead_4 1 rfl ?_
    refine j_ldc (v := nI 60000) dX5_lead_5 mX5_lead_0 ?_
    refine j_icmp_le 20 dX5_lead_7 (by decide) (fun c7 => ?_) (fun c7 => ?_)
    · skip
      exact absurd hb (fun q => q.elim c1 (fun q => by have := c7; exact absurd q (by first | exact Int32.not_lt.mpr this)))
    · skip
      exact j_throwS (ik := 47) (is := 187) (ic := 51) (cls := "java/lang/IllegalArgumentException") (text := "no such lead") rfl (Or.inl ⟨rfl, rfl⟩) (by simp [bgStr]) mX5_lead_1 mX5_lead_2 atX5_lead_51 otX5_lead_51 rfl (Nat.le_of_ble_eq_true rfl) (Nat.le_of_ble_eq_true rfl) (show 0 + 1 ≤ 1 by omega) (show 0 + 6 ≤ 6 by omega) dX5_lead_10 dX5_lead_13 dX5_lead_14 dX5_lead_16 dX5_lead_19 ⟨rfl, rfl⟩
abbrev rX5_fault : Room := { frames := 6, cells := 1, slots := 6, locals := 90 }
theorem flX5_fault_20 : FL wsX5_fault RX5 20 5 2 := ⟨RX5, TX5, 6, rfl, by decide, by decide +kernel, by decide +kernel⟩
theorem flX5_fault_65 : FL wsX5_fault RX5 65 2 8 := ⟨RX2, TX2, 10, rfl, by decide, by decide +kernel, by decide +kernel⟩
theorem flX5_fault_68 : FL wsX5_fault RX5 68 2 9 := ⟨RX2, TX2, 10, rfl, by decide, by decide +kernel, by decide +kernel⟩
set_option maxRecDepth 100000 in
theorem atX5_fault_75 : ∀ x ∈ (vx_atX RX5 75 "java/util/NoSuchElementException" ["java/lang/RuntimeException", "java/lang/Exception"]).filter goodWord, x ∈ wsX5_fault := by decide +kernel
theorem otX5_fault_75 : ((Cond.classLink RX5 71 "java/util/NoSuchElementException" :: Cond.initialized "java/util/NoSuchElementException" :: vx_atX RX5 75 "java/util/NoSuchElementException" ["java/lang/RuntimeException", "java/lang/Exception"]).all vx_ot) = true := by decide +kernel
set_option maxRecDepth 100000 in
theorem mX5_fault_0 : Cond.classLink RX5 71 "java/util/NoSuchElementException" ∈ wsX5_fault := by decide +kernel
set_option maxRecDepth 100000 in
theorem mX5_fault_1 : Cond.initialized "java/util/NoSuchElementException" ∈ wsX5_fault := by decide +kernel
set_option maxHeartbeats 4000000 in
set_option maxRecDepth 100000 in
theorem c_faultP {w : pW} {pt tx tl rd sc fo ld to sd0 sd mr cu rep flt : Nat} {mkd cud : Bool} {fp : Int32} (hpt : w pt = some (.inr (5, [.ref tx, .int (nI tl), .ref rd, .ref sc, .ref fo, .int (nI ld)]))) (hrd : w rd = some (.inr (2, [.ref to, .ref sd0, .int (nI sd), .int (nI mr), .int (nI cu), .int (zb mkd), .int (zb cud), .int (nI rep), .int (nI flt), .int fp]))) {x : Int32} : Ct yX5_fault wsX5_fault rX5_fault [.ref pt, .int x] w (fun o w9 => (o = if x = nI 0 then .inl (some (.int (nI flt))) else if x = nI 1 then .inl (some (.int fp)) else .inr "java/util/NoSuchElementException") ∧ w9 = w) := by
  refine Ct.of (cc := cX5_fault) (own := RX5) (nm := "fault") (nL := 2) (ret := (some .int)) (by decide +kernel) rfl rfl rfl (Nat.le_of_ble_eq_true rfl) ?_
  refine j_lvE (lv' := [(0, .ref pt), (1, .int x)]) rfl ?_
  refine j_iload_n dX5_fault_0 1 rfl ?_
  by_cases k0 : x = nI 0
  · skip
    refine j_lookup 28 dX5_fault_1 (by decide) (show Op.lookupswitch.offset _ _ (x).toInt = (27) by rw [k0]; decide) (by decide) ?_
    refine j_aload_n dX5_fault_28 0 rfl ?_
    refine j_get flX5_fault_20 hpt rfl dX5_fault_29 ?_
    refine j_get flX5_fault_65 hrd rfl dX5_fault_32 ?_
    exact j_iret rfl ⟨by rw [if_pos k0], rfl⟩ (show 0 ≤ 1 by omega) (show 0 ≤ 6 by omega) dX5_fault_35
  by_cases k1 : x = nI 1
  · skip
    refine j_lookup 36 dX5_fault_1 (by decide) (show Op.lookupswitch.offset _ _ (x).toInt = (35) by rw [k1]; decide) (by decide) ?_
    refine j_aload_n dX5_fault_36 0 rfl ?_
    refine j_get flX5_fault_20 hpt rfl dX5_fault_37 ?_
    refine j_get flX5_fault_68 hrd rfl dX5_fault_40 ?_
    exact j_iret rfl ⟨by rw [if_neg k0, if_pos k1], rfl⟩ (show 0 ≤ 1 by omega) (show 0 ≤ 6 by omega) dX5_fault_43
  refine j_lookup 44 dX5_fault_1 (by decide) (lkI (x := x) (List.forall_mem_cons.mpr ⟨toInt_ne k0 (by decide), List.forall_mem_cons.mpr ⟨toInt_ne k1 (by decide), fun _ h => nomatch h⟩⟩)) (by decide) ?_
  exact j_throwX (ik := 71) (is := 73) (ic := 75) (cls := "java/util/NoSuchElementException") (text := "a fault has no such number") rfl (Or.inr ⟨rfl, rfl⟩) (by simp [bgStr]) mX5_fault_0 mX5_fault_1 atX5_fault_75 otX5_fault_75 rfl (Nat.le_of_ble_eq_true rfl) (Nat.le_of_ble_eq_true rfl) (show 0 + 1 ≤ 1 by omega) (show 0 + 6 ≤ 6 by omega) dX5_fault_44 dX5_fault_47 dX5_fault_48 dX5_fault_50 dX5_fault_53 ⟨by rw [if_neg k0, if_neg k1], rfl⟩
abbrev rX5_commonDivisor : Room := { frames := 0, cells := 0, slots := 0, locals := 0 }
theorem nI_inj0 {b : Nat} (h : b < 2 ^ 31) (q : nI b = 0) : b = 0 := Decidable.byContradiction fun h0 => nI_ne h (show 0 < 2 ^ 31 by decide) h0 q
set_option maxHeartbeats 4000000 in
set_option maxRecDepth 100000 in
theorem l_commonDivisor {w : pW} {x0 y0 R9 : Nat} : ∀ (m9 : Nat) (i : Nat) (a : Nat) (b : Nat), 64 - i < m9 → (i ≤ 64) → (a < 2 ^ 31) → (b < 2 ^ 31) → (gcF (64 - i) a b = R9) → J ((cX5_commonDivisor, RX5, 6, wsX5_commonDivisor), (rX5_commonDivisor, (some .int), "commonDivisor", []), fun o w9 => o = .inl (some (.int (nI R9))) ∧ w9 = w, fun _ _ _ => True) 7 [(0, .int (nI x0)), (1, .int (nI y0)), (2, .int (nI a)), (3, .int (nI b)), (4, .int (nI i))] [] w 0 0 := by
  intro m9
  induction m9 with
  | zero => intro i a b h9; omega
  | succ m9 ih =>
    intro i a b hm9 hi ha hb hr
    refine j_iload dX5_commonDivisor_7 4 rfl ?_
    refine j_bipush (v := nI 64) dX5_commonDivisor_9 (by decide) ?_
    refine j_icmp_geN 34 (by omega) (by omega) dX5_commonDivisor_11 (by decide) (fun c11 => ?_) (fun c11 => ?_)
    · skip
      refine j_iload_n dX5_commonDivisor_34 2 rfl ?_
      exact j_iret rfl ⟨by rw [← hr, show 64 - i = 0 by omega]; rfl, rfl⟩ (show 0 ≤ 0 by omega) (show 0 ≤ 0 by omega) dX5_commonDivisor_35
    · skip
      refine j_iload_n dX5_commonDivisor_14 3 rfl ?_
      refine j_if_eqN 34 (by omega) dX5_commonDivisor_15 (by decide) (fun c15 => ?_) (fun c15 => ?_)
      · skip
        refine j_iload_n dX5_commonDivisor_34 2 rfl ?_
        exact j_iret rfl ⟨by rw [← hr, c15, gcF_stop], rfl⟩ (show 0 ≤ 0 by omega) (show 0 ≤ 0 by omega) dX5_commonDivisor_35
      · skip
        refine j_iload_n dX5_commonDivisor_18 2 rfl ?_
        refine j_iload_n dX5_commonDivisor_19 3 rfl ?_
        refine j_irem dX5_commonDivisor_20 (fun q => c15 (nI_inj0 (by omega) q)) ?_
        refine j_eqi (y := nI (a % b)) (pk_rem (by omega) (by omega) (by omega)) ?_
        refine j_istore (lv' := [(5, .int (nI (a % b))), (0, .int (nI x0)), (1, .int (nI y0)), (2, .int (nI a)), (3, .int (nI b)), (4, .int (nI i))]) dX5_commonDivisor_21 (Nat.le_of_ble_eq_true rfl) rfl ?_
        refine j_iload_n dX5_commonDivisor_23 4 rfl ?_
        refine j_istore_n (lv' := [(2, .int (nI b)), (5, .int (nI (a % b))), (0, .int (nI x0)), (1, .int (nI y0)), (3, .int (nI b)), (4, .int (nI i))]) dX5_commonDivisor_24 (Nat.le_of_ble_eq_true rfl) rfl ?_
        refine j_iload dX5_commonDivisor_25 1 rfl ?_
        refine j_istore_n (lv' := [(3, .int (nI (a % b))), (2, .int (nI b)), (5, .int (nI (a % b))), (0, .int (nI x0)), (1, .int (nI y0)), (4, .int (nI i))]) dX5_commonDivisor_27 (Nat.le_of_ble_eq_true rfl) rfl ?_
        refine j_iinc (q := 5) (v := nI (i + 1)) (lv' := [(4, .int (nI (i + 1))), (3, .int (nI (a % b))), (2, .int (nI b)), (5, .int (nI (a % b))), (0, .int (nI x0)), (1, .int (nI y0))]) dX5_commonDivisor_28 rfl (by first | exact nI_1 _ | exact nI_add _ _) (Nat.le_of_ble_eq_true rfl) rfl ?_
        refine j_goto 7 dX5_commonDivisor_31 (by decide) ?_
        refine j_lv (lv' := [(0, .int (nI x0)), (1, .int (nI y0)), (2, .int (nI b)), (3, .int (nI (a % b))), (4, .int (nI (i + 1)))]) [4, 5, 2, 1, 0] rfl ?_
        exact ih (i + 1) b (a % b) (by omega) (by omega) hb (Nat.lt_trans (Nat.mod_lt _ (by omega)) hb) (by rw [← hr]; exact (gcF_step (by omega) c15).symm)
set_option maxHeartbeats 4000000 in
set_option maxRecDepth 100000 in
theorem c_commonDivisor {w : pW} {x0 y0 : Nat} (hx : x0 < 2 ^ 31) (hy : y0 < 2 ^ 31) : Ct yX5_commonDivisor wsX5_commonDivisor rX5_commonDivisor [.int (nI x0), .int (nI y0)] w (fun o w9 => o = .inl (some (.int (nI (gcF 64 x0 y0)))) ∧ w9 = w) := by
  refine Ct.of (cc := cX5_commonDivisor) (own := RX5) (nm := "commonDivisor") (nL := 6) (ret := (some .int)) (by decide +kernel) rfl rfl rfl (Nat.le_of_ble_eq_true rfl) ?_
  refine j_lvE (lv' := [(0, .int (nI x0)), (1, .int (nI y0))]) rfl ?_
  refine j_iload_n dX5_commonDivisor_0 0 rfl ?_
  refine j_istore_n (lv' := [(2, .int (nI x0)), (0, .int (nI x0)), (1, .int (nI y0))]) dX5_commonDivisor_1 (Nat.le_of_ble_eq_true rfl) rfl ?_
  refine j_iload_n dX5_commonDivisor_2 2 rfl ?_
  refine j_istore_n (lv' := [(3, .int (nI y0)), (2, .int (nI x0)), (0, .int (nI x0)), (1, .int (nI y0))]) dX5_commonDivisor_3 (Nat.le_of_ble_eq_true rfl) rfl ?_
  refine j_iconst (v := nI 0) dX5_commonDivisor_4 (by decide) ?_
  refine j_istore (lv' := [(4, .int (nI 0)), (3, .int (nI y0)), (2, .int (nI x0)), (0, .int (nI x0)), (1, .int (nI y0))]) dX5_commonDivisor_5 (Nat.le_of_ble_eq_true rfl) rfl ?_
  refine j_lv (lv' := [(0, .int (nI x0)), (1, .int (nI y0)), (2, .int (nI x0)), (3, .int (nI y0)), (4, .int (nI 0))]) [3, 4, 2, 1, 0] rfl ?_
  exact l_commonDivisor 65 0 x0 y0 (by omega) (by omega) hx hy rfl
