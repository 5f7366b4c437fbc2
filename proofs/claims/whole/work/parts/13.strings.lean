section SY
/-! contracts over a state of which more is known: Y -/
def CtY (Y : Nat → State → Prop) (y : MethodName) (ws : List Cond) (rm : Room) (As : List Value) (w : pW) (post : pO → pW → Prop) : Prop :=
  ∀ (l : Launch) (G : pG) (b : Nat), l.stackTraces = false → vx_Met l y ws rm (va_Pc As (fun U => fw G b w U ∧ Y b U)) (jQ G b post) (jX G b post) rm.cells rm.slots (pB b)
def YOk (Y : Nat → State → Prop) : Prop := (∀ (b : Nat) (s U : State), s.WarmedH U.vm → (∀ a : Nat, a < s.heap.size → ¬ pB b a → U.heap[a]? = s.heap[a]?) → Y b s → Y b U) ∧ ∀ (b : Nat) (U : State) (g : JFrame) (mk : MethodId) (a : Array Value), Y b U → Y b (U.calling g mk a)
theorem CtY.of {Y : Nat → State → Prop} {y : MethodName} {ws ws' : List Cond} {rm : Room} {As : List Value} {w : pW} {post : pO → pW → Prop} {cc : ByteArray} {own nm : String} {nL : Nat} {ret : Option FieldType}
    (hy : plainFor y = true) (hw : ws = Cond.code y cc nL ret :: ws') (ho : y.cls = own) (hn : y.name = nm) (hsz : (lg_sl As).length ≤ nL)
    (h : J ((cc, own, nL, ws), (rm, ret, nm, []), post, fun b9 _ s9 => Y b9 s9) 0 (lv_args 0 As) [] w 0 0) : CtY Y y ws rm As w post := by
  intro l G b hst
  refine vx_ofWF (cc := cc) (maxL := nL) (ret := ret) hy hw ?_
  intro p e s m args below meth c s₁ B hml ht hv
  obtain ⟨rfl, ⟨hP, hD, hK, hBg, hbs⟩, hY⟩ := hv
  have hl := lv_entry As (n := nL) hsz
  rw [lg_entry_eq]
  generalize (lg_sl As ++ List.replicate (nL - (lg_sl As).length) Slot.unset).toArray = ls at hl ⊢
  have hown : s.vm.findClass own = some m.cls := by rw [← ho]; exact findClass_of_methodNamed B.named
  have hnm : meth.name = nm := by rw [← hn]; exact (name_of_methodNamed B.named B.method).1
  have htb : c.exceptionTable.toList = tableOf [] := by
    cases hq : c.exceptionTable.toList with
    | nil => rfl
    | cons x xs => exact (ht x (by rw [hq]; exact List.mem_cons_self)).elim
  exact h p l e s m _ below meth c s.heap [] G b ls ⟨B.exec, B.bytes, hml, hown, atoms_spec (ws := ws) B.pre, B.returns, B.notSynchronized, hnm, htb, hK, hBg, hst, hbs, hY⟩ hP hD va_S.rf hl
theorem CtY.met {Y : Nat → State → Prop} {y : MethodName} {ws : List Cond} {rm : Room} {As : List Value} {w : pW} {post : pO → pW → Prop} (h : CtY Y y ws rm As w post) (hx : ∀ E w', ¬ post (.inr E) w') {l : Launch} (G : pG) (b : Nat) (hst : l.stackTraces = false) : Met l y ws rm (va_Pc As (fun U => fw G b w U ∧ Y b U)) (jQ G b post) rm.cells rm.slots (pB b) := by
  intro p e ha hc hk s m args below hf happ hP hK
  obtain ⟨n, o, h1, h2, h3, h4⟩ := h l G b hst p e ha hc hk s m args below hf happ hP hK
  rcases h4 with h4 | ⟨q, -, E, ce, L, ⟨w', hw', -⟩, -⟩
  · exact ⟨n, o, h1, h2, h3, h4⟩
  · exact absurd hw' (hx E w')
theorem fwY_blind {G : pG} {b : Nat} {w : pW} {As : List Value} {Y : Nat → State → Prop} (hY : YOk Y) : FrameBlind (va_Pc As (fun U => fw G b w U ∧ Y b U)) := by
  intro a U g mk h
  obtain ⟨h0, h1, h2⟩ := h
  exact ⟨h0, (fw_blind a U g mk ⟨h0, h1⟩).2, hY.2 b U g mk a h2⟩
section
variable {P : JP} {pc : Nat} {lv : List (Nat × Value)} {st stk : List Value} {w : pW} {k n na : Nat}
variable {y : MethodName} {ws ws' : List Cond} {rm : Room} {As : List Value} {post : pO → pW → Prop} {bytes : ByteArray} {maxL idx : Nat} {ret : Option FieldType} {C : String} {b0 : Nat} {Y : Nat → State → Prop}
theorem j_fwY {p : Program} {l : Launch} {s : State} {m : MethodId} {args : Array Value} {meth : Method} {c : Code} {H : Heap} {locs : List Loc} {G : pG} {b : Nat}
    (hY : YOk Y) (hy : Y b s) (F : jF P p l s m args meth c G b) (hP : fP G w H) (hD : fD b w) (hS : va_S (pB b) s.heap H locs) : ∀ U : State, U.heap = H → s.WarmedH U.vm → va_Pc As (fun U => fw G b w U ∧ Y b U) As.toArray U := by
  intro U hU hW
  exact ⟨rfl, (j_fw (As := As) F hP hD hS U hU hW).2, hY.1 b s U hW (fun a h1 h2 => by rw [hU]; exact hS.2.1 a h1 h2) hy⟩
theorem j_callSY (hY : YOk Y) (hX : ∀ b a s, P.2.2.2 b a s → Y b s) (hM : CtY Y y ws rm As w post) (hnx : ∀ E w', ¬ post (.inr E) w') (g : GoodIn P.1.2.2.2 (va_wsS P.1.2.1 idx y ws)) (hwc : ws = Cond.code y bytes maxL ret :: ws')
    (hd0 : y.cls ≠ "java/lang/invoke/MethodHandle" ∧ y.cls ≠ "java/lang/invoke/VarHandle" ∧ (parseMethodDescriptor y.desc).map (fun d => d.parameters.length) = some na) (hna : As.length = na) (hR : rm.frames + 1 ≤ P.2.1.1.frames ∧ 8 + (maxL + 11) + rm.locals ≤ P.2.1.1.locals) (hst : stk = As.reverse ++ st) (hcat : (st.map fun v => v.category).sum ≤ 8) (hd : decode P.1.1 pc = .ok (.invokestatic idx, 3)) (hf : k + rm.cells ≤ P.2.1.1.cells ∧ n + rm.slots ≤ P.2.1.1.slots)
    (h : ∀ (v : Option Value) (w' : pW), post (.inl v) w' → J P (pc + 3) lv (v.toList ++ st) w' (k + rm.cells) (n + rm.slots)) : J P pc lv stk w k n := by
  intro p l e s m args below meth c H locs G b ls F hP hD hS hl
  have hyy := hX b args s F.2.2.2.2.2.2.2.2.2.2.2.2.2
  have hfw := j_fwY (As := As) hY hyy F hP hD hS
  obtain ⟨hx, hb, hml, hown, hts, hr, hlk, hnm, htb, hK, hBg, hst2, hbs, hXX⟩ := id F
  refine j_back F hS hl (va_runS (As := As) (rest := st) ⟨hx, hb, hml, hown, hts⟩ (hM.met hnx G b hst2) (va_cwS na hts g hwc rfl rfl hd0 hR) ⟨fwY_blind hY, hfw⟩ rfl hna hl.1 hst (lv_room hcat) hd hf) h
theorem j_callVY (hY : YOk Y) (hX : ∀ b a s, P.2.2.2 b a s → Y b s) (hrc : ∀ (b : Nat) (s : State) (H : Heap) (locs : List Loc), Y b s → va_S (pB b) s.heap H locs → ∃ cell : Cell, H[b0]? = some cell ∧ cell.vm.isStatics = false ∧ s.vm.findClass C = some cell.cls) (hM : CtY Y y ws rm (.ref b0 :: As) w post) (hnx : ∀ E w', ¬ post (.inr E) w') (g : GoodIn P.1.2.2.2 (wsV P.1.2.1 idx C y ws)) (hwc : ws = Cond.code y bytes maxL ret :: ws')
    (hd0 : y.cls = C ∧ y.cls ≠ "java/lang/invoke/MethodHandle" ∧ y.cls ≠ "java/lang/invoke/VarHandle" ∧ (parseMethodDescriptor y.desc).map (fun d => d.parameters.length) = some na) (hna : As.length = na) (hR : rm.frames + 1 ≤ P.2.1.1.frames ∧ 8 + (maxL + 11) + rm.locals ≤ P.2.1.1.locals) (hst : stk = As.reverse ++ .ref b0 :: st) (hcat : (st.map fun v => v.category).sum ≤ 8) (hd : decode P.1.1 pc = .ok (.invokevirtual idx, 3)) (hf : k + rm.cells ≤ P.2.1.1.cells ∧ n + rm.slots ≤ P.2.1.1.slots)
    (h : ∀ (v : Option Value) (w' : pW), post (.inl v) w' → J P (pc + 3) lv (v.toList ++ st) w' (k + rm.cells) (n + rm.slots)) : J P pc lv stk w k n := by
  intro p l e s m args below meth c H locs G b ls F hP hD hS hl
  have hyy := hX b args s F.2.2.2.2.2.2.2.2.2.2.2.2.2
  have hfw := j_fwY (As := .ref b0 :: As) hY hyy F hP hD hS
  obtain ⟨hx, hb, hml, hown, hts, hr, hlk, hnm, htb, hK, hBg, hst2, hbs, hXX⟩ := id F
  refine j_back F hS hl (va_runV (As := As) (rest := st) ⟨hx, hb, hml, hown, hts⟩ (hM.met hnx G b hst2) (cwV na hts g hwc rfl rfl hd0 hR) ⟨fwY_blind hY, hrc b s H locs hyy hS, hfw⟩ rfl hna hl.1 hst (lv_room hcat) hd hf) h
end
/-- the text of signs: a String at sa, its bytes at sv -/
def Sg (sa sv : Nat) : Nat → State → Prop := fun b U => va_O "java/lang/String" sa (pB b) U U.heap ∧ va_OF "java/lang/String" "coder" "B" (.int 0) sa (pB b) U U.heap ∧ va_OF "java/lang/String" "value" "[B" (.ref sv) sa (pB b) U U.heap ∧ va_T .byte sv 9 (fun j => .int (bgSigns.getD j 0)) (pB b) U U.heap
theorem Sg_ok (sa sv : Nat) : YOk (Sg sa sv) := by
  refine ⟨fun b s U hW hh h => ?_, fun b U g mk a h => ?_⟩
  · obtain ⟨h1, h2, h3, h4⟩ := h
    have ha := hW.alike
    exact ⟨(h1.moved ha).kept hh, (h2.moved ha).kept hh, (h3.moved ha).kept hh, (h4.moved ha).kept hh⟩
  · obtain ⟨h1, h2, h3, h4⟩ := h
    have ha : U.vm.Alike (U.calling g mk a).vm := Vm.Alike.refl U.vm
    exact ⟨h1.moved ha, h2.moved ha, h3.moved ha, h4.moved ha⟩
theorem Sg_recv {sa sv : Nat} (b : Nat) (s : State) (H : Heap) (locs : List Loc) (h : Sg sa sv b s) (hS : va_S (pB b) s.heap H locs) : ∃ cell : Cell, H[sa]? = some cell ∧ cell.vm.isStatics = false ∧ s.vm.findClass "java/lang/String" = some cell.cls := va_Orecv h.1 hS
section
variable {P : JP} {pc : Nat} {lv : List (Nat × Value)} {st : List Value} {w : pW} {k n idx sa sv : Nat}
theorem j_cS (hl1 : Cond.fieldLink P.1.2.1 idx "java/lang/String" "COMPACT_STRINGS" "Z" ∈ P.1.2.2.2) (hd : decode P.1.1 pc = .ok (.getstatic idx, 3)) (h : J P (pc + 3) lv (.int 1 :: st) w k n) : J P pc lv st w k n := by
  intro p l e s m args below meth c H locs G b ls F hP hD hS hl
  obtain ⟨hx, hb, hml, hown, hts, hr, hlk, hnm, htb, hK, hBg, hst2, hbs, hXX⟩ := id F
  exact va_gets hx hb hBg.2.2.2.2.2.1 hS hown (hts _ hl1) (fun _ h9 => h9) hd (h p l e s m args below meth c H locs G b ls F hP hD hS hl)
theorem j_gS {nf d : String} {v : Value} (hX : ∀ b a s, P.2.2.2 b a s → va_OF "java/lang/String" nf d v sa (pB b) s s.heap) (hl1 : Cond.fieldLink P.1.2.1 idx "java/lang/String" nf d ∈ P.1.2.2.2) (hd : decode P.1.1 pc = .ok (.getfield idx, 3)) (h : J P (pc + 3) lv (v :: st) w k n) : J P pc lv (.ref sa :: st) w k n := by
  intro p l e s m args below meth c H locs G b ls F hP hD hS hl
  obtain ⟨hx, hb, hml, hown, hts, hr, hlk, hnm, htb, hK, hBg, hst2, hbs, hXX⟩ := id F
  exact vk_getf hx hb (hX b args s hXX) hS hown (hts _ hl1) (fun _ h9 => h9) hd (h p l e s m args below meth c H locs G b ls F hP hD hS hl)
theorem j_lS {f : Nat → Value} {N : Nat} (hX : ∀ b a s, P.2.2.2 b a s → va_T .byte sv N f (pB b) s s.heap) (hd : decode P.1.1 pc = .ok (.arraylength, 1)) (h : J P (pc + 1) lv (.int (nI N) :: st) w k n) : J P pc lv (.ref sv :: st) w k n := by
  intro p l e s m args below meth c H locs G b ls F hP hD hS hl
  obtain ⟨hx, hb, hml, hown, hts, hr, hlk, hnm, htb, hK, hBg, hst2, hbs, hXX⟩ := id F
  exact va_tlen hx hb (hX b args s hXX) hS rfl hd (h p l e s m args below meth c H locs G b ls F hP hD hS hl)
theorem j_bS {f : Nat → Value} {N j : Nat} {v : Value} (hX : ∀ b a s, P.2.2.2 b a s → va_T .byte sv N f (pB b) s s.heap) (hj : j < N) (hN : N < 1000) (hv : f j = v) (hd : decode P.1.1 pc = .ok (.baload, 1)) (h : J P (pc + 1) lv (v :: st) w k n) : J P pc lv (.int (nI j) :: .ref sv :: st) w k n := by
  intro p l e s m args below meth c H locs G b ls F hP hD hS hl
  obtain ⟨hx, hb, hml, hown, hts, hr, hlk, hnm, htb, hK, hBg, hst2, hbs, hXX⟩ := id F
  exact va_tb hx hb (hX b args s hXX) hS (vp_in_nI hj (by omega)) (by rw [nI_clamp (by omega)]; exact hv) hd (h p l e s m args below meth c H locs G b ls F hP hD hS hl)
theorem j_max {x z : Int32} (h1 : Cond.methodLink P.1.2.1 idx Lib.Math.max.name ∈ P.1.2.2.2) (h2 : Cond.static Lib.Math.max.name ∈ P.1.2.2.2) (h3 : Cond.initialized "java/lang/Math" ∈ P.1.2.2.2) (h4 : Cond.code Lib.Math.max.name Lib.Math.max.code 2 (some .int) ∈ P.1.2.2.2) (hf : 1 ≤ P.2.1.1.frames) (hlo : (st.map fun v => v.category).sum + 13 ≤ P.2.1.1.locals) (hk : k ≤ P.2.1.1.cells ∧ n ≤ P.2.1.1.slots) (hd : decode P.1.1 pc = .ok (.invokestatic idx, 3))
    (h : J P (pc + 3) lv (.int (if x < z then z else x) :: st) w k n) : J P pc lv (.int z :: .int x :: st) w k n := by
  intro p l e s m args below meth c H locs G b ls F hP hD hS hl
  obtain ⟨hx, hb, hml, hown, hts, hr, hlk, hnm, htb, hK, hBg, hst2, hbs, hX⟩ := id F
  exact va_mmax hx hb (hml.trans hl.1.symm) hown (hts _ h1) (hts _ h2) (hts _ h3) (hts _ h4) hf hlo hk.1 hk.2 hd (h p l e s m args below meth c H locs G b ls F hP hD hS hl)
theorem j_bret0 (hr0 : P.2.1.2.1 = some .byte) (hp : P.2.2.1 (.inl (some (.int 0))) w) (hk : k ≤ P.2.1.1.cells) (hn : n ≤ P.2.1.1.slots) (hd : decode P.1.1 pc = .ok (.ireturn, 1)) : J P pc lv [.int 0] w k n := by
  intro p l e s m args below meth c H locs G b ls F hP hD hS hl
  obtain ⟨hx, hb, hml, hown, hts, hr, hlk, hnm, htb, hK, hBg, hst, hbs, hX⟩ := id F
  exact W.widen hk hn (vx_ret (W.zret hx hb (hr.trans hr0) rfl (fun t ht hW => ⟨⟨_, w, rfl, hp, by rw [ht]; exact hP, hD⟩, hS.F ht⟩) hS.2.2 hd hlk))
end
/-- where the sign stands among the nine, or -1 -/
def ixS (c : Nat) : Int32 := on1 (fstN (fun j => bgSigns.getD j 0 == sb_b c) 9 0)
end SY
abbrev rJ1_canEncode_9a6ad : Room := { frames := 0, cells := 0, slots := 0, locals := 0 }
set_option maxHeartbeats 4000000 in
set_option maxRecDepth 100000 in
theorem c_canEncode {w : pW} {c : Nat} (hc : c < 256) : Ct yJ1_canEncode_9a6ad wsJ1_canEncode_9a6ad rJ1_canEncode_9a6ad [.int (nI c)] w (fun o w9 => o = .inl (some (.int (nI 1))) ∧ w9 = w) := by
  refine Ct.ofF (cc := cJ1_canEncode_9a6ad) (own := RJ1) (nm := "canEncode") (nL := 1) (ret := (some .boolean)) (by decide +kernel) rfl rfl rfl (Nat.le_of_ble_eq_true rfl) ?_
  refine j_lvE (lv' := [(0, .int (nI c))]) rfl ?_
  refine j_iload_n dJ1_canEncode_9a6ad_0 0 rfl ?_
  refine j_if_ltN (by omega) dJ1_canEncode_9a6ad_1 (by decide : _ = ((15 : Nat) : Int)) ?_
  refine j_iload_n dJ1_canEncode_9a6ad_4 0 rfl ?_
  refine j_sipush (v := nI 255) dJ1_canEncode_9a6ad_5 (by decide) ?_
  refine j_icmp_gtN 15 (by omega) (by omega) dJ1_canEncode_9a6ad_8 (by decide) (fun c8 => ?_) (fun c8 => ?_)
  · skip
    exfalso; omega
  · skip
    refine j_iconst (v := nI 1) dJ1_canEncode_9a6ad_11 (by decide) ?_
    refine j_goto 16 dJ1_canEncode_9a6ad_12 (by decide) ?_
    exact j_zret rfl (Or.inr rfl) ⟨rfl, rfl⟩ (show 0 ≤ 0 by omega) (show 0 ≤ 0 by omega) dJ1_canEncode_9a6ad_16
abbrev rJ0_coder_7d493 : Room := { frames := 0, cells := 0, slots := 0, locals := 0 }
set_option maxRecDepth 100000 in
theorem mJ0_coder_7d493_0 : Cond.fieldLink RJ0 38 "java/lang/String" "COMPACT_STRINGS" "Z" ∈ wsJ0_coder_7d493 := by decide +kernel
set_option maxRecDepth 100000 in
theorem mJ0_coder_7d493_1 : Cond.fieldLink RJ0 15 "java/lang/String" "coder" "B" ∈ wsJ0_coder_7d493 := by decide +kernel
set_option maxHeartbeats 4000000 in
set_option maxRecDepth 100000 in
theorem c_coder {w : pW} {sa sv : Nat} : CtY (Sg sa sv) yJ0_coder_7d493 wsJ0_coder_7d493 rJ0_coder_7d493 [.ref sa] w (fun o w9 => o = .inl (some (.int (nI 0))) ∧ w9 = w) := by
  refine CtY.of (cc := cJ0_coder_7d493) (own := RJ0) (nm := "coder") (nL := 1) (ret := (some .byte)) (by decide +kernel) rfl rfl rfl (Nat.le_of_ble_eq_true rfl) ?_
  refine j_lvE (lv' := [(0, .ref sa)]) rfl ?_
  refine j_cS mJ0_coder_7d493_0 dJ0_coder_7d493_0 ?_
  refine j_eqi (y := nI 1) rfl ?_
  refine j_if_eqN 13 (by decide) dJ0_coder_7d493_3 (by decide) (fun h9 => absurd h9 (by decide)) (fun _ => ?_)
  refine j_aload_n dJ0_coder_7d493_6 0 rfl ?_
  refine j_gS (fun _ _ _ h => h.2.1) mJ0_coder_7d493_1 dJ0_coder_7d493_7 ?_
  refine j_eqi (y := nI 0) rfl ?_
  refine j_goto 14 dJ0_coder_7d493_10 (by decide) ?_
  exact j_bret0 rfl ⟨rfl, rfl⟩ (Nat.le_of_ble_eq_true rfl) (Nat.le_of_ble_eq_true rfl) dJ0_coder_7d493_14
abbrev rJ0_isLatin1_aae02 : Room := { frames := 0, cells := 0, slots := 0, locals := 0 }
set_option maxRecDepth 100000 in
theorem mJ0_isLatin1_aae02_0 : Cond.fieldLink RJ0 38 "java/lang/String" "COMPACT_STRINGS" "Z" ∈ wsJ0_isLatin1_aae02 := by decide +kernel
set_option maxRecDepth 100000 in
theorem mJ0_isLatin1_aae02_1 : Cond.fieldLink RJ0 15 "java/lang/String" "coder" "B" ∈ wsJ0_isLatin1_aae02 := by decide +kernel
set_option maxHeartbeats 4000000 in
set_option maxRecDepth 100000 in
theorem c_isLatin1 {w : pW} {sa sv : Nat} : CtY (Sg sa sv) yJ0_isLatin1_aae02 wsJ0_isLatin1_aae02 rJ0_isLatin1_aae02 [.ref sa] w (fun o w9 => o = .inl (some (.int (nI 1))) ∧ w9 = w) := by
  refine CtY.of (cc := cJ0_isLatin1_aae02) (own := RJ0) (nm := "isLatin1") (nL := 1) (ret := (some .boolean)) (by decide +kernel) rfl rfl rfl (Nat.le_of_ble_eq_true rfl) ?_
  refine j_lvE (lv' := [(0, .ref sa)]) rfl ?_
  refine j_cS mJ0_isLatin1_aae02_0 dJ0_isLatin1_aae02_0 ?_
  refine j_eqi (y := nI 1) rfl ?_
  refine j_if_eqN 17 (by decide) dJ0_isLatin1_aae02_3 (by decide) (fun h9 => absurd h9 (by decide)) (fun _ => ?_)
  refine j_aload_n dJ0_isLatin1_aae02_6 0 rfl ?_
  refine j_gS (fun _ _ _ h => h.2.1) mJ0_isLatin1_aae02_1 dJ0_isLatin1_aae02_7 ?_
  refine j_eqi (y := nI 0) rfl ?_
  refine j_if_neN 17 (by decide) dJ0_isLatin1_aae02_10 (by decide) (fun h9 => absurd rfl h9) (fun _ => ?_)
  refine j_iconst (v := nI 1) dJ0_isLatin1_aae02_13 (by decide) ?_
  refine j_goto 18 dJ0_isLatin1_aae02_14 (by decide) ?_
  exact j_zret rfl (Or.inr rfl) ⟨rfl, rfl⟩ (show 0 ≤ 0 by omega) (show 0 ≤ 0 by omega) dJ0_isLatin1_aae02_18
abbrev rJ0_length_8abf5 : Room := { frames := 1, cells := 0, slots := 0, locals := 20 }
set_option maxRecDepth 100000 in
theorem mJ0_length_8abf5_0 : Cond.fieldLink RJ0 9 "java/lang/String" "value" "[B" ∈ wsJ0_length_8abf5 := by decide +kernel
set_option maxHeartbeats 4000000 in
set_option maxRecDepth 100000 in
theorem c_slength {w : pW} {sa sv : Nat} : CtY (Sg sa sv) yJ0_length_8abf5 wsJ0_length_8abf5 rJ0_length_8abf5 [.ref sa] w (fun o w9 => o = .inl (some (.int (nI 9))) ∧ w9 = w) := by
  refine CtY.of (cc := cJ0_length_8abf5) (own := RJ0) (nm := "length") (nL := 1) (ret := (some .int)) (by decide +kernel) rfl rfl rfl (Nat.le_of_ble_eq_true rfl) ?_
  refine j_lvE (lv' := [(0, .ref sa)]) rfl ?_
  refine j_aload_n dJ0_length_8abf5_0 0 rfl ?_
  refine j_gS (fun _ _ _ h => h.2.2.1) mJ0_length_8abf5_0 dJ0_length_8abf5_1 ?_
  refine j_lS (fun _ _ _ h => h.2.2.2) dJ0_length_8abf5_4 ?_
  refine j_aload_n dJ0_length_8abf5_5 0 rfl ?_
  refine j_callVY (Sg_ok sa sv) (fun _ _ _ h => h) Sg_recv (rm := rJ0_coder_7d493) (As := []) (st := [.int (nI 9)]) (b0 := sa) (na := 0) (c_coder) (by intro E w9 h9; first | exact nomatch h9.1 | (obtain ⟨_, h9, _⟩ := h9; exact nomatch h9) | (obtain ⟨_, _, _, h9, _⟩ := h9; exact nomatch h9)) gJ0_length_8abf5_J0_coder_7d493 rfl (by decide +kernel) rfl ⟨Nat.le_of_ble_eq_true rfl, Nat.le_of_ble_eq_true rfl⟩ rfl (Nat.le_of_ble_eq_true rfl) dJ0_length_8abf5_6 ⟨Nat.le_of_ble_eq_true rfl, Nat.le_of_ble_eq_true rfl⟩ (fun v9 w9 h9 => ?_)
  obtain ⟨h9, h8⟩ := h9
  cases h9
  subst w9
  refine j_after (st' := [.int (nI 0), .int (nI 9)]) (k' := 0) (n' := 0) rfl rfl rfl ?_
  refine j_ishr dJ0_length_8abf5_9 ?_
  refine j_eqi (y := nI 9) rfl ?_
  exact j_iret rfl ⟨rfl, rfl⟩ (show 0 ≤ 0 by omega) (show 0 ≤ 0 by omega) dJ0_length_8abf5_10
abbrev rJ1_indexOfChar_4cfef : Room := { frames := 0, cells := 0, slots := 0, locals := 0 }
set_option maxHeartbeats 4000000 in
set_option maxRecDepth 100000 in
theorem l_indexOfChar {w : pW} {sa sv c : Nat} {r : Option Nat} : ∀ (m9 : Nat) (i : Nat), 9 - i < m9 → (i ≤ 9) → (fstN (fun j => bgSigns.getD j 0 == sb_b c) (9 - i) i = r) → J ((cJ1_indexOfChar_4cfef, RJ1, 6, wsJ1_indexOfChar_4cfef), (rJ1_indexOfChar_4cfef, (some .int), "indexOfChar", []), fun o w9 => o = .inl (some (.int (on1 r))) ∧ w9 = w, fun b9 _ s9 => Sg sa sv b9 s9) 7 [(0, .ref sv), (1, .int (nI c)), (2, .int (nI 0)), (3, .int (nI 9)), (4, .int (sb_b c)), (5, .int (nI i))] [] w 0 0 := by
  intro m9
  induction m9 with
  | zero => intro i h9; omega
  | succ m9 ih =>
    intro i hm9 hi hr
    refine j_iload dJ1_indexOfChar_4cfef_7 5 rfl ?_
    refine j_iload_n dJ1_indexOfChar_4cfef_9 3 rfl ?_
    refine j_icmp_geN 31 (by omega) (by omega) dJ1_indexOfChar_4cfef_10 (by decide) (fun c10 => ?_) (fun c10 => ?_)
    · skip
      refine j_iconst (v := (-1)) dJ1_indexOfChar_4cfef_31 (by decide) ?_
      exact j_iret rfl ⟨by rw [← hr, fstN_end (by omega)]; rfl, rfl⟩ (show 0 ≤ 0 by omega) (show 0 ≤ 0 by omega) dJ1_indexOfChar_4cfef_32
    · skip
      refine j_aload_n dJ1_indexOfChar_4cfef_13 0 rfl ?_
      refine j_iload dJ1_indexOfChar_4cfef_14 5 rfl ?_
      refine j_bS (N := 9) (j := i) (v := .int (bgSigns.getD i 0)) (fun _ _ _ h => h.2.2.2) (by omega) (by decide) rfl dJ1_indexOfChar_4cfef_16 ?_
      refine j_iload dJ1_indexOfChar_4cfef_17 4 rfl ?_
      refine j_icmp_ne 25 dJ1_indexOfChar_4cfef_19 (by decide) (fun c19 => ?_) (fun c19 => ?_)
      · skip
        refine j_iinc (q := 5) (v := nI (i + 1)) (lv' := [(5, .int (nI (i + 1))), (0, .ref sv), (1, .int (nI c)), (2, .int (nI 0)), (3, .int (nI 9)), (4, .int (sb_b c))]) dJ1_indexOfChar_4cfef_25 rfl (by first | exact nI_1 _ | exact nI_add _ _) (Nat.le_of_ble_eq_true rfl) rfl ?_
        refine j_goto 7 dJ1_indexOfChar_4cfef_28 (by decide) ?_
        refine j_lv (lv' := [(0, .ref sv), (1, .int (nI c)), (2, .int (nI 0)), (3, .int (nI 9)), (4, .int (sb_b c)), (5, .int (nI (i + 1)))]) [1, 2, 3, 4, 5, 0] rfl ?_
        exact ih (i + 1) (by omega) (by omega) (by rw [← hr]; exact (fstN_miss (by omega) (by simpa using c19)).symm)
      · skip
        refine j_iload dJ1_indexOfChar_4cfef_22 5 rfl ?_
        exact j_iret rfl ⟨by rw [← hr, fstN_hit (by omega) (by simpa using c19)]; rfl, rfl⟩ (show 0 ≤ 0 by omega) (show 0 ≤ 0 by omega) dJ1_indexOfChar_4cfef_24
set_option maxHeartbeats 4000000 in
set_option maxRecDepth 100000 in
theorem c_indexOfChar {w : pW} {sa sv : Nat} {c : Nat} : CtY (Sg sa sv) yJ1_indexOfChar_4cfef wsJ1_indexOfChar_4cfef rJ1_indexOfChar_4cfef [.ref sv, .int (nI c), .int (nI 0), .int (nI 9)] w (fun o w9 => o = .inl (some (.int (ixS c))) ∧ w9 = w) := by
  refine CtY.of (cc := cJ1_indexOfChar_4cfef) (own := RJ1) (nm := "indexOfChar") (nL := 6) (ret := (some .int)) (by decide +kernel) rfl rfl rfl (Nat.le_of_ble_eq_true rfl) ?_
  refine j_lvE (lv' := [(0, .ref sv), (1, .int (nI c)), (2, .int (nI 0)), (3, .int (nI 9))]) rfl ?_
  refine j_iload_n dJ1_indexOfChar_4cfef_0 1 rfl ?_
  refine j_i2b (v := sb_b c) dJ1_indexOfChar_4cfef_1 rfl ?_
  refine j_istore (lv' := [(4, .int (sb_b c)), (0, .ref sv), (1, .int (nI c)), (2, .int (nI 0)), (3, .int (nI 9))]) dJ1_indexOfChar_4cfef_2 (Nat.le_of_ble_eq_true rfl) rfl ?_
  refine j_iload_n dJ1_indexOfChar_4cfef_4 3 rfl ?_
  refine j_istore (lv' := [(5, .int (nI 0)), (4, .int (sb_b c)), (0, .ref sv), (1, .int (nI c)), (2, .int (nI 0)), (3, .int (nI 9))]) dJ1_indexOfChar_4cfef_5 (Nat.le_of_ble_eq_true rfl) rfl ?_
  refine j_lv (lv' := [(0, .ref sv), (1, .int (nI c)), (2, .int (nI 0)), (3, .int (nI 9)), (4, .int (sb_b c)), (5, .int (nI 0))]) [2, 3, 4, 5, 1, 0] rfl ?_
  exact l_indexOfChar 10 0 (by omega) (by omega) rfl
abbrev rJ1_indexOf_4cfef : Room := { frames := 1, cells := 0, slots := 0, locals := 25 }
set_option maxRecDepth 100000 in
theorem mJ1_indexOf_4cfef_0 : Cond.methodLink RJ1 92 Lib.Math.max.name ∈ wsJ1_indexOf_4cfef := by decide +kernel
set_option maxRecDepth 100000 in
theorem mJ1_indexOf_4cfef_1 : Cond.static Lib.Math.max.name ∈ wsJ1_indexOf_4cfef := by decide +kernel
set_option maxRecDepth 100000 in
theorem mJ1_indexOf_4cfef_2 : Cond.initialized "java/lang/Math" ∈ wsJ1_indexOf_4cfef := by decide +kernel
set_option maxRecDepth 100000 in
theorem mJ1_indexOf_4cfef_3 : Cond.code Lib.Math.max.name Lib.Math.max.code 2 (some .int) ∈ wsJ1_indexOf_4cfef := by decide +kernel
set_option maxRecDepth 100000 in
theorem mJ1_indexOf_4cfef_4 : Cond.methodLink RJ1 38 Lib.Math.min.name ∈ wsJ1_indexOf_4cfef := by decide +kernel
set_option maxRecDepth 100000 in
theorem mJ1_indexOf_4cfef_5 : Cond.static Lib.Math.min.name ∈ wsJ1_indexOf_4cfef := by decide +kernel
set_option maxRecDepth 100000 in
theorem mJ1_indexOf_4cfef_6 : Cond.code Lib.Math.min.name Lib.Math.min.code 2 (some .int) ∈ wsJ1_indexOf_4cfef := by decide +kernel
set_option maxHeartbeats 4000000 in
set_option maxRecDepth 100000 in
theorem c_indexOfL {w : pW} {sa sv : Nat} {c : Nat} (hc : c < 256) : CtY (Sg sa sv) yJ1_indexOf_4cfef wsJ1_indexOf_4cfef rJ1_indexOf_4cfef [.ref sv, .int (nI c), .int (nI 0), .int (nI 9)] w (fun o w9 => o = .inl (some (.int (ixS c))) ∧ w9 = w) := by
  refine CtY.of (cc := cJ1_indexOf_4cfef) (own := RJ1) (nm := "indexOf") (nL := 4) (ret := (some .int)) (by decide +kernel) rfl rfl rfl (Nat.le_of_ble_eq_true rfl) ?_
  refine j_lvE (lv' := [(0, .ref sv), (1, .int (nI c)), (2, .int (nI 0)), (3, .int (nI 9))]) rfl ?_
  refine j_iload_n dJ1_indexOf_4cfef_0 1 rfl ?_
  refine j_callS (rm := rJ1_canEncode_9a6ad) (As := [.int (nI c)]) (st := []) (na := 1) (c_canEncode hc) (by intro E w9 h9; first | exact nomatch h9.1 | (obtain ⟨_, h9, _⟩ := h9; exact nomatch h9) | (obtain ⟨_, _, _, h9, _⟩ := h9; exact nomatch h9)) gJ1_indexOf_4cfef_J1_canEncode_9a6ad rfl (by decide +kernel) rfl ⟨Nat.le_of_ble_eq_true rfl, Nat.le_of_ble_eq_true rfl⟩ rfl (Nat.le_of_ble_eq_true rfl) dJ1_indexOf_4cfef_1 ⟨Nat.le_of_ble_eq_true rfl, Nat.le_of_ble_eq_true rfl⟩ (fun v9 w9 h9 => ?_)
  obtain ⟨h9, h8⟩ := h9
  cases h9
  subst w9
  refine j_after (st' := [.int (nI 1)]) (k' := 0) (n' := 0) rfl rfl rfl ?_
  refine j_if_neN 9 (by decide) dJ1_indexOf_4cfef_4 (by decide) (fun _ => ?_) (fun h9 => absurd h9 (by decide))
  refine j_iload_n dJ1_indexOf_4cfef_9 2 rfl ?_
  refine j_iconst (v := nI 0) dJ1_indexOf_4cfef_10 (by decide) ?_
  refine j_max mJ1_indexOf_4cfef_0 mJ1_indexOf_4cfef_1 mJ1_indexOf_4cfef_2 mJ1_indexOf_4cfef_3 (Nat.le_of_ble_eq_true rfl) (Nat.le_of_ble_eq_true rfl) ⟨Nat.le_of_ble_eq_true rfl, Nat.le_of_ble_eq_true rfl⟩ dJ1_indexOf_4cfef_11 ?_
  refine j_eqi (y := nI 0) (by decide) ?_
  refine j_istore_n (lv' := [(2, .int (nI 0)), (0, .ref sv), (1, .int (nI c)), (3, .int (nI 9))]) dJ1_indexOf_4cfef_14 (Nat.le_of_ble_eq_true rfl) rfl ?_
  refine j_iload_n dJ1_indexOf_4cfef_15 3 rfl ?_
  refine j_aload_n dJ1_indexOf_4cfef_16 1 rfl ?_
  refine j_lS (fun _ _ _ h => h.2.2.2) dJ1_indexOf_4cfef_17 ?_
  refine j_min mJ1_indexOf_4cfef_4 mJ1_indexOf_4cfef_5 mJ1_indexOf_4cfef_2 mJ1_indexOf_4cfef_6 (Nat.le_of_ble_eq_true rfl) (Nat.le_of_ble_eq_true rfl) ⟨Nat.le_of_ble_eq_true rfl, Nat.le_of_ble_eq_true rfl⟩ dJ1_indexOf_4cfef_18 ?_
  refine j_eqi (y := nI 9) (by decide) ?_
  refine j_istore_n (lv' := [(3, .int (nI 9)), (2, .int (nI 0)), (0, .ref sv), (1, .int (nI c))]) dJ1_indexOf_4cfef_21 (Nat.le_of_ble_eq_true rfl) rfl ?_
  refine j_iload_n dJ1_indexOf_4cfef_22 1 rfl ?_
  refine j_iload_n dJ1_indexOf_4cfef_23 0 rfl ?_
  refine j_icmp_ltN 29 (by omega) (by omega) dJ1_indexOf_4cfef_24 (by decide) (fun c24 => ?_) (fun c24 => ?_)
  · skip
    refine j_aload_n dJ1_indexOf_4cfef_29 2 rfl ?_
    refine j_iload_n dJ1_indexOf_4cfef_30 3 rfl ?_
    refine j_iload_n dJ1_indexOf_4cfef_31 1 rfl ?_
    refine j_iload_n dJ1_indexOf_4cfef_32 0 rfl ?_
    refine j_callSY (Sg_ok sa sv) (fun _ _ _ h => h) (rm := rJ1_indexOfChar_4cfef) (As := [.ref sv, .int (nI c), .int (nI 0), .int (nI 9)]) (st := []) (na := 4) (c_indexOfChar) (by intro E w9 h9; first | exact nomatch h9.1 | (obtain ⟨_, h9, _⟩ := h9; exact nomatch h9) | (obtain ⟨_, _, _, h9, _⟩ := h9; exact nomatch h9)) gJ1_indexOf_4cfef_J1_indexOfChar_4cfef rfl (by decide +kernel) rfl ⟨Nat.le_of_ble_eq_true rfl, Nat.le_of_ble_eq_true rfl⟩ rfl (Nat.le_of_ble_eq_true rfl) dJ1_indexOf_4cfef_33 ⟨Nat.le_of_ble_eq_true rfl, Nat.le_of_ble_eq_true rfl⟩ (fun v9 w9 h9 => ?_)
    obtain ⟨h9, h8⟩ := h9
    cases h9
    subst w9
    refine j_after (st' := [.int (ixS c)]) (k' := 0) (n' := 0) rfl rfl rfl ?_
    exact j_iret rfl ⟨rfl, rfl⟩ (show 0 ≤ 0 by omega) (show 0 ≤ 0 by omega) dJ1_indexOf_4cfef_36
  · skip
    exfalso; omega
abbrev rJ0_indexOf_7cf53 : Room := { frames := 2, cells := 0, slots := 0, locals := 48 }
set_option maxRecDepth 100000 in
theorem mJ0_indexOf_7cf53_0 : Cond.fieldLink RJ0 9 "java/lang/String" "value" "[B" ∈ wsJ0_indexOf_7cf53 := by decide +kernel
set_option maxHeartbeats 4000000 in
set_option maxRecDepth 100000 in
theorem c_indexOf2 {w : pW} {sa sv : Nat} {c : Nat} (hc : c < 256) : CtY (Sg sa sv) yJ0_indexOf_7cf53 wsJ0_indexOf_7cf53 rJ0_indexOf_7cf53 [.ref sa, .int (nI c), .int (nI 0)] w (fun o w9 => o = .inl (some (.int (ixS c))) ∧ w9 = w) := by
  refine CtY.of (cc := cJ0_indexOf_7cf53) (own := RJ0) (nm := "indexOf") (nL := 3) (ret := (some .int)) (by decide +kernel) rfl rfl rfl (Nat.le_of_ble_eq_true rfl) ?_
  refine j_lvE (lv' := [(0, .ref sa), (1, .int (nI c)), (2, .int (nI 0))]) rfl ?_
  refine j_aload_n dJ0_indexOf_7cf53_0 0 rfl ?_
  refine j_callVY (Sg_ok sa sv) (fun _ _ _ h => h) Sg_recv (rm := rJ0_isLatin1_aae02) (As := []) (st := []) (b0 := sa) (na := 0) (c_isLatin1) (by intro E w9 h9; first | exact nomatch h9.1 | (obtain ⟨_, h9, _⟩ := h9; exact nomatch h9) | (obtain ⟨_, _, _, h9, _⟩ := h9; exact nomatch h9)) gJ0_indexOf_7cf53_J0_isLatin1_aae02 rfl (by decide +kernel) rfl ⟨Nat.le_of_ble_eq_true rfl, Nat.le_of_ble_eq_true rfl⟩ rfl (Nat.le_of_ble_eq_true rfl) dJ0_indexOf_7cf53_1 ⟨Nat.le_of_ble_eq_true rfl, Nat.le_of_ble_eq_true rfl⟩ (fun v9 w9 h9 => ?_)
  obtain ⟨h9, h8⟩ := h9
  cases h9
  subst w9
  refine j_after (st' := [.int (nI 1)]) (k' := 0) (n' := 0) rfl rfl rfl ?_
  refine j_if_eqN 23 (by decide) dJ0_indexOf_7cf53_4 (by decide) (fun h9 => absurd h9 (by decide)) (fun _ => ?_)
  refine j_aload_n dJ0_indexOf_7cf53_7 0 rfl ?_
  refine j_gS (fun _ _ _ h => h.2.2.1) mJ0_indexOf_7cf53_0 dJ0_indexOf_7cf53_8 ?_
  refine j_iload_n dJ0_indexOf_7cf53_11 1 rfl ?_
  refine j_iload_n dJ0_indexOf_7cf53_12 2 rfl ?_
  refine j_aload_n dJ0_indexOf_7cf53_13 0 rfl ?_
  refine j_callVY (Sg_ok sa sv) (fun _ _ _ h => h) Sg_recv (rm := rJ0_length_8abf5) (As := []) (st := [.int (nI 0), .int (nI c), .ref sv]) (b0 := sa) (na := 0) (c_slength) (by intro E w9 h9; first | exact nomatch h9.1 | (obtain ⟨_, h9, _⟩ := h9; exact nomatch h9) | (obtain ⟨_, _, _, h9, _⟩ := h9; exact nomatch h9)) gJ0_indexOf_7cf53_J0_length_8abf5 rfl (by decide +kernel) rfl ⟨Nat.le_of_ble_eq_true rfl, Nat.le_of_ble_eq_true rfl⟩ rfl (Nat.le_of_ble_eq_true rfl) dJ0_indexOf_7cf53_14 ⟨Nat.le_of_ble_eq_true rfl, Nat.le_of_ble_eq_true rfl⟩ (fun v9 w9 h9 => ?_)
  obtain ⟨h9, h8⟩ := h9
  cases h9
  subst w9
  refine j_after (st' := [.int (nI 9), .int (nI 0), .int (nI c), .ref sv]) (k' := 0) (n' := 0) rfl rfl rfl ?_
  refine j_callSY (Sg_ok sa sv) (fun _ _ _ h => h) (rm := rJ1_indexOf_4cfef) (As := [.ref sv, .int (nI c), .int (nI 0), .int (nI 9)]) (st := []) (na := 4) (c_indexOfL hc) (by intro E w9 h9; first | exact nomatch h9.1 | (obtain ⟨_, h9, _⟩ := h9; exact nomatch h9) | (obtain ⟨_, _, _, h9, _⟩ := h9; exact nomatch h9)) gJ0_indexOf_7cf53_J1_indexOf_4cfef rfl (by decide +kernel) rfl ⟨Nat.le_of_ble_eq_true rfl, Nat.le_of_ble_eq_true rfl⟩ rfl (Nat.le_of_ble_eq_true rfl) dJ0_indexOf_7cf53_17 ⟨Nat.le_of_ble_eq_true rfl, Nat.le_of_ble_eq_true rfl⟩ (fun v9 w9 h9 => ?_)
  obtain ⟨h9, h8⟩ := h9
  cases h9
  subst w9
  refine j_after (st' := [.int (ixS c)]) (k' := 0) (n' := 0) rfl rfl rfl ?_
  refine j_goto 36 dJ0_indexOf_7cf53_20 (by decide) ?_
  exact j_iret rfl ⟨rfl, rfl⟩ (show 0 ≤ 0 by omega) (show 0 ≤ 0 by omega) dJ0_indexOf_7cf53_36
abbrev rJ0_indexOf_0f7a4 : Room := { frames := 3, cells := 0, slots := 0, locals := 70 }
set_option maxHeartbeats 4000000 in
set_option maxRecDepth 100000 in
theorem c_indexOf1 {w : pW} {sa sv : Nat} {c : Nat} (hc : c < 256) : CtY (Sg sa sv) yJ0_indexOf_0f7a4 wsJ0_indexOf_0f7a4 rJ0_indexOf_0f7a4 [.ref sa, .int (nI c)] w (fun o w9 => o = .inl (some (.int (ixS c))) ∧ w9 = w) := by
  refine CtY.of (cc := cJ0_indexOf_0f7a4) (own := RJ0) (nm := "indexOf") (nL := 2) (ret := (some .int)) (by decide +kernel) rfl rfl rfl (Nat.le_of_ble_eq_true rfl) ?_
  refine j_lvE (lv' := [(0, .ref sa), (1, .int (nI c))]) rfl ?_
  refine j_aload_n dJ0_indexOf_0f7a4_0 0 rfl ?_
  refine j_iload_n dJ0_indexOf_0f7a4_1 1 rfl ?_
  refine j_iconst (v := nI 0) dJ0_indexOf_0f7a4_2 (by decide) ?_
  refine j_callVY (Sg_ok sa sv) (fun _ _ _ h => h) Sg_recv (rm := rJ0_indexOf_7cf53) (As := [.int (nI c), .int (nI 0)]) (st := []) (b0 := sa) (na := 2) (c_indexOf2 hc) (by intro E w9 h9; first | exact nomatch h9.1 | (obtain ⟨_, h9, _⟩ := h9; exact nomatch h9) | (obtain ⟨_, _, _, h9, _⟩ := h9; exact nomatch h9)) gJ0_indexOf_0f7a4_J0_indexOf_7cf53 rfl (by decide +kernel) rfl ⟨Nat.le_of_ble_eq_true rfl, Nat.le_of_ble_eq_true rfl⟩ rfl (Nat.le_of_ble_eq_true rfl) dJ0_indexOf_0f7a4_3 ⟨Nat.le_of_ble_eq_true rfl, Nat.le_of_ble_eq_true rfl⟩ (fun v9 w9 h9 => ?_)
  obtain ⟨h9, h8⟩ := h9
  cases h9
  subst w9
  refine j_after (st' := [.int (ixS c)]) (k' := 0) (n' := 0) rfl rfl rfl ?_
  exact j_iret rfl ⟨rfl, rfl⟩ (show 0 ≤ 0 by omega) (show 0 ≤ 0 by omega) dJ0_indexOf_0f7a4_6
