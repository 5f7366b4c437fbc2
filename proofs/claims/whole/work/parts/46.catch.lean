section CA
section
variable {p : Program} {l : Launch} {e : Env} {R : Room} {s : State} {m : MethodId} {args : Array Value} {below : List Frame} {meth : Method} {c : Code} {H : Heap} {locs : List Loc} {cells slots : Nat} {Q : State → Prop} {pc : Nat} {ls : Array Slot} {rest : List Value}
/-- caught by the row x of this method's table; the rows ahead don't take it -/
theorem vx_catch {own name : String} {E : String} {ce : Cell} {q : Addr} (hown : s.vm.findClass own = some m.cls) (pre : List ExceptionTableEntry) (x : ExceptionTableEntry) (suf : List ExceptionTableEntry) (hsplit : c.exceptionTable.toList = pre ++ x :: suf)
    (hpass : ∀ z ∈ pre, covers z pc = false ∨ (z.catchType ≠ 0 ∧ ∃ nm : String, (Cond.classLink own z.catchType nm).before args s = true ∧ va_Nc E nm s)) (hx : covers x pc = true) (h0 : x.catchType ≠ 0)
    (hlink : (Cond.classLink own x.catchType name).before args s = true) (hcast : (Cond.castable E name).before args s = true) (hcell : H[q]? = some ce) (hv : ce.vm = .none) (hcl : s.vm.findClass E = some ce.cls)
    (kk : W p l e R s m args below meth c H locs cells slots Q (F0 m x.handlerPc ls [.ref q])) : vx_W p l e R s m args below meth c H locs cells slots Q (F0 m pc ls rest) q := by
  intro T hT X
  have hpl : e.platform.magicAccessors = ({} : Platform).magicAccessors := by rw [X.admits.platform]
  obtain ⟨c3, c4, hc3, hc4, hasg⟩ := Cond.castable_spec hcast
  cases Option.some.inj (hc3.symm.trans hcl)
  obtain ⟨c5, hc5, hcl5⟩ := Cond.classLink_spec hown hlink e.platform hpl
  cases Option.some.inj (hc4.symm.trans hc5)
  obtain ⟨vm', X', st⟩ := X.thenCaughtThrough q (g := F0 m pc ls rest) rfl (Steps.refl _) (by rw [hT]; exact hcell) (by rw [hv]; rfl) (by obtain ⟨k9, h9, -⟩ := Vm.findClass_spec hcl; exact ⟨k9, h9⟩) pre x suf hsplit
    (fun z hz => by
      rcases hpass z hz with h | ⟨hz0, nm, hl1, hn1⟩
      · exact Or.inl h
      · obtain ⟨c6, hc6, hcl6⟩ := Cond.classLink_spec hown hl1 e.platform hpl
        obtain ⟨a8, b8, h1, h2, h3⟩ := hn1
        cases Option.some.inj (h1.symm.trans hcl)
        cases Option.some.inj (h2.symm.trans hc6)
        exact Or.inr ⟨hz0, _, hcl6, h3⟩) hx (Or.inr ⟨h0, c4, hcl5, hasg⟩)
  obtain ⟨t, a1, b1⟩ := kk (T.setVm vm') hT X'
  exact ⟨t, st.trans a1, b1⟩
end
/-- a contract out of a walk of a method with handlers -/
theorem Ct.ofC {y : MethodName} {ws ws' : List Cond} {rm : Room} {As : List Value} {w : pW} {post : pO → pW → Prop} {cc : ByteArray} {own nm : String} {nL : Nat} {ret : Option FieldType} {hh : List (Nat × Nat × Nat × Nat)}
    (hy : plainName y.cls = true) (hw : ws = Cond.codeWith y cc nL ret hh :: ws') (ho : y.cls = own) (hn : y.name = nm) (hsz : (lg_sl As).length ≤ nL)
    (h : J ((cc, own, nL, ws), (rm, ret, nm, hh), post, fun _ _ _ => True) 0 (lv_args 0 As) [] w 0 0) : Ct y ws rm As w post := by
  intro l G b hst
  refine vx_ofWH (cc := cc) (maxL := nL) (ret := ret) (hh := hh) hy hw ?_
  intro p e s m args below meth c s₁ B hml hv
  obtain ⟨rfl, hP, hD, hK, hBg, hbs⟩ := hv
  have hl := lv_entry As (n := nL) hsz
  rw [lg_entry_eq]
  generalize (lg_sl As ++ List.replicate (nL - (lg_sl As).length) Slot.unset).toArray = ls at hl ⊢
  have hown : s.vm.findClass own = some m.cls := by rw [← ho]; exact findClass_of_methodNamed B.named
  have hnm : meth.name = nm := by rw [← hn]; exact (name_of_methodNamed B.named B.method).1
  have hts := atoms_spec (ws := ws) B.pre
  have htb : c.exceptionTable.toList = tableOf hh := vx_table (x := y) B (hts _ (by rw [hw]; exact List.mem_cons_self))
  exact h p l e s m _ below meth c s.heap [] G b ls ⟨B.exec, B.bytes, hml, hown, hts, B.returns, B.notSynchronized, hnm, htb, hK, hBg, hst, hbs, trivial⟩ hP hD va_S.rf hl
section
variable {P : JP} {pc : Nat} {lv : List (Nat × Value)} {st stk : List Value} {w : pW} {k n : Nat}
variable {na : Nat} {y : MethodName} {ws ws' : List Cond} {rm : Room} {As : List Value} {post : pO → pW → Prop} {bytes : ByteArray} {maxL idx : Nat} {ret : Option FieldType} {C : String} {b0 : Nat}
/-- a call whose exception this method catches -/
theorem j_callVC {ci N ct hp9 : Nat} {T : u_T} {fs : List Value} {E9 : String} {x : ExceptionTableEntry} (hM : Ct y ws rm (.ref b0 :: As) w post) (hE : ∀ E w', post (.inr E) w' → E = E9) (hE9 : E9 = "java/lang/IllegalArgumentException" ∨ E9 = "java/util/NoSuchElementException") (htx : tableOf P.2.1.2.2.2 = [x]) (hcov : covers x pc = true) (hct : x.catchType = ct) (hct0 : ct ≠ 0) (hhp : x.handlerPc = hp9) (hlk9 : Cond.classLink P.1.2.1 ct E9 ∈ P.1.2.2.2) (g : GoodIn P.1.2.2.2 (wsV P.1.2.1 idx C y ws)) (hwc : ws = Cond.code y bytes maxL ret :: ws') (hc : vwCl[ci]? = some (C, T, N)) (hw : w b0 = some (.inr (ci, fs)))
    (hd0 : y.cls = C ∧ y.cls ≠ "java/lang/invoke/MethodHandle" ∧ y.cls ≠ "java/lang/invoke/VarHandle" ∧ (parseMethodDescriptor y.desc).map (fun d => d.parameters.length) = some na) (hna : As.length = na) (hR : rm.frames + 1 ≤ P.2.1.1.frames ∧ 8 + (maxL + 11) + rm.locals ≤ P.2.1.1.locals) (hst : stk = As.reverse ++ .ref b0 :: st) (hcat : (st.map fun v => v.category).sum ≤ 8) (hd : decode P.1.1 pc = .ok (.invokevirtual idx, 3)) (hf : k + rm.cells ≤ P.2.1.1.cells ∧ n + rm.slots ≤ P.2.1.1.slots)
    (h : ∀ (v : Option Value) (w' : pW), post (.inl v) w' → J P (pc + 3) lv (v.toList ++ st) w' (k + rm.cells) (n + rm.slots)) (hX9 : ∀ (q : Nat) (w' : pW), post (.inr E9) w' → J P hp9 lv [.ref q] w' (k + rm.cells) (n + rm.slots)) : J P pc lv stk w k n := by
  intro p l e s m args below meth c H locs G b ls F hP hD hS hl
  have hfw := j_fw (As := .ref b0 :: As) F hP hD hS
  obtain ⟨hx, hb, hml, hown, hts, hr, hlk, hnm, htb, hK, hBg, hst2, hbs, hX⟩ := id F
  obtain ⟨q0, hq⟩ := fL_at hP hw
  have hrun : vx_Run p l e P.2.1.1 s m args below meth c H locs k n rm.cells rm.slots (F0 m pc ls stk) st (jQ G b post (Value.ref b0 :: As).toArray) (jX G b post) (pB b) := vx_runV (As := As) (rest := st) ⟨hx, hb, hml, hown, hts⟩ (hM l G b hst2) (cwV na hts g hwc rfl rfl hd0 hR) ⟨fw_blind, va_recv hK (fL_P hP) hc hq, hfw⟩ rfl hna hl.1 hst (lv_room hcat) hd hf
  intro T9 hT X
  rcases hrun T9 hT X with ⟨v, st₀, t, T', L, h0, X', hL, e1, e2, ⟨⟨v', w', hv, hp, hP', hD'⟩, hz, hk⟩, go⟩ | ⟨q, st₀, t, T', L, E, ce, h0, X', hL, e1, e2, ⟨w', hp, ⟨hP', hD'⟩, hz, hk⟩, hce, hcv, hcl, st'⟩
  · cases hv
    rw [h0] at hz hk
    have hS' : va_S (pB b) s.heap T'.heap (locs ++ L) := ⟨Nat.le_trans hS.1 (by rw [e1]; exact hz), fun q h1 h2 => by rw [e1, hk q (Nat.lt_of_lt_of_le h1 hS.1) h2]; exact hS.2.1 q h1 h2, fun q hq => by
        rcases List.mem_append.mp hq with h | h
        · exact hS.2.2 q h
        · exact hL q h⟩
    obtain ⟨t2, a1, b1⟩ := h v w' hp p l e s m args below meth c T'.heap (locs ++ L) G b ls F (by rw [e1]; exact hP') hD' hS' hl T' rfl X'
    exact ⟨t2, go t2 a1, b1⟩
  · rw [h0] at hz hk
    have hS' : va_S (pB b) s.heap T'.heap (locs ++ L) := ⟨Nat.le_trans hS.1 (by rw [e1]; exact hz), fun q h1 h2 => by rw [e1, hk q (Nat.lt_of_lt_of_le h1 hS.1) h2]; exact hS.2.1 q h1 h2, fun q hq => by
        rcases List.mem_append.mp hq with h | h
        · exact hS.2.2 q h
        · exact hL q h⟩
    have hEE := hE E w' hp
    subst hEE
    have hcast : (Cond.castable E E).before args s = true := by
      rcases hE9 with rfl | rfl
      · exact hBg.2.2.2.2.2.2.2.2.1
      · exact hBg.2.2.2.2.2.2.2.2.2.1
    obtain ⟨t2, a1, b1⟩ := vx_catch (pc := pc) (ls := ls) (rest := st) hown [] x [] (by rw [htb, htx]; rfl) (fun z hz => nomatch hz) hcov (by rw [hct]; exact hct0) (by rw [hct]; exact hts _ hlk9) hcast (by rw [e1]; exact hce) hcv hcl (by rw [hhp]; exact hX9 q w' hp p l e s m args below meth c T'.heap (locs ++ L) G b ls F (by rw [e1]; exact hP') hD' hS' hl) T' rfl X'
    exact ⟨t2, st'.trans a1, b1⟩
/-- a call of a method with handlers that lets nothing out -/
theorem j_callSW {hh : List (Nat × Nat × Nat × Nat)} (hM : Ct y ws rm As w post) (hnx : ∀ E w', ¬ post (.inr E) w') (g : GoodIn P.1.2.2.2 (va_wsS P.1.2.1 idx y ws)) (hwc : ws = Cond.codeWith y bytes maxL ret hh :: ws')
    (hd0 : y.cls ≠ "java/lang/invoke/MethodHandle" ∧ y.cls ≠ "java/lang/invoke/VarHandle" ∧ (parseMethodDescriptor y.desc).map (fun d => d.parameters.length) = some na) (hna : As.length = na) (hR : rm.frames + 1 ≤ P.2.1.1.frames ∧ 8 + (maxL + 11) + rm.locals ≤ P.2.1.1.locals) (hst : stk = As.reverse ++ st) (hcat : (st.map fun v => v.category).sum ≤ 8) (hd : decode P.1.1 pc = .ok (.invokestatic idx, 3)) (hf : k + rm.cells ≤ P.2.1.1.cells ∧ n + rm.slots ≤ P.2.1.1.slots)
    (h : ∀ (v : Option Value) (w' : pW), post (.inl v) w' → J P (pc + 3) lv (v.toList ++ st) w' (k + rm.cells) (n + rm.slots)) : J P pc lv stk w k n := by
  intro p l e s m args below meth c H locs G b ls F hP hD hS hl
  have hfw := j_fw (As := As) F hP hD hS
  obtain ⟨hx, hb, hml, hown, hts, hr, hlk, hnm, htb, hK, hBg, hst2, hbs, hX⟩ := id F
  exact j_back F hS hl (vx_runSW (As := As) (rest := st) ⟨hx, hb, hml, hown, hts⟩ (hM.met hnx G b hst2) (vx_cwSW na hts g hwc rfl rfl hd0 hR) ⟨fw_blind, hfw⟩ rfl hna hl.1 hst (lv_room hcat) hd hf) h
end
end CA
