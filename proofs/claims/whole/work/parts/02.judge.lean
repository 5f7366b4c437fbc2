/-! ===== the judgement J: pure states (program counter, locals, operand stack, a world of cells by address), every machine that holds them ===== -/
abbrev pE : Type := (Nat × vp_A) ⊕ (Nat × List Value)
abbrev pW : Type := Nat → Option pE
abbrev pG : Type := va_G × (Nat → ClassId)
def pCn (G : pG) (e : pE) : va_E := match e with
  | .inl a => .inl (G.2 a.1, a.2)
  | .inr o => .inr o
def fP (G : pG) (w : pW) (H : Heap) : Prop := ∀ (a : Nat) (e : pE), w a = some e → va_at G.1 vwCl (a, pCn G e) H
def pB (b : Nat) : Nat → Prop := fun q => b ≤ q
def fD (b : Nat) (w : pW) : Prop := ∀ (a : Nat) (e : pE), w a = some e → pB b a
abbrev fT (G : pG) : List (ClassId × FieldType) := [(G.2 0, .int), (G.2 1, .byte), (G.2 2, .boolean), (G.2 3, .long), (G.2 4, .array .int)]
def fK (G : pG) (U : State) : Prop := va_K G.1 vwCl (fT G) U
def bgStr : List (String × Nat × String) := [(RX5, 49, "the tape has not so many bytes"), (RX5, 73, "a fault has no such number"), (RX5, 98, "nothing of this kind is counted"), (RX5, 104, "no such event"), (RX5, 110, "the event has no such number"), (RX5, 115, "no such price"), (RX5, 121, "no such note or time"), (RX5, 140, "there is no music"), (RX5, 148, "a place has no such number"), (RX5, 154, "no such place"), (RX5, 172, "no such beat"), (RX5, 187, "no such lead")]
def bgStep : Nat → Int32 := fun j => match j with
  | 0 => 9
  | 1 => 11
  | 2 => 0
  | 3 => 2
  | 4 => 4
  | 5 => 5
  | _ => 7
def bgSigns : List Int32 := [40, 41, 58, 126, 114, 64, 33, 37, 124]
def bgDecl : List String := ["java/lang/RuntimeException", "java/lang/Exception", Bundle.tN]
def bgNest : List (String × Nat × MethodName) := [(RX5, 19, yX2_init), (RX2, 13, yX4_init), (RX2, 20, yX3_init), (RX5, 26, yX3_init)]
/-- the class of arrays of int rows stands in the tables -/
def jAO (U : State) : Prop := (Cond.arrayOver (.array .int)).before #[] U = true
theorem jAO.moved {u U : State} (hvm : u.vm.Alike U.vm) (h : jAO u) : jAO U := by
  unfold jAO Cond.before Cond.holds at h ⊢
  simp only [Cond.value] at h ⊢
  have hfc : ∀ n : String, U.vm.findClass n = u.vm.findClass n := fun n => hvm.findClass n _
  rw [hfc]
  cases hc : u.vm.findClass (FieldType.array FieldType.int).toString with
  | none => rw [hc] at h; exact h
  | some comp =>
    rw [hc] at h
    rw [Option.bind_some] at h ⊢
    generalize hF : Array.findIdx? _ u.vm.classes = fi at h
    generalize hG : Array.findIdx? _ U.vm.classes = gi
    have e1 : gi = fi := by
      rw [← hG, ← hF]
      refine ((va_idx_bare U.vm comp).symm.trans ?_).trans (va_idx_bare u.vm comp)
      first | rw [hvm.bare_eq] | rw [← hvm.bare_eq]
    subst e1
    cases gi with
    | none => exact h
    | some c =>
      rw [Option.bind_some] at h ⊢
      cases hk : u.vm.classes[c]? with
      | none => rw [hk] at h; cases h
      | some kk =>
        obtain ⟨k', hk', he⟩ := hvm.2.2 _ _ hk
        have hkind : k'.kind = kk.kind := by rw [he]
        rw [hk] at h
        rw [hk', hfc]
        simp only [Option.map_some] at h ⊢
        rw [hkind]
        exact h
/-- what stands in the machine from the start and is never written: constants, statics, links -/
def Bg (b : Nat) (U : State) : Prop :=
  vx_Zq Bundle.tN "UNASSIGNED_STACK" Bundle.steD (pB b) U U.heap ∧ vx_Zq Bundle.tN "SUPPRESSED_SENTINEL" Bundle.listD (pB b) U U.heap ∧
  (∀ z ∈ bgStr, ∃ sa, vk_R z.1 z.2.1 z.2.2 sa U) ∧
  (∃ t, va_Z RX4 "STEPS" "[I" (.ref t) (pB b) U U.heap ∧ va_T .int t 7 (fun j => .int (bgStep j)) (pB b) U U.heap) ∧
  (∃ adK adV, vk_R RX4 62 "():~r@!%|" (adK 0) U ∧ vk_S 1 [9] [bgSigns] adK adV (pB b) U U.heap) ∧
  va_Z "java/lang/String" "COMPACT_STRINGS" "Z" (.int 1) (pB b) U U.heap ∧
  (∀ z ∈ bgNest, va_Nw (.methodLinkNest z.1 z.2.1 z.2.2 RX5) U) ∧ jAO U ∧
  va_Nw (.castable "java/lang/IllegalArgumentException" "java/lang/IllegalArgumentException") U ∧ va_Nw (.castable "java/util/NoSuchElementException" "java/util/NoSuchElementException") U ∧ (∀ z ∈ bgDecl, va_Nw (.declares (Bundle.initS z)) U)
theorem Bg.warm {b : Nat} {s U : State} (hW : s.WarmedH U.vm) (hh : ∀ a : Nat, a < s.heap.size → ¬ pB b a → U.heap[a]? = s.heap[a]?) (h : Bg b s) : Bg b U := by
  obtain ⟨h1, h2, h3, ⟨t, h4, h5⟩, ⟨k, v, h6, h7⟩, h8, h9, h10, h11, h12, h13⟩ := h
  have ha := hW.alike
  exact ⟨(h1.moved ha).kept hh, (h2.moved ha).kept hh, fun z hz => (h3 z hz).imp fun _ q => q.warm hW, ⟨t, (h4.moved ha).kept hh, (h5.moved ha).kept hh⟩, ⟨k, v, h6.warm hW, (h7.moved ha).kept hh⟩, (h8.moved ha).kept hh, fun z hz => va_Nw.warmM hW (h9 z hz), jAO.moved ha h10, va_Nw.warmC hW h11, va_Nw.warmC hW h12, fun z hz => va_Nw.warmD hW (h13 z hz)⟩
theorem Bg.call {b : Nat} {U : State} {g : JFrame} {mk : MethodId} {a : Array Value} (h : Bg b U) : Bg b (U.calling g mk a) := by
  obtain ⟨h1, h2, h3, ⟨t, h4, h5⟩, ⟨k, v, h6, h7⟩, h8, h9, h10, h11, h12, h13⟩ := h
  have ha : U.vm.Alike (U.calling g mk a).vm := Vm.Alike.refl U.vm
  exact ⟨h1.moved ha, h2.moved ha, fun z hz => (h3 z hz).imp fun _ q => q.same rfl, ⟨t, h4.moved ha, h5.moved ha⟩, ⟨k, v, h6.same rfl, h7.moved ha⟩, h8.moved ha, fun z hz => va_Nw.same rfl rfl (h9 z hz), jAO.moved ha h10, va_Nw.same rfl rfl h11, va_Nw.same rfl rfl h12, fun z hz => va_Nw.same rfl rfl (h13 z hz)⟩
/-- the world w in the state U -/
def fw (G : pG) (b : Nat) (w : pW) (U : State) : Prop := fP G w U.heap ∧ fD b w ∧ fK G U ∧ Bg b U ∧ b ≤ U.heap.size
theorem fw_blind {G : pG} {b : Nat} {w : pW} {As : List Value} : FrameBlind (va_Pc As (fw G b w)) := by
  intro a U g mk h
  obtain ⟨h0, h1, h2, h3, h4, h5⟩ := h
  exact ⟨h0, h1, h2, va_K.moved (u := U) (U := U.calling g mk a) (Vm.Alike.refl U.vm) h3, h4.call, h5⟩
/-! what a method comes to: an answer, or an exception by its class's name -/
abbrev pO : Type := (Option Value) ⊕ String
def jQ (G : pG) (b : Nat) (post : pO → pW → Prop) : Array Value → State → Outcome → State → Prop := fun _ st oc t => (∃ (v : Option Value) (w' : pW), oc = .returned v ∧ post (.inl v) w' ∧ fP G w' t.heap ∧ fD b w') ∧ va_F (pB b) st t
def jX (G : pG) (b : Nat) (post : pO → pW → Prop) : String → State → State → Prop := fun E st t => ∃ w' : pW, post (.inr E) w' ∧ (fP G w' t.heap ∧ fD b w') ∧ va_F (pB b) st t
/-- a method's pure contract -/
def Ct (y : MethodName) (ws : List Cond) (rm : Room) (As : List Value) (w : pW) (post : pO → pW → Prop) : Prop :=
  ∀ (l : Launch) (G : pG) (b : Nat), l.stackTraces = false → vx_Met l y ws rm (va_Pc As (fw G b w)) (jQ G b post) (jX G b post) rm.cells rm.slots (pB b)
/-- code, its class, its locals, its words; room, answer's type, name, handlers; what is owed; what more is known of the start -/
abbrev JP : Type := (ByteArray × String × Nat × List Cond) × (Room × Option FieldType × String × List (Nat × Nat × Nat × Nat)) × (pO → pW → Prop) × (Nat → Array Value → State → Prop)
def jF (P : JP) (p : Program) (l : Launch) (s : State) (m : MethodId) (args : Array Value) (meth : Method) (c : Code) (G : pG) (b : Nat) : Prop :=
  p.tables.exec = Jvm.exec ∧ c.code = P.1.1 ∧ c.maxLocals = P.1.2.2.1 ∧ s.vm.findClass P.1.2.1 = some m.cls ∧ (∀ w ∈ P.1.2.2.2, w.before args s = true) ∧ meth.sig.returnType = P.2.1.2.1 ∧ meth.locks = false ∧ meth.name = P.2.1.2.2.1 ∧ c.exceptionTable.toList = tableOf P.2.1.2.2.2 ∧ fK G s ∧ Bg b s ∧ l.stackTraces = false ∧ b ≤ s.heap.size ∧ P.2.2.2 b args s
def J (P : JP) (pc : Nat) (lv : List (Nat × Value)) (st : List Value) (w : pW) (k n : Nat) : Prop :=
  ∀ (p : Program) (l : Launch) (e : Env) (s : State) (m : MethodId) (args : Array Value) (below : List Frame) (meth : Method) (c : Code) (H : Heap) (locs : List Loc) (G : pG) (b : Nat) (ls : Array Slot),
    jF P p l s m args meth c G b → fP G w H → fD b w → va_S (pB b) s.heap H locs → lv_has ls P.1.2.2.1 lv →
    W p l e P.2.1.1 s m args below meth c H locs k n (vx_MQ below (jQ G b P.2.2.1) (jX G b P.2.2.1) args s P.2.1.1.cells P.2.1.1.slots (pB b)) (F0 m pc ls st)
section JL
/-! a world as a list of cells -/
def fL (G : pG) (w : pW) (N : Nat) : va_W := (List.range N).filterMap (fun a => (w a).map (fun e => (a, pCn G e)))
theorem fL_mem {G : pG} {w : pW} {N : Nat} {q : Nat × va_E} (h : q ∈ fL G w N) : ∃ e, w q.1 = some e ∧ q.2 = pCn G e := by
  obtain ⟨a, -, ha⟩ := List.mem_filterMap.mp h
  cases hw : w a with
  | none => rw [hw] at ha; cases ha
  | some e =>
    rw [hw] at ha
    cases ha
    exact ⟨e, hw, rfl⟩
theorem fL_in {G : pG} {w : pW} {N a : Nat} {e : pE} (hw : w a = some e) (ha : a < N) : (a, pCn G e) ∈ fL G w N := List.mem_filterMap.mpr ⟨a, List.mem_range.mpr ha, by rw [hw]; rfl⟩
theorem fL_nd (G : pG) (w : pW) : ∀ N : Nat, ((fL G w N).map Prod.fst).Nodup
  | 0 => by simp [fL]
  | N + 1 => by
    have h1 : fL G w (N + 1) = fL G w N ++ (match w N with | none => [] | some e => [(N, pCn G e)]) := by
      unfold fL
      rw [List.range_succ, List.filterMap_append]
      congr 1
      cases hN : w N <;> simp [hN]
    rw [h1, List.map_append]
    have ih := fL_nd G w N
    have hlt : ∀ x ∈ (fL G w N).map Prod.fst, x < N := by
      intro x hx
      obtain ⟨q, hq, rfl⟩ := List.mem_map.mp hx
      obtain ⟨a, ha, hb⟩ := List.mem_filterMap.mp hq
      cases hw : w a with
      | none => rw [hw] at hb; cases hb
      | some e => rw [hw] at hb; cases hb; exact List.mem_range.mp ha
    cases w N with
    | none => simpa using ih
    | some e =>
      refine List.nodup_append.mpr ⟨ih, by simp, fun x hx y hy => ?_⟩
      have h2 := hlt x hx
      simp at hy
      omega
theorem fL_P {G : pG} {w : pW} {H : Heap} (h : fP G w H) : va_P G.1 vwCl (fL G w H.size) H := by
  intro k q hk
  obtain ⟨e, h1, h2⟩ := fL_mem (List.mem_of_getElem? hk)
  have := h q.1 e h1
  rw [← h2] at this
  exact this
theorem fP.lt {G : pG} {w : pW} {H : Heap} (h : fP G w H) {a : Nat} {e : pE} (hw : w a = some e) : a < H.size := (h a e hw).lt
theorem fL_D {G : pG} {w : pW} {b : Nat} {N : Nat} (h : fD b w) : va_D (pB b) (fL G w N) := by
  refine ⟨fun i j p q hi hj hpq => ?_, fun k q hk => ?_⟩
  · have h1 : ((fL G w N).map Prod.fst)[i]? = some p.1 := by rw [List.getElem?_map, hi]; rfl
    have h2 : ((fL G w N).map Prod.fst)[j]? = some q.1 := by rw [List.getElem?_map, hj]; rfl
    rw [← hpq] at h2
    exact (List.getElem?_inj (List.getElem?_eq_some_iff.mp h1).1 (fL_nd G w N)).mp (h1.trans h2.symm)
  · obtain ⟨e, h1, -⟩ := fL_mem (List.mem_of_getElem? hk)
    exact h q.1 e h1
theorem fL_at {G : pG} {w : pW} {H : Heap} (h : fP G w H) {a : Nat} {e : pE} (hw : w a = some e) : ∃ k : Nat, (fL G w H.size)[k]? = some (a, pCn G e) := List.getElem?_of_mem (fL_in hw (h.lt hw))
theorem fL_set {G : pG} {w : pW} {H H1 : Heap} (h : fP G w H) {a k : Nat} {e0 : va_E} {e : pE} (hk : (fL G w H.size)[k]? = some (a, e0)) (h1 : va_P G.1 vwCl ((fL G w H.size).set k (a, pCn G e)) H1) : fP G (va_up w a (some e)) H1 := by
  intro b f hb
  have hl := (List.getElem?_eq_some_iff.mp hk).1
  by_cases hba : b = a
  · subst hba
    rw [va_up_self] at hb
    cases hb
    exact h1 k (b, pCn G e) (by rw [List.getElem?_set_self hl])
  · rw [va_up_ne _ _ hba] at hb
    obtain ⟨j, hj⟩ := fL_at h hb
    refine h1 j (b, pCn G f) ?_
    rw [List.getElem?_set_ne, hj]
    intro hjk
    subst hjk
    rw [hk] at hj
    cases hj
    exact hba rfl
theorem fL_push {G : pG} {w : pW} {b : Nat} {H H1 : Heap} (h : fP G w H) (hb : fD b w) {q : Nat} {e : pE} (h1 : va_P G.1 vwCl (fL G w H.size ++ [(q, pCn G e)]) H1) (h2 : va_D (pB b) (fL G w H.size ++ [(q, pCn G e)])) : w q = none ∧ pB b q ∧ fP G (va_up w q (some e)) H1 ∧ fD b (va_up w q (some e)) := by
  have hq : (fL G w H.size ++ [(q, pCn G e)])[(fL G w H.size).length]? = some (q, pCn G e) := by
    rw [List.getElem?_append_right (Nat.le_refl _), Nat.sub_self]; rfl
  have hB : pB b q := h2.2 _ _ hq
  refine ⟨?_, hB, ?_, ?_⟩
  · cases hw : w q with
    | none => rfl
    | some f =>
      obtain ⟨j, hj⟩ := fL_at h hw
      have hl := (List.getElem?_eq_some_iff.mp hj).1
      have := h2.1 j _ (q, pCn G f) (q, pCn G e) (by rw [List.getElem?_append_left hl]; exact hj) hq rfl
      omega
  · intro a f ha
    by_cases hba : a = q
    · subst hba
      rw [va_up_self] at ha
      cases ha
      exact h1 _ _ hq
    · rw [va_up_ne _ _ hba] at ha
      obtain ⟨j, hj⟩ := fL_at h ha
      exact h1 j _ (by rw [List.getElem?_append_left (List.getElem?_eq_some_iff.mp hj).1]; exact hj)
  · intro a f ha
    by_cases hba : a = q
    · subst hba; exact hB
    · rw [va_up_ne _ _ hba] at ha
      exact hb a f ha
theorem fD.up {w : pW} {b a : Nat} {e e' : pE} (h : fD b w) (hw : w a = some e') : fD b (va_up w a (some e)) := by
  intro x f hx
  by_cases hxa : x = a
  · subst hxa; exact h x e' hw
  · rw [va_up_ne _ _ hxa] at hx
    exact h x f hx
end JL
section JR
theorem j_iadd {P : JP} {pc : Nat} {lv : List (Nat × Value)} {st : List Value} {w : pW} {k n : Nat} {x y : Int32} (hd : decode P.1.1 pc = .ok (.iadd, 1))  (h : J P (pc + 1) lv (.int (x + y) :: st) w k n) : J P pc lv (.int y :: .int x :: st) w k n := fun p l e s m args below meth c H locs G b ls F hP hD hS hl => lv_iadd F.1 F.2.1 hd (h p l e s m args below meth c H locs G b ls F hP hD hS hl)
theorem j_isub {P : JP} {pc : Nat} {lv : List (Nat × Value)} {st : List Value} {w : pW} {k n : Nat} {x y : Int32} (hd : decode P.1.1 pc = .ok (.isub, 1))  (h : J P (pc + 1) lv (.int (x - y) :: st) w k n) : J P pc lv (.int y :: .int x :: st) w k n := fun p l e s m args below meth c H locs G b ls F hP hD hS hl => lv_isub F.1 F.2.1 hd (h p l e s m args below meth c H locs G b ls F hP hD hS hl)
theorem j_imul {P : JP} {pc : Nat} {lv : List (Nat × Value)} {st : List Value} {w : pW} {k n : Nat} {x y : Int32} (hd : decode P.1.1 pc = .ok (.imul, 1))  (h : J P (pc + 1) lv (.int (x * y) :: st) w k n) : J P pc lv (.int y :: .int x :: st) w k n := fun p l e s m args below meth c H locs G b ls F hP hD hS hl => lv_imul F.1 F.2.1 hd (h p l e s m args below meth c H locs G b ls F hP hD hS hl)
theorem j_iand {P : JP} {pc : Nat} {lv : List (Nat × Value)} {st : List Value} {w : pW} {k n : Nat} {x y : Int32} (hd : decode P.1.1 pc = .ok (.iand, 1))  (h : J P (pc + 1) lv (.int (x &&& y) :: st) w k n) : J P pc lv (.int y :: .int x :: st) w k n := fun p l e s m args below meth c H locs G b ls F hP hD hS hl => lv_iand F.1 F.2.1 hd (h p l e s m args below meth c H locs G b ls F hP hD hS hl)
theorem j_ior {P : JP} {pc : Nat} {lv : List (Nat × Value)} {st : List Value} {w : pW} {k n : Nat} {x y : Int32} (hd : decode P.1.1 pc = .ok (.ior, 1))  (h : J P (pc + 1) lv (.int (x ||| y) :: st) w k n) : J P pc lv (.int y :: .int x :: st) w k n := fun p l e s m args below meth c H locs G b ls F hP hD hS hl => lv_ior F.1 F.2.1 hd (h p l e s m args below meth c H locs G b ls F hP hD hS hl)
theorem j_ixor {P : JP} {pc : Nat} {lv : List (Nat × Value)} {st : List Value} {w : pW} {k n : Nat} {x y : Int32} (hd : decode P.1.1 pc = .ok (.ixor, 1))  (h : J P (pc + 1) lv (.int (x ^^^ y) :: st) w k n) : J P pc lv (.int y :: .int x :: st) w k n := fun p l e s m args below meth c H locs G b ls F hP hD hS hl => lv_ixor F.1 F.2.1 hd (h p l e s m args below meth c H locs G b ls F hP hD hS hl)
theorem j_ishl {P : JP} {pc : Nat} {lv : List (Nat × Value)} {st : List Value} {w : pW} {k n : Nat} {x y : Int32} (hd : decode P.1.1 pc = .ok (.ishl, 1))  (h : J P (pc + 1) lv (.int (x <<< (y &&& 31)) :: st) w k n) : J P pc lv (.int y :: .int x :: st) w k n := fun p l e s m args below meth c H locs G b ls F hP hD hS hl => lv_ishl F.1 F.2.1 hd (h p l e s m args below meth c H locs G b ls F hP hD hS hl)
theorem j_ishr {P : JP} {pc : Nat} {lv : List (Nat × Value)} {st : List Value} {w : pW} {k n : Nat} {x y : Int32} (hd : decode P.1.1 pc = .ok (.ishr, 1))  (h : J P (pc + 1) lv (.int (x >>> (y &&& 31)) :: st) w k n) : J P pc lv (.int y :: .int x :: st) w k n := fun p l e s m args below meth c H locs G b ls F hP hD hS hl => lv_ishr F.1 F.2.1 hd (h p l e s m args below meth c H locs G b ls F hP hD hS hl)
theorem j_iushr {P : JP} {pc : Nat} {lv : List (Nat × Value)} {st : List Value} {w : pW} {k n : Nat} {x y : Int32} (hd : decode P.1.1 pc = .ok (.iushr, 1))  (h : J P (pc + 1) lv (.int ((x.toUInt32 >>> (y.toUInt32 &&& Int32.toUInt32 31)).toInt32) :: st) w k n) : J P pc lv (.int y :: .int x :: st) w k n := fun p l e s m args below meth c H locs G b ls F hP hD hS hl => lv_iushr F.1 F.2.1 hd rfl (h p l e s m args below meth c H locs G b ls F hP hD hS hl)
theorem j_idiv {P : JP} {pc : Nat} {lv : List (Nat × Value)} {st : List Value} {w : pW} {k n : Nat} {x y : Int32} (hd : decode P.1.1 pc = .ok (.idiv, 1)) (hne : ¬ y = 0) (h : J P (pc + 1) lv (.int (x / y) :: st) w k n) : J P pc lv (.int y :: .int x :: st) w k n := fun p l e s m args below meth c H locs G b ls F hP hD hS hl => lv_idiv F.1 F.2.1 hd hne (h p l e s m args below meth c H locs G b ls F hP hD hS hl)
theorem j_irem {P : JP} {pc : Nat} {lv : List (Nat × Value)} {st : List Value} {w : pW} {k n : Nat} {x y : Int32} (hd : decode P.1.1 pc = .ok (.irem, 1)) (hne : ¬ y = 0) (h : J P (pc + 1) lv (.int (x - x / y * y) :: st) w k n) : J P pc lv (.int y :: .int x :: st) w k n := fun p l e s m args below meth c H locs G b ls F hP hD hS hl => lv_irem F.1 F.2.1 hd hne (h p l e s m args below meth c H locs G b ls F hP hD hS hl)
theorem j_ineg {P : JP} {pc : Nat} {lv : List (Nat × Value)} {st : List Value} {w : pW} {k n : Nat} {x : Int32} (hd : decode P.1.1 pc = .ok (.ineg, 1))  (h : J P (pc + 1) lv (.int (-x) :: st) w k n) : J P pc lv (.int x :: st) w k n := fun p l e s m args below meth c H locs G b ls F hP hD hS hl => lv_ineg F.1 F.2.1 hd (h p l e s m args below meth c H locs G b ls F hP hD hS hl)
theorem j_ladd {P : JP} {pc : Nat} {lv : List (Nat × Value)} {st : List Value} {w : pW} {k n : Nat} {x y : Int64} (hd : decode P.1.1 pc = .ok (.ladd, 1))  (h : J P (pc + 1) lv (.long (x + y) :: st) w k n) : J P pc lv (.long y :: .long x :: st) w k n := fun p l e s m args below meth c H locs G b ls F hP hD hS hl => lv_ladd F.1 F.2.1 hd (h p l e s m args below meth c H locs G b ls F hP hD hS hl)
theorem j_lsub {P : JP} {pc : Nat} {lv : List (Nat × Value)} {st : List Value} {w : pW} {k n : Nat} {x y : Int64} (hd : decode P.1.1 pc = .ok (.lsub, 1))  (h : J P (pc + 1) lv (.long (x - y) :: st) w k n) : J P pc lv (.long y :: .long x :: st) w k n := fun p l e s m args below meth c H locs G b ls F hP hD hS hl => lv_lsub F.1 F.2.1 hd (h p l e s m args below meth c H locs G b ls F hP hD hS hl)
theorem j_lmul {P : JP} {pc : Nat} {lv : List (Nat × Value)} {st : List Value} {w : pW} {k n : Nat} {x y : Int64} (hd : decode P.1.1 pc = .ok (.lmul, 1))  (h : J P (pc + 1) lv (.long (x * y) :: st) w k n) : J P pc lv (.long y :: .long x :: st) w k n := fun p l e s m args below meth c H locs G b ls F hP hD hS hl => lv_lmul F.1 F.2.1 hd (h p l e s m args below meth c H locs G b ls F hP hD hS hl)
theorem j_lxor {P : JP} {pc : Nat} {lv : List (Nat × Value)} {st : List Value} {w : pW} {k n : Nat} {x y : Int64} (hd : decode P.1.1 pc = .ok (.lxor, 1))  (h : J P (pc + 1) lv (.long (x ^^^ y) :: st) w k n) : J P pc lv (.long y :: .long x :: st) w k n := fun p l e s m args below meth c H locs G b ls F hP hD hS hl => lv_lxor F.1 F.2.1 hd (h p l e s m args below meth c H locs G b ls F hP hD hS hl)
theorem j_ldiv {P : JP} {pc : Nat} {lv : List (Nat × Value)} {st : List Value} {w : pW} {k n : Nat} {x y : Int64} (hd : decode P.1.1 pc = .ok (.ldiv, 1)) (hne : ¬ y = 0) (h : J P (pc + 1) lv (.long (x / y) :: st) w k n) : J P pc lv (.long y :: .long x :: st) w k n := fun p l e s m args below meth c H locs G b ls F hP hD hS hl => lv_ldiv F.1 F.2.1 hd hne (h p l e s m args below meth c H locs G b ls F hP hD hS hl)
theorem j_lrem {P : JP} {pc : Nat} {lv : List (Nat × Value)} {st : List Value} {w : pW} {k n : Nat} {x y : Int64} (hd : decode P.1.1 pc = .ok (.lrem, 1)) (hne : ¬ y = 0) (h : J P (pc + 1) lv (.long (x - x / y * y) :: st) w k n) : J P pc lv (.long y :: .long x :: st) w k n := fun p l e s m args below meth c H locs G b ls F hP hD hS hl => lv_lrem F.1 F.2.1 hd hne (h p l e s m args below meth c H locs G b ls F hP hD hS hl)
theorem j_lcmp {P : JP} {pc : Nat} {lv : List (Nat × Value)} {st : List Value} {w : pW} {k n : Nat} {x y : Int64} (hd : decode P.1.1 pc = .ok (.lcmp, 1))  (h : J P (pc + 1) lv (.int (lg_cmp x y) :: st) w k n) : J P pc lv (.long y :: .long x :: st) w k n := fun p l e s m args below meth c H locs G b ls F hP hD hS hl => W.lcmp F.1 F.2.1 hd (h p l e s m args below meth c H locs G b ls F hP hD hS hl)
theorem j_i2l {P : JP} {pc : Nat} {lv : List (Nat × Value)} {st : List Value} {w : pW} {k n : Nat} {x : Int32} {v : Int64} (hd : decode P.1.1 pc = .ok (.i2l, 1)) (hv : x.toInt64 = v) (h : J P (pc + 1) lv (.long v :: st) w k n) : J P pc lv (.int x :: st) w k n := fun p l e s m args below meth c H locs G b ls F hP hD hS hl => lv_i2l F.1 F.2.1 hd hv (h p l e s m args below meth c H locs G b ls F hP hD hS hl)
theorem j_i2b {P : JP} {pc : Nat} {lv : List (Nat × Value)} {st : List Value} {w : pW} {k n : Nat} {x v : Int32} (hd : decode P.1.1 pc = .ok (.i2b, 1)) (hv : x.toInt8.toInt32 = v) (h : J P (pc + 1) lv (.int v :: st) w k n) : J P pc lv (.int x :: st) w k n := fun p l e s m args below meth c H locs G b ls F hP hD hS hl => lv_i2b F.1 F.2.1 hd hv (h p l e s m args below meth c H locs G b ls F hP hD hS hl)
theorem j_i2c {P : JP} {pc : Nat} {lv : List (Nat × Value)} {st : List Value} {w : pW} {k n : Nat} {x v : Int32} (hd : decode P.1.1 pc = .ok (.i2c, 1)) (hv : (x.toUInt32 % 65536).toInt32 = v) (h : J P (pc + 1) lv (.int v :: st) w k n) : J P pc lv (.int x :: st) w k n := fun p l e s m args below meth c H locs G b ls F hP hD hS hl => lv_i2c F.1 F.2.1 hd hv (h p l e s m args below meth c H locs G b ls F hP hD hS hl)
theorem j_iconst {P : JP} {pc : Nat} {lv : List (Nat × Value)} {st : List Value} {w : pW} {k n : Nat} {i : Int} {v : Int32} (hd : decode P.1.1 pc = .ok (.iconst i, 1)) (hv : Int32.ofInt i = v) (h : J P (pc + 1) lv (.int v :: st) w k n) : J P pc lv st w k n := fun p l e s m args below meth c H locs G b ls F hP hD hS hl => lv_iconst F.1 F.2.1 hd hv (h p l e s m args below meth c H locs G b ls F hP hD hS hl)
theorem j_bipush {P : JP} {pc : Nat} {lv : List (Nat × Value)} {st : List Value} {w : pW} {k n : Nat} {i : Int} {v : Int32} (hd : decode P.1.1 pc = .ok (.bipush i, 2)) (hv : (Int8.ofInt i).toInt32 = v) (h : J P (pc + 2) lv (.int v :: st) w k n) : J P pc lv st w k n := fun p l e s m args below meth c H locs G b ls F hP hD hS hl => lv_bipush F.1 F.2.1 hd hv (h p l e s m args below meth c H locs G b ls F hP hD hS hl)
theorem j_sipush {P : JP} {pc : Nat} {lv : List (Nat × Value)} {st : List Value} {w : pW} {k n : Nat} {i : Int} {v : Int32} (hd : decode P.1.1 pc = .ok (.sipush i, 3)) (hv : (Int16.ofInt i).toInt32 = v) (h : J P (pc + 3) lv (.int v :: st) w k n) : J P pc lv st w k n := fun p l e s m args below meth c H locs G b ls F hP hD hS hl => lv_sipush F.1 F.2.1 hd hv (h p l e s m args below meth c H locs G b ls F hP hD hS hl)
theorem j_lconst {P : JP} {pc : Nat} {lv : List (Nat × Value)} {st : List Value} {w : pW} {k n : Nat} {i : Fin 2} {v : Int64} (hd : decode P.1.1 pc = .ok (.lconst i, 1)) (hv : Int64.ofNat (i : Nat) = v) (h : J P (pc + 1) lv (.long v :: st) w k n) : J P pc lv st w k n := fun p l e s m args below meth c H locs G b ls F hP hD hS hl => lv_lconst F.1 F.2.1 hd hv (h p l e s m args below meth c H locs G b ls F hP hD hS hl)
theorem j_null {P : JP} {pc : Nat} {lv : List (Nat × Value)} {st : List Value} {w : pW} {k n : Nat}  (hd : decode P.1.1 pc = .ok (.aconst_null, 1))  (h : J P (pc + 1) lv (.null :: st) w k n) : J P pc lv st w k n := fun p l e s m args below meth c H locs G b ls F hP hD hS hl => lv_null F.1 F.2.1 hd (h p l e s m args below meth c H locs G b ls F hP hD hS hl)
theorem j_ldc {P : JP} {pc : Nat} {lv : List (Nat × Value)} {st : List Value} {w : pW} {k n : Nat} {i : Nat} {v : Int32} (hd : decode P.1.1 pc = .ok (.ldc i, 2)) (hc : Cond.constant P.1.2.1 i v ∈ P.1.2.2.2) (h : J P (pc + 2) lv (.int v :: st) w k n) : J P pc lv st w k n := fun p l e s m args below meth c H locs G b ls F hP hD hS hl => lv_ldc F.1 F.2.1 F.2.2.2.1 (F.2.2.2.2.1 _ hc) hd (h p l e s m args below meth c H locs G b ls F hP hD hS hl)
theorem j_ldcw {P : JP} {pc : Nat} {lv : List (Nat × Value)} {st : List Value} {w : pW} {k n : Nat} {i : Nat} {v : Int32} (hd : decode P.1.1 pc = .ok (.ldc_w i, 3)) (hc : Cond.constant P.1.2.1 i v ∈ P.1.2.2.2) (h : J P (pc + 3) lv (.int v :: st) w k n) : J P pc lv st w k n := fun p l e s m args below meth c H locs G b ls F hP hD hS hl => lv_ldcw F.1 F.2.1 F.2.2.2.1 (F.2.2.2.2.1 _ hc) hd (h p l e s m args below meth c H locs G b ls F hP hD hS hl)
theorem j_ldc2 {P : JP} {pc : Nat} {lv : List (Nat × Value)} {st : List Value} {w : pW} {k n : Nat} {i : Nat} {v : Int64} (hd : decode P.1.1 pc = .ok (.ldc2_w i, 3)) (hc : Cond.constantLong P.1.2.1 i v ∈ P.1.2.2.2) (h : J P (pc + 3) lv (.long v :: st) w k n) : J P pc lv st w k n := fun p l e s m args below meth c H locs G b ls F hP hD hS hl => lv_ldc2 F.1 F.2.1 F.2.2.2.1 (F.2.2.2.2.1 _ hc) hd (h p l e s m args below meth c H locs G b ls F hP hD hS hl)
theorem j_dup {P : JP} {pc : Nat} {lv : List (Nat × Value)} {st : List Value} {w : pW} {k n : Nat} {va : Value} (hd : decode P.1.1 pc = .ok (.dup, 1)) (hc : va.category = 1) (h : J P (pc + 1) lv (va :: va :: st) w k n) : J P pc lv (va :: st) w k n := fun p l e s m args below meth c H locs G b ls F hP hD hS hl => lv_dup F.1 F.2.1 hd hc (h p l e s m args below meth c H locs G b ls F hP hD hS hl)
theorem j_dup2 {P : JP} {pc : Nat} {lv : List (Nat × Value)} {st : List Value} {w : pW} {k n : Nat} {va vb : Value} (hd : decode P.1.1 pc = .ok (.dup2, 1)) (hc : va.category = 1) (hc2 : vb.category = 1) (h : J P (pc + 1) lv (va :: vb :: va :: vb :: st) w k n) : J P pc lv (va :: vb :: st) w k n := fun p l e s m args below meth c H locs G b ls F hP hD hS hl => lv_dup2_11 F.1 F.2.1 hd hc hc2 (h p l e s m args below meth c H locs G b ls F hP hD hS hl)
theorem j_pop {P : JP} {pc : Nat} {lv : List (Nat × Value)} {st : List Value} {w : pW} {k n : Nat} {va : Value} (hd : decode P.1.1 pc = .ok (.pop, 1)) (hc : va.category = 1) (h : J P (pc + 1) lv st w k n) : J P pc lv (va :: st) w k n := fun p l e s m args below meth c H locs G b ls F hP hD hS hl => lv_pop F.1 F.2.1 hd hc (h p l e s m args below meth c H locs G b ls F hP hD hS hl)
theorem j_iload_n {P : JP} {pc : Nat} {lv : List (Nat × Value)} {st : List Value} {w : pW} {k n : Nat} {i : Fin 4} {x : Int32} (hd : decode P.1.1 pc = .ok (.iload_n i, 1)) (q : Nat) (hq : lv[q]? = some ((i : Nat), .int x)) (h : J P (pc + 1) lv (.int x :: st) w k n) : J P pc lv st w k n := fun p l e s m args below meth c H locs G b ls F hP hD hS hl => lv_iload_n F.1 F.2.1 hd rfl (lv_at hl q hq) (h p l e s m args below meth c H locs G b ls F hP hD hS hl)
theorem j_iload {P : JP} {pc : Nat} {lv : List (Nat × Value)} {st : List Value} {w : pW} {k n : Nat} {i : Nat} {x : Int32} (hd : decode P.1.1 pc = .ok (.iload i, 2)) (q : Nat) (hq : lv[q]? = some (i, .int x)) (h : J P (pc + 2) lv (.int x :: st) w k n) : J P pc lv st w k n := fun p l e s m args below meth c H locs G b ls F hP hD hS hl => lv_iload F.1 F.2.1 hd (lv_at hl q hq) (h p l e s m args below meth c H locs G b ls F hP hD hS hl)
theorem j_aload_n {P : JP} {pc : Nat} {lv : List (Nat × Value)} {st : List Value} {w : pW} {k n : Nat} {i : Fin 4} {x : Nat} (hd : decode P.1.1 pc = .ok (.aload_n i, 1)) (q : Nat) (hq : lv[q]? = some ((i : Nat), .ref x)) (h : J P (pc + 1) lv (.ref x :: st) w k n) : J P pc lv st w k n := fun p l e s m args below meth c H locs G b ls F hP hD hS hl => lv_aload_n F.1 F.2.1 hd rfl (lv_at hl q hq) (h p l e s m args below meth c H locs G b ls F hP hD hS hl)
theorem j_aload {P : JP} {pc : Nat} {lv : List (Nat × Value)} {st : List Value} {w : pW} {k n : Nat} {i : Nat} {x : Nat} (hd : decode P.1.1 pc = .ok (.aload i, 2)) (q : Nat) (hq : lv[q]? = some (i, .ref x)) (h : J P (pc + 2) lv (.ref x :: st) w k n) : J P pc lv st w k n := fun p l e s m args below meth c H locs G b ls F hP hD hS hl => lv_aload F.1 F.2.1 hd (lv_at hl q hq) (h p l e s m args below meth c H locs G b ls F hP hD hS hl)
theorem j_lload_n {P : JP} {pc : Nat} {lv : List (Nat × Value)} {st : List Value} {w : pW} {k n : Nat} {i : Fin 4} {x : Int64} (hd : decode P.1.1 pc = .ok (.lload_n i, 1)) (q : Nat) (hq : lv[q]? = some ((i : Nat), .long x)) (h : J P (pc + 1) lv (.long x :: st) w k n) : J P pc lv st w k n := fun p l e s m args below meth c H locs G b ls F hP hD hS hl => lv_lload_n F.1 F.2.1 hd rfl (lv_at hl q hq) (h p l e s m args below meth c H locs G b ls F hP hD hS hl)
theorem j_lload {P : JP} {pc : Nat} {lv : List (Nat × Value)} {st : List Value} {w : pW} {k n : Nat} {i : Nat} {x : Int64} (hd : decode P.1.1 pc = .ok (.lload i, 2)) (q : Nat) (hq : lv[q]? = some (i, .long x)) (h : J P (pc + 2) lv (.long x :: st) w k n) : J P pc lv st w k n := fun p l e s m args below meth c H locs G b ls F hP hD hS hl => lv_lload F.1 F.2.1 hd (lv_at hl q hq) (h p l e s m args below meth c H locs G b ls F hP hD hS hl)
theorem j_aload_nN {P : JP} {pc : Nat} {lv : List (Nat × Value)} {st : List Value} {w : pW} {k n : Nat} {i : Fin 4} (hd : decode P.1.1 pc = .ok (.aload_n i, 1)) (q : Nat) (hq : lv[q]? = some ((i : Nat), .null)) (h : J P (pc + 1) lv (.null :: st) w k n) : J P pc lv st w k n := fun p l e s m args below meth c H locs G b ls F hP hD hS hl => lv_aload_nN F.1 F.2.1 hd rfl (lv_at hl q hq) (h p l e s m args below meth c H locs G b ls F hP hD hS hl)
theorem j_aloadN {P : JP} {pc : Nat} {lv : List (Nat × Value)} {st : List Value} {w : pW} {k n : Nat} {i : Nat} (hd : decode P.1.1 pc = .ok (.aload i, 2)) (q : Nat) (hq : lv[q]? = some (i, .null)) (h : J P (pc + 2) lv (.null :: st) w k n) : J P pc lv st w k n := fun p l e s m args below meth c H locs G b ls F hP hD hS hl => lv_aloadN F.1 F.2.1 hd (lv_at hl q hq) (h p l e s m args below meth c H locs G b ls F hP hD hS hl)
theorem j_istore_n {P : JP} {pc : Nat} {lv : List (Nat × Value)} {st : List Value} {w : pW} {k n : Nat} {i : Fin 4} {x : Int32} {lv' : List (Nat × Value)} (hd : decode P.1.1 pc = .ok (.istore_n i, 1)) (hn : (i : Nat) < P.1.2.2.1) (hl' : ((i : Nat), Value.int x) :: lv.filter (fun q => !(q.1 == (i : Nat)) && !(q.1 + 1 == (i : Nat) && q.2.category == 2)) = lv') (h : J P (pc + 1) lv' st w k n) : J P pc lv (.int x :: st) w k n := fun p l e s m args below meth c H locs G b ls F hP hD hS hl => lv_istore_n F.1 F.2.1 hd rfl hl hn hl' (fun ls' hl9 => h p l e s m args below meth c H locs G b ls' F hP hD hS hl9)
theorem j_istore {P : JP} {pc : Nat} {lv : List (Nat × Value)} {st : List Value} {w : pW} {k n : Nat} {i : Nat} {x : Int32} {lv' : List (Nat × Value)} (hd : decode P.1.1 pc = .ok (.istore i, 2)) (hn : i < P.1.2.2.1) (hl' : (i, Value.int x) :: lv.filter (fun q => !(q.1 == i) && !(q.1 + 1 == i && q.2.category == 2)) = lv') (h : J P (pc + 2) lv' st w k n) : J P pc lv (.int x :: st) w k n := fun p l e s m args below meth c H locs G b ls F hP hD hS hl => lv_istore F.1 F.2.1 hd hl hn hl' (fun ls' hl9 => h p l e s m args below meth c H locs G b ls' F hP hD hS hl9)
theorem j_astore_n {P : JP} {pc : Nat} {lv : List (Nat × Value)} {st : List Value} {w : pW} {k n : Nat} {i : Fin 4} {x : Nat} {lv' : List (Nat × Value)} (hd : decode P.1.1 pc = .ok (.astore_n i, 1)) (hn : (i : Nat) < P.1.2.2.1) (hl' : ((i : Nat), Value.ref x) :: lv.filter (fun q => !(q.1 == (i : Nat)) && !(q.1 + 1 == (i : Nat) && q.2.category == 2)) = lv') (h : J P (pc + 1) lv' st w k n) : J P pc lv (.ref x :: st) w k n := fun p l e s m args below meth c H locs G b ls F hP hD hS hl => lv_astore_n F.1 F.2.1 hd rfl hl hn hl' (fun ls' hl9 => h p l e s m args below meth c H locs G b ls' F hP hD hS hl9)
theorem j_astore {P : JP} {pc : Nat} {lv : List (Nat × Value)} {st : List Value} {w : pW} {k n : Nat} {i : Nat} {x : Nat} {lv' : List (Nat × Value)} (hd : decode P.1.1 pc = .ok (.astore i, 2)) (hn : i < P.1.2.2.1) (hl' : (i, Value.ref x) :: lv.filter (fun q => !(q.1 == i) && !(q.1 + 1 == i && q.2.category == 2)) = lv') (h : J P (pc + 2) lv' st w k n) : J P pc lv (.ref x :: st) w k n := fun p l e s m args below meth c H locs G b ls F hP hD hS hl => lv_astore F.1 F.2.1 hd hl hn hl' (fun ls' hl9 => h p l e s m args below meth c H locs G b ls' F hP hD hS hl9)
theorem j_lstore_n {P : JP} {pc : Nat} {lv : List (Nat × Value)} {st : List Value} {w : pW} {k n : Nat} {i : Fin 4} {x : Int64} {lv' : List (Nat × Value)} (hd : decode P.1.1 pc = .ok (.lstore_n i, 1)) (hn : (i : Nat) + 1 < P.1.2.2.1) (hl' : ((i : Nat), Value.long x) :: lv.filter (fun q => !(q.1 == (i : Nat)) && (!(q.1 == (i : Nat) + 1) && !(q.1 + 1 == (i : Nat) && q.2.category == 2))) = lv') (h : J P (pc + 1) lv' st w k n) : J P pc lv (.long x :: st) w k n := fun p l e s m args below meth c H locs G b ls F hP hD hS hl => lv_lstore_n F.1 F.2.1 hd rfl hl hn hl' (fun ls' hl9 => h p l e s m args below meth c H locs G b ls' F hP hD hS hl9)
theorem j_lstore {P : JP} {pc : Nat} {lv : List (Nat × Value)} {st : List Value} {w : pW} {k n : Nat} {i : Nat} {x : Int64} {lv' : List (Nat × Value)} (hd : decode P.1.1 pc = .ok (.lstore i, 2)) (hn : i + 1 < P.1.2.2.1) (hl' : (i, Value.long x) :: lv.filter (fun q => !(q.1 == i) && (!(q.1 == i + 1) && !(q.1 + 1 == i && q.2.category == 2))) = lv') (h : J P (pc + 2) lv' st w k n) : J P pc lv (.long x :: st) w k n := fun p l e s m args below meth c H locs G b ls F hP hD hS hl => lv_lstore F.1 F.2.1 hd hl hn hl' (fun ls' hl9 => h p l e s m args below meth c H locs G b ls' F hP hD hS hl9)
theorem j_astore_nN {P : JP} {pc : Nat} {lv : List (Nat × Value)} {st : List Value} {w : pW} {k n : Nat} {i : Fin 4} {lv' : List (Nat × Value)} (hd : decode P.1.1 pc = .ok (.astore_n i, 1)) (hn : (i : Nat) < P.1.2.2.1) (hl' : ((i : Nat), Value.null) :: lv.filter (fun q => !(q.1 == (i : Nat)) && !(q.1 + 1 == (i : Nat) && q.2.category == 2)) = lv') (h : J P (pc + 1) lv' st w k n) : J P pc lv (.null :: st) w k n := fun p l e s m args below meth c H locs G b ls F hP hD hS hl => lv_astore_nN F.1 F.2.1 hd rfl hl hn hl' (fun ls' hl9 => h p l e s m args below meth c H locs G b ls' F hP hD hS hl9)
theorem j_astoreN {P : JP} {pc : Nat} {lv : List (Nat × Value)} {st : List Value} {w : pW} {k n : Nat} {i : Nat} {lv' : List (Nat × Value)} (hd : decode P.1.1 pc = .ok (.astore i, 2)) (hn : i < P.1.2.2.1) (hl' : (i, Value.null) :: lv.filter (fun q => !(q.1 == i) && !(q.1 + 1 == i && q.2.category == 2)) = lv') (h : J P (pc + 2) lv' st w k n) : J P pc lv (.null :: st) w k n := fun p l e s m args below meth c H locs G b ls F hP hD hS hl => lv_astoreN F.1 F.2.1 hd hl hn hl' (fun ls' hl9 => h p l e s m args below meth c H locs G b ls' F hP hD hS hl9)
theorem j_iinc {P : JP} {pc : Nat} {lv : List (Nat × Value)} {st : List Value} {w : pW} {k n : Nat} {i q : Nat} {d : Int} {x v : Int32} {lv' : List (Nat × Value)} (hd : decode P.1.1 pc = .ok (.iinc i d, 3)) (hq : lv[q]? = some (i, .int x)) (hv : x + Int32.ofInt d = v) (hn : i < P.1.2.2.1) (hl' : (i, Value.int v) :: lv.filter (fun q => !(q.1 == i) && !(q.1 + 1 == i && q.2.category == 2)) = lv') (h : J P (pc + 3) lv' st w k n) : J P pc lv st w k n := fun p l e s m args below meth c H locs G b ls F hP hD hS hl => lv_iinc F.1 F.2.1 hd hl hq hv hn hl' (fun ls' hl9 => h p l e s m args below meth c H locs G b ls' F hP hD hS hl9)
theorem j_icmp_eq {P : JP} {pc : Nat} {lv : List (Nat × Value)} {st : List Value} {w : pW} {k n : Nat} {x y : Int32} {off : Int} (tgt : Nat) (hd : decode P.1.1 pc = .ok (.if_icmp .eq off, 3)) (ht : (pc : Int) + off = (tgt : Int)) (ht1 : x = y → J P tgt lv st w k n) (hf1 : ¬ (x = y) → J P (pc + 3) lv st w k n) : J P pc lv (.int y :: .int x :: st) w k n := fun p l e s m args below meth c H locs G b ls F hP hD hS hl => lv_icmp_eq F.1 F.2.1 hd ht (fun q => ht1 q p l e s m args below meth c H locs G b ls F hP hD hS hl) (fun q => hf1 q p l e s m args below meth c H locs G b ls F hP hD hS hl)
theorem j_icmp_ne {P : JP} {pc : Nat} {lv : List (Nat × Value)} {st : List Value} {w : pW} {k n : Nat} {x y : Int32} {off : Int} (tgt : Nat) (hd : decode P.1.1 pc = .ok (.if_icmp .ne off, 3)) (ht : (pc : Int) + off = (tgt : Int)) (ht1 : x ≠ y → J P tgt lv st w k n) (hf1 : x = y → J P (pc + 3) lv st w k n) : J P pc lv (.int y :: .int x :: st) w k n := fun p l e s m args below meth c H locs G b ls F hP hD hS hl => lv_icmp_ne F.1 F.2.1 hd ht (fun q => ht1 q p l e s m args below meth c H locs G b ls F hP hD hS hl) (fun q => hf1 q p l e s m args below meth c H locs G b ls F hP hD hS hl)
theorem j_icmp_lt {P : JP} {pc : Nat} {lv : List (Nat × Value)} {st : List Value} {w : pW} {k n : Nat} {x y : Int32} {off : Int} (tgt : Nat) (hd : decode P.1.1 pc = .ok (.if_icmp .lt off, 3)) (ht : (pc : Int) + off = (tgt : Int)) (ht1 : x < y → J P tgt lv st w k n) (hf1 : ¬ (x < y) → J P (pc + 3) lv st w k n) : J P pc lv (.int y :: .int x :: st) w k n := fun p l e s m args below meth c H locs G b ls F hP hD hS hl => lv_icmp_lt F.1 F.2.1 hd ht (fun q => ht1 q p l e s m args below meth c H locs G b ls F hP hD hS hl) (fun q => hf1 q p l e s m args below meth c H locs G b ls F hP hD hS hl)
theorem j_icmp_ge {P : JP} {pc : Nat} {lv : List (Nat × Value)} {st : List Value} {w : pW} {k n : Nat} {x y : Int32} {off : Int} (tgt : Nat) (hd : decode P.1.1 pc = .ok (.if_icmp .ge off, 3)) (ht : (pc : Int) + off = (tgt : Int)) (ht1 : y ≤ x → J P tgt lv st w k n) (hf1 : ¬ (y ≤ x) → J P (pc + 3) lv st w k n) : J P pc lv (.int y :: .int x :: st) w k n := fun p l e s m args below meth c H locs G b ls F hP hD hS hl => lv_icmp_ge F.1 F.2.1 hd ht (fun q => ht1 q p l e s m args below meth c H locs G b ls F hP hD hS hl) (fun q => hf1 q p l e s m args below meth c H locs G b ls F hP hD hS hl)
theorem j_icmp_gt {P : JP} {pc : Nat} {lv : List (Nat × Value)} {st : List Value} {w : pW} {k n : Nat} {x y : Int32} {off : Int} (tgt : Nat) (hd : decode P.1.1 pc = .ok (.if_icmp .gt off, 3)) (ht : (pc : Int) + off = (tgt : Int)) (ht1 : y < x → J P tgt lv st w k n) (hf1 : ¬ (y < x) → J P (pc + 3) lv st w k n) : J P pc lv (.int y :: .int x :: st) w k n := fun p l e s m args below meth c H locs G b ls F hP hD hS hl => lv_icmp_gt F.1 F.2.1 hd ht (fun q => ht1 q p l e s m args below meth c H locs G b ls F hP hD hS hl) (fun q => hf1 q p l e s m args below meth c H locs G b ls F hP hD hS hl)
theorem j_icmp_le {P : JP} {pc : Nat} {lv : List (Nat × Value)} {st : List Value} {w : pW} {k n : Nat} {x y : Int32} {off : Int} (tgt : Nat) (hd : decode P.1.1 pc = .ok (.if_icmp .le off, 3)) (ht : (pc : Int) + off = (tgt : Int)) (ht1 : x ≤ y → J P tgt lv st w k n) (hf1 : ¬ (x ≤ y) → J P (pc + 3) lv st w k n) : J P pc lv (.int y :: .int x :: st) w k n := fun p l e s m args below meth c H locs G b ls F hP hD hS hl => lv_icmp_le F.1 F.2.1 hd ht (fun q => ht1 q p l e s m args below meth c H locs G b ls F hP hD hS hl) (fun q => hf1 q p l e s m args below meth c H locs G b ls F hP hD hS hl)
theorem j_if_eq {P : JP} {pc : Nat} {lv : List (Nat × Value)} {st : List Value} {w : pW} {k n : Nat} {x : Int32} {off : Int} (tgt : Nat) (hd : decode P.1.1 pc = .ok (.ifCond .eq off, 3)) (ht : (pc : Int) + off = (tgt : Int)) (ht1 : x = 0 → J P tgt lv st w k n) (hf1 : ¬ (x = 0) → J P (pc + 3) lv st w k n) : J P pc lv (.int x :: st) w k n := fun p l e s m args below meth c H locs G b ls F hP hD hS hl => lv_if_eq F.1 F.2.1 hd ht (fun q => ht1 q p l e s m args below meth c H locs G b ls F hP hD hS hl) (fun q => hf1 q p l e s m args below meth c H locs G b ls F hP hD hS hl)
theorem j_if_ne {P : JP} {pc : Nat} {lv : List (Nat × Value)} {st : List Value} {w : pW} {k n : Nat} {x : Int32} {off : Int} (tgt : Nat) (hd : decode P.1.1 pc = .ok (.ifCond .ne off, 3)) (ht : (pc : Int) + off = (tgt : Int)) (ht1 : x ≠ 0 → J P tgt lv st w k n) (hf1 : x = 0 → J P (pc + 3) lv st w k n) : J P pc lv (.int x :: st) w k n := fun p l e s m args below meth c H locs G b ls F hP hD hS hl => lv_if_ne F.1 F.2.1 hd ht (fun q => ht1 q p l e s m args below meth c H locs G b ls F hP hD hS hl) (fun q => hf1 q p l e s m args below meth c H locs G b ls F hP hD hS hl)
theorem j_if_lt {P : JP} {pc : Nat} {lv : List (Nat × Value)} {st : List Value} {w : pW} {k n : Nat} {x : Int32} {off : Int} (tgt : Nat) (hd : decode P.1.1 pc = .ok (.ifCond .lt off, 3)) (ht : (pc : Int) + off = (tgt : Int)) (ht1 : x < 0 → J P tgt lv st w k n) (hf1 : ¬ (x < 0) → J P (pc + 3) lv st w k n) : J P pc lv (.int x :: st) w k n := fun p l e s m args below meth c H locs G b ls F hP hD hS hl => lv_if_lt F.1 F.2.1 hd ht (fun q => ht1 q p l e s m args below meth c H locs G b ls F hP hD hS hl) (fun q => hf1 q p l e s m args below meth c H locs G b ls F hP hD hS hl)
theorem j_if_ge {P : JP} {pc : Nat} {lv : List (Nat × Value)} {st : List Value} {w : pW} {k n : Nat} {x : Int32} {off : Int} (tgt : Nat) (hd : decode P.1.1 pc = .ok (.ifCond .ge off, 3)) (ht : (pc : Int) + off = (tgt : Int)) (ht1 : 0 ≤ x → J P tgt lv st w k n) (hf1 : ¬ (0 ≤ x) → J P (pc + 3) lv st w k n) : J P pc lv (.int x :: st) w k n := fun p l e s m args below meth c H locs G b ls F hP hD hS hl => lv_if_ge F.1 F.2.1 hd ht (fun q => ht1 q p l e s m args below meth c H locs G b ls F hP hD hS hl) (fun q => hf1 q p l e s m args below meth c H locs G b ls F hP hD hS hl)
theorem j_if_gt {P : JP} {pc : Nat} {lv : List (Nat × Value)} {st : List Value} {w : pW} {k n : Nat} {x : Int32} {off : Int} (tgt : Nat) (hd : decode P.1.1 pc = .ok (.ifCond .gt off, 3)) (ht : (pc : Int) + off = (tgt : Int)) (ht1 : 0 < x → J P tgt lv st w k n) (hf1 : ¬ (0 < x) → J P (pc + 3) lv st w k n) : J P pc lv (.int x :: st) w k n := fun p l e s m args below meth c H locs G b ls F hP hD hS hl => lv_if_gt F.1 F.2.1 hd ht (fun q => ht1 q p l e s m args below meth c H locs G b ls F hP hD hS hl) (fun q => hf1 q p l e s m args below meth c H locs G b ls F hP hD hS hl)
theorem j_if_le {P : JP} {pc : Nat} {lv : List (Nat × Value)} {st : List Value} {w : pW} {k n : Nat} {x : Int32} {off : Int} (tgt : Nat) (hd : decode P.1.1 pc = .ok (.ifCond .le off, 3)) (ht : (pc : Int) + off = (tgt : Int)) (ht1 : x ≤ 0 → J P tgt lv st w k n) (hf1 : ¬ (x ≤ 0) → J P (pc + 3) lv st w k n) : J P pc lv (.int x :: st) w k n := fun p l e s m args below meth c H locs G b ls F hP hD hS hl => lv_if_le F.1 F.2.1 hd ht (fun q => ht1 q p l e s m args below meth c H locs G b ls F hP hD hS hl) (fun q => hf1 q p l e s m args below meth c H locs G b ls F hP hD hS hl)
theorem j_goto {P : JP} {pc : Nat} {lv : List (Nat × Value)} {st : List Value} {w : pW} {k n : Nat} {off : Int} (tgt : Nat) (hd : decode P.1.1 pc = .ok (.goto off, 3)) (ht : (pc : Int) + off = (tgt : Int)) (h : J P tgt lv st w k n) : J P pc lv st w k n := fun p l e s m args below meth c H locs G b ls F hP hD hS hl => lv_goto F.1 F.2.1 hd ht (h p l e s m args below meth c H locs G b ls F hP hD hS hl)
theorem j_ifnull {P : JP} {pc : Nat} {lv : List (Nat × Value)} {st : List Value} {w : pW} {k n : Nat} {a : Nat} {off : Int} (hd : decode P.1.1 pc = .ok (.ifnull off, 3)) (h : J P (pc + 3) lv st w k n) : J P pc lv (.ref a :: st) w k n := fun p l e s m args below meth c H locs G b ls F hP hD hS hl => lv_ifnull F.1 F.2.1 hd (h p l e s m args below meth c H locs G b ls F hP hD hS hl)
theorem j_ifnonnull {P : JP} {pc : Nat} {lv : List (Nat × Value)} {st : List Value} {w : pW} {k n : Nat} {a : Nat} {off : Int} (tgt : Nat) (hd : decode P.1.1 pc = .ok (.ifnonnull off, 3)) (ht : (pc : Int) + off = (tgt : Int)) (h : J P tgt lv st w k n) : J P pc lv (.ref a :: st) w k n := fun p l e s m args below meth c H locs G b ls F hP hD hS hl => lv_ifnonnull F.1 F.2.1 hd ht (h p l e s m args below meth c H locs G b ls F hP hD hS hl)
theorem j_ifnullN {P : JP} {pc : Nat} {lv : List (Nat × Value)} {st : List Value} {w : pW} {k n : Nat} {off : Int} (tgt : Nat) (hd : decode P.1.1 pc = .ok (.ifnull off, 3)) (ht : (pc : Int) + off = (tgt : Int)) (h : J P tgt lv st w k n) : J P pc lv (.null :: st) w k n := fun p l e s m args below meth c H locs G b ls F hP hD hS hl => lv_ifnullN F.1 F.2.1 hd ht (h p l e s m args below meth c H locs G b ls F hP hD hS hl)
theorem j_ifnonnullN {P : JP} {pc : Nat} {lv : List (Nat × Value)} {st : List Value} {w : pW} {k n : Nat} {off : Int} (hd : decode P.1.1 pc = .ok (.ifnonnull off, 3)) (h : J P (pc + 3) lv st w k n) : J P pc lv (.null :: st) w k n := fun p l e s m args below meth c H locs G b ls F hP hD hS hl => lv_ifnonnullN F.1 F.2.1 hd (h p l e s m args below meth c H locs G b ls F hP hD hS hl)
theorem j_tableOut {P : JP} {pc : Nat} {lv : List (Nat × Value)} {st : List Value} {w : pW} {k n : Nat} {dflt lo hi : Int} {offs : Array Int} {len : Nat} {x : Int32} (tgt : Nat) (hd : decode P.1.1 pc = .ok (.tableswitch dflt lo hi offs, len)) (hx : x.toInt < lo ∨ hi < x.toInt) (ht : (pc : Int) + dflt = (tgt : Int)) (h : J P tgt lv st w k n) : J P pc lv (.int x :: st) w k n := fun p l e s m args below meth c H locs G b ls F hP hD hS hl => lv_tableOut F.1 F.2.1 hd hx ht (h p l e s m args below meth c H locs G b ls F hP hD hS hl)
theorem j_tableIn {P : JP} {pc : Nat} {lv : List (Nat × Value)} {st : List Value} {w : pW} {k n : Nat} {dflt lo hi : Int} {offs : Array Int} {len : Nat} {x : Int32} {off : Int} (tgt : Nat) (hd : decode P.1.1 pc = .ok (.tableswitch dflt lo hi offs, len)) (h1 : ¬ x.toInt < lo) (h2 : ¬ hi < x.toInt) (ho : offs[(x.toInt - lo).toNat]? = some off) (ht : (pc : Int) + off = (tgt : Int)) (h : J P tgt lv st w k n) : J P pc lv (.int x :: st) w k n := fun p l e s m args below meth c H locs G b ls F hP hD hS hl => lv_tableIn F.1 F.2.1 hd h1 h2 ho ht (h p l e s m args below meth c H locs G b ls F hP hD hS hl)
theorem j_lookup {P : JP} {pc : Nat} {lv : List (Nat × Value)} {st : List Value} {w : pW} {k n : Nat} {dflt : Int} {ps : Array (Int × Int)} {len : Nat} {x : Int32} {off : Int} (tgt : Nat) (hd : decode P.1.1 pc = .ok (.lookupswitch dflt ps, len)) (hp : (ps.toList.zip (ps.toList.drop 1)).all (fun (a, next) => a.1 < next.1) = true) (ho : Op.lookupswitch.offset ps.toList dflt x.toInt = off) (ht : (pc : Int) + off = (tgt : Int)) (h : J P tgt lv st w k n) : J P pc lv (.int x :: st) w k n := fun p l e s m args below meth c H locs G b ls F hP hD hS hl => lv_lookup F.1 F.2.1 hd hp ho ht (h p l e s m args below meth c H locs G b ls F hP hD hS hl)
theorem j_lv {P : JP} {pc : Nat} {lv : List (Nat × Value)} {st : List Value} {w : pW} {k n : Nat} {lv' : List (Nat × Value)} (ks : List Nat) (hk : lv_pick lv ks = lv') (h : J P pc lv' st w k n) : J P pc lv st w k n := fun p l e s m args below meth c H locs G b ls F hP hD hS hl => h p l e s m args below meth c H locs G b ls F hP hD hS (lv_sub hl ks hk)
theorem j_eqw {P : JP} {pc : Nat} {lv : List (Nat × Value)} {st : List Value} {w : pW} {k n : Nat} {w' : pW} (hw : w = w') (h : J P pc lv st w' k n) : J P pc lv st w k n := by rw [hw]; exact h
theorem j_eqi {P : JP} {pc : Nat} {lv : List (Nat × Value)} {st : List Value} {w : pW} {k n : Nat} {x y : Int32} (hx : x = y) (h : J P pc lv (.int y :: st) w k n) : J P pc lv (.int x :: st) w k n := by rw [hx]; exact h
theorem j_topi {P : JP} {pc : Nat} {lv : List (Nat × Value)} {st : List Value} {w : pW} {k n : Nat} {x : Int32} (h : ∀ y : Int32, y = x → J P pc lv (.int y :: st) w k n) : J P pc lv (.int x :: st) w k n := h x rfl
theorem j_widen {P : JP} {pc : Nat} {lv : List (Nat × Value)} {st : List Value} {w : pW} {k n : Nat} {k' n' : Nat} (h1 : k ≤ k') (h2 : n ≤ n') (h : J P pc lv st w k' n') : J P pc lv st w k n := fun p l e s m args below meth c H locs G b ls F hP hD hS hl => W.widen h1 h2 (h p l e s m args below meth c H locs G b ls F hP hD hS hl)
end JR
section JH
/-- field kf of the class ci by the entry idx of own's pool -/
def FL (Ts : List Cond) (own : String) (idx ci kf : Nat) : Prop := ∃ (C : String) (T : u_T) (N : Nat), vwCl[ci]? = some (C, T, N) ∧ kf < N ∧ (∀ w ∈ u_ws C T N, w ∈ Ts) ∧ Cond.fieldLink own idx (T kf).1 (T kf).2.1 (T kf).2.2.1 ∈ Ts
def FS (Ts : List Cond) (own : String) (idx ci kf : Nat) (fin : Bool) (ty : FieldType) : Prop := ∃ (C : String) (T : u_T) (N : Nat) (ty0 : Nat → FieldType), vwCl[ci]? = some (C, T, N) ∧ kf < N ∧ (∀ w ∈ u_ws C T N, w ∈ Ts) ∧ Cond.fieldLink own idx (T kf).1 (T kf).2.1 (T kf).2.2.1 ∈ Ts ∧
  (∀ k, k < N → parseFieldDescriptor (T k).2.2.1 = some (ty0 k)) ∧ (∀ a, a < N → ∀ b, b < N → a ≠ b → (T a).2.1 ≠ (T b).2.1) ∧ (T kf).2.2.2 = fin ∧ ty0 kf = ty ∧ (T kf).1 = C
variable {P : JP} {pc : Nat} {lv : List (Nat × Value)} {st : List Value} {w : pW} {k n : Nat}
theorem j_get {a idx ci kf : Nat} {fs : List Value} {v : Value} (f : FL P.1.2.2.2 P.1.2.1 idx ci kf) (hw : w a = some (.inr (ci, fs))) (hv : fs[kf]? = some v) (hd : decode P.1.1 pc = .ok (.getfield idx, 3)) (h : J P (pc + 3) lv (v :: st) w k n) : J P pc lv (.ref a :: st) w k n := by
  intro p l e s m args below meth c H locs G b ls F hP hD hS hl
  obtain ⟨hx, hb, hml, hown, hts, hr, hlk, hnm, htb, hK, hBg, hst, hbs, hX⟩ := id F
  obtain ⟨C, T, N, hc, hk, hin, hlink⟩ := f
  obtain ⟨q0, hq⟩ := fL_at hP hw
  exact va_get hx hb hts hin hown hK (fL_P hP) q0 hq hc kf hk (hts _ hlink) (fun _ h9 => h9) hv hd (h p l e s m args below meth c H locs G b ls F hP hD hS hl)
theorem j_put {a idx ci kf : Nat} {fs fs9 : List Value} {ty : FieldType} {v : Value} (f : FS P.1.2.2.2 P.1.2.1 idx ci kf false ty) (hw : w a = some (.inr (ci, fs))) (hn : narrow ty v = v) (hfit : fits ty v = true) (hlen : kf < fs.length) (hfs : fs.set kf v = fs9) (hd : decode P.1.1 pc = .ok (.putfield idx, 3)) (h : J P (pc + 3) lv st (va_up w a (some (.inr (ci, fs9)))) k n) : J P pc lv (v :: .ref a :: st) w k n := by
  subst hfs
  intro p l e s m args below meth c H locs G b ls F hP hD hS hl
  obtain ⟨hx, hb, hml, hown, hts, hr, hlk, hnm, htb, hK, hBg, hst, hbs, hX⟩ := id F
  obtain ⟨C, T, N, ty0, hc, hk, hin, hlink, hty, hnd, hfin, rfl, -⟩ := f
  obtain ⟨q0, hq⟩ := fL_at hP hw
  refine va_put hx hb hts hin ty0 hty hnd hown hK (fL_P hP) (fL_D hD) hS q0 hq hc kf hk (hts _ hlink) (fun _ h9 => h9) hfin (hty kf hk) hn hfit hlen hd (fun H1 locs1 hP1 hD1 hS1 => ?_)
  exact h p l e s m args below meth c H1 locs1 G b ls F (fL_set (e := .inr (ci, fs.set kf v)) hP hq hP1) (hD.up hw) hS1 hl
theorem j_putF {a idx ci kf : Nat} {fs fs9 : List Value} {ty : FieldType} {v : Value} (f : FS P.1.2.2.2 P.1.2.1 idx ci kf true ty) (hw : w a = some (.inr (ci, fs))) (hi : P.2.1.2.2.1 = "<init>") (ho : ∀ C T N, vwCl[ci]? = some (C, T, N) → C = P.1.2.1) (hn : narrow ty v = v) (hfit : fits ty v = true) (hlen : kf < fs.length) (hfs : fs.set kf v = fs9) (hd : decode P.1.1 pc = .ok (.putfield idx, 3)) (h : J P (pc + 3) lv st (va_up w a (some (.inr (ci, fs9)))) k n) : J P pc lv (v :: .ref a :: st) w k n := by
  subst hfs
  intro p l e s m args below meth c H locs G b ls F hP hD hS hl
  obtain ⟨hx, hb, hml, hown, hts, hr, hlk, hnm, htb, hK, hBg, hst, hbs, hX⟩ := id F
  obtain ⟨C, T, N, ty0, hc, hk, hin, hlink, hty, hnd, hfin, rfl, hCo⟩ := f
  obtain ⟨q0, hq⟩ := fL_at hP hw
  refine va_putF hx hb hts hin ty0 hty hnd hown hK (fL_P hP) (fL_D hD) hS q0 hq hc kf hk (hts _ hlink) (fun _ h9 => h9) hfin (hnm.trans hi) (hCo.trans (ho C T N hc)) (hty kf hk) hn hfit hlen hd (fun H1 locs1 hP1 hD1 hS1 => ?_)
  exact h p l e s m args below meth c H1 locs1 G b ls F (fL_set (e := .inr (ci, fs.set kf v)) hP hq hP1) (hD.up hw) hS1 hl
theorem j_iald {a N : Nat} {f : Nat → Int32} {i : Int32} (hw : w a = some (.inl (0, N, .inl f))) (hin : vp_in i N) (hd : decode P.1.1 pc = .ok (.iaload, 1)) (h : J P (pc + 1) lv (.int (f i.toNatClampNeg) :: st) w k n) : J P pc lv (.int i :: .ref a :: st) w k n := by
  intro p l e s m args below meth c H locs G b ls F hP hD hS hl
  obtain ⟨hx, hb, hml, hown, hts, hr, hlk, hnm, htb, hK, hBg, hst, hbs, hX⟩ := id F
  obtain ⟨q0, hq⟩ := fL_at hP hw
  exact va_iald hx hb hK (fL_P hP) q0 0 hq rfl hin hd (h p l e s m args below meth c H locs G b ls F hP hD hS hl)
theorem j_bald {a N : Nat} {f : Nat → Int32} {i : Int32} (hw : w a = some (.inl (1, N, .inl f))) (hin : vp_in i N) (hd : decode P.1.1 pc = .ok (.baload, 1)) (h : J P (pc + 1) lv (.int (f i.toNatClampNeg) :: st) w k n) : J P pc lv (.int i :: .ref a :: st) w k n := by
  intro p l e s m args below meth c H locs G b ls F hP hD hS hl
  obtain ⟨hx, hb, hml, hown, hts, hr, hlk, hnm, htb, hK, hBg, hst, hbs, hX⟩ := id F
  obtain ⟨q0, hq⟩ := fL_at hP hw
  exact va_bald hx hb hK (fL_P hP) q0 1 hq rfl hin hd (h p l e s m args below meth c H locs G b ls F hP hD hS hl)
theorem j_zald {a N : Nat} {f : Nat → Int32} {i : Int32} (hw : w a = some (.inl (2, N, .inl f))) (hin : vp_in i N) (hd : decode P.1.1 pc = .ok (.baload, 1)) (h : J P (pc + 1) lv (.int (f i.toNatClampNeg) :: st) w k n) : J P pc lv (.int i :: .ref a :: st) w k n := by
  intro p l e s m args below meth c H locs G b ls F hP hD hS hl
  obtain ⟨hx, hb, hml, hown, hts, hr, hlk, hnm, htb, hK, hBg, hst, hbs, hX⟩ := id F
  obtain ⟨q0, hq⟩ := fL_at hP hw
  exact va_zald hx hb hK (fL_P hP) q0 2 hq rfl hin hd (h p l e s m args below meth c H locs G b ls F hP hD hS hl)
theorem j_lald {a N : Nat} {f : Nat → Int64} {i : Int32} (hw : w a = some (.inl (3, N, .inr (.inl f)))) (hin : vp_in i N) (hd : decode P.1.1 pc = .ok (.laload, 1)) (h : J P (pc + 1) lv (.long (f i.toNatClampNeg) :: st) w k n) : J P pc lv (.int i :: .ref a :: st) w k n := by
  intro p l e s m args below meth c H locs G b ls F hP hD hS hl
  obtain ⟨hx, hb, hml, hown, hts, hr, hlk, hnm, htb, hK, hBg, hst, hbs, hX⟩ := id F
  obtain ⟨q0, hq⟩ := fL_at hP hw
  exact va_lald hx hb hK (fL_P hP) q0 3 hq rfl hin hd (h p l e s m args below meth c H locs G b ls F hP hD hS hl)
theorem j_aald {a N : Nat} {f : Nat → Option Nat} {i : Int32} (hw : w a = some (.inl (4, N, .inr (.inr (.inr (.inr f)))))) (hin : vp_in i N) (hd : decode P.1.1 pc = .ok (.aaload, 1)) (h : J P (pc + 1) lv (va_rf (f i.toNatClampNeg) :: st) w k n) : J P pc lv (.int i :: .ref a :: st) w k n := by
  intro p l e s m args below meth c H locs G b ls F hP hD hS hl
  obtain ⟨hx, hb, hml, hown, hts, hr, hlk, hnm, htb, hK, hBg, hst, hbs, hX⟩ := id F
  obtain ⟨q0, hq⟩ := fL_at hP hw
  have hlt : i.toNatClampNeg < N := Nat.not_le.mp fun q => hin (Or.inr q)
  exact W.aald (v := va_rf (f i.toNatClampNeg)) (ty := .array .int) hx hb (fL_P hP q0 _ hq) ((hK.2 4 (G.2 4, .array .int) rfl).1 N (fun j => va_rf (f j))) rfl (fun q => by cases q) (by show ¬ (i < 0 ∨ (arrV _ _ _).slots.size ≤ _); rw [arrV_size]; exact hin) (by show (arrV _ _ _).slots[_]? = _; rw [arrV_read _ _ hlt]) rfl rfl hd (h p l e s m args below meth c H locs G b ls F hP hD hS hl)
theorem j_iast {a N : Nat} {f : Nat → Int32} {i x : Int32} (hw : w a = some (.inl (0, N, .inl f))) (hin : vp_in i N) (hd : decode P.1.1 pc = .ok (.iastore, 1)) (h : J P (pc + 1) lv st (va_up w a (some (.inl (0, N, .inl (upd f i.toNatClampNeg x))))) k n) : J P pc lv (.int x :: .int i :: .ref a :: st) w k n := by
  intro p l e s m args below meth c H locs G b ls F hP hD hS hl
  obtain ⟨hx, hb, hml, hown, hts, hr, hlk, hnm, htb, hK, hBg, hst, hbs, hX⟩ := id F
  obtain ⟨q0, hq⟩ := fL_at hP hw
  refine va_iast hx hb hK (fL_P hP) (fL_D hD) hS q0 0 hq rfl hin hd (fun H1 locs1 hP1 hD1 hS1 => ?_)
  exact h p l e s m args below meth c H1 locs1 G b ls F (fL_set (e := .inl (0, N, .inl (upd f i.toNatClampNeg x))) hP hq hP1) (hD.up hw) hS1 hl
theorem j_bast {a N : Nat} {f : Nat → Int32} {i x : Int32} (hw : w a = some (.inl (1, N, .inl f))) (hin : vp_in i N) (hd : decode P.1.1 pc = .ok (.bastore, 1)) (h : J P (pc + 1) lv st (va_up w a (some (.inl (1, N, .inl (upd f i.toNatClampNeg (vp_nar .byte x)))))) k n) : J P pc lv (.int x :: .int i :: .ref a :: st) w k n := by
  intro p l e s m args below meth c H locs G b ls F hP hD hS hl
  obtain ⟨hx, hb, hml, hown, hts, hr, hlk, hnm, htb, hK, hBg, hst, hbs, hX⟩ := id F
  obtain ⟨q0, hq⟩ := fL_at hP hw
  refine va_bast hx hb hK (fL_P hP) (fL_D hD) hS q0 1 hq rfl hin hd (fun H1 locs1 hP1 hD1 hS1 => ?_)
  exact h p l e s m args below meth c H1 locs1 G b ls F (fL_set (e := .inl (1, N, .inl (upd f i.toNatClampNeg (vp_nar .byte x)))) hP hq hP1) (hD.up hw) hS1 hl
theorem j_zast {a N : Nat} {f : Nat → Int32} {i x : Int32} (hw : w a = some (.inl (2, N, .inl f))) (hin : vp_in i N) (hd : decode P.1.1 pc = .ok (.bastore, 1)) (h : J P (pc + 1) lv st (va_up w a (some (.inl (2, N, .inl (upd f i.toNatClampNeg (vp_nar .boolean x)))))) k n) : J P pc lv (.int x :: .int i :: .ref a :: st) w k n := by
  intro p l e s m args below meth c H locs G b ls F hP hD hS hl
  obtain ⟨hx, hb, hml, hown, hts, hr, hlk, hnm, htb, hK, hBg, hst, hbs, hX⟩ := id F
  obtain ⟨q0, hq⟩ := fL_at hP hw
  refine va_zast hx hb hK (fL_P hP) (fL_D hD) hS q0 2 hq rfl hin hd (fun H1 locs1 hP1 hD1 hS1 => ?_)
  exact h p l e s m args below meth c H1 locs1 G b ls F (fL_set (e := .inl (2, N, .inl (upd f i.toNatClampNeg (vp_nar .boolean x)))) hP hq hP1) (hD.up hw) hS1 hl
theorem j_last {a N : Nat} {f : Nat → Int64} {i : Int32} {x : Int64} (hw : w a = some (.inl (3, N, .inr (.inl f)))) (hin : vp_in i N) (hd : decode P.1.1 pc = .ok (.lastore, 1)) (h : J P (pc + 1) lv st (va_up w a (some (.inl (3, N, .inr (.inl (vp_updL f i.toNatClampNeg x)))))) k n) : J P pc lv (.long x :: .int i :: .ref a :: st) w k n := by
  intro p l e s m args below meth c H locs G b ls F hP hD hS hl
  obtain ⟨hx, hb, hml, hown, hts, hr, hlk, hnm, htb, hK, hBg, hst, hbs, hX⟩ := id F
  obtain ⟨q0, hq⟩ := fL_at hP hw
  refine va_last hx hb hK (fL_P hP) (fL_D hD) hS q0 3 hq rfl hin hd (fun H1 locs1 hP1 hD1 hS1 => ?_)
  exact h p l e s m args below meth c H1 locs1 G b ls F (fL_set (e := .inl (3, N, .inr (.inl (vp_updL f i.toNatClampNeg x)))) hP hq hP1) (hD.up hw) hS1 hl
theorem j_alen {a t : Nat} {x : vp_A} {v : Int32} (ht : t < 5) (hw : w a = some (.inl (t, x))) (hv : Int32.ofNat x.1 = v) (hd : decode P.1.1 pc = .ok (.arraylength, 1)) (h : J P (pc + 1) lv (.int v :: st) w k n) : J P pc lv (.ref a :: st) w k n := by
  intro p l e s m args below meth c H locs G b ls F hP hD hS hl
  obtain ⟨hx, hb, hml, hown, hts, hr, hlk, hnm, htb, hK, hBg, hst, hbs, hX⟩ := id F
  obtain ⟨q0, hq⟩ := fL_at hP hw
  obtain ⟨ty, hty⟩ : ∃ ty, (fT G)[t]? = some (G.2 t, ty) := by
    rcases (show t = 0 ∨ t = 1 ∨ t = 2 ∨ t = 3 ∨ t = 4 by omega) with rfl | rfl | rfl | rfl | rfl <;> exact ⟨_, rfl⟩
  exact va_alen hx hb hK (fL_P hP) q0 t hq hty hv hd (h p l e s m args below meth c H locs G b ls F hP hD hS hl)
/-- new: a cell at an address where none was -/
theorem j_new {idx ci N : Nat} {C : String} {T : u_T} {fs : List Value} (ty : Nat → FieldType) (hc : vwCl[ci]? = some (C, T, N)) (hin : ∀ w ∈ u_ws C T N, w ∈ P.1.2.2.2) (hty : ∀ k, k < N → parseFieldDescriptor (T k).2.2.1 = some (ty k)) (hcl : Cond.classLink P.1.2.1 idx C ∈ P.1.2.2.2) (hinst : Cond.instantiable C N ∈ P.1.2.2.2) (hini : Cond.initialized C ∈ P.1.2.2.2) (hfs : ∀ j, j < N → defaultValue (ty j) = vp_V fs j) (hcells : k + 1 ≤ P.2.1.1.cells) (hslots : n + N ≤ P.2.1.1.slots) (hd : decode P.1.1 pc = .ok (.new idx, 3))
    (h : ∀ q : Nat, w q = none → J P (pc + 3) lv (.ref q :: st) (va_up w q (some (.inr (ci, fs)))) (k + 1) (n + N)) : J P pc lv st w k n := by
  intro p l e s m args below meth c H locs G b ls F hP hD hS hl
  obtain ⟨hx, hb, hml, hown, hts, hr, hlk, hnm, htb, hK, hBg, hst, hbs, hX⟩ := id F
  refine va_new (ci := ci) (fs := fs) hx hb hts hin ty hty hown (hts _ hcl) (hts _ hinst) (hts _ hini) hK (fL_P hP) (fL_D hD) hS (fun q hq => Nat.le_trans hbs hq) hc hfs hcells hslots hd (fun q H1 hP1 hD1 hS1 => ?_)
  obtain ⟨h1, h2, h3, h4⟩ := fL_push (e := .inr (ci, fs)) hP hD hP1 hD1
  exact h q h1 p l e s m args below meth c H1 locs G b ls F h3 h4 hS1 hl
theorem j_newi {x : Int32} {N : Nat} (harr : Cond.arrayClass .int ∈ P.1.2.2.2) (hx0 : ¬ x < 0) (hN : x.toNatClampNeg = N) (hb4 : N ≤ 100000) (hcells : k + 1 ≤ P.2.1.1.cells) (hslots : n + N ≤ P.2.1.1.slots) (hd : decode P.1.1 pc = .ok (.newarray .int, 2))
    (h : ∀ q : Nat, w q = none → J P (pc + 2) lv (.ref q :: st) (va_up w q (some (.inl (0, N, .inl (fun _ => 0))))) (k + 1) (n + N)) : J P pc lv (.int x :: st) w k n := by
  intro p l e s m args below meth c H locs G b ls F hP hD hS hl
  obtain ⟨hx, hb, hml, hown, hts, hr, hlk, hnm, htb, hK, hBg, hst, hbs, hX⟩ := id F
  refine va_newa (atype := .int) (ty := .int) (a0 := (N, .inl (fun _ => 0))) hx hb (hts _ harr) rfl hK (fL_P hP) (fL_D hD) hS (fun q hq => Nat.le_trans hbs hq) (fun cA => by rw [vp_cell_i]; rfl) hx0 hN (by show N * 4 ≤ _; omega) hcells hslots hd (fun q cA H1 hK1 hP1 hD1 hS1 => ?_)
  have e1 : cA = G.2 0 := by
    have h1 := (hK1.2 5 (cA, .int) rfl).2
    have h2 := (hK.2 0 (G.2 0, .int) rfl).2
    exact Option.some.inj (h1.symm.trans h2)
  subst e1
  obtain ⟨h1, h2, h3, h4⟩ := fL_push (e := .inl (0, N, .inl (fun _ => 0))) hP hD hP1 hD1
  exact h q h1 p l e s m args below meth c H1 locs G b ls F h3 h4 hS1 hl
theorem j_newb {x : Int32} {N : Nat} (harr : Cond.arrayClass .byte ∈ P.1.2.2.2) (hx0 : ¬ x < 0) (hN : x.toNatClampNeg = N) (hb4 : N ≤ 100000) (hcells : k + 1 ≤ P.2.1.1.cells) (hslots : n + N ≤ P.2.1.1.slots) (hd : decode P.1.1 pc = .ok (.newarray .byte, 2))
    (h : ∀ q : Nat, w q = none → J P (pc + 2) lv (.ref q :: st) (va_up w q (some (.inl (1, N, .inl (fun _ => 0))))) (k + 1) (n + N)) : J P pc lv (.int x :: st) w k n := by
  intro p l e s m args below meth c H locs G b ls F hP hD hS hl
  obtain ⟨hx, hb, hml, hown, hts, hr, hlk, hnm, htb, hK, hBg, hst, hbs, hX⟩ := id F
  refine va_newa (atype := .byte) (ty := .byte) (a0 := (N, .inl (fun _ => 0))) hx hb (hts _ harr) rfl hK (fL_P hP) (fL_D hD) hS (fun q hq => Nat.le_trans hbs hq) (fun cA => by rw [vp_cell_i]; rfl) hx0 hN (by show N * 1 ≤ _; omega) hcells hslots hd (fun q cA H1 hK1 hP1 hD1 hS1 => ?_)
  have e1 : cA = G.2 1 := by
    have h1 := (hK1.2 5 (cA, .byte) rfl).2
    have h2 := (hK.2 1 (G.2 1, .byte) rfl).2
    exact Option.some.inj (h1.symm.trans h2)
  subst e1
  obtain ⟨h1, h2, h3, h4⟩ := fL_push (e := .inl (1, N, .inl (fun _ => 0))) hP hD hP1 hD1
  exact h q h1 p l e s m args below meth c H1 locs G b ls F h3 h4 hS1 hl
theorem j_newz {x : Int32} {N : Nat} (harr : Cond.arrayClass .boolean ∈ P.1.2.2.2) (hx0 : ¬ x < 0) (hN : x.toNatClampNeg = N) (hb4 : N ≤ 100000) (hcells : k + 1 ≤ P.2.1.1.cells) (hslots : n + N ≤ P.2.1.1.slots) (hd : decode P.1.1 pc = .ok (.newarray .boolean, 2))
    (h : ∀ q : Nat, w q = none → J P (pc + 2) lv (.ref q :: st) (va_up w q (some (.inl (2, N, .inl (fun _ => 0))))) (k + 1) (n + N)) : J P pc lv (.int x :: st) w k n := by
  intro p l e s m args below meth c H locs G b ls F hP hD hS hl
  obtain ⟨hx, hb, hml, hown, hts, hr, hlk, hnm, htb, hK, hBg, hst, hbs, hX⟩ := id F
  refine va_newa (atype := .boolean) (ty := .boolean) (a0 := (N, .inl (fun _ => 0))) hx hb (hts _ harr) rfl hK (fL_P hP) (fL_D hD) hS (fun q hq => Nat.le_trans hbs hq) (fun cA => by rw [vp_cell_i]; rfl) hx0 hN (by show N * 1 ≤ _; omega) hcells hslots hd (fun q cA H1 hK1 hP1 hD1 hS1 => ?_)
  have e1 : cA = G.2 2 := by
    have h1 := (hK1.2 5 (cA, .boolean) rfl).2
    have h2 := (hK.2 2 (G.2 2, .boolean) rfl).2
    exact Option.some.inj (h1.symm.trans h2)
  subst e1
  obtain ⟨h1, h2, h3, h4⟩ := fL_push (e := .inl (2, N, .inl (fun _ => 0))) hP hD hP1 hD1
  exact h q h1 p l e s m args below meth c H1 locs G b ls F h3 h4 hS1 hl
theorem j_newl {x : Int32} {N : Nat} (harr : Cond.arrayClass .long ∈ P.1.2.2.2) (hx0 : ¬ x < 0) (hN : x.toNatClampNeg = N) (hb4 : N ≤ 100000) (hcells : k + 1 ≤ P.2.1.1.cells) (hslots : n + N ≤ P.2.1.1.slots) (hd : decode P.1.1 pc = .ok (.newarray .long, 2))
    (h : ∀ q : Nat, w q = none → J P (pc + 2) lv (.ref q :: st) (va_up w q (some (.inl (3, N, .inr (.inl (fun _ => 0)))))) (k + 1) (n + N)) : J P pc lv (.int x :: st) w k n := by
  intro p l e s m args below meth c H locs G b ls F hP hD hS hl
  obtain ⟨hx, hb, hml, hown, hts, hr, hlk, hnm, htb, hK, hBg, hst, hbs, hX⟩ := id F
  refine va_newa (atype := .long) (ty := .long) (a0 := (N, .inr (.inl (fun _ => 0)))) hx hb (hts _ harr) rfl hK (fL_P hP) (fL_D hD) hS (fun q hq => Nat.le_trans hbs hq) (fun cA => by rw [vp_cell_l]; rfl) hx0 hN (by show N * 8 ≤ _; omega) hcells hslots hd (fun q cA H1 hK1 hP1 hD1 hS1 => ?_)
  have e1 : cA = G.2 3 := by
    have h1 := (hK1.2 5 (cA, .long) rfl).2
    have h2 := (hK.2 3 (G.2 3, .long) rfl).2
    exact Option.some.inj (h1.symm.trans h2)
  subst e1
  obtain ⟨h1, h2, h3, h4⟩ := fL_push (e := .inl (3, N, .inr (.inl (fun _ => 0)))) hP hD hP1 hD1
  exact h q h1 p l e s m args below meth c H1 locs G b ls F h3 h4 hS1 hl
theorem j_objInit {a idx : Nat} (h1 : Cond.methodLink P.1.2.1 idx objectInit ∈ P.1.2.2.2) (h2 : Cond.instanceMethod objectInit ∈ P.1.2.2.2) (h3 : Cond.code objectInit ⟨#[0xb1]⟩ 1 none ∈ P.1.2.2.2) (hd : decode P.1.1 pc = .ok (.invokespecial idx, 3)) (hf : 1 ≤ P.2.1.1.frames) (hlo : (st.map fun v => v.category).sum + 12 ≤ P.2.1.1.locals) (h : J P (pc + 3) lv st w k n) : J P pc lv (.ref a :: st) w k n := by
  intro p l e s m args below meth c H locs G b ls F hP hD hS hl
  obtain ⟨hx, hb, hml, hown, hts, hr, hlk, hnm, htb, hK, hBg, hst, hbs, hX⟩ := id F
  exact W.objInit hx hb hown (hts _ h1) (hts _ h2) (hts _ h3) rfl (by rw [hml]; exact hl.1) rfl hd hf (by show 2 * 0 + _ + 12 ≤ _; omega) (h p l e s m args below meth c H locs G b ls F hP hD hS hl)
/-! ends -/
theorem j_iret {x : Int32} (hr0 : P.2.1.2.1 = some .int) (hp : P.2.2.1 (.inl (some (.int x))) w) (hk : k ≤ P.2.1.1.cells) (hn : n ≤ P.2.1.1.slots) (hd : decode P.1.1 pc = .ok (.ireturn, 1)) : J P pc lv [.int x] w k n := by
  intro p l e s m args below meth c H locs G b ls F hP hD hS hl
  obtain ⟨hx, hb, hml, hown, hts, hr, hlk, hnm, htb, hK, hBg, hst, hbs, hX⟩ := id F
  exact W.widen hk hn (vx_ret (W.iret hx hb (hr.trans hr0) (fun t ht hW => ⟨⟨_, w, rfl, hp, by rw [ht]; exact hP, hD⟩, hS.F ht⟩) hS.2.2 hd hlk))
theorem j_zret {x : Int32} (hr0 : P.2.1.2.1 = some .boolean) (hz : x = 0 ∨ x = 1) (hp : P.2.2.1 (.inl (some (.int x))) w) (hk : k ≤ P.2.1.1.cells) (hn : n ≤ P.2.1.1.slots) (hd : decode P.1.1 pc = .ok (.ireturn, 1)) : J P pc lv [.int x] w k n := by
  intro p l e s m args below meth c H locs G b ls F hP hD hS hl
  obtain ⟨hx, hb, hml, hown, hts, hr, hlk, hnm, htb, hK, hBg, hst, hbs, hX⟩ := id F
  exact W.widen hk hn (vx_ret (W.zret hx hb (hr.trans hr0) (by rcases hz with rfl | rfl <;> rfl) (fun t ht hW => ⟨⟨_, w, rfl, hp, by rw [ht]; exact hP, hD⟩, hS.F ht⟩) hS.2.2 hd hlk))
theorem j_lret {x : Int64} (hr0 : P.2.1.2.1 = some .long) (hp : P.2.2.1 (.inl (some (.long x))) w) (hk : k ≤ P.2.1.1.cells) (hn : n ≤ P.2.1.1.slots) (hd : decode P.1.1 pc = .ok (.lreturn, 1)) : J P pc lv [.long x] w k n := by
  intro p l e s m args below meth c H locs G b ls F hP hD hS hl
  obtain ⟨hx, hb, hml, hown, hts, hr, hlk, hnm, htb, hK, hBg, hst, hbs, hX⟩ := id F
  exact W.widen hk hn (vx_ret (W.lret hx hb (hr.trans hr0) (fun t ht hW => ⟨⟨_, w, rfl, hp, by rw [ht]; exact hP, hD⟩, hS.F ht⟩) hS.2.2 hd hlk))
theorem j_aret {r : Option Nat} {rt : FieldType} (hr0 : P.2.1.2.1 = some rt) (hrt : (∃ n, rt = .object n) ∨ ∃ t, rt = .array t) (hp : P.2.2.1 (.inl (some (va_rf r))) w) (hk : k ≤ P.2.1.1.cells) (hn : n ≤ P.2.1.1.slots) (hd : decode P.1.1 pc = .ok (.areturn, 1)) : J P pc lv [va_rf r] w k n := by
  intro p l e s m args below meth c H locs G b ls F hP hD hS hl
  obtain ⟨hx, hb, hml, hown, hts, hr, hlk, hnm, htb, hK, hBg, hst, hbs, hX⟩ := id F
  exact W.widen hk hn (vx_ret (W.aret hx hb (hr.trans hr0) hrt (va_rf_or r) (fun t ht hW => ⟨⟨_, w, rfl, hp, by rw [ht]; exact hP, hD⟩, hS.F ht⟩) hS.2.2 hd hlk))
theorem j_vret (hr0 : P.2.1.2.1 = none) (hp : P.2.2.1 (.inl none) w) (hk : k ≤ P.2.1.1.cells) (hn : n ≤ P.2.1.1.slots) (hd : decode P.1.1 pc = .ok (.return_, 1)) : J P pc lv [] w k n := by
  intro p l e s m args below meth c H locs G b ls F hP hD hS hl
  obtain ⟨hx, hb, hml, hown, hts, hr, hlk, hnm, htb, hK, hBg, hst, hbs, hX⟩ := id F
  exact W.widen hk hn (vx_ret (W.vret hx hb (hr.trans hr0) (fun t ht hW => ⟨⟨_, w, rfl, hp, by rw [ht]; exact hP, hD⟩, hS.F ht⟩) hS.2.2 hd hlk))
end JH
section JE
/-- a contract out of a walk from the entry -/
theorem Ct.of {y : MethodName} {ws ws' : List Cond} {rm : Room} {As : List Value} {w : pW} {post : pO → pW → Prop} {cc : ByteArray} {own nm : String} {nL : Nat} {ret : Option FieldType}
    (hy : plainName y.cls = true) (hw : ws = Cond.code y cc nL ret :: ws') (ho : y.cls = own) (hn : y.name = nm) (hsz : (lg_sl As).length ≤ nL)
    (h : J ((cc, own, nL, ws), (rm, ret, nm, []), post, fun _ _ _ => True) 0 (lv_args 0 As) [] w 0 0) : Ct y ws rm As w post := by
  intro l G b hst
  refine vx_ofW (cc := cc) (maxL := nL) (ret := ret) hy hw ?_
  intro p e s m args below meth c s₁ B hml ht hv
  obtain ⟨rfl, hP, hD, hK, hBg, hbs⟩ := hv
  have hl := lv_entry As (n := nL) hsz
  rw [lg_entry_eq]
  generalize (lg_sl As ++ List.replicate (nL - (lg_sl As).length) Slot.unset).toArray = ls at hl ⊢
  have hown : s.vm.findClass own = some m.cls := by rw [← ho]; exact findClass_of_methodNamed B.named
  have hnm : meth.name = nm := by rw [← hn]; exact (name_of_methodNamed B.named B.method).1
  have htb : c.exceptionTable.toList = tableOf [] := by
    cases hq : c.exceptionTable.toList with
    | nil => rfl
    | cons x xs => exact (ht x (by rw [hq]; exact List.mem_cons_self)).elim
  exact h p l e s m _ below meth c s.heap [] G b ls ⟨B.exec, B.bytes, hml, hown, atoms_spec (ws := ws) B.pre, B.returns, B.notSynchronized, hnm, htb, hK, hBg, hst, hbs, trivial⟩ hP hD va_S.rf hl
theorem vx_ofWF {l : Launch} {y : MethodName} {ws ws' : List Cond} {rm : Room} {Pc : Array Value → State → Prop} {Qc : Array Value → State → Outcome → State → Prop} {XC : String → State → State → Prop} {mc ms : Nat} {free : Addr → Prop} {cc : ByteArray} {maxL : Nat} {ret : Option FieldType}
    (hy : plainFor y = true) (hw : ws = Cond.code y cc maxL ret :: ws')
    (body : ∀ p e s m args below meth c s₁, BodyLoose p l y (headSpec ws rm) cc maxL ret e s m args below meth c s₁ → c.maxLocals = maxL → (∀ x ∈ c.exceptionTable.toList, False) → Pc args s →
      W p l e (headSpec ws rm).room s m args below meth c s.heap [] 0 0 (vx_MQ below Qc XC args s mc ms free) (entryFrame m args maxL)) : vx_Met l y ws rm Pc Qc XC mc ms free := by
  refine MetFree.of_bodySF (code := cc) (maxLocals := maxL) (ret := ret) hy ?_ ?_
  · intro args s m h hn
    obtain ⟨meth, c, h1, h2, h3, h4, h5, h6, -, -⟩ := Cond.code_spec hn (atoms_spec (ws := ws) h _ (by rw [hw]; exact List.mem_cons_self))
    exact ⟨meth, c, h1, h2, h3, h4, h5, h6⟩
  · intro p e s m args below meth c s₁ B hml hP _
    have hh0 : s₁.heap = s.heap := by rw [B.state]; rfl
    have ht : ∀ x ∈ c.exceptionTable.toList, False := by
      obtain ⟨meth9, c9, h1, h2, -, -, -, -, h7, -⟩ := Cond.code_spec B.named (atoms_spec (ws := ws) B.pre _ (by rw [hw]; exact List.mem_cons_self))
      cases Option.some.inj (h1.symm.trans B.method)
      cases Option.some.inj (h2.symm.trans (Stand.of_body B).code)
      intro x hx
      rw [Array.isEmpty_iff.mp h7] at hx
      cases hx
    obtain ⟨t, a1, o, b1, b2, b3⟩ := body p e s m args below meth c s₁ B hml ht hP s₁ hh0 (Stand.of_body B)
    exact ⟨t, o, a1, b1, b2, b3⟩
theorem Ct.ofF {y : MethodName} {ws ws' : List Cond} {rm : Room} {As : List Value} {w : pW} {post : pO → pW → Prop} {cc : ByteArray} {own nm : String} {nL : Nat} {ret : Option FieldType}
    (hy : plainFor y = true) (hw : ws = Cond.code y cc nL ret :: ws') (ho : y.cls = own) (hn : y.name = nm) (hsz : (lg_sl As).length ≤ nL)
    (h : J ((cc, own, nL, ws), (rm, ret, nm, []), post, fun _ _ _ => True) 0 (lv_args 0 As) [] w 0 0) : Ct y ws rm As w post := by
  intro l G b hst
  refine vx_ofWF (cc := cc) (maxL := nL) (ret := ret) hy hw ?_
  intro p e s m args below meth c s₁ B hml ht hv
  obtain ⟨rfl, hP, hD, hK, hBg, hbs⟩ := hv
  have hl := lv_entry As (n := nL) hsz
  rw [lg_entry_eq]
  generalize (lg_sl As ++ List.replicate (nL - (lg_sl As).length) Slot.unset).toArray = ls at hl ⊢
  have hown : s.vm.findClass own = some m.cls := by rw [← ho]; exact findClass_of_methodNamed B.named
  have hnm : meth.name = nm := by rw [← hn]; exact (name_of_methodNamed B.named B.method).1
  have htb : c.exceptionTable.toList = tableOf [] := by
    cases hq : c.exceptionTable.toList with
    | nil => rfl
    | cons x xs => exact (ht x (by rw [hq]; exact List.mem_cons_self)).elim
  exact h p l e s m _ below meth c s.heap [] G b ls ⟨B.exec, B.bytes, hml, hown, atoms_spec (ws := ws) B.pre, B.returns, B.notSynchronized, hnm, htb, hK, hBg, hst, hbs, trivial⟩ hP hD va_S.rf hl
/-- a contract that never throws, for the kit's calls -/
theorem Ct.met {y : MethodName} {ws : List Cond} {rm : Room} {As : List Value} {w : pW} {post : pO → pW → Prop} (h : Ct y ws rm As w post) (hx : ∀ E w', ¬ post (.inr E) w') {l : Launch} (G : pG) (b : Nat) (hst : l.stackTraces = false) : Met l y ws rm (va_Pc As (fw G b w)) (jQ G b post) rm.cells rm.slots (pB b) := by
  intro p e ha hc hk s m args below hf happ hP hK
  obtain ⟨n, o, h1, h2, h3, h4⟩ := h l G b hst p e ha hc hk s m args below hf happ hP hK
  rcases h4 with h4 | ⟨q, -, E, ce, L, ⟨w', hw', -⟩, -⟩
  · exact ⟨n, o, h1, h2, h3, h4⟩
  · exact absurd hw' (hx E w')
theorem Ct.imp {y : MethodName} {ws : List Cond} {rm : Room} {As : List Value} {w : pW} {post post' : pO → pW → Prop} (h : Ct y ws rm As w post) (hp : ∀ o w', post o w' → post' o w') : Ct y ws rm As w post' := by
  intro l G b hst p e ha hc hk s m args below hf happ hP hK
  obtain ⟨n, o, h1, h2, h3, h4⟩ := h l G b hst p e ha hc hk s m args below hf happ hP hK
  refine ⟨n, o, h1, h2, h3, ?_⟩
  rcases h4 with ⟨⟨⟨v, w', q1, q2, q3, q4⟩, q5⟩, q6⟩ | ⟨q, q1, E, ce, L, ⟨w', hw', q3⟩, q4⟩
  · exact Or.inl ⟨⟨⟨v, w', q1, hp _ _ q2, q3, q4⟩, q5⟩, q6⟩
  · exact Or.inr ⟨q, q1, E, ce, L, ⟨w', hp _ _ hw', q3⟩, q4⟩
end JE
section JC
variable {P : JP} {pc : Nat} {lv : List (Nat × Value)} {st stk : List Value} {w : pW} {k n : Nat}
variable {na : Nat} {y : MethodName} {ws ws' : List Cond} {rm : Room} {As : List Value} {post : pO → pW → Prop} {bytes : ByteArray} {maxL idx : Nat} {ret : Option FieldType} {C : String} {b0 : Nat}
/-- what a run of a call gives back to the walk -/
theorem j_back {p : Program} {l : Launch} {e : Env} {s : State} {m : MethodId} {args : Array Value} {below : List Frame} {meth : Method} {c : Code} {H : Heap} {locs : List Loc} {G : pG} {b : Nat} {ls : Array Slot} {a : Array Value} {st0 : List Value}
    (F : jF P p l s m args meth c G b) (hS : va_S (pB b) s.heap H locs) (hl : lv_has ls P.1.2.2.1 lv)
    (hr : va_Run p l e P.2.1.1 s m args below meth c H locs k n rm.cells rm.slots (F0 m pc ls stk) st0 (jQ G b post a) (pB b))
    (h : ∀ (v : Option Value) (w' : pW), post (.inl v) w' → J P (pc + 3) lv (v.toList ++ st0) w' (k + rm.cells) (n + rm.slots)) :
    W p l e P.2.1.1 s m args below meth c H locs k n (vx_MQ below (jQ G b P.2.2.1) (jX G b P.2.2.1) args s P.2.1.1.cells P.2.1.1.slots (pB b)) (F0 m pc ls stk) := by
  intro T hT X
  obtain ⟨v, st₀, t, T', L, h0, X', hL, e1, e2, ⟨⟨v', w', hv, hp, hP', hD'⟩, hz, hk⟩, go⟩ := hr T hT X
  cases hv
  rw [h0] at hz hk
  have hS' : va_S (pB b) s.heap T'.heap (locs ++ L) := ⟨Nat.le_trans hS.1 (by rw [e1]; exact hz), fun q h1 h2 => by rw [e1, hk q (Nat.lt_of_lt_of_le h1 hS.1) h2]; exact hS.2.1 q h1 h2, fun q hq => by
      rcases List.mem_append.mp hq with h | h
      · exact hS.2.2 q h
      · exact hL q h⟩
  obtain ⟨t2, a1, b1⟩ := h v w' hp p l e s m args below meth c T'.heap (locs ++ L) G b ls F (by rw [e1]; exact hP') hD' hS' hl T' rfl X'
  exact ⟨t2, go t2 a1, b1⟩
theorem j_fw {p : Program} {l : Launch} {s : State} {m : MethodId} {args : Array Value} {meth : Method} {c : Code} {H : Heap} {locs : List Loc} {G : pG} {b : Nat}
    (F : jF P p l s m args meth c G b) (hP : fP G w H) (hD : fD b w) (hS : va_S (pB b) s.heap H locs) : ∀ U : State, U.heap = H → s.WarmedH U.vm → va_Pc As (fw G b w) As.toArray U := by
  obtain ⟨hx, hb, hml, hown, hts, hr, hlk, hnm, htb, hK, hBg, hst, hbs, hX⟩ := id F
  intro U hU hW
  exact ⟨rfl, by rw [hU]; exact hP, hD, va_K.moved hW.alike hK, hBg.warm hW (fun a h1 h2 => by rw [hU]; exact hS.2.1 a h1 h2), Nat.le_trans hbs (by rw [hU]; exact hS.1)⟩
theorem j_callV {ci N : Nat} {T : u_T} {fs : List Value} (hM : Ct y ws rm (.ref b0 :: As) w post) (hnx : ∀ E w', ¬ post (.inr E) w') (g : GoodIn P.1.2.2.2 (wsV P.1.2.1 idx C y ws)) (hwc : ws = Cond.code y bytes maxL ret :: ws') (hc : vwCl[ci]? = some (C, T, N)) (hw : w b0 = some (.inr (ci, fs)))
    (hd0 : y.cls = C ∧ y.cls ≠ "java/lang/invoke/MethodHandle" ∧ y.cls ≠ "java/lang/invoke/VarHandle" ∧ (parseMethodDescriptor y.desc).map (fun d => d.parameters.length) = some na) (hna : As.length = na) (hR : rm.frames + 1 ≤ P.2.1.1.frames ∧ 8 + (maxL + 11) + rm.locals ≤ P.2.1.1.locals) (hst : stk = As.reverse ++ .ref b0 :: st) (hcat : (st.map fun v => v.category).sum ≤ 8) (hd : decode P.1.1 pc = .ok (.invokevirtual idx, 3)) (hf : k + rm.cells ≤ P.2.1.1.cells ∧ n + rm.slots ≤ P.2.1.1.slots)
    (h : ∀ (v : Option Value) (w' : pW), post (.inl v) w' → J P (pc + 3) lv (v.toList ++ st) w' (k + rm.cells) (n + rm.slots)) : J P pc lv stk w k n := by
  intro p l e s m args below meth c H locs G b ls F hP hD hS hl
  have hfw := j_fw (As := .ref b0 :: As) F hP hD hS
  obtain ⟨hx, hb, hml, hown, hts, hr, hlk, hnm, htb, hK, hBg, hst2, hbs, hX⟩ := id F
  obtain ⟨q0, hq⟩ := fL_at hP hw
  refine j_back F hS hl (va_runV (As := As) (rest := st) ⟨hx, hb, hml, hown, hts⟩ (hM.met hnx G b hst2) (cwV na hts g hwc rfl rfl hd0 hR) ⟨fw_blind, va_recv hK (fL_P hP) hc hq, hfw⟩ rfl hna hl.1 hst (lv_room hcat) hd hf) h
theorem j_callS (hM : Ct y ws rm As w post) (hnx : ∀ E w', ¬ post (.inr E) w') (g : GoodIn P.1.2.2.2 (va_wsS P.1.2.1 idx y ws)) (hwc : ws = Cond.code y bytes maxL ret :: ws')
    (hd0 : y.cls ≠ "java/lang/invoke/MethodHandle" ∧ y.cls ≠ "java/lang/invoke/VarHandle" ∧ (parseMethodDescriptor y.desc).map (fun d => d.parameters.length) = some na) (hna : As.length = na) (hR : rm.frames + 1 ≤ P.2.1.1.frames ∧ 8 + (maxL + 11) + rm.locals ≤ P.2.1.1.locals) (hst : stk = As.reverse ++ st) (hcat : (st.map fun v => v.category).sum ≤ 8) (hd : decode P.1.1 pc = .ok (.invokestatic idx, 3)) (hf : k + rm.cells ≤ P.2.1.1.cells ∧ n + rm.slots ≤ P.2.1.1.slots)
    (h : ∀ (v : Option Value) (w' : pW), post (.inl v) w' → J P (pc + 3) lv (v.toList ++ st) w' (k + rm.cells) (n + rm.slots)) : J P pc lv stk w k n := by
  intro p l e s m args below meth c H locs G b ls F hP hD hS hl
  have hfw := j_fw (As := As) F hP hD hS
  obtain ⟨hx, hb, hml, hown, hts, hr, hlk, hnm, htb, hK, hBg, hst2, hbs, hX⟩ := id F
  refine j_back F hS hl (va_runS (As := As) (rest := st) ⟨hx, hb, hml, hown, hts⟩ (hM.met hnx G b hst2) (va_cwS na hts g hwc rfl rfl hd0 hR) ⟨fw_blind, hfw⟩ rfl hna hl.1 hst (lv_room hcat) hd hf) h
theorem j_callI (hM : Ct y ws rm (.ref b0 :: As) w post) (hnx : ∀ E w', ¬ post (.inr E) w') (g : GoodIn P.1.2.2.2 ws) (hwc : ws = Cond.code y bytes maxL none :: ws') (h1 : Cond.initialized y.cls ∈ P.1.2.2.2) (h2 : Cond.methodLink P.1.2.1 idx y ∈ P.1.2.2.2) (h3 : Cond.instanceMethod y ∈ P.1.2.2.2) (h4 : y.name = "<init>")
    (hd0 : y.cls ≠ "java/lang/invoke/MethodHandle" ∧ y.cls ≠ "java/lang/invoke/VarHandle" ∧ (parseMethodDescriptor y.desc).map (fun d => d.parameters.length) = some na) (hna : As.length = na) (hR : rm.frames + 1 ≤ P.2.1.1.frames ∧ 8 + (maxL + 11) + rm.locals ≤ P.2.1.1.locals) (hst : stk = As.reverse ++ .ref b0 :: st) (hcat : (st.map fun v => v.category).sum ≤ 8) (hd : decode P.1.1 pc = .ok (.invokespecial idx, 3)) (hf : k + rm.cells ≤ P.2.1.1.cells ∧ n + rm.slots ≤ P.2.1.1.slots)
    (h : ∀ (v : Option Value) (w' : pW), post (.inl v) w' → J P (pc + 3) lv (v.toList ++ st) w' (k + rm.cells) (n + rm.slots)) : J P pc lv stk w k n := by
  intro p l e s m args below meth c H locs G b ls F hP hD hS hl
  have hfw := j_fw (As := .ref b0 :: As) F hP hD hS
  obtain ⟨hx, hb, hml, hown, hts, hr, hlk, hnm, htb, hK, hBg, hst2, hbs, hX⟩ := id F
  refine j_back F hS hl (va_runI (As := As) (rest := st) ⟨hx, hb, hml, hown, hts⟩ (hM.met hnx G b hst2) (cwI na hts g hwc rfl rfl (hts _ h1) (hts _ h2) (hts _ h3) h4 hd0 hR) ⟨fw_blind, hfw⟩ rfl hna hl.1 hst (lv_room hcat) hd hf) h
theorem j_callIN (hM : Ct y ws rm (.ref b0 :: As) w post) (hnx : ∀ E w', ¬ post (.inr E) w') (g : GoodIn P.1.2.2.2 ws) (hwc : ws = Cond.code y bytes maxL none :: ws') (h1 : Cond.initialized y.cls ∈ P.1.2.2.2) (h2 : (P.1.2.1, idx, y) ∈ bgNest) (h3 : Cond.instanceMethod y ∈ P.1.2.2.2) (h4 : y.name = "<init>")
    (hd0 : y.cls ≠ "java/lang/invoke/MethodHandle" ∧ y.cls ≠ "java/lang/invoke/VarHandle" ∧ (parseMethodDescriptor y.desc).map (fun d => d.parameters.length) = some na) (hna : As.length = na) (hR : rm.frames + 1 ≤ P.2.1.1.frames ∧ 8 + (maxL + 11) + rm.locals ≤ P.2.1.1.locals) (hst : stk = As.reverse ++ .ref b0 :: st) (hcat : (st.map fun v => v.category).sum ≤ 8) (hd : decode P.1.1 pc = .ok (.invokespecial idx, 3)) (hf : k + rm.cells ≤ P.2.1.1.cells ∧ n + rm.slots ≤ P.2.1.1.slots)
    (h : ∀ (v : Option Value) (w' : pW), post (.inl v) w' → J P (pc + 3) lv (v.toList ++ st) w' (k + rm.cells) (n + rm.slots)) : J P pc lv stk w k n := by
  intro p l e s m args below meth c H locs G b ls F hP hD hS hl
  have hfw := j_fw (As := .ref b0 :: As) F hP hD hS
  obtain ⟨hx, hb, hml, hown, hts, hr, hlk, hnm, htb, hK, hBg, hst2, hbs, hX⟩ := id F
  have hnest := hBg.2.2.2.2.2.2.1 _ h2
  refine j_back F hS hl (va_runIN (As := As) (rest := st) ⟨hx, hb, hml, hown, hts⟩ (hM.met hnx G b hst2) ⟨va_cnB na hts g hwc rfl rfl hnest (hts _ h1) hd0 hR, h4, hts _ h3⟩ ⟨fw_blind, hfw⟩ rfl hna hl.1 hst (lv_room hcat) hd hf) h
theorem j_min {x z : Int32} (h1 : Cond.methodLink P.1.2.1 idx Lib.Math.min.name ∈ P.1.2.2.2) (h2 : Cond.static Lib.Math.min.name ∈ P.1.2.2.2) (h3 : Cond.initialized "java/lang/Math" ∈ P.1.2.2.2) (h4 : Cond.code Lib.Math.min.name Lib.Math.min.code 2 (some .int) ∈ P.1.2.2.2) (hf : 1 ≤ P.2.1.1.frames) (hlo : (st.map fun v => v.category).sum + 13 ≤ P.2.1.1.locals) (hk : k ≤ P.2.1.1.cells ∧ n ≤ P.2.1.1.slots) (hd : decode P.1.1 pc = .ok (.invokestatic idx, 3))
    (h : J P (pc + 3) lv (.int (if z < x then z else x) :: st) w k n) : J P pc lv (.int z :: .int x :: st) w k n := by
  intro p l e s m args below meth c H locs G b ls F hP hD hS hl
  obtain ⟨hx, hb, hml, hown, hts, hr, hlk, hnm, htb, hK, hBg, hst2, hbs, hX⟩ := id F
  exact va_mmin hx hb (hml.trans hl.1.symm) hown (hts _ h1) (hts _ h2) (hts _ h3) (hts _ h4) hf hlo hk.1 hk.2 hd (h p l e s m args below meth c H locs G b ls F hP hD hS hl)
end JC
section JN
theorem j_icmp_eqN {P : JP} {pc : Nat} {lv : List (Nat × Value)} {st : List Value} {w : pW} {k n : Nat} {a b : Nat} {off : Int} (tgt : Nat) (ha : a < 2 ^ 31) (hb : b < 2 ^ 31) (hd : decode P.1.1 pc = .ok (.if_icmp .eq off, 3)) (ht : (pc : Int) + off = (tgt : Int)) (ht1 : a = b → J P tgt lv st w k n) (hf1 : a ≠ b → J P (pc + 3) lv st w k n) : J P pc lv (.int (nI b) :: .int (nI a) :: st) w k n := j_icmp_eq tgt hd ht (fun q => ht1 ((nI_eq ha hb).mp q)) (fun q => hf1 (fun z => q ((nI_eq ha hb).mpr z)))
theorem j_icmp_neN {P : JP} {pc : Nat} {lv : List (Nat × Value)} {st : List Value} {w : pW} {k n : Nat} {a b : Nat} {off : Int} (tgt : Nat) (ha : a < 2 ^ 31) (hb : b < 2 ^ 31) (hd : decode P.1.1 pc = .ok (.if_icmp .ne off, 3)) (ht : (pc : Int) + off = (tgt : Int)) (ht1 : a ≠ b → J P tgt lv st w k n) (hf1 : a = b → J P (pc + 3) lv st w k n) : J P pc lv (.int (nI b) :: .int (nI a) :: st) w k n := j_icmp_ne tgt hd ht (fun q => ht1 (fun z => q ((nI_eq ha hb).mpr z))) (fun q => hf1 ((nI_eq ha hb).mp q))
theorem j_icmp_ltN {P : JP} {pc : Nat} {lv : List (Nat × Value)} {st : List Value} {w : pW} {k n : Nat} {a b : Nat} {off : Int} (tgt : Nat) (ha : a < 2 ^ 31) (hb : b < 2 ^ 31) (hd : decode P.1.1 pc = .ok (.if_icmp .lt off, 3)) (ht : (pc : Int) + off = (tgt : Int)) (ht1 : a < b → J P tgt lv st w k n) (hf1 : b ≤ a → J P (pc + 3) lv st w k n) : J P pc lv (.int (nI b) :: .int (nI a) :: st) w k n := j_icmp_lt tgt hd ht (fun q => ht1 ((nI_ltI ha hb).mp q)) (fun q => hf1 (Nat.not_lt.mp (fun z => q ((nI_ltI ha hb).mpr z))))
theorem j_icmp_geN {P : JP} {pc : Nat} {lv : List (Nat × Value)} {st : List Value} {w : pW} {k n : Nat} {a b : Nat} {off : Int} (tgt : Nat) (ha : a < 2 ^ 31) (hb : b < 2 ^ 31) (hd : decode P.1.1 pc = .ok (.if_icmp .ge off, 3)) (ht : (pc : Int) + off = (tgt : Int)) (ht1 : b ≤ a → J P tgt lv st w k n) (hf1 : a < b → J P (pc + 3) lv st w k n) : J P pc lv (.int (nI b) :: .int (nI a) :: st) w k n := j_icmp_ge tgt hd ht (fun q => ht1 ((nI_leI hb ha).mp q)) (fun q => hf1 (Nat.not_le.mp (fun z => q ((nI_leI hb ha).mpr z))))
theorem j_icmp_gtN {P : JP} {pc : Nat} {lv : List (Nat × Value)} {st : List Value} {w : pW} {k n : Nat} {a b : Nat} {off : Int} (tgt : Nat) (ha : a < 2 ^ 31) (hb : b < 2 ^ 31) (hd : decode P.1.1 pc = .ok (.if_icmp .gt off, 3)) (ht : (pc : Int) + off = (tgt : Int)) (ht1 : b < a → J P tgt lv st w k n) (hf1 : a ≤ b → J P (pc + 3) lv st w k n) : J P pc lv (.int (nI b) :: .int (nI a) :: st) w k n := j_icmp_gt tgt hd ht (fun q => ht1 ((nI_ltI hb ha).mp q)) (fun q => hf1 (Nat.not_lt.mp (fun z => q ((nI_ltI hb ha).mpr z))))
theorem j_icmp_leN {P : JP} {pc : Nat} {lv : List (Nat × Value)} {st : List Value} {w : pW} {k n : Nat} {a b : Nat} {off : Int} (tgt : Nat) (ha : a < 2 ^ 31) (hb : b < 2 ^ 31) (hd : decode P.1.1 pc = .ok (.if_icmp .le off, 3)) (ht : (pc : Int) + off = (tgt : Int)) (ht1 : a ≤ b → J P tgt lv st w k n) (hf1 : b < a → J P (pc + 3) lv st w k n) : J P pc lv (.int (nI b) :: .int (nI a) :: st) w k n := j_icmp_le tgt hd ht (fun q => ht1 ((nI_leI ha hb).mp q)) (fun q => hf1 (Nat.not_le.mp (fun z => q ((nI_leI ha hb).mpr z))))
theorem j_if_eqN {P : JP} {pc : Nat} {lv : List (Nat × Value)} {st : List Value} {w : pW} {k n : Nat} {a : Nat} {off : Int} (tgt : Nat) (ha : a < 2 ^ 31) (hd : decode P.1.1 pc = .ok (.ifCond .eq off, 3)) (ht : (pc : Int) + off = (tgt : Int)) (ht1 : a = 0 → J P tgt lv st w k n) (hf1 : a ≠ 0 → J P (pc + 3) lv st w k n) : J P pc lv (.int (nI a) :: st) w k n := j_if_eq tgt hd ht (fun q => ht1 ((nI_eq (b := 0) ha (by decide)).mp (q.trans nI_0.symm))) (fun q => hf1 (fun z => q (((nI_eq (b := 0) ha (by decide)).mpr z).trans nI_0)))
theorem j_if_neN {P : JP} {pc : Nat} {lv : List (Nat × Value)} {st : List Value} {w : pW} {k n : Nat} {a : Nat} {off : Int} (tgt : Nat) (ha : a < 2 ^ 31) (hd : decode P.1.1 pc = .ok (.ifCond .ne off, 3)) (ht : (pc : Int) + off = (tgt : Int)) (ht1 : a ≠ 0 → J P tgt lv st w k n) (hf1 : a = 0 → J P (pc + 3) lv st w k n) : J P pc lv (.int (nI a) :: st) w k n := j_if_ne tgt hd ht (fun q => ht1 (fun z => q (((nI_eq (b := 0) ha (by decide)).mpr z).trans nI_0))) (fun q => hf1 ((nI_eq (b := 0) ha (by decide)).mp (q.trans nI_0.symm)))
theorem j_if_gtN {P : JP} {pc : Nat} {lv : List (Nat × Value)} {st : List Value} {w : pW} {k n : Nat} {a : Nat} {off : Int} (tgt : Nat) (ha : a < 2 ^ 31) (hd : decode P.1.1 pc = .ok (.ifCond .gt off, 3)) (ht : (pc : Int) + off = (tgt : Int)) (ht1 : 0 < a → J P tgt lv st w k n) (hf1 : a = 0 → J P (pc + 3) lv st w k n) : J P pc lv (.int (nI a) :: st) w k n := j_if_gt tgt hd ht (fun q => ht1 ((nI_ltI (a := 0) (by decide) ha).mp (by rw [nI_0]; exact q))) (fun q => hf1 (Nat.eq_zero_of_not_pos (fun z => q (by have z2 := (nI_ltI (a := 0) (by decide) ha).mpr z; rw [nI_0] at z2; exact z2))))
theorem j_if_leN {P : JP} {pc : Nat} {lv : List (Nat × Value)} {st : List Value} {w : pW} {k n : Nat} {a : Nat} {off : Int} (tgt : Nat) (ha : a < 2 ^ 31) (hd : decode P.1.1 pc = .ok (.ifCond .le off, 3)) (ht : (pc : Int) + off = (tgt : Int)) (ht1 : a = 0 → J P tgt lv st w k n) (hf1 : 0 < a → J P (pc + 3) lv st w k n) : J P pc lv (.int (nI a) :: st) w k n := j_if_le tgt hd ht (fun q => ht1 (Nat.eq_zero_of_le_zero ((nI_leI (b := 0) ha (by decide)).mp (by rw [nI_0]; exact q)))) (fun q => hf1 (Nat.pos_of_ne_zero (fun z => q (by rw [z, nI_0]; exact Int32.le_refl 0))))
theorem j_if_ltN {P : JP} {pc : Nat} {lv : List (Nat × Value)} {st : List Value} {w : pW} {k n : Nat} {a : Nat} {off : Int} {tgt : Nat} (ha : a < 2 ^ 31) (hd : decode P.1.1 pc = .ok (.ifCond .lt off, 3)) (ht : (pc : Int) + off = (tgt : Int)) (h : J P (pc + 3) lv st w k n) : J P pc lv (.int (nI a) :: st) w k n := j_if_lt tgt hd ht (fun q => absurd q (nI_pos ha)) (fun _ => h)
theorem j_if_geN {P : JP} {pc : Nat} {lv : List (Nat × Value)} {st : List Value} {w : pW} {k n : Nat} {a : Nat} {off : Int} (tgt : Nat) (ha : a < 2 ^ 31) (hd : decode P.1.1 pc = .ok (.ifCond .ge off, 3)) (ht : (pc : Int) + off = (tgt : Int)) (h : J P tgt lv st w k n) : J P pc lv (.int (nI a) :: st) w k n := j_if_ge tgt hd ht (fun _ => h) (fun q => absurd (nI_pos' ha) q)
theorem j_iaddN {P : JP} {pc : Nat} {lv : List (Nat × Value)} {st : List Value} {w : pW} {k n : Nat} {a b : Nat} (hd : decode P.1.1 pc = .ok (.iadd, 1)) (h : J P (pc + 1) lv (.int (nI (a + b)) :: st) w k n) : J P pc lv (.int (nI b) :: .int (nI a) :: st) w k n := j_iadd hd (by rw [nI_add]; exact h)
theorem j_imulN {P : JP} {pc : Nat} {lv : List (Nat × Value)} {st : List Value} {w : pW} {k n : Nat} {a b : Nat} (hd : decode P.1.1 pc = .ok (.imul, 1)) (h : J P (pc + 1) lv (.int (nI (a * b)) :: st) w k n) : J P pc lv (.int (nI b) :: .int (nI a) :: st) w k n := j_imul hd (by rw [pk_mul]; exact h)
theorem j_isubN {P : JP} {pc : Nat} {lv : List (Nat × Value)} {st : List Value} {w : pW} {k n : Nat} {a b : Nat} (hba : b ≤ a) (hd : decode P.1.1 pc = .ok (.isub, 1)) (h : J P (pc + 1) lv (.int (nI (a - b)) :: st) w k n) : J P pc lv (.int (nI b) :: .int (nI a) :: st) w k n := j_isub hd (by rw [pk_sub hba]; exact h)
theorem j_ialdN {P : JP} {pc : Nat} {lv : List (Nat × Value)} {st : List Value} {w : pW} {k n : Nat} {a N j : Nat} {f : Nat → Int32} {i : Int32} (hw : w a = some (.inl (0, N, .inl f))) (hi : i = nI j) (hj : j < N) (hN : N ≤ 100000) (hd : decode P.1.1 pc = .ok (.iaload, 1)) (h : J P (pc + 1) lv (.int (f j) :: st) w k n) : J P pc lv (.int i :: .ref a :: st) w k n := by
  have e1 : i.toNatClampNeg = j := by rw [hi]; exact nI_clamp (by omega)
  have hin : vp_in i N := by rw [hi]; exact vp_in_nI hj (by omega)
  exact j_iald hw hin hd (by rw [e1]; exact h)
theorem j_baldN {P : JP} {pc : Nat} {lv : List (Nat × Value)} {st : List Value} {w : pW} {k n : Nat} {a N j : Nat} {f : Nat → Int32} {i : Int32} (hw : w a = some (.inl (1, N, .inl f))) (hi : i = nI j) (hj : j < N) (hN : N ≤ 100000) (hd : decode P.1.1 pc = .ok (.baload, 1)) (h : J P (pc + 1) lv (.int (f j) :: st) w k n) : J P pc lv (.int i :: .ref a :: st) w k n := by
  have e1 : i.toNatClampNeg = j := by rw [hi]; exact nI_clamp (by omega)
  have hin : vp_in i N := by rw [hi]; exact vp_in_nI hj (by omega)
  exact j_bald hw hin hd (by rw [e1]; exact h)
theorem j_zaldN {P : JP} {pc : Nat} {lv : List (Nat × Value)} {st : List Value} {w : pW} {k n : Nat} {a N j : Nat} {f : Nat → Int32} {i : Int32} (hw : w a = some (.inl (2, N, .inl f))) (hi : i = nI j) (hj : j < N) (hN : N ≤ 100000) (hd : decode P.1.1 pc = .ok (.baload, 1)) (h : J P (pc + 1) lv (.int (f j) :: st) w k n) : J P pc lv (.int i :: .ref a :: st) w k n := by
  have e1 : i.toNatClampNeg = j := by rw [hi]; exact nI_clamp (by omega)
  have hin : vp_in i N := by rw [hi]; exact vp_in_nI hj (by omega)
  exact j_zald hw hin hd (by rw [e1]; exact h)
theorem j_laldN {P : JP} {pc : Nat} {lv : List (Nat × Value)} {st : List Value} {w : pW} {k n : Nat} {a N j : Nat} {f : Nat → Int64} {i : Int32} (hw : w a = some (.inl (3, N, .inr (.inl f)))) (hi : i = nI j) (hj : j < N) (hN : N ≤ 100000) (hd : decode P.1.1 pc = .ok (.laload, 1)) (h : J P (pc + 1) lv (.long (f j) :: st) w k n) : J P pc lv (.int i :: .ref a :: st) w k n := by
  have e1 : i.toNatClampNeg = j := by rw [hi]; exact nI_clamp (by omega)
  have hin : vp_in i N := by rw [hi]; exact vp_in_nI hj (by omega)
  exact j_lald hw hin hd (by rw [e1]; exact h)
theorem j_aaldN {P : JP} {pc : Nat} {lv : List (Nat × Value)} {st : List Value} {w : pW} {k n : Nat} {a N j : Nat} {f : Nat → Option Nat} {i : Int32} (hw : w a = some (.inl (4, N, .inr (.inr (.inr (.inr f)))))) (hi : i = nI j) (hj : j < N) (hN : N ≤ 100000) (hd : decode P.1.1 pc = .ok (.aaload, 1)) (h : J P (pc + 1) lv (va_rf (f j) :: st) w k n) : J P pc lv (.int i :: .ref a :: st) w k n := by
  have e1 : i.toNatClampNeg = j := by rw [hi]; exact nI_clamp (by omega)
  have hin : vp_in i N := by rw [hi]; exact vp_in_nI hj (by omega)
  exact j_aald hw hin hd (by rw [e1]; exact h)
theorem j_iastN {P : JP} {pc : Nat} {lv : List (Nat × Value)} {st : List Value} {w : pW} {k n : Nat} {a N j : Nat} {f : Nat → Int32} {i x : Int32} (hw : w a = some (.inl (0, N, .inl f))) (hi : i = nI j) (hj : j < N) (hN : N ≤ 100000) (hd : decode P.1.1 pc = .ok (.iastore, 1)) (h : J P (pc + 1) lv st (va_up w a (some (.inl (0, N, .inl (upd f j x))))) k n) : J P pc lv (.int x :: .int i :: .ref a :: st) w k n := by
  have e1 : i.toNatClampNeg = j := by rw [hi]; exact nI_clamp (by omega)
  have hin : vp_in i N := by rw [hi]; exact vp_in_nI hj (by omega)
  exact j_iast hw hin hd (by rw [e1]; exact h)
theorem j_bastN {P : JP} {pc : Nat} {lv : List (Nat × Value)} {st : List Value} {w : pW} {k n : Nat} {a N j : Nat} {f : Nat → Int32} {i x : Int32} (hw : w a = some (.inl (1, N, .inl f))) (hi : i = nI j) (hj : j < N) (hN : N ≤ 100000) (hd : decode P.1.1 pc = .ok (.bastore, 1)) (h : J P (pc + 1) lv st (va_up w a (some (.inl (1, N, .inl (upd f j (vp_nar .byte x)))))) k n) : J P pc lv (.int x :: .int i :: .ref a :: st) w k n := by
  have e1 : i.toNatClampNeg = j := by rw [hi]; exact nI_clamp (by omega)
  have hin : vp_in i N := by rw [hi]; exact vp_in_nI hj (by omega)
  exact j_bast hw hin hd (by rw [e1]; exact h)
theorem j_zastN {P : JP} {pc : Nat} {lv : List (Nat × Value)} {st : List Value} {w : pW} {k n : Nat} {a N j : Nat} {f : Nat → Int32} {i x : Int32} (hw : w a = some (.inl (2, N, .inl f))) (hi : i = nI j) (hj : j < N) (hN : N ≤ 100000) (hx : x = 0 ∨ x = 1) (hd : decode P.1.1 pc = .ok (.bastore, 1)) (h : J P (pc + 1) lv st (va_up w a (some (.inl (2, N, .inl (upd f j x))))) k n) : J P pc lv (.int x :: .int i :: .ref a :: st) w k n := by
  have e1 : i.toNatClampNeg = j := by rw [hi]; exact nI_clamp (by omega)
  have hin : vp_in i N := by rw [hi]; exact vp_in_nI hj (by omega)
  have e2 : vp_nar .boolean x = x := by rcases hx with rfl | rfl <;> rfl
  exact j_zast hw hin hd (by rw [e1, e2]; exact h)
theorem j_lastN {P : JP} {pc : Nat} {lv : List (Nat × Value)} {st : List Value} {w : pW} {k n : Nat} {a N j : Nat} {f : Nat → Int64} {i : Int32} {x : Int64} (hw : w a = some (.inl (3, N, .inr (.inl f)))) (hi : i = nI j) (hj : j < N) (hN : N ≤ 100000) (hd : decode P.1.1 pc = .ok (.lastore, 1)) (h : J P (pc + 1) lv st (va_up w a (some (.inl (3, N, .inr (.inl (vp_updL f j x)))))) k n) : J P pc lv (.long x :: .int i :: .ref a :: st) w k n := by
  have e1 : i.toNatClampNeg = j := by rw [hi]; exact nI_clamp (by omega)
  have hin : vp_in i N := by rw [hi]; exact vp_in_nI hj (by omega)
  exact j_last hw hin hd (by rw [e1]; exact h)
theorem j_w {P : JP} {pc : Nat} {lv : List (Nat × Value)} {st : List Value} {w : pW} {k n : Nat} (h : ∀ w' : pW, w' = w → J P pc lv st w' k n) : J P pc lv st w k n := h w rfl
theorem j_lvE {P : JP} {pc : Nat} {lv : List (Nat × Value)} {st : List Value} {w : pW} {k n : Nat} {lv' : List (Nat × Value)} (hk : lv = lv') (h : J P pc lv' st w k n) : J P pc lv st w k n := by rw [hk]; exact h
theorem j_stE {P : JP} {pc : Nat} {lv : List (Nat × Value)} {st : List Value} {w : pW} {k n : Nat} {st' : List Value} (hk : st = st') (h : J P pc lv st' w k n) : J P pc lv st w k n := by rw [hk]; exact h
theorem up_at {w w1 : pW} {a : Nat} {e : Option pE} (h : w1 = va_up w a e) : w1 a = e := by rw [h]; exact va_up_self w a e
theorem up_ne {w w1 : pW} {a b : Nat} {e x : Option pE} (h : w1 = va_up w a e) (hn : b ≠ a) (hb : w b = x) : w1 b = x := by rw [h, va_up_ne w e hn]; exact hb
def pK (e : pE) : Nat := match e with
  | .inl a => 100 + a.1
  | .inr o => o.1
theorem fk {w : pW} {a b : Nat} {x y : pE} (ha : w a = some x) (hb : w b = some y) (h : (pK x == pK y) = false) : a ≠ b := by
  intro e
  subst e
  rw [ha] at hb
  cases hb
  simp at h
theorem fn {w : pW} {a b : Nat} {x : pE} (ha : w a = some x) (hb : w b = none) : a ≠ b := by
  intro e
  subst e
  rw [ha] at hb
  cases hb
/-- outside l the worlds are the same -/
def Fr (l : List Nat) (w w1 : pW) : Prop := ∀ x : Nat, x ∉ l → w1 x = w x
theorem Fr.refl {l : List Nat} {w : pW} : Fr l w w := fun _ _ => rfl
theorem Fr.trans {l : List Nat} {w w1 w2 : pW} (h1 : Fr l w w1) (h2 : Fr l w1 w2) : Fr l w w2 := fun x hx => (h2 x hx).trans (h1 x hx)
theorem Fr.up {l : List Nat} {w w1 : pW} {a : Nat} {e : Option pE} (h : w1 = va_up w a e) (ha : a ∈ l) : Fr l w w1 := fun x hx => by rw [h]; exact va_up_ne w e (fun q => hx (by rw [q]; exact ha))
theorem Fr.mono {l l' : List Nat} {w w1 : pW} (h : Fr l w w1) (hl : ∀ x ∈ l, x ∈ l') : Fr l' w w1 := fun x hx => h x (fun q => hx (hl x q))
theorem Fr.at {l : List Nat} {w w1 : pW} (h : Fr l w w1) {a : Nat} {x : Option pE} (ha : a ∉ l) (hx : w a = x) : w1 a = x := (h a ha).trans hx
end JN
/-- |x| -/
def ab (x : Int32) : Int32 := if 0 ≤ x then x else 0 - x
section JM
variable {P : JP} {pc : Nat} {lv : List (Nat × Value)} {st : List Value} {w : pW} {k n idx : Nat}
theorem j_after {st1 st' : List Value} {k' n' : Nat} (hs : st1 = st') (hk : k = k') (hn : n = n') (h : J P pc lv st' w k' n') : J P pc lv st1 w k n := by rw [hs, hk, hn]; exact h
theorem j_abs {x : Int32} (h1 : Cond.methodLink P.1.2.1 idx Lib.Math.abs.name ∈ P.1.2.2.2) (h2 : Cond.static Lib.Math.abs.name ∈ P.1.2.2.2) (h3 : Cond.initialized "java/lang/Math" ∈ P.1.2.2.2) (h4 : Cond.code Lib.Math.abs.name Lib.Math.abs.code 1 (some .int) ∈ P.1.2.2.2) (hf : 1 ≤ P.2.1.1.frames) (hlo : (st.map fun v => v.category).sum + 13 ≤ P.2.1.1.locals) (hk : k ≤ P.2.1.1.cells ∧ n ≤ P.2.1.1.slots) (hd : decode P.1.1 pc = .ok (.invokestatic idx, 3))
    (h : J P (pc + 3) lv (.int (ab x) :: st) w k n) : J P pc lv (.int x :: st) w k n := by
  intro p l e s m args below meth c H locs G b ls F hP hD hS hl
  obtain ⟨hx, hb, hml, hown, hts, hr, hlk, hnm, htb, hK, hBg, hst2, hbs, hX⟩ := id F
  exact va_mabs hx hb (hml.trans hl.1.symm) hown (hts _ h1) (hts _ h2) (hts _ h3) (hts _ h4) hf (by omega) hk.1 hk.2 hd (h p l e s m args below meth c H locs G b ls F hP hD hS hl)
end JM
section PU
/-- a truth value as an int -/
def zb (b : Bool) : Int32 := if b then 1 else 0
theorem zb_01 (b : Bool) : zb b = 0 ∨ zb b = 1 := by cases b <;> simp [zb]
theorem zb_t {b : Bool} (h : b = true) : zb b = 1 := by rw [h]; rfl
theorem zb_f {b : Bool} (h : b = false) : zb b = 0 := by rw [h]; rfl
theorem zb_0 {b : Bool} (h : zb b = 0) : b = false := by cases b with
  | false => rfl
  | true => exact absurd h (by decide)
theorem zb_n {b : Bool} (h : zb b ≠ 0) : b = true := by cases b with
  | true => rfl
  | false => exact absurd rfl h
theorem zb_n' {b : Bool} (h : ¬ zb b = 0) : b = true := zb_n h
theorem zb_nar (b : Bool) : narrow .boolean (.int (zb b)) = .int (zb b) := by cases b <;> rfl
/-- the first place from i on, among k, where q holds -/
def fstN (q : Nat → Bool) : Nat → Nat → Option Nat
  | 0, _ => none
  | k + 1, i => if q i then some i else fstN q k (i + 1)
theorem fstN_hit {q : Nat → Bool} {k i : Nat} (hk : 0 < k) (h : q i = true) : fstN q k i = some i := by
  cases k with
  | zero => omega
  | succ k => simp [fstN, h]
theorem fstN_miss {q : Nat → Bool} {e i : Nat} (hk : i < e) (h : q i = false) : fstN q (e - i) i = fstN q (e - (i + 1)) (i + 1) := by
  obtain ⟨k, hk'⟩ : ∃ k, e - i = k + 1 := ⟨e - i - 1, by omega⟩
  rw [hk', show e - (i + 1) = k by omega]
  simp [fstN, h]
theorem fstN_end {q : Nat → Bool} {e i : Nat} (h : e ≤ i) : fstN q (e - i) i = none := by
  rw [show e - i = 0 by omega]; rfl
theorem fstN_some {q : Nat → Bool} : ∀ {k i j : Nat}, fstN q k i = some j → i ≤ j ∧ j < i + k ∧ q j = true ∧ ∀ x, i ≤ x → x < j → q x = false
  | 0, i, j, h => by simp [fstN] at h
  | k + 1, i, j, h => by
    by_cases hq : q i = true
    · simp [fstN, hq] at h
      subst h
      exact ⟨Nat.le_refl _, by omega, hq, fun x h1 h2 => by omega⟩
    · have hq : q i = false := by simpa using hq
      simp [fstN, hq] at h
      obtain ⟨h1, h2, h3, h4⟩ := fstN_some h
      refine ⟨by omega, by omega, h3, fun x g1 g2 => ?_⟩
      by_cases hx : x = i
      · rw [hx]; exact hq
      · exact h4 x (by omega) g2
theorem fstN_none {q : Nat → Bool} : ∀ {k i : Nat}, fstN q k i = none → ∀ x, i ≤ x → x < i + k → q x = false
  | 0, i, h => fun x h1 h2 => by omega
  | k + 1, i, h => fun x h1 h2 => by
    by_cases hq : q i = true
    · simp [fstN, hq] at h
    · have hq : q i = false := by simpa using hq
      simp [fstN, hq] at h
      by_cases hx : x = i
      · rw [hx]; exact hq
      · exact fstN_none h x (by omega) (by omega)
/-- a place, or -1 -/
def on1 (r : Option Nat) : Int32 := match r with
  | some j => nI j
  | none => -1
theorem sh4 {i : Nat} (h : i < 5) : nI 1 <<< (nI i &&& 31) = nI (2 ^ i) := by
  rcases (show i = 0 ∨ i = 1 ∨ i = 2 ∨ i = 3 ∨ i = 4 by omega) with rfl | rfl | rfl | rfl | rfl <;> decide
theorem nI_1' : nI 1 = 1 := rfl
theorem nI_ne {a b : Nat} (ha : a < 2 ^ 31) (hb : b < 2 ^ 31) (h : a ≠ b) : nI a ≠ nI b := fun q => h ((nI_eq ha hb).mp q)
end PU
section JT
variable {P : JP} {pc : Nat} {lv : List (Nat × Value)} {st : List Value} {w : pW} {k n : Nat}
/-- b ? 1 : 0 -/
theorem j_ztern {b : Bool} {o1 o2 : Int} (t0 t1 : Nat) (h1 : decode P.1.1 pc = .ok (.ifCond .eq o1, 3)) (e1 : (pc : Int) + o1 = (t0 : Int)) (h2 : decode P.1.1 (pc + 3) = .ok (.iconst 1, 1)) (h3 : decode P.1.1 (pc + 3 + 1) = .ok (.goto o2, 3)) (e2 : ((pc + 3 + 1 : Nat) : Int) + o2 = (t1 : Int)) (h4 : decode P.1.1 t0 = .ok (.iconst 0, 1)) (e3 : t0 + 1 = t1) (h : J P t1 lv (.int (zb b) :: st) w k n) : J P pc lv (.int (zb b) :: st) w k n := by
  refine j_if_eq t0 h1 e1 (fun c => ?_) (fun c => ?_)
  · have hb := zb_0 c
    subst hb
    refine j_iconst (v := 0) h4 (by decide) ?_
    rw [e3]; exact h
  · have hb := zb_n' c
    subst hb
    refine j_iconst (v := 1) h2 (by decide) ?_
    exact j_goto t1 h3 e2 h
end JT
section JV
theorem mnN {a b : Nat} (ha : a < 2 ^ 31) (hb : b < 2 ^ 31) : (if nI b < nI a then nI b else nI a) = nI (min a b) := by
  by_cases h : b < a
  · rw [if_pos (nI_lt h ha), Nat.min_eq_right (by omega)]
  · rw [if_neg (nI_nlt (by omega) hb), Nat.min_eq_left (by omega)]
/-- 2 to a place, or 0 -/
def r2 (r : Option Nat) : Nat := match r with
  | some i => 2 ^ i
  | none => 0
end JV
section JW
variable {P : JP} {pc : Nat} {lv : List (Nat × Value)} {st : List Value} {w : pW} {k n : Nat}
theorem up_nI (d : Nat → Nat) (j x : Nat) : upd (fun j9 => nI (d j9)) j (nI x) = fun j9 => nI (va_up d j x j9) := by
  funext q
  by_cases h : q = j
  · subst h; rw [pk_us, va_up_self]
  · rw [pk_un h, va_up_ne _ _ h]
theorem j_iastn {a N j x : Nat} {d : Nat → Nat} {i : Int32} (hw : w a = some (.inl (0, N, .inl (fun j9 => nI (d j9))))) (hi : i = nI j) (hj : j < N) (hN : N ≤ 100000) (hd : decode P.1.1 pc = .ok (.iastore, 1)) (h : J P (pc + 1) lv st (va_up w a (some (.inl (0, N, .inl (fun j9 => nI (va_up d j x j9)))))) k n) : J P pc lv (.int (nI x) :: .int i :: .ref a :: st) w k n := j_iastN hw hi hj hN hd (by rw [up_nI]; exact h)
theorem up_same {w : pW} {a : Nat} {e : pE} (h : w a = some e) : va_up w a (some e) = w := by
  funext x
  by_cases hx : x = a
  · subst hx; rw [va_up_self]; exact h.symm
  · exact va_up_ne _ _ hx
theorem up_sw {w : pW} {a b : Nat} {x y : Option pE} (h : a ≠ b) : va_up (va_up w a x) b y = va_up (va_up w b y) a x := by
  funext q
  by_cases h1 : q = b
  · subst h1; rw [va_up_self, va_up_ne _ _ (Ne.symm h), va_up_self]
  · rw [va_up_ne _ _ h1]
    by_cases h2 : q = a
    · subst h2; rw [va_up_self, va_up_self]
    · rw [va_up_ne _ _ h2, va_up_ne _ _ h2, va_up_ne _ _ h1]
end JW
/-- a walk that owes less than another -/
theorem J.post {A : ByteArray × String × Nat × List Cond} {B : Room × Option FieldType × String × List (Nat × Nat × Nat × Nat)} {Q1 Q2 : pO → pW → Prop} {X : Nat → Array Value → State → Prop} {pc : Nat} {lv : List (Nat × Value)} {st : List Value} {w : pW} {k n : Nat} (hq : ∀ o w', Q1 o w' → Q2 o w') (h : J (A, B, Q1, X) pc lv st w k n) : J (A, B, Q2, X) pc lv st w k n := by
  intro p l e s m args below meth c H locs G b ls F hP hD hS hl T hT XX
  obtain ⟨t, a1, o, b1, b2, b3⟩ := h p l e s m args below meth c H locs G b ls F hP hD hS hl T hT XX
  refine ⟨t, a1, o, b1, b2, ?_⟩
  rcases b3 with ⟨⟨⟨v, w', q1, q2, q3, q4⟩, q5⟩, q6⟩ | ⟨q, q1, E, ce, L, ⟨w', hw', q3⟩, q4⟩
  · exact Or.inl ⟨⟨⟨v, w', q1, hq _ _ q2, q3, q4⟩, q5⟩, q6⟩
  · exact Or.inr ⟨q, q1, E, ce, L, ⟨w', hq _ _ hw', q3⟩, q4⟩
