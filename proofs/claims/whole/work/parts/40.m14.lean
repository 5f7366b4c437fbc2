section IN
def Lv (w : pW) (l : List Nat) : Prop := l.Nodup ∧ ∀ x ∈ l, w x ≠ none
def KS (mm : Nat) (w w1 : pW) : Prop := ∀ (x : Nat) (c : pE), x ≠ mm → w x = some c → w1 x = some c
def RWs (w : pW) (r : Nat → Nat) (l : List Nat) : Prop := ∀ i, i < 401 → r i ∉ l ∧ w (r i) = some (.inl (0, 1600, .inl (fun _ => 0)))
section
variable {w w1 w2 : pW} {a q mm : Nat} {l : List Nat} {c : pE} {e : Option pE} {r : Nat → Nat}
theorem Lv.up (h : Lv w l) (h1 : w1 = va_up w a (some c)) : Lv w1 l := by
  refine ⟨h.1, fun x hx => ?_⟩
  rw [h1]
  by_cases q : x = a
  · subst q; rw [va_up_self]; exact fun z => nomatch z
  · rw [va_up_ne _ _ q]; exact h.2 x hx
theorem Lv.out (h : Lv w l) (hq : w q = none) : q ∉ l := fun hx => h.2 q hx hq
theorem Lv.born (h : Lv w l) (hq : w q = none) (h1 : w1 = va_up w q (some c)) : Lv w1 (q :: l) := by
  refine ⟨List.nodup_cons.mpr ⟨h.out hq, h.1⟩, fun x hx => ?_⟩
  rw [h1]
  by_cases z : x = q
  · subst z; rw [va_up_self]; exact fun z => nomatch z
  · rw [va_up_ne _ _ z]
    rcases List.mem_cons.mp hx with y | y
    · exact absurd y z
    · exact h.2 x y
theorem Lv.mna (h : Lv w l) (hq : w q = none) (hk : ∀ x c, w x = some c → w1 x = some c) (h1 : w1 q = some c) : Lv w1 (q :: l) := by
  refine ⟨List.nodup_cons.mpr ⟨h.out hq, h.1⟩, fun x hx => ?_⟩
  rcases List.mem_cons.mp hx with y | y
  · subst y; rw [h1]; exact fun z => nomatch z
  · cases hw : w x with
    | none => exact absurd hw (h.2 x y)
    | some e => rw [hk x e hw]; exact fun z => nomatch z
theorem KS.refl : KS mm w w := fun _ _ _ h => h
theorem KS.up (h : KS mm w w1) (h1 : w2 = va_up w1 mm e) : KS mm w w2 := fun x c hx hc => by rw [h1, va_up_ne _ _ hx]; exact h x c hx hc
theorem KS.fresh (h : KS mm w w1) (ha : w a = none) (h1 : w2 = va_up w1 a e) : KS mm w w2 := fun x c hx hc => by
  rw [h1, va_up_ne _ _ (fun q => by rw [q, ha] at hc; cases hc)]
  exact h x c hx hc
theorem KS.none (h : KS mm w w1) (hq : w1 q = none) (hm : w1 mm ≠ none) : w q = none := by
  cases hw : w q with
  | none => rfl
  | some c =>
    by_cases z : q = mm
    · rw [z] at hq; exact absurd hq hm
    · rw [h q c z hw] at hq; cases hq
theorem RWs.up (h : RWs w r l) (h1 : w1 = va_up w a e) (ha : a ∈ l) : RWs w1 r l := fun i hi => ⟨(h i hi).1, by
  rw [h1, va_up_ne _ _ (fun q => (h i hi).1 (by rw [q]; exact ha))]
  exact (h i hi).2⟩
theorem RWs.born (h : RWs w r l) (hq : w q = none) (h1 : w1 = va_up w q (some c)) : RWs w1 r (q :: l) := fun i hi => by
  have hne : r i ≠ q := fun z => by have := (h i hi).2; rw [z, hq] at this; cases this
  refine ⟨fun z => ?_, ?_⟩
  · rcases List.mem_cons.mp z with y | y
    · exact hne y
    · exact (h i hi).1 y
  · rw [h1, va_up_ne _ _ hne]; exact (h i hi).2
end
def isRr : List Nat := [42, 41, 40, 39, 38, 37, 36, 35, 20, 19, 18, 17, 16, 15, 14, 13, 12, 11, 10, 1]
theorem isR_mem {i : Nat} (h : isR i = true) : i ∈ isRr := by
  have h1 : i ∈ [1, 10, 11, 12, 13, 14, 15, 16, 17, 18, 19, 20, 35, 36, 37, 38, 39, 40, 41, 42] := by unfold isR at h; simpa using h
  have h2 : ∀ j ∈ [1, 10, 11, 12, 13, 14, 15, 16, 17, 18, 19, 20, 35, 36, 37, 38, 39, 40, 41, 42], j ∈ isRr := by decide
  exact h2 i h1
theorem isR_all {p : Nat → Prop} (h : ∀ i ∈ isRr, p i) : ∀ i, isR i = true → p i := fun i hi => h i (isR_mem hi)
/-- the addresses as a function of the field -/
def AL (l : List Nat) (i : Nat) : Nat := l.getD (isRr.idxOf i) 0
theorem AL_AD {l : List Nat} {mm : Nat} (hn : l.Nodup) (hl : l.length = 21) (hm : l[20]? = some mm) : AD (AL l) mm := by
  have h1 : ∀ i ∈ isRr, isRr.idxOf i < 20 := by decide
  have h2 : ∀ i ∈ isRr, ∀ j ∈ isRr, isRr.idxOf i = isRr.idxOf j → i = j := by decide +kernel
  have hg : ∀ i ∈ isRr, l[isRr.idxOf i]? = some (AL l i) := fun i hi => by
    have := h1 i hi
    unfold AL
    rw [List.getD_eq_getElem?_getD, List.getElem?_eq_getElem (by omega)]
    rfl
  refine ⟨fun i j hi hj he => ?_, fun i hi he => ?_⟩
  · have hi := isR_mem hi
    have hj := isR_mem hj
    have e1 := (hg i hi).trans ((congrArg some he).trans (hg j hj).symm)
    have := h1 i hi
    exact h2 i hi j hj ((List.getElem?_inj (by omega) hn).mp e1)
  · have hi := isR_mem hi
    have e1 := (hg i hi).trans ((congrArg some he).trans hm.symm)
    have := h1 i hi
    have := (List.getElem?_inj (show isRr.idxOf i < l.length by omega) hn).mp e1
    omega
theorem AL_mem {l : List Nat} (hl : l.length = 21) {i : Nat} (hi : isR i = true) : AL l i ∈ l := by
  have h1 : ∀ i ∈ isRr, isRr.idxOf i < 20 := by decide
  have := h1 i (isR_mem hi)
  unfold AL
  rw [List.getD_eq_getElem?_getD, List.getElem?_eq_getElem (by omega)]
  exact List.getElem_mem _
theorem ln_set {fs fs9 : List Value} {k : Nat} {v : Value} (h : fs.set k v = fs9) (hl : fs.length = 45) : fs9.length = 45 := by subst h; rw [List.length_set]; exact hl
theorem st_at' {fs fs9 : List Value} {k : Nat} {v : Value} (h : fs.set k v = fs9) (hl : fs.length = 45) (hk : k < 45) : fs9[k]? = some v := by
  subst h
  exact List.getElem?_set_self (by rw [hl]; exact hk)
section
variable {P : JP} {pc : Nat} {lv : List (Nat × Value)} {st : List Value} {w : pW} {k n : Nat}
theorem j_putMF {a idx ci kf : Nat} {fs : List Value} {ty : FieldType} {v : Value} (f : FS P.1.2.2.2 P.1.2.1 idx ci kf true ty) (hw : w a = some (.inr (ci, fs))) (hi : P.2.1.2.2.1 = "<init>") (ho : ∀ C T N, vwCl[ci]? = some (C, T, N) → C = P.1.2.1) (hn : narrow ty v = v) (hfit : fits ty v = true) (hlen : kf < fs.length) (hd : decode P.1.1 pc = .ok (.putfield idx, 3)) (h : ∀ (w1 : pW) (fs9 : List Value), fs.set kf v = fs9 → w1 = va_up w a (some (.inr (ci, fs9))) → J P (pc + 3) lv st w1 k n) : J P pc lv (v :: .ref a :: st) w k n := j_putF f hw hi ho hn hfit hlen rfl hd (h _ _ rfl rfl)
end
end IN
/-- the fields of a new model -/
def fs00 : List Value := [.int (nI 0), .null, .int (nI 0), .int (nI 0), .int (nI 0), .int (nI 0), .int (nI 0), .int (nI 0), .int (nI 0), .int (nI 0), .null, .null, .null, .null, .null, .null, .null, .null, .null, .null, .null, .int (nI 0), .int (nI 0), .int (nI 0), .int (nI 0), .int (nI 0), .int (nI 0), .int (nI 0), .int (nI 0), .int (nI 0), .int (nI 0), .int (nI 0), .int (nI 0), .int (nI 0), .int (nI 0), .null, .null, .null, .null, .null, .null, .null, .null, .int (nI 0), .int (nI 0)]
abbrev rX6_init : Room := { frames := 1, cells := 421, slots := 651707, locals := 24 }
theorem nd_in {l : List Nat} (h : l.Nodup) (i j : Nat) {a b : Nat} (hi : l[i]? = some a) (hj : l[j]? = some b) (hij : (i == j) = false) : a ≠ b := fun e => by
  subst e
  have := (List.getElem?_inj (List.getElem?_eq_some_iff.mp hi).1 h).mp (hi.trans hj.symm)
  simp [this] at hij
set_option maxRecDepth 100000 in
theorem mX6_init_0 : Cond.methodLink RX6 1 objectInit ∈ wsX6_init := by decide +kernel
set_option maxRecDepth 100000 in
theorem mX6_init_1 : Cond.instanceMethod objectInit ∈ wsX6_init := by decide +kernel
set_option maxRecDepth 100000 in
theorem mX6_init_2 : Cond.code objectInit ⟨#[0xb1]⟩ 1 none ∈ wsX6_init := by decide +kernel
set_option maxRecDepth 100000 in
theorem mX6_init_3 : Cond.arrayClass .int ∈ wsX6_init := by decide +kernel
theorem fsX6_init_9 : FS wsX6_init RX6 9 6 1 true (.array .int) := ⟨RX6, TX6, 45, tyX6, rfl, by decide, by decide +kernel, by decide +kernel, tyX6_ok, nmX6, rfl, rfl, rfl⟩
theorem fsX6_init_13 : FS wsX6_init RX6 13 6 4 false (.int) := ⟨RX6, TX6, 45, tyX6, rfl, by decide, by decide +kernel, by decide +kernel, tyX6_ok, nmX6, rfl, rfl, rfl⟩
theorem fsX6_init_17 : FS wsX6_init RX6 17 6 10 true (.array .int) := ⟨RX6, TX6, 45, tyX6, rfl, by decide, by decide +kernel, by decide +kernel, tyX6_ok, nmX6, rfl, rfl, rfl⟩
theorem fsX6_init_20 : FS wsX6_init RX6 20 6 11 true (.array .int) := ⟨RX6, TX6, 45, tyX6, rfl, by decide, by decide +kernel, by decide +kernel, tyX6_ok, nmX6, rfl, rfl, rfl⟩
theorem fsX6_init_23 : FS wsX6_init RX6 23 6 12 true (.array .int) := ⟨RX6, TX6, 45, tyX6, rfl, by decide, by decide +kernel, by decide +kernel, tyX6_ok, nmX6, rfl, rfl, rfl⟩
theorem fsX6_init_26 : FS wsX6_init RX6 26 6 13 true (.array .int) := ⟨RX6, TX6, 45, tyX6, rfl, by decide, by decide +kernel, by decide +kernel, tyX6_ok, nmX6, rfl, rfl, rfl⟩
theorem fsX6_init_29 : FS wsX6_init RX6 29 6 14 true (.array .int) := ⟨RX6, TX6, 45, tyX6, rfl, by decide, by decide +kernel, by decide +kernel, tyX6_ok, nmX6, rfl, rfl, rfl⟩
theorem fsX6_init_32 : FS wsX6_init RX6 32 6 15 true (.array .int) := ⟨RX6, TX6, 45, tyX6, rfl, by decide, by decide +kernel, by decide +kernel, tyX6_ok, nmX6, rfl, rfl, rfl⟩
theorem fsX6_init_35 : FS wsX6_init RX6 35 6 16 true (.array .int) := ⟨RX6, TX6, 45, tyX6, rfl, by decide, by decide +kernel, by decide +kernel, tyX6_ok, nmX6, rfl, rfl, rfl⟩
theorem fsX6_init_38 : FS wsX6_init RX6 38 6 17 true (.array .int) := ⟨RX6, TX6, 45, tyX6, rfl, by decide, by decide +kernel, by decide +kernel, tyX6_ok, nmX6, rfl, rfl, rfl⟩
set_option maxRecDepth 100000 in
theorem mX6_init_4 : Cond.arrayClass .boolean ∈ wsX6_init := by decide +kernel
theorem fsX6_init_41 : FS wsX6_init RX6 41 6 18 true (.array .boolean) := ⟨RX6, TX6, 45, tyX6, rfl, by decide, by decide +kernel, by decide +kernel, tyX6_ok, nmX6, rfl, rfl, rfl⟩
theorem fsX6_init_45 : FS wsX6_init RX6 45 6 19 true (.array .boolean) := ⟨RX6, TX6, 45, tyX6, rfl, by decide, by decide +kernel, by decide +kernel, tyX6_ok, nmX6, rfl, rfl, rfl⟩
theorem fsX6_init_48 : FS wsX6_init RX6 48 6 20 true (.array .int) := ⟨RX6, TX6, 45, tyX6, rfl, by decide, by decide +kernel, by decide +kernel, tyX6_ok, nmX6, rfl, rfl, rfl⟩
theorem fsX6_init_51 : FS wsX6_init RX6 51 6 35 true (.array .int) := ⟨RX6, TX6, 45, tyX6, rfl, by decide, by decide +kernel, by decide +kernel, tyX6_ok, nmX6, rfl, rfl, rfl⟩
theorem fsX6_init_54 : FS wsX6_init RX6 54 6 36 true (.array .int) := ⟨RX6, TX6, 45, tyX6, rfl, by decide, by decide +kernel, by decide +kernel, tyX6_ok, nmX6, rfl, rfl, rfl⟩
theorem fsX6_init_57 : FS wsX6_init RX6 57 6 37 true (.array .int) := ⟨RX6, TX6, 45, tyX6, rfl, by decide, by decide +kernel, by decide +kernel, tyX6_ok, nmX6, rfl, rfl, rfl⟩
set_option maxRecDepth 100000 in
theorem mX6_init_5 : Cond.classLink RX6 60 "[[I" ∈ wsX6_init := by decide +kernel
theorem fsX6_init_62 : FS wsX6_init RX6 62 6 38 true (.array (.array .int)) := ⟨RX6, TX6, 45, tyX6, rfl, by decide, by decide +kernel, by decide +kernel, tyX6_ok, nmX6, rfl, rfl, rfl⟩
theorem fsX6_init_65 : FS wsX6_init RX6 65 6 39 true (.array .int) := ⟨RX6, TX6, 45, tyX6, rfl, by decide, by decide +kernel, by decide +kernel, tyX6_ok, nmX6, rfl, rfl, rfl⟩
theorem fsX6_init_68 : FS wsX6_init RX6 68 6 40 true (.array .int) := ⟨RX6, TX6, 45, tyX6, rfl, by decide, by decide +kernel, by decide +kernel, tyX6_ok, nmX6, rfl, rfl, rfl⟩
theorem fsX6_init_71 : FS wsX6_init RX6 71 6 41 true (.array .int) := ⟨RX6, TX6, 45, tyX6, rfl, by decide, by decide +kernel, by decide +kernel, tyX6_ok, nmX6, rfl, rfl, rfl⟩
theorem fsX6_init_74 : FS wsX6_init RX6 74 6 42 true (.array .int) := ⟨RX6, TX6, 45, tyX6, rfl, by decide, by decide +kernel, by decide +kernel, tyX6_ok, nmX6, rfl, rfl, rfl⟩
theorem fsX6_init_77 : FS wsX6_init RX6 77 6 44 false (.int) := ⟨RX6, TX6, 45, tyX6, rfl, by decide, by decide +kernel, by decide +kernel, tyX6_ok, nmX6, rfl, rfl, rfl⟩
theorem flX6_init_68 : FL wsX6_init RX6 68 6 40 := ⟨RX6, TX6, 45, rfl, by decide, by decide +kernel, by decide +kernel⟩
set_option maxHeartbeats 4000000 in
set_option maxRecDepth 100000 in
theorem m_init {w : pW} {mm : Nat} (hmm : w mm = some (.inr (6, fs00))) : Ct yX6_init wsX6_init rX6_init [.ref mm] w (fun o w9 => ∃ (A cr : Nat → Nat) (fs9 : List Value), o = .inl none ∧ RA A fs9 ∧ AD A mm ∧ FF [1, 4, 10, 11, 12, 13, 14, 15, 16, 17, 18, 19, 20, 35, 36, 37, 38, 39, 40, 41, 42, 44] fs00 fs9 ∧ fs9[4]? = some (.int (-1)) ∧ fs9[44]? = some (.int (nI 1000)) ∧ w9 mm = some (.inr (6, fs9)) ∧ (∀ i, isR i = true → w (A i) = none) ∧ (∀ i, i < 401 → w (cr i) = none ∧ RW A mm (cr i) ∧ w9 (cr i) = some (.inl (0, 1600, .inl (fun _ => 0)))) ∧ (∀ i j, i < 401 → j < 401 → cr i = cr j → i = j) ∧ TA A w9 (fun _ => 0) (fun _ => 0) (fun _ => 0) (fun _ => 0) (fun _ => 0) (fun _ => 0) (fun _ => 0) (fun _ => 0) (fun _ => 0) (fun _ => 0) ∧ w9 (A 1) = some (.inl (0, 2400, .inl (fun j9 => nI ((fun _ => 0) j9)))) ∧ w9 (A 20) = some (.inl (0, 2400, .inl (fun j9 => nI ((fun _ => 0) j9)))) ∧ w9 (A 35) = some (.inl (0, 400, .inl (fun j9 => nI ((fun _ => 0) j9)))) ∧ w9 (A 36) = some (.inl (0, 401, .inl (fun j9 => nI ((fun _ => 0) j9)))) ∧ w9 (A 37) = some (.inl (0, 401, .inl (fun j9 => nI ((fun _ => 0) j9)))) ∧ w9 (A 38) = some (.inl (4, 401, .inr (.inr (.inr (.inr (fun j9 => some (cr j9))))))) ∧ w9 (A 39) = some (.inl (0, 1600, .inl (fun j9 => nI ((fun _ => 0) j9)))) ∧ w9 (A 40) = some (.inl (0, 4, .inl (fun j9 => nI ((va_up (va_up (va_up (va_up (fun _ => 0) 0 3) 1 2) 2 2) 3 6) j9)))) ∧ w9 (A 41) = some (.inl (0, 400, .inl (fun j9 => nI ((fun _ => 0) j9)))) ∧ w9 (A 42) = some (.inl (0, 400, .inl (fun j9 => nI ((fun _ => 0) j9)))) ∧ KS mm w w9) := by
  refine Ct.of (cc := cX6_init) (own := RX6) (nm := "<init>") (nL := 1) (ret := none) (by decide +kernel) rfl rfl rfl (Nat.le_of_ble_eq_true rfl) ?_
  refine j_lvE (lv' := [(0, .ref mm)]) rfl ?_
  have l0 : fs00.length = 45 := rfl
  have k0 : KS mm w w := KS.refl
  have v0 : Lv w [mm] := ⟨by simp, fun x hx => by rw [List.mem_singleton.mp hx, hmm]; exact fun z => nomatch z⟩
  refine j_aload_n dX6_init_0 0 rfl ?_
  refine j_objInit mX6_init_0 mX6_init_1 mX6_init_2 dX6_init_1 (Nat.le_of_ble_eq_true rfl) (Nat.le_of_ble_eq_true rfl) ?_
  refine j_aload_n dX6_init_4 0 rfl ?_
  refine j_sipush (v := nI 2400) dX6_init_5 (by decide) ?_
  refine j_newi (N := 2400) mX6_init_3 (nI_pos (by omega)) (nI_clamp (by omega)) (by omega) (show 0 + 1 ≤ 421 by omega) (show 0 + 2400 ≤ 651707 by omega) dX6_init_8 (fun q1 hq1 => ?_)
  refine j_after (st' := [.ref q1, .ref mm]) (k' := 1) (n' := 2400) rfl (by first | rfl | omega) (by first | rfl | omega) ?_
  refine j_w (fun w1 hw1 => ?_)
  have z1 : w q1 = none := KS.none k0 hq1 (by rw [hmm]; exact fun z => nomatch z)
  have nm1 : mm ≠ q1 := fn hmm hq1
  have m1 : w1 mm = some (.inr (6, fs00)) := up_ne hw1 nm1 hmm
  have v1 : Lv w1 (q1 :: [mm]) := Lv.born v0 hq1 hw1
  have k1 : KS mm w w1 := KS.fresh k0 z1 hw1
  have f1 : w1 q1 = some (.inl (0, 2400, .inl (fun _ => 0))) := up_at hw1
  refine j_putMF fsX6_init_9 m1 rfl (by intro C T N hc; cases hc; rfl) rfl rfl (by rw [l0]; decide) dX6_init_10 (fun w2 fs2 s2 hw2 => ?_)
  have l2 := ln_set s2 l0
  have m2 : w2 mm = some (.inr (6, fs2)) := up_at hw2
  have v2 := Lv.up v1 hw2
  have k2 := KS.up k1 hw2
  have f1_2 := up_ne hw2 (fk f1 m1 rfl) f1
  have x2 := st_at' s2 l0 (by decide : 1 < 45)
  refine j_aload_n dX6_init_13 0 rfl ?_
  refine j_iconst (v := (-1)) dX6_init_14 (by decide) ?_
  refine j_putM fsX6_init_13 m2 rfl rfl (by rw [l2]; decide) dX6_init_15 (fun w3 fs3 s3 hw3 => ?_)
  have l3 := ln_set s3 l2
  have m3 : w3 mm = some (.inr (6, fs3)) := up_at hw3
  have v3 := Lv.up v2 hw3
  have k3 := KS.up k2 hw3
  have f1_3 := up_ne hw3 (fk f1_2 m2 rfl) f1_2
  have x3 := st_at' s3 l2 (by decide : 4 < 45)
  refine j_aload_n dX6_init_18 0 rfl ?_
  refine j_bipush (v := nI 100) dX6_init_19 (by decide) ?_
  refine j_newi (N := 100) mX6_init_3 (nI_pos (by omega)) (nI_clamp (by omega)) (by omega) (show 1 + 1 ≤ 421 by omega) (show 2400 + 100 ≤ 651707 by omega) dX6_init_21 (fun q4 hq4 => ?_)
  refine j_after (st' := [.ref q4, .ref mm]) (k' := 2) (n' := 2500) rfl (by first | rfl | omega) (by first | rfl | omega) ?_
  refine j_w (fun w4 hw4 => ?_)
  have z4 : w q4 = none := KS.none k3 hq4 (by rw [m3]; exact fun z => nomatch z)
  have nm4 : mm ≠ q4 := fn m3 hq4
  have m4 : w4 mm = some (.inr (6, fs3)) := up_ne hw4 nm4 m3
  have v4 : Lv w4 (q4 :: [q1, mm]) := Lv.born v3 hq4 hw4
  have k4 : KS mm w w4 := KS.fresh k3 z4 hw4
  have f4 : w4 q4 = some (.inl (0, 100, .inl (fun _ => 0))) := up_at hw4
  have f1_4 := up_ne hw4 (fn f1_3 hq4) f1_3
  refine j_putMF fsX6_init_17 m4 rfl (by intro C T N hc; cases hc; rfl) rfl rfl (by rw [l3]; decide) dX6_init_23 (fun w5 fs5 s5 hw5 => ?_)
  have l5 := ln_set s5 l3
  have m5 : w5 mm = some (.inr (6, fs5)) := up_at hw5
  have v5 := Lv.up v4 hw5
  have k5 := KS.up k4 hw5
  have f1_5 := up_ne hw5 (fk f1_4 m4 rfl) f1_4
  have f4_5 := up_ne hw5 (fk f4 m4 rfl) f4
  have x5 := st_at' s5 l3 (by decide : 10 < 45)
  refine j_aload_n dX6_init_26 0 rfl ?_
  refine j_bipush (v := nI 100) dX6_init_27 (by decide) ?_
  refine j_newi (N := 100) mX6_init_3 (nI_pos (by omega)) (nI_clamp (by omega)) (by omega) (show 2 + 1 ≤ 421 by omega) (show 2500 + 100 ≤ 651707 by omega) dX6_init_29 (fun q6 hq6 => ?_)
  refine j_after (st' := [.ref q6, .ref mm]) (k' := 3) (n' := 2600) rfl (by first | rfl | omega) (by first | rfl | omega) ?_
  refine j_w (fun w6 hw6 => ?_)
  have z6 : w q6 = none := KS.none k5 hq6 (by rw [m5]; exact fun z => nomatch z)
  have nm6 : mm ≠ q6 := fn m5 hq6
  have m6 : w6 mm = some (.inr (6, fs5)) := up_ne hw6 nm6 m5
  have v6 : Lv w6 (q6 :: [q4, q1, mm]) := Lv.born v5 hq6 hw6
  have k6 : KS mm w w6 := KS.fresh k5 z6 hw6
  have f6 : w6 q6 = some (.inl (0, 100, .inl (fun _ => 0))) := up_at hw6
  have f1_6 := up_ne hw6 (fn f1_5 hq6) f1_5
  have f4_6 := up_ne hw6 (fn f4_5 hq6) f4_5
  refine j_putMF fsX6_init_20 m6 rfl (by intro C T N hc; cases hc; rfl) rfl rfl (by rw [l5]; decide) dX6_init_31 (fun w7 fs7 s7 hw7 => ?_)
  have l7 := ln_set s7 l5
  have m7 : w7 mm = some (.inr (6, fs7)) := up_at hw7
  have v7 := Lv.up v6 hw7
  have k7 := KS.up k6 hw7
  have f1_7 := up_ne hw7 (fk f1_6 m6 rfl) f1_6
  have f4_7 := up_ne hw7 (fk f4_6 m6 rfl) f4_6
  have f6_7 := up_ne hw7 (fk f6 m6 rfl) f6
  have x7 := st_at' s7 l5 (by decide : 11 < 45)
  refine j_aload_n dX6_init_34 0 rfl ?_
  refine j_sipush (v := nI 400) dX6_init_35 (by decide) ?_
  refine j_newi (N := 400) mX6_init_3 (nI_pos (by omega)) (nI_clamp (by omega)) (by omega) (show 3 + 1 ≤ 421 by omega) (show 2600 + 400 ≤ 651707 by omega) dX6_init_38 (fun q8 hq8 => ?_)
  refine j_after (st' := [.ref q8, .ref mm]) (k' := 4) (n' := 3000) rfl (by first | rfl | omega) (by first | rfl | omega) ?_
  refine j_w (fun w8 hw8 => ?_)
  have z8 : w q8 = none := KS.none k7 hq8 (by rw [m7]; exact fun z => nomatch z)
  have nm8 : mm ≠ q8 := fn m7 hq8
  have m8 : w8 mm = some (.inr (6, fs7)) := up_ne hw8 nm8 m7
  have v8 : Lv w8 (q8 :: [q6, q4, q1, mm]) := Lv.born v7 hq8 hw8
  have k8 : KS mm w w8 := KS.fresh k7 z8 hw8
  have f8 : w8 q8 = some (.inl (0, 400, .inl (fun _ => 0))) := up_at hw8
  have f1_8 := up_ne hw8 (fn f1_7 hq8) f1_7
  have f4_8 := up_ne hw8 (fn f4_7 hq8) f4_7
  have f6_8 := up_ne hw8 (fn f6_7 hq8) f6_7
  refine j_putMF fsX6_init_23 m8 rfl (by intro C T N hc; cases hc; rfl) rfl rfl (by rw [l7]; decide) dX6_init_40 (fun w9 fs9 s9 hw9 => ?_)
  have l9 := ln_set s9 l7
  have m9 : w9 mm = some (.inr (6, fs9)) := up_at hw9
  have v9 := Lv.up v8 hw9
  have k9 := KS.up k8 hw9
  have f1_9 := up_ne hw9 (fk f1_8 m8 rfl) f1_8
  have f4_9 := up_ne hw9 (fk f4_8 m8 rfl) f4_8
  have f6_9 := up_ne hw9 (fk f6_8 m8 rfl) f6_8
  have f8_9 := up_ne hw9 (fk f8 m8 rfl) f8
  have x9 := st_at' s9 l7 (by decide : 12 < 45)
  refine j_aload_n dX6_init_43 0 rfl ?_
  refine j_bipush (v := nI 100) dX6_init_44 (by decide) ?_
  refine j_newi (N := 100) mX6_init_3 (nI_pos (by omega)) (nI_clamp (by omega)) (by omega) (show 4 + 1 ≤ 421 by omega) (show 3000 + 100 ≤ 651707 by omega) dX6_init_46 (fun q10 hq10 => ?_)
  refine j_after (st' := [.ref q10, .ref mm]) (k' := 5) (n' := 3100) rfl (by first | rfl | omega) (by first | rfl | omega) ?_
  refine j_w (fun w10 hw10 => ?_)
  have z10 : w q10 = none := KS.none k9 hq10 (by rw [m9]; exact fun z => nomatch z)
  have nm10 : mm ≠ q10 := fn m9 hq10
  have m10 : w10 mm = some (.inr (6, fs9)) := up_ne hw10 nm10 m9
  have v10 : Lv w10 (q10 :: [q8, q6, q4, q1, mm]) := Lv.born v9 hq10 hw10
  have k10 : KS mm w w10 := KS.fresh k9 z10 hw10
  have f10 : w10 q10 = some (.inl (0, 100, .inl (fun _ => 0))) := up_at hw10
  have f1_10 := up_ne hw10 (fn f1_9 hq10) f1_9
  have f4_10 := up_ne hw10 (fn f4_9 hq10) f4_9
  have f6_10 := up_ne hw10 (fn f6_9 hq10) f6_9
  have f8_10 := up_ne hw10 (fn f8_9 hq10) f8_9
  refine j_putMF fsX6_init_26 m10 rfl (by intro C T N hc; cases hc; rfl) rfl rfl (by rw [l9]; decide) dX6_init_48 (fun w11 fs11 s11 hw11 => ?_)
  have l11 := ln_set s11 l9
  have m11 : w11 mm = some (.inr (6, fs11)) := up_at hw11
  have v11 := Lv.up v10 hw11
  have k11 := KS.up k10 hw11
  have f1_11 := up_ne hw11 (fk f1_10 m10 rfl) f1_10
  have f4_11 := up_ne hw11 (fk f4_10 m10 rfl) f4_10
  have f6_11 := up_ne hw11 (fk f6_10 m10 rfl) f6_10
  have f8_11 := up_ne hw11 (fk f8_10 m10 rfl) f8_10
  have f10_11 := up_ne hw11 (fk f10 m10 rfl) f10
  have x11 := st_at' s11 l9 (by decide : 13 < 45)
  refine j_aload_n dX6_init_51 0 rfl ?_
  refine j_bipush (v := nI 100) dX6_init_52 (by decide) ?_
  refine j_newi (N := 100) mX6_init_3 (nI_pos (by omega)) (nI_clamp (by omega)) (by omega) (show 5 + 1 ≤ 421 by omega) (show 3100 + 100 ≤ 651707 by omega) dX6_init_54 (fun q12 hq12 => ?_)
  refine j_after (st' := [.ref q12, .ref mm]) (k' := 6) (n' := 3200) rfl (by first | rfl | omega) (by first | rfl | omega) ?_
  refine j_w (fun w12 hw12 => ?_)
  have z12 : w q12 = none := KS.none k11 hq12 (by rw [m11]; exact fun z => nomatch z)
  have nm12 : mm ≠ q12 := fn m11 hq12
  have m12 : w12 mm = some (.inr (6, fs11)) := up_ne hw12 nm12 m11
  have v12 : Lv w12 (q12 :: [q10, q8, q6, q4, q1, mm]) := Lv.born v11 hq12 hw12
  have k12 : KS mm w w12 := KS.fresh k11 z12 hw12
  have f12 : w12 q12 = some (.inl (0, 100, .inl (fun _ => 0))) := up_at hw12
  have f1_12 := up_ne hw12 (fn f1_11 hq12) f1_11
  have f4_12 := up_ne hw12 (fn f4_11 hq12) f4_11
  have f6_12 := up_ne hw12 (fn f6_11 hq12) f6_11
  have f8_12 := up_ne hw12 (fn f8_11 hq12) f8_11
  have f10_12 := up_ne hw12 (fn f10_11 hq12) f10_11
  refine j_putMF fsX6_init_29 m12 rfl (by intro C T N hc; cases hc; rfl) rfl rfl (by rw [l11]; decide) dX6_init_56 (fun w13 fs13 s13 hw13 => ?_)
  have l13 := ln_set s13 l11
  have m13 : w13 mm = some (.inr (6, fs13)) := up_at hw13
  have v13 := Lv.up v12 hw13
  have k13 := KS.up k12 hw13
  have f1_13 := up_ne hw13 (fk f1_12 m12 rfl) f1_12
  have f4_13 := up_ne hw13 (fk f4_12 m12 rfl) f4_12
  have f6_13 := up_ne hw13 (fk f6_12 m12 rfl) f6_12
  have f8_13 := up_ne hw13 (fk f8_12 m12 rfl) f8_12
  have f10_13 := up_ne hw13 (fk f10_12 m12 rfl) f10_12
  have f12_13 := up_ne hw13 (fk f12 m12 rfl) f12
  have x13 := st_at' s13 l11 (by decide : 14 < 45)
  refine j_aload_n dX6_init_59 0 rfl ?_
  refine j_bipush (v := nI 100) dX6_init_60 (by decide) ?_
  refine j_newi (N := 100) mX6_init_3 (nI_pos (by omega)) (nI_clamp (by omega)) (by omega) (show 6 + 1 ≤ 421 by omega) (show 3200 + 100 ≤ 651707 by omega) dX6_init_62 (fun q14 hq14 => ?_)
  refine j_after (st' := [.ref q14, .ref mm]) (k' := 7) (n' := 3300) rfl (by first | rfl | omega) (by first | rfl | omega) ?_
  refine j_w (fun w14 hw14 => ?_)
  have z14 : w q14 = none := KS.none k13 hq14 (by rw [m13]; exact fun z => nomatch z)
  have nm14 : mm ≠ q14 := fn m13 hq14
  have m14 : w14 mm = some (.inr (6, fs13)) := up_ne hw14 nm14 m13
  have v14 : Lv w14 (q14 :: [q12, q10, q8, q6, q4, q1, mm]) := Lv.born v13 hq14 hw14
  have k14 : KS mm w w14 := KS.fresh k13 z14 hw14
  have f14 : w14 q14 = some (.inl (0, 100, .inl (fun _ => 0))) := up_at hw14
  have f1_14 := up_ne hw14 (fn f1_13 hq14) f1_13
  have f4_14 := up_ne hw14 (fn f4_13 hq14) f4_13
  have f6_14 := up_ne hw14 (fn f6_13 hq14) f6_13
  have f8_14 := up_ne hw14 (fn f8_13 hq14) f8_13
  have f10_14 := up_ne hw14 (fn f10_13 hq14) f10_13
  have f12_14 := up_ne hw14 (fn f12_13 hq14) f12_13
  refine j_putMF fsX6_init_32 m14 rfl (by intro C T N hc; cases hc; rfl) rfl rfl (by rw [l13]; decide) dX6_init_64 (fun w15 fs15 s15 hw15 => ?_)
  have l15 := ln_set s15 l13
  have m15 : w15 mm = some (.inr (6, fs15)) := up_at hw15
  have v15 := Lv.up v14 hw15
  have k15 := KS.up k14 hw15
  have f1_15 := up_ne hw15 (fk f1_14 m14 rfl) f1_14
  have f4_15 := up_ne hw15 (fk f4_14 m14 rfl) f4_14
  have f6_15 := up_ne hw15 (fk f6_14 m14 rfl) f6_14
  have f8_15 := up_ne hw15 (fk f8_14 m14 rfl) f8_14
  have f10_15 := up_ne hw15 (fk f10_14 m14 rfl) f10_14
  have f12_15 := up_ne hw15 (fk f12_14 m14 rfl) f12_14
  have f14_15 := up_ne hw15 (fk f14 m14 rfl) f14
  have x15 := st_at' s15 l13 (by decide : 15 < 45)
  refine j_aload_n dX6_init_67 0 rfl ?_
  refine j_bipush (v := nI 100) dX6_init_68 (by decide) ?_
  refine j_newi (N := 100) mX6_init_3 (nI_pos (by omega)) (nI_clamp (by omega)) (by omega) (show 7 + 1 ≤ 421 by omega) (show 3300 + 100 ≤ 651707 by omega) dX6_init_70 (fun q16 hq16 => ?_)
  refine j_after (st' := [.ref q16, .ref mm]) (k' := 8) (n' := 3400) rfl (by first | rfl | omega) (by first | rfl | omega) ?_
  refine j_w (fun w16 hw16 => ?_)
  have z16 : w q16 = none := KS.none k15 hq16 (by rw [m15]; exact fun z => nomatch z)
  have nm16 : mm ≠ q16 := fn m15 hq16
  have m16 : w16 mm = some (.inr (6, fs15)) := up_ne hw16 nm16 m15
  have v16 : Lv w16 (q16 :: [q14, q12, q10, q8, q6, q4, q1, mm]) := Lv.born v15 hq16 hw16
  have k16 : KS mm w w16 := KS.fresh k15 z16 hw16
  have f16 : w16 q16 = some (.inl (0, 100, .inl (fun _ => 0))) := up_at hw16
  have f1_16 := up_ne hw16 (fn f1_15 hq16) f1_15
  have f4_16 := up_ne hw16 (fn f4_15 hq16) f4_15
  have f6_16 := up_ne hw16 (fn f6_15 hq16) f6_15
  have f8_16 := up_ne hw16 (fn f8_15 hq16) f8_15
  have f10_16 := up_ne hw16 (fn f10_15 hq16) f10_15
  have f12_16 := up_ne hw16 (fn f12_15 hq16) f12_15
  have f14_16 := up_ne hw16 (fn f14_15 hq16) f14_15
  refine j_putMF fsX6_init_35 m16 rfl (by intro C T N hc; cases hc; rfl) rfl rfl (by rw [l15]; decide) dX6_init_72 (fun w17 fs17 s17 hw17 => ?_)
  have l17 := ln_set s17 l15
  have m17 : w17 mm = some (.inr (6, fs17)) := up_at hw17
  have v17 := Lv.up v16 hw17
  have k17 := KS.up k16 hw17
  have f1_17 := up_ne hw17 (fk f1_16 m16 rfl) f1_16
  have f4_17 := up_ne hw17 (fk f4_16 m16 rfl) f4_16
  have f6_17 := up_ne hw17 (fk f6_16 m16 rfl) f6_16
  have f8_17 := up_ne hw17 (fk f8_16 m16 rfl) f8_16
  have f10_17 := up_ne hw17 (fk f10_16 m16 rfl) f10_16
  have f12_17 := up_ne hw17 (fk f12_16 m16 rfl) f12_16
  have f14_17 := up_ne hw17 (fk f14_16 m16 rfl) f14_16
  have f16_17 := up_ne hw17 (fk f16 m16 rfl) f16
  have x17 := st_at' s17 l15 (by decide : 16 < 45)
  refine j_aload_n dX6_init_75 0 rfl ?_
  refine j_bipush (v := nI 100) dX6_init_76 (by decide) ?_
  refine j_newi (N := 100) mX6_init_3 (nI_pos (by omega)) (nI_clamp (by omega)) (by omega) (show 8 + 1 ≤ 421 by omega) (show 3400 + 100 ≤ 651707 by omega) dX6_init_78 (fun q18 hq18 => ?_)
  refine j_after (st' := [.ref q18, .ref mm]) (k' := 9) (n' := 3500) rfl (by first | rfl | omega) (by first | rfl | omega) ?_
  refine j_w (fun w18 hw18 => ?_)
  have z18 : w q18 = none := KS.none k17 hq18 (by rw [m17]; exact fun z => nomatch z)
  have nm18 : mm ≠ q18 := fn m17 hq18
  have m18 : w18 mm = some (.inr (6, fs17)) := up_ne hw18 nm18 m17
  have v18 : Lv w18 (q18 :: [q16, q14, q12, q10, q8, q6, q4, q1, mm]) := Lv.born v17 hq18 hw18
  have k18 : KS mm w w18 := KS.fresh k17 z18 hw18
  have f18 : w18 q18 = some (.inl (0, 100, .inl (fun _ => 0))) := up_at hw18
  have f1_18 := up_ne hw18 (fn f1_17 hq18) f1_17
  have f4_18 := up_ne hw18 (fn f4_17 hq18) f4_17
  have f6_18 := up_ne hw18 (fn f6_17 hq18) f6_17
  have f8_18 := up_ne hw18 (fn f8_17 hq18) f8_17
  have f10_18 := up_ne hw18 (fn f10_17 hq18) f10_17
  have f12_18 := up_ne hw18 (fn f12_17 hq18) f12_17
  have f14_18 := up_ne hw18 (fn f14_17 hq18) f14_17
  have f16_18 := up_ne hw18 (fn f16_17 hq18) f16_17
  refine j_putMF fsX6_init_38 m18 rfl (by intro C T N hc; cases hc; rfl) rfl rfl (by rw [l17]; decide) dX6_init_80 (fun w19 fs19 s19 hw19 => ?_)
  have l19 := ln_set s19 l17
  have m19 : w19 mm = some (.inr (6, fs19)) := up_at hw19
  have v19 := Lv.up v18 hw19
  have k19 := KS.up k18 hw19
  have f1_19 := up_ne hw19 (fk f1_18 m18 rfl) f1_18
  have f4_19 := up_ne hw19 (fk f4_18 m18 rfl) f4_18
  have f6_19 := up_ne hw19 (fk f6_18 m18 rfl) f6_18
  have f8_19 := up_ne hw19 (fk f8_18 m18 rfl) f8_18
  have f10_19 := up_ne hw19 (fk f10_18 m18 rfl) f10_18
  have f12_19 := up_ne hw19 (fk f12_18 m18 rfl) f12_18
  have f14_19 := up_ne hw19 (fk f14_18 m18 rfl) f14_18
  have f16_19 := up_ne hw19 (fk f16_18 m18 rfl) f16_18
  have f18_19 := up_ne hw19 (fk f18 m18 rfl) f18
  have x19 := st_at' s19 l17 (by decide : 17 < 45)
  refine j_aload_n dX6_init_83 0 rfl ?_
  refine j_bipush (v := nI 100) dX6_init_84 (by decide) ?_
  refine j_newz (N := 100) mX6_init_4 (nI_pos (by omega)) (nI_clamp (by omega)) (by omega) (show 9 + 1 ≤ 421 by omega) (show 3500 + 100 ≤ 651707 by omega) dX6_init_86 (fun q20 hq20 => ?_)
  refine j_after (st' := [.ref q20, .ref mm]) (k' := 10) (n' := 3600) rfl (by first | rfl | omega) (by first | rfl | omega) ?_
  refine j_w (fun w20 hw20 => ?_)
  have z20 : w q20 = none := KS.none k19 hq20 (by rw [m19]; exact fun z => nomatch z)
  have nm20 : mm ≠ q20 := fn m19 hq20
  have m20 : w20 mm = some (.inr (6, fs19)) := up_ne hw20 nm20 m19
  have v20 : Lv w20 (q20 :: [q18, q16, q14, q12, q10, q8, q6, q4, q1, mm]) := Lv.born v19 hq20 hw20
  have k20 : KS mm w w20 := KS.fresh k19 z20 hw20
  have f20 : w20 q20 = some (.inl (2, 100, .inl (fun _ => 0))) := up_at hw20
  have f1_20 := up_ne hw20 (fn f1_19 hq20) f1_19
  have f4_20 := up_ne hw20 (fn f4_19 hq20) f4_19
  have f6_20 := up_ne hw20 (fn f6_19 hq20) f6_19
  have f8_20 := up_ne hw20 (fn f8_19 hq20) f8_19
  have f10_20 := up_ne hw20 (fn f10_19 hq20) f10_19
  have f12_20 := up_ne hw20 (fn f12_19 hq20) f12_19
  have f14_20 := up_ne hw20 (fn f14_19 hq20) f14_19
  have f16_20 := up_ne hw20 (fn f16_19 hq20) f16_19
  have f18_20 := up_ne hw20 (fn f18_19 hq20) f18_19
  refine j_putMF fsX6_init_41 m20 rfl (by intro C T N hc; cases hc; rfl) rfl rfl (by rw [l19]; decide) dX6_init_88 (fun w21 fs21 s21 hw21 => ?_)
  have l21 := ln_set s21 l19
  have m21 : w21 mm = some (.inr (6, fs21)) := up_at hw21
  have v21 := Lv.up v20 hw21
  have k21 := KS.up k20 hw21
  have f1_21 := up_ne hw21 (fk f1_20 m20 rfl) f1_20
  have f4_21 := up_ne hw21 (fk f4_20 m20 rfl) f4_20
  have f6_21 := up_ne hw21 (fk f6_20 m20 rfl) f6_20
  have f8_21 := up_ne hw21 (fk f8_20 m20 rfl) f8_20
  have f10_21 := up_ne hw21 (fk f10_20 m20 rfl) f10_20
  have f12_21 := up_ne hw21 (fk f12_20 m20 rfl) f12_20
  have f14_21 := up_ne hw21 (fk f14_20 m20 rfl) f14_20
  have f16_21 := up_ne hw21 (fk f16_20 m20 rfl) f16_20
  have f18_21 := up_ne hw21 (fk f18_20 m20 rfl) f18_20
  have f20_21 := up_ne hw21 (fk f20 m20 rfl) f20
  have x21 := st_at' s21 l19 (by decide : 18 < 45)
  refine j_aload_n dX6_init_91 0 rfl ?_
  refine j_bipush (v := nI 100) dX6_init_92 (by decide) ?_
  refine j_newz (N := 100) mX6_init_4 (nI_pos (by omega)) (nI_clamp (by omega)) (by omega) (show 10 + 1 ≤ 421 by omega) (show 3600 + 100 ≤ 651707 by omega) dX6_init_94 (fun q22 hq22 => ?_)
  refine j_after (st' := [.ref q22, .ref mm]) (k' := 11) (n' := 3700) rfl (by first | rfl | omega) (by first | rfl | omega) ?_
  refine j_w (fun w22 hw22 => ?_)
  have z22 : w q22 = none := KS.none k21 hq22 (by rw [m21]; exact fun z => nomatch z)
  have nm22 : mm ≠ q22 := fn m21 hq22
  have m22 : w22 mm = some (.inr (6, fs21)) := up_ne hw22 nm22 m21
  have v22 : Lv w22 (q22 :: [q20, q18, q16, q14, q12, q10, q8, q6, q4, q1, mm]) := Lv.born v21 hq22 hw22
  have k22 : KS mm w w22 := KS.fresh k21 z22 hw22
  have f22 : w22 q22 = some (.inl (2, 100, .inl (fun _ => 0))) := up_at hw22
  have f1_22 := up_ne hw22 (fn f1_21 hq22) f1_21
  have f4_22 := up_ne hw22 (fn f4_21 hq22) f4_21
  have f6_22 := up_ne hw22 (fn f6_21 hq22) f6_21
  have f8_22 := up_ne hw22 (fn f8_21 hq22) f8_21
  have f10_22 := up_ne hw22 (fn f10_21 hq22) f10_21
  have f12_22 := up_ne hw22 (fn f12_21 hq22) f12_21
  have f14_22 := up_ne hw22 (fn f14_21 hq22) f14_21
  have f16_22 := up_ne hw22 (fn f16_21 hq22) f16_21
  have f18_22 := up_ne hw22 (fn f18_21 hq22) f18_21
  have f20_22 := up_ne hw22 (fn f20_21 hq22) f20_21
  refine j_putMF fsX6_init_45 m22 rfl (by intro C T N hc; cases hc; rfl) rfl rfl (by rw [l21]; decide) dX6_init_96 (fun w23 fs23 s23 hw23 => ?_)
  have l23 := ln_set s23 l21
  have m23 : w23 mm = some (.inr (6, fs23)) := up_at hw23
  have v23 := Lv.up v22 hw23
  have k23 := KS.up k22 hw23
  have f1_23 := up_ne hw23 (fk f1_22 m22 rfl) f1_22
  have f4_23 := up_ne hw23 (fk f4_22 m22 rfl) f4_22
  have f6_23 := up_ne hw23 (fk f6_22 m22 rfl) f6_22
  have f8_23 := up_ne hw23 (fk f8_22 m22 rfl) f8_22
  have f10_23 := up_ne hw23 (fk f10_22 m22 rfl) f10_22
  have f12_23 := up_ne hw23 (fk f12_22 m22 rfl) f12_22
  have f14_23 := up_ne hw23 (fk f14_22 m22 rfl) f14_22
  have f16_23 := up_ne hw23 (fk f16_22 m22 rfl) f16_22
  have f18_23 := up_ne hw23 (fk f18_22 m22 rfl) f18_22
  have f20_23 := up_ne hw23 (fk f20_22 m22 rfl) f20_22
  have f22_23 := up_ne hw23 (fk f22 m22 rfl) f22
  have x23 := st_at' s23 l21 (by decide : 19 < 45)
  refine j_aload_n dX6_init_99 0 rfl ?_
  refine j_sipush (v := nI 2400) dX6_init_100 (by decide) ?_
  refine j_newi (N := 2400) mX6_init_3 (nI_pos (by omega)) (nI_clamp (by omega)) (by omega) (show 11 + 1 ≤ 421 by omega) (show 3700 + 2400 ≤ 651707 by omega) dX6_init_103 (fun q24 hq24 => ?_)
  refine j_after (st' := [.ref q24, .ref mm]) (k' := 12) (n' := 6100) rfl (by first | rfl | omega) (by first | rfl | omega) ?_
  refine j_w (fun w24 hw24 => ?_)
  have z24 : w q24 = none := KS.none k23 hq24 (by rw [m23]; exact fun z => nomatch z)
  have nm24 : mm ≠ q24 := fn m23 hq24
  have m24 : w24 mm = some (.inr (6, fs23)) := up_ne hw24 nm24 m23
  have v24 : Lv w24 (q24 :: [q22, q20, q18, q16, q14, q12, q10, q8, q6, q4, q1, mm]) := Lv.born v23 hq24 hw24
  have k24 : KS mm w w24 := KS.fresh k23 z24 hw24
  have f24 : w24 q24 = some (.inl (0, 2400, .inl (fun _ => 0))) := up_at hw24
  have f1_24 := up_ne hw24 (fn f1_23 hq24) f1_23
  have f4_24 := up_ne hw24 (fn f4_23 hq24) f4_23
  have f6_24 := up_ne hw24 (fn f6_23 hq24) f6_23
  have f8_24 := up_ne hw24 (fn f8_23 hq24) f8_23
  have f10_24 := up_ne hw24 (fn f10_23 hq24) f10_23
  have f12_24 := up_ne hw24 (fn f12_23 hq24) f12_23
  have f14_24 := up_ne hw24 (fn f14_23 hq24) f14_23
  have f16_24 := up_ne hw24 (fn f16_23 hq24) f16_23
  have f18_24 := up_ne hw24 (fn f18_23 hq24) f18_23
  have f20_24 := up_ne hw24 (fn f20_23 hq24) f20_23
  have f22_24 := up_ne hw24 (fn f22_23 hq24) f22_23
  refine j_putMF fsX6_init_48 m24 rfl (by intro C T N hc; cases hc; rfl) rfl rfl (by rw [l23]; decide) dX6_init_105 (fun w25 fs25 s25 hw25 => ?_)
  have l25 := ln_set s25 l23
  have m25 : w25 mm = some (.inr (6, fs25)) := up_at hw25
  have v25 := Lv.up v24 hw25
  have k25 := KS.up k24 hw25
  have f1_25 := up_ne hw25 (fk f1_24 m24 rfl) f1_24
  have f4_25 := up_ne hw25 (fk f4_24 m24 rfl) f4_24
  have f6_25 := up_ne hw25 (fk f6_24 m24 rfl) f6_24
  have f8_25 := up_ne hw25 (fk f8_24 m24 rfl) f8_24
  have f10_25 := up_ne hw25 (fk f10_24 m24 rfl) f10_24
  have f12_25 := up_ne hw25 (fk f12_24 m24 rfl) f12_24
  have f14_25 := up_ne hw25 (fk f14_24 m24 rfl) f14_24
  have f16_25 := up_ne hw25 (fk f16_24 m24 rfl) f16_24
  have f18_25 := up_ne hw25 (fk f18_24 m24 rfl) f18_24
  have f20_25 := up_ne hw25 (fk f20_24 m24 rfl) f20_24
  have f22_25 := up_ne hw25 (fk f22_24 m24 rfl) f22_24
  have f24_25 := up_ne hw25 (fk f24 m24 rfl) f24
  have x25 := st_at' s25 l23 (by decide : 20 < 45)
  refine j_aload_n dX6_init_108 0 rfl ?_
  refine j_sipush (v := nI 400) dX6_init_109 (by decide) ?_
  refine j_newi (N := 400) mX6_init_3 (nI_pos (by omega)) (nI_clamp (by omega)) (by omega) (show 12 + 1 ≤ 421 by omega) (show 6100 + 400 ≤ 651707 by omega) dX6_init_112 (fun q26 hq26 => ?_)
  refine j_after (st' := [.ref q26, .ref mm]) (k' := 13) (n' := 6500) rfl (by first | rfl | omega) (by first | rfl | omega) ?_
  refine j_w (fun w26 hw26 => ?_)
  have z26 : w q26 = none := KS.none k25 hq26 (by rw [m25]; exact fun z => nomatch z)
  have nm26 : mm ≠ q26 := fn m25 hq26
  have m26 : w26 mm = some (.inr (6, fs25)) := up_ne hw26 nm26 m25
  have v26 : Lv w26 (q26 :: [q24, q22, q20, q18, q16, q14, q12, q10, q8, q6, q4, q1, mm]) := Lv.born v25 hq26 hw26
  have k26 : KS mm w w26 := KS.fresh k25 z26 hw26
  have f26 : w26 q26 = some (.inl (0, 400, .inl (fun _ => 0))) := up_at hw26
  have f1_26 := up_ne hw26 (fn f1_25 hq26) f1_25
  have f4_26 := up_ne hw26 (fn f4_25 hq26) f4_25
  have f6_26 := up_ne hw26 (fn f6_25 hq26) f6_25
  have f8_26 := up_ne hw26 (fn f8_25 hq26) f8_25
  have f10_26 := up_ne hw26 (fn f10_25 hq26) f10_25
  have f12_26 := up_ne hw26 (fn f12_25 hq26) f12_25
  have f14_26 := up_ne hw26 (fn f14_25 hq26) f14_25
  have f16_26 := up_ne hw26 (fn f16_25 hq26) f16_25
  have f18_26 := up_ne hw26 (fn f18_25 hq26) f18_25
  have f20_26 := up_ne hw26 (fn f20_25 hq26) f20_25
  have f22_26 := up_ne hw26 (fn f22_25 hq26) f22_25
  have f24_26 := up_ne hw26 (fn f24_25 hq26) f24_25
  refine j_putMF fsX6_init_51 m26 rfl (by intro C T N hc; cases hc; rfl) rfl rfl (by rw [l25]; decide) dX6_init_114 (fun w27 fs27 s27 hw27 => ?_)
  have l27 := ln_set s27 l25
  have m27 : w27 mm = some (.inr (6, fs27)) := up_at hw27
  have v27 := Lv.up v26 hw27
  have k27 := KS.up k26 hw27
  have f1_27 := up_ne hw27 (fk f1_26 m26 rfl) f1_26
  have f4_27 := up_ne hw27 (fk f4_26 m26 rfl) f4_26
  have f6_27 := up_ne hw27 (fk f6_26 m26 rfl) f6_26
  have f8_27 := up_ne hw27 (fk f8_26 m26 rfl) f8_26
  have f10_27 := up_ne hw27 (fk f10_26 m26 rfl) f10_26
  have f12_27 := up_ne hw27 (fk f12_26 m26 rfl) f12_26
  have f14_27 := up_ne hw27 (fk f14_26 m26 rfl) f14_26
  have f16_27 := up_ne hw27 (fk f16_26 m26 rfl) f16_26
  have f18_27 := up_ne hw27 (fk f18_26 m26 rfl) f18_26
  have f20_27 := up_ne hw27 (fk f20_26 m26 rfl) f20_26
  have f22_27 := up_ne hw27 (fk f22_26 m26 rfl) f22_26
  have f24_27 := up_ne hw27 (fk f24_26 m26 rfl) f24_26
  have f26_27 := up_ne hw27 (fk f26 m26 rfl) f26
  have x27 := st_at' s27 l25 (by decide : 35 < 45)
  refine j_aload_n dX6_init_117 0 rfl ?_
  refine j_sipush (v := nI 401) dX6_init_118 (by decide) ?_
  refine j_newi (N := 401) mX6_init_3 (nI_pos (by omega)) (nI_clamp (by omega)) (by omega) (show 13 + 1 ≤ 421 by omega) (show 6500 + 401 ≤ 651707 by omega) dX6_init_121 (fun q28 hq28 => ?_)
  refine j_after (st' := [.ref q28, .ref mm]) (k' := 14) (n' := 6901) rfl (by first | rfl | omega) (by first | rfl | omega) ?_
  refine j_w (fun w28 hw28 => ?_)
  have z28 : w q28 = none := KS.none k27 hq28 (by rw [m27]; exact fun z => nomatch z)
  have nm28 : mm ≠ q28 := fn m27 hq28
  have m28 : w28 mm = some (.inr (6, fs27)) := up_ne hw28 nm28 m27
  have v28 : Lv w28 (q28 :: [q26, q24, q22, q20, q18, q16, q14, q12, q10, q8, q6, q4, q1, mm]) := Lv.born v27 hq28 hw28
  have k28 : KS mm w w28 := KS.fresh k27 z28 hw28
  have f28 : w28 q28 = some (.inl (0, 401, .inl (fun _ => 0))) := up_at hw28
  have f1_28 := up_ne hw28 (fn f1_27 hq28) f1_27
  have f4_28 := up_ne hw28 (fn f4_27 hq28) f4_27
  have f6_28 := up_ne hw28 (fn f6_27 hq28) f6_27
  have f8_28 := up_ne hw28 (fn f8_27 hq28) f8_27
  have f10_28 := up_ne hw28 (fn f10_27 hq28) f10_27
  have f12_28 := up_ne hw28 (fn f12_27 hq28) f12_27
  have f14_28 := up_ne hw28 (fn f14_27 hq28) f14_27
  have f16_28 := up_ne hw28 (fn f16_27 hq28) f16_27
  have f18_28 := up_ne hw28 (fn f18_27 hq28) f18_27
  have f20_28 := up_ne hw28 (fn f20_27 hq28) f20_27
  have f22_28 := up_ne hw28 (fn f22_27 hq28) f22_27
  have f24_28 := up_ne hw28 (fn f24_27 hq28) f24_27
  have f26_28 := up_ne hw28 (fn f26_27 hq28) f26_27
  refine j_putMF fsX6_init_54 m28 rfl (by intro C T N hc; cases hc; rfl) rfl rfl (by rw [l27]; decide) dX6_init_123 (fun w29 fs29 s29 hw29 => ?_)
  have l29 := ln_set s29 l27
  have m29 : w29 mm = some (.inr (6, fs29)) := up_at hw29
  have v29 := Lv.up v28 hw29
  have k29 := KS.up k28 hw29
  have f1_29 := up_ne hw29 (fk f1_28 m28 rfl) f1_28
  have f4_29 := up_ne hw29 (fk f4_28 m28 rfl) f4_28
  have f6_29 := up_ne hw29 (fk f6_28 m28 rfl) f6_28
  have f8_29 := up_ne hw29 (fk f8_28 m28 rfl) f8_28
  have f10_29 := up_ne hw29 (fk f10_28 m28 rfl) f10_28
  have f12_29 := up_ne hw29 (fk f12_28 m28 rfl) f12_28
  have f14_29 := up_ne hw29 (fk f14_28 m28 rfl) f14_28
  have f16_29 := up_ne hw29 (fk f16_28 m28 rfl) f16_28
  have f18_29 := up_ne hw29 (fk f18_28 m28 rfl) f18_28
  have f20_29 := up_ne hw29 (fk f20_28 m28 rfl) f20_28
  have f22_29 := up_ne hw29 (fk f22_28 m28 rfl) f22_28
  have f24_29 := up_ne hw29 (fk f24_28 m28 rfl) f24_28
  have f26_29 := up_ne hw29 (fk f26_28 m28 rfl) f26_28
  have f28_29 := up_ne hw29 (fk f28 m28 rfl) f28
  have x29 := st_at' s29 l27 (by decide : 36 < 45)
  refine j_aload_n dX6_init_126 0 rfl ?_
  refine j_sipush (v := nI 401) dX6_init_127 (by decide) ?_
  refine j_newi (N := 401) mX6_init_3 (nI_pos (by omega)) (nI_clamp (by omega)) (by omega) (show 14 + 1 ≤ 421 by omega) (show 6901 + 401 ≤ 651707 by omega) dX6_init_130 (fun q30 hq30 => ?_)
  refine j_after (st' := [.ref q30, .ref mm]) (k' := 15) (n' := 7302) rfl (by first | rfl | omega) (by first | rfl | omega) ?_
  refine j_w (fun w30 hw30 => ?_)
  have z30 : w q30 = none := KS.none k29 hq30 (by rw [m29]; exact fun z => nomatch z)
  have nm30 : mm ≠ q30 := fn m29 hq30
  have m30 : w30 mm = some (.inr (6, fs29)) := up_ne hw30 nm30 m29
  have v30 : Lv w30 (q30 :: [q28, q26, q24, q22, q20, q18, q16, q14, q12, q10, q8, q6, q4, q1, mm]) := Lv.born v29 hq30 hw30
  have k30 : KS mm w w30 := KS.fresh k29 z30 hw30
  have f30 : w30 q30 = some (.inl (0, 401, .inl (fun _ => 0))) := up_at hw30
  have f1_30 := up_ne hw30 (fn f1_29 hq30) f1_29
  have f4_30 := up_ne hw30 (fn f4_29 hq30) f4_29
  have f6_30 := up_ne hw30 (fn f6_29 hq30) f6_29
  have f8_30 := up_ne hw30 (fn f8_29 hq30) f8_29
  have f10_30 := up_ne hw30 (fn f10_29 hq30) f10_29
  have f12_30 := up_ne hw30 (fn f12_29 hq30) f12_29
  have f14_30 := up_ne hw30 (fn f14_29 hq30) f14_29
  have f16_30 := up_ne hw30 (fn f16_29 hq30) f16_29
  have f18_30 := up_ne hw30 (fn f18_29 hq30) f18_29
  have f20_30 := up_ne hw30 (fn f20_29 hq30) f20_29
  have f22_30 := up_ne hw30 (fn f22_29 hq30) f22_29
  have f24_30 := up_ne hw30 (fn f24_29 hq30) f24_29
  have f26_30 := up_ne hw30 (fn f26_29 hq30) f26_29
  have f28_30 := up_ne hw30 (fn f28_29 hq30) f28_29
  refine j_putMF fsX6_init_57 m30 rfl (by intro C T N hc; cases hc; rfl) rfl rfl (by rw [l29]; decide) dX6_init_132 (fun w31 fs31 s31 hw31 => ?_)
  have l31 := ln_set s31 l29
  have m31 : w31 mm = some (.inr (6, fs31)) := up_at hw31
  have v31 := Lv.up v30 hw31
  have k31 := KS.up k30 hw31
  have f1_31 := up_ne hw31 (fk f1_30 m30 rfl) f1_30
  have f4_31 := up_ne hw31 (fk f4_30 m30 rfl) f4_30
  have f6_31 := up_ne hw31 (fk f6_30 m30 rfl) f6_30
  have f8_31 := up_ne hw31 (fk f8_30 m30 rfl) f8_30
  have f10_31 := up_ne hw31 (fk f10_30 m30 rfl) f10_30
  have f12_31 := up_ne hw31 (fk f12_30 m30 rfl) f12_30
  have f14_31 := up_ne hw31 (fk f14_30 m30 rfl) f14_30
  have f16_31 := up_ne hw31 (fk f16_30 m30 rfl) f16_30
  have f18_31 := up_ne hw31 (fk f18_30 m30 rfl) f18_30
  have f20_31 := up_ne hw31 (fk f20_30 m30 rfl) f20_30
  have f22_31 := up_ne hw31 (fk f22_30 m30 rfl) f22_30
  have f24_31 := up_ne hw31 (fk f24_30 m30 rfl) f24_30
  have f26_31 := up_ne hw31 (fk f26_30 m30 rfl) f26_30
  have f28_31 := up_ne hw31 (fk f28_30 m30 rfl) f28_30
  have f30_31 := up_ne hw31 (fk f30 m30 rfl) f30
  have x31 := st_at' s31 l29 (by decide : 37 < 45)
  refine j_aload_n dX6_init_135 0 rfl ?_
  refine j_sipush (v := nI 401) dX6_init_136 (by decide) ?_
  refine j_sipush (v := nI 1600) dX6_init_139 (by decide) ?_
  refine j_mna (N := 401) (K := 1600) mX6_init_5 mX6_init_3 (by omega) (by omega) (show 15 + (1 + 401) ≤ 421 by omega) (show 7302 + (401 + 401 * 1600) ≤ 651707 by omega) dX6_init_142 (fun q32 rr w32 hq32 hrr hri f32 hrw hkp => ?_)
  refine j_after (st' := [.ref q32, .ref mm]) (k' := 417) (n' := 649303) rfl (by first | rfl | omega) (by first | rfl | omega) ?_
  have z32 : w q32 = none := KS.none k31 hq32 (by rw [m31]; exact fun z => nomatch z)
  have zr : ∀ i, i < 401 → w (rr i) = none := fun i hi => KS.none k31 (hrr i hi).1 (by rw [m31]; exact fun z => nomatch z)
  have m32 : w32 mm = some (.inr (6, fs31)) := hkp _ _ m31
  have v32 : Lv w32 (q32 :: [q30, q28, q26, q24, q22, q20, q18, q16, q14, q12, q10, q8, q6, q4, q1, mm]) := Lv.mna v31 hq32 hkp f32
  have k32 : KS mm w w32 := fun x c hx hc => hkp x c (k31 x c hx hc)
  have r32 : RWs w32 rr (q32 :: [q30, q28, q26, q24, q22, q20, q18, q16, q14, q12, q10, q8, q6, q4, q1, mm]) := fun i hi => ⟨fun z => by rcases List.mem_cons.mp z with y | y; exact (hrr i hi).2 y; exact Lv.out v31 (hrr i hi).1 y, hrw i hi⟩
  have f1_32 := hkp _ _ f1_31
  have f4_32 := hkp _ _ f4_31
  have f6_32 := hkp _ _ f6_31
  have f8_32 := hkp _ _ f8_31
  have f10_32 := hkp _ _ f10_31
  have f12_32 := hkp _ _ f12_31
  have f14_32 := hkp _ _ f14_31
  have f16_32 := hkp _ _ f16_31
  have f18_32 := hkp _ _ f18_31
  have f20_32 := hkp _ _ f20_31
  have f22_32 := hkp _ _ f22_31
  have f24_32 := hkp _ _ f24_31
  have f26_32 := hkp _ _ f26_31
  have f28_32 := hkp _ _ f28_31
  have f30_32 := hkp _ _ f30_31
  refine j_putMF fsX6_init_62 m32 rfl (by intro C T N hc; cases hc; rfl) rfl rfl (by rw [l31]; decide) dX6_init_146 (fun w33 fs33 s33 hw33 => ?_)
  have l33 := ln_set s33 l31
  have m33 : w33 mm = some (.inr (6, fs33)) := up_at hw33
  have v33 := Lv.up v32 hw33
  have k33 := KS.up k32 hw33
  have r33 := RWs.up r32 hw33 (by simp)
  have f1_33 := up_ne hw33 (fk f1_32 m32 rfl) f1_32
  have f4_33 := up_ne hw33 (fk f4_32 m32 rfl) f4_32
  have f6_33 := up_ne hw33 (fk f6_32 m32 rfl) f6_32
  have f8_33 := up_ne hw33 (fk f8_32 m32 rfl) f8_32
  have f10_33 := up_ne hw33 (fk f10_32 m32 rfl) f10_32
  have f12_33 := up_ne hw33 (fk f12_32 m32 rfl) f12_32
  have f14_33 := up_ne hw33 (fk f14_32 m32 rfl) f14_32
  have f16_33 := up_ne hw33 (fk f16_32 m32 rfl) f16_32
  have f18_33 := up_ne hw33 (fk f18_32 m32 rfl) f18_32
  have f20_33 := up_ne hw33 (fk f20_32 m32 rfl) f20_32
  have f22_33 := up_ne hw33 (fk f22_32 m32 rfl) f22_32
  have f24_33 := up_ne hw33 (fk f24_32 m32 rfl) f24_32
  have f26_33 := up_ne hw33 (fk f26_32 m32 rfl) f26_32
  have f28_33 := up_ne hw33 (fk f28_32 m32 rfl) f28_32
  have f30_33 := up_ne hw33 (fk f30_32 m32 rfl) f30_32
  have f32_33 := up_ne hw33 (fk f32 m32 rfl) f32
  have x33 := st_at' s33 l31 (by decide : 38 < 45)
  refine j_aload_n dX6_init_149 0 rfl ?_
  refine j_sipush (v := nI 1600) dX6_init_150 (by decide) ?_
  refine j_newi (N := 1600) mX6_init_3 (nI_pos (by omega)) (nI_clamp (by omega)) (by omega) (show 417 + 1 ≤ 421 by omega) (show 649303 + 1600 ≤ 651707 by omega) dX6_init_153 (fun q34 hq34 => ?_)
  refine j_after (st' := [.ref q34, .ref mm]) (k' := 418) (n' := 650903) rfl (by first | rfl | omega) (by first | rfl | omega) ?_
  refine j_w (fun w34 hw34 => ?_)
  have z34 : w q34 = none := KS.none k33 hq34 (by rw [m33]; exact fun z => nomatch z)
  have nm34 : mm ≠ q34 := fn m33 hq34
  have m34 : w34 mm = some (.inr (6, fs33)) := up_ne hw34 nm34 m33
  have v34 : Lv w34 (q34 :: [q32, q30, q28, q26, q24, q22, q20, q18, q16, q14, q12, q10, q8, q6, q4, q1, mm]) := Lv.born v33 hq34 hw34
  have k34 : KS mm w w34 := KS.fresh k33 z34 hw34
  have r34 := RWs.born r33 hq34 hw34
  have f34 : w34 q34 = some (.inl (0, 1600, .inl (fun _ => 0))) := up_at hw34
  have f1_34 := up_ne hw34 (fn f1_33 hq34) f1_33
  have f4_34 := up_ne hw34 (fn f4_33 hq34) f4_33
  have f6_34 := up_ne hw34 (fn f6_33 hq34) f6_33
  have f8_34 := up_ne hw34 (fn f8_33 hq34) f8_33
  have f10_34 := up_ne hw34 (fn f10_33 hq34) f10_33
  have f12_34 := up_ne hw34 (fn f12_33 hq34) f12_33
  have f14_34 := up_ne hw34 (fn f14_33 hq34) f14_33
  have f16_34 := up_ne hw34 (fn f16_33 hq34) f16_33
  have f18_34 := up_ne hw34 (fn f18_33 hq34) f18_33
  have f20_34 := up_ne hw34 (fn f20_33 hq34) f20_33
  have f22_34 := up_ne hw34 (fn f22_33 hq34) f22_33
  have f24_34 := up_ne hw34 (fn f24_33 hq34) f24_33
  have f26_34 := up_ne hw34 (fn f26_33 hq34) f26_33
  have f28_34 := up_ne hw34 (fn f28_33 hq34) f28_33
  have f30_34 := up_ne hw34 (fn f30_33 hq34) f30_33
  have f32_34 := up_ne hw34 (fn f32_33 hq34) f32_33
  refine j_putMF fsX6_init_65 m34 rfl (by intro C T N hc; cases hc; rfl) rfl rfl (by rw [l33]; decide) dX6_init_155 (fun w35 fs35 s35 hw35 => ?_)
  have l35 := ln_set s35 l33
  have m35 : w35 mm = some (.inr (6, fs35)) := up_at hw35
  have v35 := Lv.up v34 hw35
  have k35 := KS.up k34 hw35
  have r35 := RWs.up r34 hw35 (by simp)
  have f1_35 := up_ne hw35 (fk f1_34 m34 rfl) f1_34
  have f4_35 := up_ne hw35 (fk f4_34 m34 rfl) f4_34
  have f6_35 := up_ne hw35 (fk f6_34 m34 rfl) f6_34
  have f8_35 := up_ne hw35 (fk f8_34 m34 rfl) f8_34
  have f10_35 := up_ne hw35 (fk f10_34 m34 rfl) f10_34
  have f12_35 := up_ne hw35 (fk f12_34 m34 rfl) f12_34
  have f14_35 := up_ne hw35 (fk f14_34 m34 rfl) f14_34
  have f16_35 := up_ne hw35 (fk f16_34 m34 rfl) f16_34
  have f18_35 := up_ne hw35 (fk f18_34 m34 rfl) f18_34
  have f20_35 := up_ne hw35 (fk f20_34 m34 rfl) f20_34
  have f22_35 := up_ne hw35 (fk f22_34 m34 rfl) f22_34
  have f24_35 := up_ne hw35 (fk f24_34 m34 rfl) f24_34
  have f26_35 := up_ne hw35 (fk f26_34 m34 rfl) f26_34
  have f28_35 := up_ne hw35 (fk f28_34 m34 rfl) f28_34
  have f30_35 := up_ne hw35 (fk f30_34 m34 rfl) f30_34
  have f32_35 := up_ne hw35 (fk f32_34 m34 rfl) f32_34
  have f34_35 := up_ne hw35 (fk f34 m34 rfl) f34
  have x35 := st_at' s35 l33 (by decide : 39 < 45)
  refine j_aload_n dX6_init_158 0 rfl ?_
  refine j_iconst (v := nI 4) dX6_init_159 (by decide) ?_
  refine j_newi (N := 4) mX6_init_3 (nI_pos (by omega)) (nI_clamp (by omega)) (by omega) (show 418 + 1 ≤ 421 by omega) (show 650903 + 4 ≤ 651707 by omega) dX6_init_160 (fun q36 hq36 => ?_)
  refine j_after (st' := [.ref q36, .ref mm]) (k' := 419) (n' := 650907) rfl (by first | rfl | omega) (by first | rfl | omega) ?_
  refine j_w (fun w36 hw36 => ?_)
  have z36 : w q36 = none := KS.none k35 hq36 (by rw [m35]; exact fun z => nomatch z)
  have nm36 : mm ≠ q36 := fn m35 hq36
  have m36 : w36 mm = some (.inr (6, fs35)) := up_ne hw36 nm36 m35
  have v36 : Lv w36 (q36 :: [q34, q32, q30, q28, q26, q24, q22, q20, q18, q16, q14, q12, q10, q8, q6, q4, q1, mm]) := Lv.born v35 hq36 hw36
  have k36 : KS mm w w36 := KS.fresh k35 z36 hw36
  have r36 := RWs.born r35 hq36 hw36
  have f36 : w36 q36 = some (.inl (0, 4, .inl (fun _ => 0))) := up_at hw36
  have f1_36 := up_ne hw36 (fn f1_35 hq36) f1_35
  have f4_36 := up_ne hw36 (fn f4_35 hq36) f4_35
  have f6_36 := up_ne hw36 (fn f6_35 hq36) f6_35
  have f8_36 := up_ne hw36 (fn f8_35 hq36) f8_35
  have f10_36 := up_ne hw36 (fn f10_35 hq36) f10_35
  have f12_36 := up_ne hw36 (fn f12_35 hq36) f12_35
  have f14_36 := up_ne hw36 (fn f14_35 hq36) f14_35
  have f16_36 := up_ne hw36 (fn f16_35 hq36) f16_35
  have f18_36 := up_ne hw36 (fn f18_35 hq36) f18_35
  have f20_36 := up_ne hw36 (fn f20_35 hq36) f20_35
  have f22_36 := up_ne hw36 (fn f22_35 hq36) f22_35
  have f24_36 := up_ne hw36 (fn f24_35 hq36) f24_35
  have f26_36 := up_ne hw36 (fn f26_35 hq36) f26_35
  have f28_36 := up_ne hw36 (fn f28_35 hq36) f28_35
  have f30_36 := up_ne hw36 (fn f30_35 hq36) f30_35
  have f32_36 := up_ne hw36 (fn f32_35 hq36) f32_35
  have f34_36 := up_ne hw36 (fn f34_35 hq36) f34_35
  refine j_putMF fsX6_init_68 m36 rfl (by intro C T N hc; cases hc; rfl) rfl rfl (by rw [l35]; decide) dX6_init_162 (fun w37 fs37 s37 hw37 => ?_)
  have l37 := ln_set s37 l35
  have m37 : w37 mm = some (.inr (6, fs37)) := up_at hw37
  have v37 := Lv.up v36 hw37
  have k37 := KS.up k36 hw37
  have r37 := RWs.up r36 hw37 (by simp)
  have f1_37 := up_ne hw37 (fk f1_36 m36 rfl) f1_36
  have f4_37 := up_ne hw37 (fk f4_36 m36 rfl) f4_36
  have f6_37 := up_ne hw37 (fk f6_36 m36 rfl) f6_36
  have f8_37 := up_ne hw37 (fk f8_36 m36 rfl) f8_36
  have f10_37 := up_ne hw37 (fk f10_36 m36 rfl) f10_36
  have f12_37 := up_ne hw37 (fk f12_36 m36 rfl) f12_36
  have f14_37 := up_ne hw37 (fk f14_36 m36 rfl) f14_36
  have f16_37 := up_ne hw37 (fk f16_36 m36 rfl) f16_36
  have f18_37 := up_ne hw37 (fk f18_36 m36 rfl) f18_36
  have f20_37 := up_ne hw37 (fk f20_36 m36 rfl) f20_36
  have f22_37 := up_ne hw37 (fk f22_36 m36 rfl) f22_36
  have f24_37 := up_ne hw37 (fk f24_36 m36 rfl) f24_36
  have f26_37 := up_ne hw37 (fk f26_36 m36 rfl) f26_36
  have f28_37 := up_ne hw37 (fk f28_36 m36 rfl) f28_36
  have f30_37 := up_ne hw37 (fk f30_36 m36 rfl) f30_36
  have f32_37 := up_ne hw37 (fk f32_36 m36 rfl) f32_36
  have f34_37 := up_ne hw37 (fk f34_36 m36 rfl) f34_36
  have f36_37 := up_ne hw37 (fk f36 m36 rfl) f36
  have x37 := st_at' s37 l35 (by decide : 40 < 45)
  refine j_aload_n dX6_init_165 0 rfl ?_
  refine j_sipush (v := nI 400) dX6_init_166 (by decide) ?_
  refine j_newi (N := 400) mX6_init_3 (nI_pos (by omega)) (nI_clamp (by omega)) (by omega) (show 419 + 1 ≤ 421 by omega) (show 650907 + 400 ≤ 651707 by omega) dX6_init_169 (fun q38 hq38 => ?_)
  refine j_after (st' := [.ref q38, .ref mm]) (k' := 420) (n' := 651307) rfl (by first | rfl | omega) (by first | rfl | omega) ?_
  refine j_w (fun w38 hw38 => ?_)
  have z38 : w q38 = none := KS.none k37 hq38 (by rw [m37]; exact fun z => nomatch z)
  have nm38 : mm ≠ q38 := fn m37 hq38
  have m38 : w38 mm = some (.inr (6, fs37)) := up_ne hw38 nm38 m37
  have v38 : Lv w38 (q38 :: [q36, q34, q32, q30, q28, q26, q24, q22, q20, q18, q16, q14, q12, q10, q8, q6, q4, q1, mm]) := Lv.born v37 hq38 hw38
  have k38 : KS mm w w38 := KS.fresh k37 z38 hw38
  have r38 := RWs.born r37 hq38 hw38
  have f38 : w38 q38 = some (.inl (0, 400, .inl (fun _ => 0))) := up_at hw38
  have f1_38 := up_ne hw38 (fn f1_37 hq38) f1_37
  have f4_38 := up_ne hw38 (fn f4_37 hq38) f4_37
  have f6_38 := up_ne hw38 (fn f6_37 hq38) f6_37
  have f8_38 := up_ne hw38 (fn f8_37 hq38) f8_37
  have f10_38 := up_ne hw38 (fn f10_37 hq38) f10_37
  have f12_38 := up_ne hw38 (fn f12_37 hq38) f12_37
  have f14_38 := up_ne hw38 (fn f14_37 hq38) f14_37
  have f16_38 := up_ne hw38 (fn f16_37 hq38) f16_37
  have f18_38 := up_ne hw38 (fn f18_37 hq38) f18_37
  have f20_38 := up_ne hw38 (fn f20_37 hq38) f20_37
  have f22_38 := up_ne hw38 (fn f22_37 hq38) f22_37
  have f24_38 := up_ne hw38 (fn f24_37 hq38) f24_37
  have f26_38 := up_ne hw38 (fn f26_37 hq38) f26_37
  have f28_38 := up_ne hw38 (fn f28_37 hq38) f28_37
  have f30_38 := up_ne hw38 (fn f30_37 hq38) f30_37
  have f32_38 := up_ne hw38 (fn f32_37 hq38) f32_37
  have f34_38 := up_ne hw38 (fn f34_37 hq38) f34_37
  have f36_38 := up_ne hw38 (fn f36_37 hq38) f36_37
  refine j_putMF fsX6_init_71 m38 rfl (by intro C T N hc; cases hc; rfl) rfl rfl (by rw [l37]; decide) dX6_init_171 (fun w39 fs39 s39 hw39 => ?_)
  have l39 := ln_set s39 l37
  have m39 : w39 mm = some (.inr (6, fs39)) := up_at hw39
  have v39 := Lv.up v38 hw39
  have k39 := KS.up k38 hw39
  have r39 := RWs.up r38 hw39 (by simp)
  have f1_39 := up_ne hw39 (fk f1_38 m38 rfl) f1_38
  have f4_39 := up_ne hw39 (fk f4_38 m38 rfl) f4_38
  have f6_39 := up_ne hw39 (fk f6_38 m38 rfl) f6_38
  have f8_39 := up_ne hw39 (fk f8_38 m38 rfl) f8_38
  have f10_39 := up_ne hw39 (fk f10_38 m38 rfl) f10_38
  have f12_39 := up_ne hw39 (fk f12_38 m38 rfl) f12_38
  have f14_39 := up_ne hw39 (fk f14_38 m38 rfl) f14_38
  have f16_39 := up_ne hw39 (fk f16_38 m38 rfl) f16_38
  have f18_39 := up_ne hw39 (fk f18_38 m38 rfl) f18_38
  have f20_39 := up_ne hw39 (fk f20_38 m38 rfl) f20_38
  have f22_39 := up_ne hw39 (fk f22_38 m38 rfl) f22_38
  have f24_39 := up_ne hw39 (fk f24_38 m38 rfl) f24_38
  have f26_39 := up_ne hw39 (fk f26_38 m38 rfl) f26_38
  have f28_39 := up_ne hw39 (fk f28_38 m38 rfl) f28_38
  have f30_39 := up_ne hw39 (fk f30_38 m38 rfl) f30_38
  have f32_39 := up_ne hw39 (fk f32_38 m38 rfl) f32_38
  have f34_39 := up_ne hw39 (fk f34_38 m38 rfl) f34_38
  have f36_39 := up_ne hw39 (fk f36_38 m38 rfl) f36_38
  have f38_39 := up_ne hw39 (fk f38 m38 rfl) f38
  have x39 := st_at' s39 l37 (by decide : 41 < 45)
  refine j_aload_n dX6_init_174 0 rfl ?_
  refine j_sipush (v := nI 400) dX6_init_175 (by decide) ?_
  refine j_newi (N := 400) mX6_init_3 (nI_pos (by omega)) (nI_clamp (by omega)) (by omega) (show 420 + 1 ≤ 421 by omega) (show 651307 + 400 ≤ 651707 by omega) dX6_init_178 (fun q40 hq40 => ?_)
  refine j_after (st' := [.ref q40, .ref mm]) (k' := 421) (n' := 651707) rfl (by first | rfl | omega) (by first | rfl | omega) ?_
  refine j_w (fun w40 hw40 => ?_)
  have z40 : w q40 = none := KS.none k39 hq40 (by rw [m39]; exact fun z => nomatch z)
  have nm40 : mm ≠ q40 := fn m39 hq40
  have m40 : w40 mm = some (.inr (6, fs39)) := up_ne hw40 nm40 m39
  have v40 : Lv w40 (q40 :: [q38, q36, q34, q32, q30, q28, q26, q24, q22, q20, q18, q16, q14, q12, q10, q8, q6, q4, q1, mm]) := Lv.born v39 hq40 hw40
  have k40 : KS mm w w40 := KS.fresh k39 z40 hw40
  have r40 := RWs.born r39 hq40 hw40
  have f40 : w40 q40 = some (.inl (0, 400, .inl (fun _ => 0))) := up_at hw40
  have f1_40 := up_ne hw40 (fn f1_39 hq40) f1_39
  have f4_40 := up_ne hw40 (fn f4_39 hq40) f4_39
  have f6_40 := up_ne hw40 (fn f6_39 hq40) f6_39
  have f8_40 := up_ne hw40 (fn f8_39 hq40) f8_39
  have f10_40 := up_ne hw40 (fn f10_39 hq40) f10_39
  have f12_40 := up_ne hw40 (fn f12_39 hq40) f12_39
  have f14_40 := up_ne hw40 (fn f14_39 hq40) f14_39
  have f16_40 := up_ne hw40 (fn f16_39 hq40) f16_39
  have f18_40 := up_ne hw40 (fn f18_39 hq40) f18_39
  have f20_40 := up_ne hw40 (fn f20_39 hq40) f20_39
  have f22_40 := up_ne hw40 (fn f22_39 hq40) f22_39
  have f24_40 := up_ne hw40 (fn f24_39 hq40) f24_39
  have f26_40 := up_ne hw40 (fn f26_39 hq40) f26_39
  have f28_40 := up_ne hw40 (fn f28_39 hq40) f28_39
  have f30_40 := up_ne hw40 (fn f30_39 hq40) f30_39
  have f32_40 := up_ne hw40 (fn f32_39 hq40) f32_39
  have f34_40 := up_ne hw40 (fn f34_39 hq40) f34_39
  have f36_40 := up_ne hw40 (fn f36_39 hq40) f36_39
  have f38_40 := up_ne hw40 (fn f38_39 hq40) f38_39
  refine j_putMF fsX6_init_74 m40 rfl (by intro C T N hc; cases hc; rfl) rfl rfl (by rw [l39]; decide) dX6_init_180 (fun w41 fs41 s41 hw41 => ?_)
  have l41 := ln_set s41 l39
  have m41 : w41 mm = some (.inr (6, fs41)) := up_at hw41
  have v41 := Lv.up v40 hw41
  have k41 := KS.up k40 hw41
  have r41 := RWs.up r40 hw41 (by simp)
  have f1_41 := up_ne hw41 (fk f1_40 m40 rfl) f1_40
  have f4_41 := up_ne hw41 (fk f4_40 m40 rfl) f4_40
  have f6_41 := up_ne hw41 (fk f6_40 m40 rfl) f6_40
  have f8_41 := up_ne hw41 (fk f8_40 m40 rfl) f8_40
  have f10_41 := up_ne hw41 (fk f10_40 m40 rfl) f10_40
  have f12_41 := up_ne hw41 (fk f12_40 m40 rfl) f12_40
  have f14_41 := up_ne hw41 (fk f14_40 m40 rfl) f14_40
  have f16_41 := up_ne hw41 (fk f16_40 m40 rfl) f16_40
  have f18_41 := up_ne hw41 (fk f18_40 m40 rfl) f18_40
  have f20_41 := up_ne hw41 (fk f20_40 m40 rfl) f20_40
  have f22_41 := up_ne hw41 (fk f22_40 m40 rfl) f22_40
  have f24_41 := up_ne hw41 (fk f24_40 m40 rfl) f24_40
  have f26_41 := up_ne hw41 (fk f26_40 m40 rfl) f26_40
  have f28_41 := up_ne hw41 (fk f28_40 m40 rfl) f28_40
  have f30_41 := up_ne hw41 (fk f30_40 m40 rfl) f30_40
  have f32_41 := up_ne hw41 (fk f32_40 m40 rfl) f32_40
  have f34_41 := up_ne hw41 (fk f34_40 m40 rfl) f34_40
  have f36_41 := up_ne hw41 (fk f36_40 m40 rfl) f36_40
  have f38_41 := up_ne hw41 (fk f38_40 m40 rfl) f38_40
  have f40_41 := up_ne hw41 (fk f40 m40 rfl) f40
  have x41 := st_at' s41 l39 (by decide : 42 < 45)
  refine j_aload_n dX6_init_183 0 rfl ?_
  refine j_sipush (v := nI 1000) dX6_init_184 (by decide) ?_
  refine j_putM fsX6_init_77 m41 rfl rfl (by rw [l41]; decide) dX6_init_187 (fun w42 fs42 s42 hw42 => ?_)
  have l42 := ln_set s42 l41
  have m42 : w42 mm = some (.inr (6, fs42)) := up_at hw42
  have v42 := Lv.up v41 hw42
  have k42 := KS.up k41 hw42
  have r42 := RWs.up r41 hw42 (by simp)
  have f1_42 := up_ne hw42 (fk f1_41 m41 rfl) f1_41
  have f4_42 := up_ne hw42 (fk f4_41 m41 rfl) f4_41
  have f6_42 := up_ne hw42 (fk f6_41 m41 rfl) f6_41
  have f8_42 := up_ne hw42 (fk f8_41 m41 rfl) f8_41
  have f10_42 := up_ne hw42 (fk f10_41 m41 rfl) f10_41
  have f12_42 := up_ne hw42 (fk f12_41 m41 rfl) f12_41
  have f14_42 := up_ne hw42 (fk f14_41 m41 rfl) f14_41
  have f16_42 := up_ne hw42 (fk f16_41 m41 rfl) f16_41
  have f18_42 := up_ne hw42 (fk f18_41 m41 rfl) f18_41
  have f20_42 := up_ne hw42 (fk f20_41 m41 rfl) f20_41
  have f22_42 := up_ne hw42 (fk f22_41 m41 rfl) f22_41
  have f24_42 := up_ne hw42 (fk f24_41 m41 rfl) f24_41
  have f26_42 := up_ne hw42 (fk f26_41 m41 rfl) f26_41
  have f28_42 := up_ne hw42 (fk f28_41 m41 rfl) f28_41
  have f30_42 := up_ne hw42 (fk f30_41 m41 rfl) f30_41
  have f32_42 := up_ne hw42 (fk f32_41 m41 rfl) f32_41
  have f34_42 := up_ne hw42 (fk f34_41 m41 rfl) f34_41
  have f36_42 := up_ne hw42 (fk f36_41 m41 rfl) f36_41
  have f38_42 := up_ne hw42 (fk f38_41 m41 rfl) f38_41
  have f40_42 := up_ne hw42 (fk f40_41 m41 rfl) f40_41
  have x42 := st_at' s42 l41 (by decide : 44 < 45)
  refine j_aload_n dX6_init_190 0 rfl ?_
  refine j_get (v := .ref q36) flX6_init_68 m42 (st_ne s42 rfl (st_ne s41 rfl (st_ne s39 rfl x37))) dX6_init_191 ?_
  refine j_iconst (v := nI 0) dX6_init_194 (by decide) ?_
  refine j_iconst (v := nI 3) dX6_init_195 (by decide) ?_
  have f36_n : w42 q36 = some (.inl (0, 4, .inl (fun j9 => nI ((fun _ => 0) j9)))) := f36_42
  refine j_iastn (j := 0) (x := 3) f36_n rfl (by omega) (by omega) dX6_init_196 ?_
  refine j_w (fun w43 hw43 => ?_)
  have f1_43 := up_ne hw43 (nd_in v42.1 19 2 rfl rfl rfl) f1_42
  have f4_43 := up_ne hw43 (nd_in v42.1 18 2 rfl rfl rfl) f4_42
  have f6_43 := up_ne hw43 (nd_in v42.1 17 2 rfl rfl rfl) f6_42
  have f8_43 := up_ne hw43 (nd_in v42.1 16 2 rfl rfl rfl) f8_42
  have f10_43 := up_ne hw43 (nd_in v42.1 15 2 rfl rfl rfl) f10_42
  have f12_43 := up_ne hw43 (nd_in v42.1 14 2 rfl rfl rfl) f12_42
  have f14_43 := up_ne hw43 (nd_in v42.1 13 2 rfl rfl rfl) f14_42
  have f16_43 := up_ne hw43 (nd_in v42.1 12 2 rfl rfl rfl) f16_42
  have f18_43 := up_ne hw43 (nd_in v42.1 11 2 rfl rfl rfl) f18_42
  have f20_43 := up_ne hw43 (nd_in v42.1 10 2 rfl rfl rfl) f20_42
  have f22_43 := up_ne hw43 (nd_in v42.1 9 2 rfl rfl rfl) f22_42
  have f24_43 := up_ne hw43 (nd_in v42.1 8 2 rfl rfl rfl) f24_42
  have f26_43 := up_ne hw43 (nd_in v42.1 7 2 rfl rfl rfl) f26_42
  have f28_43 := up_ne hw43 (nd_in v42.1 6 2 rfl rfl rfl) f28_42
  have f30_43 := up_ne hw43 (nd_in v42.1 5 2 rfl rfl rfl) f30_42
  have f32_43 := up_ne hw43 (nd_in v42.1 4 2 rfl rfl rfl) f32_42
  have f34_43 := up_ne hw43 (nd_in v42.1 3 2 rfl rfl rfl) f34_42
  have f38_43 := up_ne hw43 (nd_in v42.1 1 2 rfl rfl rfl) f38_42
  have f40_43 := up_ne hw43 (nd_in v42.1 0 2 rfl rfl rfl) f40_42
  have f36_43 : w43 q36 = some (.inl (0, 4, .inl (fun j9 => nI ((va_up (fun _ => 0) 0 3) j9)))) := up_at hw43
  have m43 : w43 mm = some (.inr (6, fs42)) := up_ne hw43 nm36 m42
  have v43 := Lv.up v42 hw43
  have k43 := KS.fresh k42 z36 hw43
  have r43 := RWs.up r42 hw43 (by simp)
  refine j_aload_n dX6_init_197 0 rfl ?_
  refine j_get (v := .ref q36) flX6_init_68 m43 (st_ne s42 rfl (st_ne s41 rfl (st_ne s39 rfl x37))) dX6_init_198 ?_
  refine j_iconst (v := nI 1) dX6_init_201 (by decide) ?_
  refine j_iconst (v := nI 2) dX6_init_202 (by decide) ?_
  refine j_iastn (j := 1) (x := 2) f36_43 rfl (by omega) (by omega) dX6_init_203 ?_
  refine j_w (fun w44 hw44 => ?_)
  have f1_44 := up_ne hw44 (nd_in v43.1 19 2 rfl rfl rfl) f1_43
  have f4_44 := up_ne hw44 (nd_in v43.1 18 2 rfl rfl rfl) f4_43
  have f6_44 := up_ne hw44 (nd_in v43.1 17 2 rfl rfl rfl) f6_43
  have f8_44 := up_ne hw44 (nd_in v43.1 16 2 rfl rfl rfl) f8_43
  have f10_44 := up_ne hw44 (nd_in v43.1 15 2 rfl rfl rfl) f10_43
  have f12_44 := up_ne hw44 (nd_in v43.1 14 2 rfl rfl rfl) f12_43
  have f14_44 := up_ne hw44 (nd_in v43.1 13 2 rfl rfl rfl) f14_43
  have f16_44 := up_ne hw44 (nd_in v43.1 12 2 rfl rfl rfl) f16_43
  have f18_44 := up_ne hw44 (nd_in v43.1 11 2 rfl rfl rfl) f18_43
  have f20_44 := up_ne hw44 (nd_in v43.1 10 2 rfl rfl rfl) f20_43
  have f22_44 := up_ne hw44 (nd_in v43.1 9 2 rfl rfl rfl) f22_43
  have f24_44 := up_ne hw44 (nd_in v43.1 8 2 rfl rfl rfl) f24_43
  have f26_44 := up_ne hw44 (nd_in v43.1 7 2 rfl rfl rfl) f26_43
  have f28_44 := up_ne hw44 (nd_in v43.1 6 2 rfl rfl rfl) f28_43
  have f30_44 := up_ne hw44 (nd_in v43.1 5 2 rfl rfl rfl) f30_43
  have f32_44 := up_ne hw44 (nd_in v43.1 4 2 rfl rfl rfl) f32_43
  have f34_44 := up_ne hw44 (nd_in v43.1 3 2 rfl rfl rfl) f34_43
  have f38_44 := up_ne hw44 (nd_in v43.1 1 2 rfl rfl rfl) f38_43
  have f40_44 := up_ne hw44 (nd_in v43.1 0 2 rfl rfl rfl) f40_43
  have f36_44 : w44 q36 = some (.inl (0, 4, .inl (fun j9 => nI ((va_up (va_up (fun _ => 0) 0 3) 1 2) j9)))) := up_at hw44
  have m44 : w44 mm = some (.inr (6, fs42)) := up_ne hw44 nm36 m43
  have v44 := Lv.up v43 hw44
  have k44 := KS.fresh k43 z36 hw44
  have r44 := RWs.up r43 hw44 (by simp)
  refine j_aload_n dX6_init_204 0 rfl ?_
  refine j_get (v := .ref q36) flX6_init_68 m44 (st_ne s42 rfl (st_ne s41 rfl (st_ne s39 rfl x37))) dX6_init_205 ?_
  refine j_iconst (v := nI 2) dX6_init_208 (by decide) ?_
  refine j_iconst (v := nI 2) dX6_init_209 (by decide) ?_
  refine j_iastn (j := 2) (x := 2) f36_44 rfl (by omega) (by omega) dX6_init_210 ?_
  refine j_w (fun w45 hw45 => ?_)
  have f1_45 := up_ne hw45 (nd_in v44.1 19 2 rfl rfl rfl) f1_44
  have f4_45 := up_ne hw45 (nd_in v44.1 18 2 rfl rfl rfl) f4_44
  have f6_45 := up_ne hw45 (nd_in v44.1 17 2 rfl rfl rfl) f6_44
  have f8_45 := up_ne hw45 (nd_in v44.1 16 2 rfl rfl rfl) f8_44
  have f10_45 := up_ne hw45 (nd_in v44.1 15 2 rfl rfl rfl) f10_44
  have f12_45 := up_ne hw45 (nd_in v44.1 14 2 rfl rfl rfl) f12_44
  have f14_45 := up_ne hw45 (nd_in v44.1 13 2 rfl rfl rfl) f14_44
  have f16_45 := up_ne hw45 (nd_in v44.1 12 2 rfl rfl rfl) f16_44
  have f18_45 := up_ne hw45 (nd_in v44.1 11 2 rfl rfl rfl) f18_44
  have f20_45 := up_ne hw45 (nd_in v44.1 10 2 rfl rfl rfl) f20_44
  have f22_45 := up_ne hw45 (nd_in v44.1 9 2 rfl rfl rfl) f22_44
  have f24_45 := up_ne hw45 (nd_in v44.1 8 2 rfl rfl rfl) f24_44
  have f26_45 := up_ne hw45 (nd_in v44.1 7 2 rfl rfl rfl) f26_44
  have f28_45 := up_ne hw45 (nd_in v44.1 6 2 rfl rfl rfl) f28_44
  have f30_45 := up_ne hw45 (nd_in v44.1 5 2 rfl rfl rfl) f30_44
  have f32_45 := up_ne hw45 (nd_in v44.1 4 2 rfl rfl rfl) f32_44
  have f34_45 := up_ne hw45 (nd_in v44.1 3 2 rfl rfl rfl) f34_44
  have f38_45 := up_ne hw45 (nd_in v44.1 1 2 rfl rfl rfl) f38_44
  have f40_45 := up_ne hw45 (nd_in v44.1 0 2 rfl rfl rfl) f40_44
  have f36_45 : w45 q36 = some (.inl (0, 4, .inl (fun j9 => nI ((va_up (va_up (va_up (fun _ => 0) 0 3) 1 2) 2 2) j9)))) := up_at hw45
  have m45 : w45 mm = some (.inr (6, fs42)) := up_ne hw45 nm36 m44
  have v45 := Lv.up v44 hw45
  have k45 := KS.fresh k44 z36 hw45
  have r45 := RWs.up r44 hw45 (by simp)
  refine j_aload_n dX6_init_211 0 rfl ?_
  refine j_get (v := .ref q36) flX6_init_68 m45 (st_ne s42 rfl (st_ne s41 rfl (st_ne s39 rfl x37))) dX6_init_212 ?_
  refine j_iconst (v := nI 3) dX6_init_215 (by decide) ?_
  refine j_bipush (v := nI 6) dX6_init_216 (by decide) ?_
  refine j_iastn (j := 3) (x := 6) f36_45 rfl (by omega) (by omega) dX6_init_218 ?_
  refine j_w (fun w46 hw46 => ?_)
  have f1_46 := up_ne hw46 (nd_in v45.1 19 2 rfl rfl rfl) f1_45
  have f4_46 := up_ne hw46 (nd_in v45.1 18 2 rfl rfl rfl) f4_45
  have f6_46 := up_ne hw46 (nd_in v45.1 17 2 rfl rfl rfl) f6_45
  have f8_46 := up_ne hw46 (nd_in v45.1 16 2 rfl rfl rfl) f8_45
  have f10_46 := up_ne hw46 (nd_in v45.1 15 2 rfl rfl rfl) f10_45
  have f12_46 := up_ne hw46 (nd_in v45.1 14 2 rfl rfl rfl) f12_45
  have f14_46 := up_ne hw46 (nd_in v45.1 13 2 rfl rfl rfl) f14_45
  have f16_46 := up_ne hw46 (nd_in v45.1 12 2 rfl rfl rfl) f16_45
  have f18_46 := up_ne hw46 (nd_in v45.1 11 2 rfl rfl rfl) f18_45
  have f20_46 := up_ne hw46 (nd_in v45.1 10 2 rfl rfl rfl) f20_45
  have f22_46 := up_ne hw46 (nd_in v45.1 9 2 rfl rfl rfl) f22_45
  have f24_46 := up_ne hw46 (nd_in v45.1 8 2 rfl rfl rfl) f24_45
  have f26_46 := up_ne hw46 (nd_in v45.1 7 2 rfl rfl rfl) f26_45
  have f28_46 := up_ne hw46 (nd_in v45.1 6 2 rfl rfl rfl) f28_45
  have f30_46 := up_ne hw46 (nd_in v45.1 5 2 rfl rfl rfl) f30_45
  have f32_46 := up_ne hw46 (nd_in v45.1 4 2 rfl rfl rfl) f32_45
  have f34_46 := up_ne hw46 (nd_in v45.1 3 2 rfl rfl rfl) f34_45
  have f38_46 := up_ne hw46 (nd_in v45.1 1 2 rfl rfl rfl) f38_45
  have f40_46 := up_ne hw46 (nd_in v45.1 0 2 rfl rfl rfl) f40_45
  have f36_46 : w46 q36 = some (.inl (0, 4, .inl (fun j9 => nI ((va_up (va_up (va_up (va_up (fun _ => 0) 0 3) 1 2) 2 2) 3 6) j9)))) := up_at hw46
  have m46 : w46 mm = some (.inr (6, fs42)) := up_ne hw46 nm36 m45
  have v46 := Lv.up v45 hw46
  have k46 := KS.fresh k45 z36 hw46
  have r46 := RWs.up r45 hw46 (by simp)
  have hAD : AD (AL [q40, q38, q36, q34, q32, q30, q28, q26, q24, q22, q20, q18, q16, q14, q12, q10, q8, q6, q4, q1, mm]) mm := AL_AD v46.1 rfl rfl
  have hRA : RA (AL [q40, q38, q36, q34, q32, q30, q28, q26, q24, q22, q20, q18, q16, q14, q12, q10, q8, q6, q4, q1, mm]) fs42 := ⟨l42, isR_all (fun i hi => by
    simp only [isRr, List.mem_cons, List.not_mem_nil, or_false] at hi
    rcases hi with rfl | rfl | rfl | rfl | rfl | rfl | rfl | rfl | rfl | rfl | rfl | rfl | rfl | rfl | rfl | rfl | rfl | rfl | rfl | rfl
    · exact (st_ne s42 rfl x41)
    · exact (st_ne s42 rfl (st_ne s41 rfl x39))
    · exact (st_ne s42 rfl (st_ne s41 rfl (st_ne s39 rfl x37)))
    · exact (st_ne s42 rfl (st_ne s41 rfl (st_ne s39 rfl (st_ne s37 rfl x35))))
    · exact (st_ne s42 rfl (st_ne s41 rfl (st_ne s39 rfl (st_ne s37 rfl (st_ne s35 rfl x33)))))
    · exact (st_ne s42 rfl (st_ne s41 rfl (st_ne s39 rfl (st_ne s37 rfl (st_ne s35 rfl (st_ne s33 rfl x31))))))
    · exact (st_ne s42 rfl (st_ne s41 rfl (st_ne s39 rfl (st_ne s37 rfl (st_ne s35 rfl (st_ne s33 rfl (st_ne s31 rfl x29)))))))
    · exact (st_ne s42 rfl (st_ne s41 rfl (st_ne s39 rfl (st_ne s37 rfl (st_ne s35 rfl (st_ne s33 rfl (st_ne s31 rfl (st_ne s29 rfl x27))))))))
    · exact (st_ne s42 rfl (st_ne s41 rfl (st_ne s39 rfl (st_ne s37 rfl (st_ne s35 rfl (st_ne s33 rfl (st_ne s31 rfl (st_ne s29 rfl (st_ne s27 rfl x25)))))))))
    · exact (st_ne s42 rfl (st_ne s41 rfl (st_ne s39 rfl (st_ne s37 rfl (st_ne s35 rfl (st_ne s33 rfl (st_ne s31 rfl (st_ne s29 rfl (st_ne s27 rfl (st_ne s25 rfl x23))))))))))
    · exact (st_ne s42 rfl (st_ne s41 rfl (st_ne s39 rfl (st_ne s37 rfl (st_ne s35 rfl (st_ne s33 rfl (st_ne s31 rfl (st_ne s29 rfl (st_ne s27 rfl (st_ne s25 rfl (st_ne s23 rfl x21)))))))))))
    · exact (st_ne s42 rfl (st_ne s41 rfl (st_ne s39 rfl (st_ne s37 rfl (st_ne s35 rfl (st_ne s33 rfl (st_ne s31 rfl (st_ne s29 rfl (st_ne s27 rfl (st_ne s25 rfl (st_ne s23 rfl (st_ne s21 rfl x19))))))))))))
    · exact (st_ne s42 rfl (st_ne s41 rfl (st_ne s39 rfl (st_ne s37 rfl (st_ne s35 rfl (st_ne s33 rfl (st_ne s31 rfl (st_ne s29 rfl (st_ne s27 rfl (st_ne s25 rfl (st_ne s23 rfl (st_ne s21 rfl (st_ne s19 rfl x17)))))))))))))
    · exact (st_ne s42 rfl (st_ne s41 rfl (st_ne s39 rfl (st_ne s37 rfl (st_ne s35 rfl (st_ne s33 rfl (st_ne s31 rfl (st_ne s29 rfl (st_ne s27 rfl (st_ne s25 rfl (st_ne s23 rfl (st_ne s21 rfl (st_ne s19 rfl (st_ne s17 rfl x15))))))))))))))
    · exact (st_ne s42 rfl (st_ne s41 rfl (st_ne s39 rfl (st_ne s37 rfl (st_ne s35 rfl (st_ne s33 rfl (st_ne s31 rfl (st_ne s29 rfl (st_ne s27 rfl (st_ne s25 rfl (st_ne s23 rfl (st_ne s21 rfl (st_ne s19 rfl (st_ne s17 rfl (st_ne s15 rfl x13)))))))))))))))
    · exact (st_ne s42 rfl (st_ne s41 rfl (st_ne s39 rfl (st_ne s37 rfl (st_ne s35 rfl (st_ne s33 rfl (st_ne s31 rfl (st_ne s29 rfl (st_ne s27 rfl (st_ne s25 rfl (st_ne s23 rfl (st_ne s21 rfl (st_ne s19 rfl (st_ne s17 rfl (st_ne s15 rfl (st_ne s13 rfl x11))))))))))))))))
    · exact (st_ne s42 rfl (st_ne s41 rfl (st_ne s39 rfl (st_ne s37 rfl (st_ne s35 rfl (st_ne s33 rfl (st_ne s31 rfl (st_ne s29 rfl (st_ne s27 rfl (st_ne s25 rfl (st_ne s23 rfl (st_ne s21 rfl (st_ne s19 rfl (st_ne s17 rfl (st_ne s15 rfl (st_ne s13 rfl (st_ne s11 rfl x9)))))))))))))))))
    · exact (st_ne s42 rfl (st_ne s41 rfl (st_ne s39 rfl (st_ne s37 rfl (st_ne s35 rfl (st_ne s33 rfl (st_ne s31 rfl (st_ne s29 rfl (st_ne s27 rfl (st_ne s25 rfl (st_ne s23 rfl (st_ne s21 rfl (st_ne s19 rfl (st_ne s17 rfl (st_ne s15 rfl (st_ne s13 rfl (st_ne s11 rfl (st_ne s9 rfl x7))))))))))))))))))
    · exact (st_ne s42 rfl (st_ne s41 rfl (st_ne s39 rfl (st_ne s37 rfl (st_ne s35 rfl (st_ne s33 rfl (st_ne s31 rfl (st_ne s29 rfl (st_ne s27 rfl (st_ne s25 rfl (st_ne s23 rfl (st_ne s21 rfl (st_ne s19 rfl (st_ne s17 rfl (st_ne s15 rfl (st_ne s13 rfl (st_ne s11 rfl (st_ne s9 rfl (st_ne s7 rfl x5)))))))))))))))))))
    · exact (st_ne s42 rfl (st_ne s41 rfl (st_ne s39 rfl (st_ne s37 rfl (st_ne s35 rfl (st_ne s33 rfl (st_ne s31 rfl (st_ne s29 rfl (st_ne s27 rfl (st_ne s25 rfl (st_ne s23 rfl (st_ne s21 rfl (st_ne s19 rfl (st_ne s17 rfl (st_ne s15 rfl (st_ne s13 rfl (st_ne s11 rfl (st_ne s9 rfl (st_ne s7 rfl (st_ne s5 rfl (st_ne s3 rfl x2))))))))))))))))))))))⟩
  have hZ : ∀ i, isR i = true → w (AL [q40, q38, q36, q34, q32, q30, q28, q26, q24, q22, q20, q18, q16, q14, q12, q10, q8, q6, q4, q1, mm] i) = none := isR_all (fun i hi => by
    simp only [isRr, List.mem_cons, List.not_mem_nil, or_false] at hi
    rcases hi with rfl | rfl | rfl | rfl | rfl | rfl | rfl | rfl | rfl | rfl | rfl | rfl | rfl | rfl | rfl | rfl | rfl | rfl | rfl | rfl
    · exact z40
    · exact z38
    · exact z36
    · exact z34
    · exact z32
    · exact z30
    · exact z28
    · exact z26
    · exact z24
    · exact z22
    · exact z20
    · exact z18
    · exact z16
    · exact z14
    · exact z12
    · exact z10
    · exact z8
    · exact z6
    · exact z4
    · exact z1)
  exact j_vret rfl ⟨AL [q40, q38, q36, q34, q32, q30, q28, q26, q24, q22, q20, q18, q16, q14, q12, q10, q8, q6, q4, q1, mm], rr, fs42, rfl, hRA, hAD, (((((((((((((((((((((((FF.refl : FF [1, 4, 10, 11, 12, 13, 14, 15, 16, 17, 18, 19, 20, 35, 36, 37, 38, 39, 40, 41, 42, 44] fs00 fs00).trans (FF.set s2 rfl)).trans (FF.set s3 rfl)).trans (FF.set s5 rfl)).trans (FF.set s7 rfl)).trans (FF.set s9 rfl)).trans (FF.set s11 rfl)).trans (FF.set s13 rfl)).trans (FF.set s15 rfl)).trans (FF.set s17 rfl)).trans (FF.set s19 rfl)).trans (FF.set s21 rfl)).trans (FF.set s23 rfl)).trans (FF.set s25 rfl)).trans (FF.set s27 rfl)).trans (FF.set s29 rfl)).trans (FF.set s31 rfl)).trans (FF.set s33 rfl)).trans (FF.set s35 rfl)).trans (FF.set s37 rfl)).trans (FF.set s39 rfl)).trans (FF.set s41 rfl)).trans (FF.set s42 rfl)), (st_ne s42 rfl (st_ne s41 rfl (st_ne s39 rfl (st_ne s37 rfl (st_ne s35 rfl (st_ne s33 rfl (st_ne s31 rfl (st_ne s29 rfl (st_ne s27 rfl (st_ne s25 rfl (st_ne s23 rfl (st_ne s21 rfl (st_ne s19 rfl (st_ne s17 rfl (st_ne s15 rfl (st_ne s13 rfl (st_ne s11 rfl (st_ne s9 rfl (st_ne s7 rfl (st_ne s5 rfl x3)))))))))))))))))))), x42, m46, hZ, fun i hi => ⟨zr i hi, ⟨fun q => (r46 i hi).1 (by rw [q]; simp), fun j hj q => (r46 i hi).1 (by rw [q]; exact AL_mem rfl hj)⟩, (r46 i hi).2⟩, hri, ⟨f4_46, f6_46, f8_46, f10_46, f12_46, f14_46, f16_46, f18_46, f20_46, f22_46⟩, f1_46, f24_46, f26_46, f28_46, f30_46, f32_46, f34_46, f36_46, f38_46, f40_46, k46⟩ (show 421 ≤ 421 by omega) (show 651707 ≤ 651707 by omega) dX6_init_219
