section HE
def cmF (x : Nat → Nat) (k v : Nat) : Nat → Nat := va_up x k (min (x k) v)
/-- the right bits of an event: k of them from i on -/
def rbF (xp : Nat → Int32) (no e b left v : Nat) : Nat → Nat → (Nat → Nat) → Nat → Nat
  | 0, _, x => x
  | k + 1, i, x => rbF xp no e b left v k (i + 1) (if left / 2 ^ i % 2 = 1 ∧ xp (4 * e + i) = nI no then cmF x (16 * e + (b ||| 2 ^ i)) v else x)
theorem rbF_step {xp : Nat → Int32} {no e b left v n i : Nat} {x : Nat → Nat} (h : i < n) : rbF xp no e b left v (n - i) i x = rbF xp no e b left v (n - (i + 1)) (i + 1) (if left / 2 ^ i % 2 = 1 ∧ xp (4 * e + i) = nI no then cmF x (16 * e + (b ||| 2 ^ i)) v else x) := by
  obtain ⟨k, hk⟩ : ∃ k, n - i = k + 1 := ⟨n - i - 1, by omega⟩
  rw [hk, show n - (i + 1) = k by omega]
  rfl
def nearB (d : Int32) : Bool := decide (¬ d < -1 ∧ ¬ nI 1 < d)
/-- the note at one place -/
def hbS (o : Nat → Nat) (xp : Nat → Int32) (p : Nat → Nat) (orn : Bool) (n no e b : Nat) (x : Nat → Nat) : Nat → Nat :=
  if o (16 * e + b) < 268435456 then
    (if orn then
      (if b = 0 then cmF (if nearB (nI no - xp (4 * e)) then cmF (cmF x (16 * e + b) (o (16 * e + b) + p 1)) (16 * e + 1) (o (16 * e + b)) else cmF x (16 * e + b) (o (16 * e + b) + p 1)) (16 * e + 1) (o (16 * e + b) + p 0)
       else (if nearB (nI no - xp (4 * e)) then cmF (cmF x (16 * e + b) (o (16 * e + b) + p 1)) (16 * e + 1) (o (16 * e + b)) else cmF x (16 * e + b) (o (16 * e + b) + p 1)))
     else rbF xp no e b (2 ^ n - 1 - b) (o (16 * e + b)) n 0 (if 2 ^ n - 1 - b = 0 then cmF x (16 * e + b) (o (16 * e + b) + p 1) else cmF (cmF x (16 * e + b) (o (16 * e + b) + p 1)) (16 * e + (b ||| (b + 1))) (o (16 * e + b) + p 0)))
  else x
def hbF (o : Nat → Nat) (xp : Nat → Int32) (p : Nat → Nat) (orn : Bool) (n no e : Nat) : Nat → Nat → (Nat → Nat) → Nat → Nat
  | 0, _, x => x
  | k + 1, b, x => hbF o xp p orn n no e k (b + 1) (hbS o xp p orn n no e b x)
theorem hbF_step {o : Nat → Nat} {xp : Nat → Int32} {p : Nat → Nat} {orn : Bool} {n no e m b : Nat} {x : Nat → Nat} (h : b < m) : hbF o xp p orn n no e (m - b) b x = hbF o xp p orn n no e (m - (b + 1)) (b + 1) (hbS o xp p orn n no e b x) := by
  obtain ⟨k, hk⟩ : ∃ k, m - b = k + 1 := ⟨m - b - 1, by omega⟩
  rw [hk, show m - (b + 1) = k by omega]
  rfl
def heF (o xk xm : Nat → Nat) (xp : Nat → Int32) (p : Nat → Nat) (no : Nat) : Nat → Nat → (Nat → Nat) → Nat → Nat
  | 0, _, x => x
  | k + 1, e, x => heF o xk xm xp p no k (e + 1) (hbF o xp p (decide (xk e = 2)) (xm e) no e (2 ^ xm e) 0 x)
theorem heF_step {o xk xm : Nat → Nat} {xp : Nat → Int32} {p : Nat → Nat} {no ev e : Nat} {x : Nat → Nat} (h : e < ev) : heF o xk xm xp p no (ev - e) e x = heF o xk xm xp p no (ev - (e + 1)) (e + 1) (hbF o xp p (decide (xk e = 2)) (xm e) no e (2 ^ xm e) 0 x) := by
  obtain ⟨k, hk⟩ : ∃ k, ev - e = k + 1 := ⟨ev - e - 1, by omega⟩
  rw [hk, show ev - (e + 1) = k by omega]
  rfl
theorem shm {l i : Nat} (hl : l < 16) (hi : i < 4) : nI l >>> (nI i &&& 31) &&& nI 1 = nI (l / 2 ^ i % 2) := by
  have : ∀ l : Fin 16, ∀ i : Fin 4, nI l.1 >>> (nI i.1 &&& 31) &&& nI 1 = nI (l.1 / 2 ^ i.1 % 2) := by decide +kernel
  exact this ⟨l, hl⟩ ⟨i, hi⟩
theorem lowb {n b : Nat} (hn : n ≤ 4) (hb : b < 2 ^ n) (h0 : 2 ^ n - 1 - b ≠ 0) : nI (2 ^ n - 1 - b) &&& -(nI (2 ^ n - 1 - b)) = nI ((2 ^ n - 1 - b) &&& (16 - (2 ^ n - 1 - b))) ∧ b ||| ((2 ^ n - 1 - b) &&& (16 - (2 ^ n - 1 - b))) = b ||| (b + 1) ∧ (2 ^ n - 1 - b) &&& (16 - (2 ^ n - 1 - b)) < 16 ∧ b ||| (b + 1) < 2 ^ n := by
  have h4 := pw4 hn
  have : ∀ n : Fin 5, ∀ b : Fin 16, b.1 < 2 ^ n.1 → 2 ^ n.1 - 1 - b.1 ≠ 0 → nI (2 ^ n.1 - 1 - b.1) &&& -(nI (2 ^ n.1 - 1 - b.1)) = nI ((2 ^ n.1 - 1 - b.1) &&& (16 - (2 ^ n.1 - 1 - b.1))) ∧ b.1 ||| ((2 ^ n.1 - 1 - b.1) &&& (16 - (2 ^ n.1 - 1 - b.1))) = b.1 ||| (b.1 + 1) ∧ (2 ^ n.1 - 1 - b.1) &&& (16 - (2 ^ n.1 - 1 - b.1)) < 16 ∧ b.1 ||| (b.1 + 1) < 2 ^ n.1 := by decide +kernel
  exact this ⟨n, by omega⟩ ⟨b, by omega⟩ hb h0
theorem or16 {e b l : Nat} (hb : b < 16) (hl : l < 16) : (16 * e + b) ||| l = 16 * e + (b ||| l) := by
  have h1 : 16 * e + b = (e <<< 4) ||| b := by rw [← Nat.shiftLeft_add_eq_or_of_lt (show b < 2 ^ 4 by omega), Nat.shiftLeft_eq]; omega
  have h2 : b ||| l < 2 ^ 4 := Nat.or_lt_two_pow (by omega) (by omega)
  rw [h1, Nat.or_assoc, ← Nat.shiftLeft_add_eq_or_of_lt h2, Nat.shiftLeft_eq]
  omega
/-- places, event by event -/
def fpE (x xm : Nat → Nat) : Nat → Nat → Nat × Nat × Nat → Nat × Nat × Nat
  | 0, _, t => t
  | k + 1, e, t => fpE x xm k (e + 1) (fpF x (16 * e) e (2 ^ xm e) 0 t)
theorem fpE_step {x xm : Nat → Nat} {ev e : Nat} {t : Nat × Nat × Nat} (h : e < ev) : fpE x xm (ev - e) e t = fpE x xm (ev - (e + 1)) (e + 1) (fpF x (16 * e) e (2 ^ xm e) 0 t) := by
  obtain ⟨k, hk⟩ : ∃ k, ev - e = k + 1 := ⟨ev - e - 1, by omega⟩
  rw [hk, show ev - (e + 1) = k by omega]
  rfl
def plE (pe : Nat → Nat) (n : Nat) (b v : Nat) : Nat → Nat := if b < 268435456 then va_up pe n v else pe
theorem va_uu {f : Nat → Nat} {a x y : Nat} : va_up (va_up f a x) a y = va_up f a y := by
  funext j
  by_cases h : j = a
  · subst h; rw [va_up_self, va_up_self]
  · rw [va_up_ne _ _ h, va_up_ne _ _ h, va_up_ne _ _ h]
theorem plE_up {pe : Nat → Nat} {n b v b' v' : Nat} (h : b' < 268435456) : va_up (plE pe n b v) n v' = plE pe n b' v' := by
  unfold plE
  rw [if_pos h]
  split
  · exact va_uu
  · rfl
theorem plE_at {pe : Nat → Nat} {n b v : Nat} (h : b < 268435456) : plE pe n b v n = v := by unfold plE; rw [if_pos h, va_up_self]
theorem plE_ne {pe : Nat → Nat} {n b v j : Nat} (h : j ≠ n) : plE pe n b v j = pe j := by
  unfold plE
  split
  · exact va_up_ne _ _ h
  · rfl
/-- the anchors, as places in the row of notes (1 is the first), the latest ahead -/
def anL (pe : Nat → Nat) : Nat → List Nat
  | 0 => []
  | k + 1 => if 0 < k ∧ pe (k + 1) = pe k then anL pe k else match anL pe k with
    | [] => [k + 1]
    | a :: l => if pe (k + 1) < pe a then [k + 1] else (k + 1) :: a :: l
def ANI (pe ti : Nat → Nat) (L : List Nat) (ae aT : Nat → Nat) : Prop := ∀ i a, L[i]? = some a → ae (L.length - 1 - i) = pe a ∧ aT (L.length - 1 - i) = ti (a - 1)
theorem anL_le {pe : Nat → Nat} : ∀ {k : Nat}, (anL pe k).length ≤ k
  | 0 => Nat.le_refl _
  | k + 1 => by
    have ih := anL_le (pe := pe) (k := k)
    unfold anL
    split
    · omega
    · split
      · simp
      · split
        · simp
        · rename_i h _
          rw [h] at ih
          simp only [List.length_cons] at ih ⊢
          omega
theorem ANI.one {pe ti ae aT : Nat → Nat} {k : Nat} : ANI pe ti [k + 1] (va_up ae 0 (pe (k + 1))) (va_up aT 0 (ti k)) := by
  intro i a h
  cases i with
  | zero =>
    simp only [List.getElem?_cons_zero, Option.some.injEq] at h
    subst h
    exact ⟨va_up_self _ _ _, va_up_self _ _ _⟩
  | succ i => simp at h
theorem ANI.push {pe ti ae aT : Nat → Nat} {k : Nat} {L : List Nat} (h : ANI pe ti L ae aT) : ANI pe ti ((k + 1) :: L) (va_up ae L.length (pe (k + 1))) (va_up aT L.length (ti k)) := by
  intro i a hi
  cases i with
  | zero =>
    simp only [List.getElem?_cons_zero, Option.some.injEq] at hi
    subst hi
    simp only [List.length_cons, Nat.add_sub_cancel, Nat.sub_zero]
    exact ⟨va_up_self _ _ _, va_up_self _ _ _⟩
  | succ i =>
    simp only [List.getElem?_cons_succ] at hi
    have hl := (List.getElem?_eq_some_iff.mp hi).1
    have h1 := h i a hi
    simp only [List.length_cons]
    rw [show L.length + 1 - 1 - (i + 1) = L.length - 1 - i by omega, va_up_ne _ _ (by omega), va_up_ne _ _ (by omega)]
    exact h1
end HE
abbrev rX6_come : Room := { frames := 1, cells := 0, slots := 0, locals := 24 }
set_option maxRecDepth 100000 in
theorem mX6_come_0 : Cond.methodLink RX6 112 Lib.Math.min.name ∈ wsX6_come := by decide +kernel
set_option maxRecDepth 100000 in
theorem mX6_come_1 : Cond.static Lib.Math.min.name ∈ wsX6_come := by decide +kernel
set_option maxRecDepth 100000 in
theorem mX6_come_2 : Cond.initialized "java/lang/Math" ∈ wsX6_come := by decide +kernel
set_option maxRecDepth 100000 in
theorem mX6_come_3 : Cond.code Lib.Math.min.name Lib.Math.min.code 2 (some .int) ∈ wsX6_come := by decide +kernel
set_option maxHeartbeats 4000000 in
set_option maxRecDepth 100000 in
theorem m_come {x : Nat → Nat} {r k v : Nat} {w : pW} {A : Nat → Nat} {mm : Nat} {fs : List Value} (hAD : AD A mm) (hmm : w mm = some (.inr (6, fs))) (hA : RA A fs) (hr0 : w r = some (.inl (0, 1600, .inl (fun j9 => nI (x j9))))) (hrw : RW A mm r) (hk : k < 1600) (hx : x k < 2 ^ 31) (hv : v < 2 ^ 31) : Ct yX6_come wsX6_come rX6_come [.ref mm, .ref r, .int (nI k), .int (nI v)] w (fun o w9 => o = .inl none ∧ FrI A [r] [] w w9 ∧ w9 r = some (.inl (0, 1600, .inl (fun j9 => nI ((cmF x k v) j9))))) := by
  refine Ct.of (cc := cX6_come) (own := RX6) (nm := "come") (nL := 4) (ret := none) (by decide +kernel) rfl rfl rfl (Nat.le_of_ble_eq_true rfl) ?_
  refine j_lvE (lv' := [(0, .ref mm), (1, .ref r), (2, .int (nI k)), (3, .int (nI v))]) rfl ?_
  refine j_aload_n dX6_come_0 1 rfl ?_
  refine j_iload_n dX6_come_1 2 rfl ?_
  refine j_aload_n dX6_come_2 1 rfl ?_
  refine j_iload_n dX6_come_3 2 rfl ?_
  refine j_ialdN (j := k) hr0 rfl (by omega) (by omega) dX6_come_4 ?_
  refine j_iload_n dX6_come_5 3 rfl ?_
  refine j_min mX6_come_0 mX6_come_1 mX6_come_2 mX6_come_3 (Nat.le_of_ble_eq_true rfl) (Nat.le_of_ble_eq_true rfl) ⟨(show 0 ≤ 0 by omega), (show 0 ≤ 0 by omega)⟩ dX6_come_6 ?_
  refine j_eqi (y := nI (min (x k) v)) (mnN (by omega) (by omega)) ?_
  refine j_iastn (j := k) (x := min (x k) v) hr0 rfl (by omega) (by omega) dX6_come_9 ?_
  refine j_w (fun w1 hw1 => ?_)
  have f2 : w1 r = some (.inl (0, 1600, .inl (fun j9 => nI ((va_up x k (min (x k) v)) j9)))) := up_at hw1
  exact j_vret rfl ⟨rfl, ((FrI.refl : FrI A [r] [] w w).trans (FrI.ux hw1 (by simp))), f2⟩ (show 0 ≤ 0 by omega) (show 0 ≤ 0 by omega) dX6_come_10
abbrev rX6_hear : Room := { frames := 2, cells := 0, slots := 0, locals := 47 }
theorem flX6_hear_20 : FL wsX6_hear RX6 20 6 11 := ⟨RX6, TX6, 45, rfl, by decide, by decide +kernel, by decide +kernel⟩
theorem flX6_hear_23 : FL wsX6_hear RX6 23 6 12 := ⟨RX6, TX6, 45, rfl, by decide, by decide +kernel, by decide +kernel⟩
set_option maxHeartbeats 4000000 in
set_option maxRecDepth 100000 in
theorem l_h205 {x0 o xk xm p : Nat → Nat} {xp : Nat → Int32} {ev r no : Nat} {w0 : pW} {fs : List Value} {A : Nat → Nat} {mm : Nat} (hAD : AD A mm) (hA : RA A fs) (h5 : fs[5]? = some (.int (nI ev))) (hrw : RW A mm r) (hev : ev ≤ 100) (hm4 : ∀ e, e < ev → xm e ≤ 4) (hk2 : ∀ e, e < ev → xk e < 4 ∧ (xk e = 2 → xm e = 1)) (hpb : ∀ j, p j ≤ 50) (hob : ∀ j, o j ≤ 268435456) (hno : no < 128) {e b v left : Nat} {X : Nat → Nat} (he : e < ev) (hb16 : b < 16) (hl16 : left < 16) (hvN : v < 268435456) (hc : ∀ (w : pW), (w mm = some (.inr (6, fs))) → (FrI A [r] [] w0 w) → (w (A 10) = some (.inl (0, 100, .inl (fun j9 => nI (xk j9))))) → (w (A 11) = some (.inl (0, 100, .inl (fun j9 => nI (xm j9))))) → (w (A 12) = some (.inl (0, 400, .inl xp))) → (w (A 39) = some (.inl (0, 1600, .inl (fun j9 => nI (o j9))))) → (w (A 40) = some (.inl (0, 4, .inl (fun j9 => nI (p j9))))) → (w r = some (.inl (0, 1600, .inl (fun j9 => nI (X j9))))) → (∀ j, X j ≤ 268435456) → J ((cX6_hear, RX6, 9, wsX6_hear), (rX6_hear, none, "hear", []), fun o9 w9 => o9 = .inl none ∧ FrI A [r] [] w0 w9 ∧ w9 r = some (.inl (0, 1600, .inl (fun j9 => nI ((heF o xk xm xp p no ev 0 (fil x0 (fun _ => 268435456) 1600)) j9)))), fun _ _ _ => True) 262 [(0, .ref mm), (1, .int (nI no)), (2, .ref r), (3, .int (nI e)), (4, .int (nI b))] [] w 0 0) : ∀ (m9 : Nat) (w : pW) (x : Nat → Nat) (i : Nat), xm e - i < m9 → (w mm = some (.inr (6, fs))) → (FrI A [r] [] w0 w) → (w (A 10) = some (.inl (0, 100, .inl (fun j9 => nI (xk j9))))) → (w (A 11) = some (.inl (0, 100, .inl (fun j9 => nI (xm j9))))) → (w (A 12) = some (.inl (0, 400, .inl xp))) → (w (A 39) = some (.inl (0, 1600, .inl (fun j9 => nI (o j9))))) → (w (A 40) = some (.inl (0, 4, .inl (fun j9 => nI (p j9))))) → (w r = some (.inl (0, 1600, .inl (fun j9 => nI (x j9))))) → (∀ j, x j ≤ 268435456) → (i ≤ xm e) → (rbF xp no e b left v (xm e - i) i x = X) → J ((cX6_hear, RX6, 9, wsX6_hear), (rX6_hear, none, "hear", []), fun o9 w9 => o9 = .inl none ∧ FrI A [r] [] w0 w9 ∧ w9 r = some (.inl (0, 1600, .inl (fun j9 => nI ((heF o xk xm xp p no ev 0 (fil x0 (fun _ => 268435456) 1600)) j9)))), fun _ _ _ => True) 205 [(0, .ref mm), (1, .int (nI no)), (2, .ref r), (3, .int (nI e)), (4, .int (nI b)), (5, .int (nI (16 * e + b))), (6, .int (nI v)), (7, .int (nI left)), (8, .int (nI i))] [] w 0 0 := by
  intro m9
  induction m9 with
  | zero => intro w x i h9; omega
  | succ m9 ih =>
    intro w x i hm9 hmm hfr a10 a11 a12 a39 a40 hr0 hx hi hX
    have hm4e := hm4 e he
    refine j_iload dX6_hear_205 8 rfl ?_
    refine j_aload_n dX6_hear_207 0 rfl ?_
    refine j_get (v := .ref (A 11)) flX6_hear_20 hmm (hA.2 11 rfl) dX6_hear_208 ?_
    refine j_iload_n dX6_hear_211 3 rfl ?_
    refine j_ialdN (j := e) a11 rfl (by omega) (by omega) dX6_hear_212 ?_
    refine j_icmp_geN 262 (by omega) (by omega) dX6_hear_213 (by decide) (fun c213 => ?_) (fun c213 => ?_)
    · skip
      refine j_lv (lv' := [(0, .ref mm), (1, .int (nI no)), (2, .ref r), (3, .int (nI e)), (4, .int (nI b))]) [0, 1, 2, 3, 4] rfl ?_
      have hin : i = xm e := by omega
      rw [hin, Nat.sub_self] at hX
      have hXx : x = X := hX
      subst hXx
      exact hc _ hmm (FrI.mono hfr (by simp) rfl : FrI A [r] [] w0 _) a10 a11 a12 a39 a40 hr0 hx
    · skip
      refine j_iload dX6_hear_216 7 rfl ?_
      refine j_iload dX6_hear_218 8 rfl ?_
      refine j_ishr dX6_hear_220 ?_
      refine j_iconst (v := nI 1) dX6_hear_221 (by decide) ?_
      refine j_iand dX6_hear_222 ?_
      refine j_eqi (y := nI (left / 2 ^ i % 2)) (shm (by omega) (by omega)) ?_
      refine j_iconst (v := nI 1) dX6_hear_223 (by decide) ?_
      refine j_icmp_neN 256 (by omega) (by omega) dX6_hear_224 (by decide) (fun c224 => ?_) (fun c224 => ?_)
      · skip
        refine j_iinc (q := 8) (v := nI (i + 1)) (lv' := [(8, .int (nI (i + 1))), (0, .ref mm), (1, .int (nI no)), (2, .ref r), (3, .int (nI e)), (4, .int (nI b)), (5, .int (nI (16 * e + b))), (6, .int (nI v)), (7, .int (nI left))]) dX6_hear_256 rfl (by first | exact nI_1 _ | exact nI_add _ _) (Nat.le_of_ble_eq_true rfl) rfl ?_
        refine j_goto 205 dX6_hear_259 (by decide) ?_
        refine j_lv (lv' := [(0, .ref mm), (1, .int (nI no)), (2, .ref r), (3, .int (nI e)), (4, .int (nI b)), (5, .int (nI (16 * e + b))), (6, .int (nI v)), (7, .int (nI left)), (8, .int (nI (i + 1)))]) [1, 2, 3, 4, 5, 6, 7, 8, 0] rfl ?_
        refine ih _ _ (i + 1) (by omega) hmm (FrI.mono hfr (by simp) rfl : FrI A [r] [] w0 _) a10 a11 a12 a39 a40 hr0 hx (by omega) ?_
        rw [rbF_step (by omega), if_neg (fun q => c224 q.1)] at hX; exact hX
      · skip
        refine j_aload_n dX6_hear_227 0 rfl ?_
        refine j_get (v := .ref (A 12)) flX6_hear_23 hmm (hA.2 12 rfl) dX6_hear_228 ?_
        refine j_iconst (v := nI 4) dX6_hear_231 (by decide) ?_
        refine j_iload_n dX6_hear_232 3 rfl ?_
        refine j_imulN dX6_hear_233 ?_
        refine j_iload dX6_hear_234 8 rfl ?_
        refine j_iaddN dX6_hear_236 ?_
        refine j_ialdN (j := (4 * e) + i) a12 rfl (by omega) (by omega) dX6_hear_237 ?_
        refine j_iload_n dX6_hear_238 1 rfl ?_
        refine j_icmp_ne 256 dX6_hear_239 (by decide) (fun c239 => ?_) (fun c239 => ?_)
        · skip
          refine j_iinc (q := 8) (v := nI (i + 1)) (lv' := [(8, .int (nI (i + 1))), (0, .ref mm), (1, .int (nI no)), (2, .ref r), (3, .int (nI e)), (4, .int (nI b)), (5, .int (nI (16 * e + b))), (6, .int (nI v)), (7, .int (nI left))]) dX6_hear_256 rfl (by first | exact nI_1 _ | exact nI_add _ _) (Nat.le_of_ble_eq_true rfl) rfl ?_
          refine j_goto 205 dX6_hear_259 (by decide) ?_
          refine j_lv (lv' := [(0, .ref mm), (1, .int (nI no)), (2, .ref r), (3, .int (nI e)), (4, .int (nI b)), (5, .int (nI (16 * e + b))), (6, .int (nI v)), (7, .int (nI left)), (8, .int (nI (i + 1)))]) [1, 2, 3, 4, 5, 6, 7, 8, 0] rfl ?_
          refine ih _ _ (i + 1) (by omega) hmm (FrI.mono hfr (by simp) rfl : FrI A [r] [] w0 _) a10 a11 a12 a39 a40 hr0 hx (by omega) ?_
          rw [rbF_step (by omega), if_neg (fun q => c239 q.2)] at hX; exact hX
        · skip
          refine j_aload_n dX6_hear_242 0 rfl ?_
          refine j_aload_n dX6_hear_243 2 rfl ?_
          refine j_iload dX6_hear_244 5 rfl ?_
          refine j_iconst (v := nI 1) dX6_hear_246 (by decide) ?_
          refine j_iload dX6_hear_247 8 rfl ?_
          refine j_ishl dX6_hear_249 ?_
          refine j_eqi (y := nI (2 ^ i)) (sh4 (by omega)) ?_
          have h2i : 2 ^ i < 16 := by rcases (show i = 0 ∨ i = 1 ∨ i = 2 ∨ i = 3 by omega) with rfl | rfl | rfl | rfl <;> decide
          refine j_ior dX6_hear_250 ?_
          refine j_eqi (y := nI ((16 * e + b) ||| (2 ^ i))) (fa_or _ _) ?_
          have hor : b ||| 2 ^ i < 16 := or_lt4 (n := 4) (by omega) (by omega)
          refine j_eqi (y := nI (16 * e + (b ||| 2 ^ i))) (by rw [or16 (by omega) h2i]) ?_
          refine j_iload dX6_hear_251 6 rfl ?_
          have hx2a := hx (16 * e + (b ||| 2 ^ i))
          refine j_callV (rm := rX6_come) (As := [.ref r, .int (nI (16 * e + (b ||| 2 ^ i))), .int (nI v)]) (st := []) (b0 := mm) (ci := 6) (na := 3) (m_come hAD hmm hA hr0 hrw (by omega) (by omega) (by omega)) (by intro E w9 h9; first | exact nomatch h9.1 | (obtain ⟨_, h9, _⟩ := h9; exact nomatch h9) | (obtain ⟨_, _, _, h9, _⟩ := h9; exact nomatch h9)) gX6_hear_X6_come rfl rfl hmm (by decide +kernel) rfl ⟨Nat.le_of_ble_eq_true rfl, Nat.le_of_ble_eq_true rfl⟩ rfl (Nat.le_of_ble_eq_true rfl) dX6_hear_253 ⟨(show 0 + 0 ≤ 0 by omega), (show 0 + 0 ≤ 0 by omega)⟩ (fun v5 w6 h7 => ?_)
          obtain ⟨h4, hfr3, f1⟩ := h7
          cases h4
          refine j_after (st' := []) (k' := 0) (n' := 0) rfl rfl rfl ?_
          have hx2 : ∀ j, (cmF x (16 * e + (b ||| 2 ^ i)) v) j ≤ 268435456 := up_le hx (by omega)
          refine j_iinc (q := 8) (v := nI (i + 1)) (lv' := [(8, .int (nI (i + 1))), (0, .ref mm), (1, .int (nI no)), (2, .ref r), (3, .int (nI e)), (4, .int (nI b)), (5, .int (nI (16 * e + b))), (6, .int (nI v)), (7, .int (nI left))]) dX6_hear_256 rfl (by first | exact nI_1 _ | exact nI_add _ _) (Nat.le_of_ble_eq_true rfl) rfl ?_
          refine j_goto 205 dX6_hear_259 (by decide) ?_
          refine j_lv (lv' := [(0, .ref mm), (1, .int (nI no)), (2, .ref r), (3, .int (nI e)), (4, .int (nI b)), (5, .int (nI (16 * e + b))), (6, .int (nI v)), (7, .int (nI left)), (8, .int (nI (i + 1)))]) [1, 2, 3, 4, 5, 6, 7, 8, 0] rfl ?_
          have f8 := (FrI.gen hfr3 (nm1 (Ne.symm hrw.1)) (AD.ml hAD rfl) hmm)
          have f9 := (FrI.gen hfr3 (nm1 (Ne.symm (hrw.2 10 rfl))) (AD.nl hAD 10 rfl rfl rfl) a10)
          have f10 := (FrI.gen hfr3 (nm1 (Ne.symm (hrw.2 11 rfl))) (AD.nl hAD 11 rfl rfl rfl) a11)
          have f11 := (FrI.gen hfr3 (nm1 (Ne.symm (hrw.2 12 rfl))) (AD.nl hAD 12 rfl rfl rfl) a12)
          have f12 := (FrI.gen hfr3 (nm1 (Ne.symm (hrw.2 39 rfl))) (AD.nl hAD 39 rfl rfl rfl) a39)
          have f13 := (FrI.gen hfr3 (nm1 (Ne.symm (hrw.2 40 rfl))) (AD.nl hAD 40 rfl rfl rfl) a40)
          refine ih _ _ (i + 1) (by omega) f8 ((FrI.mono hfr (by simp) rfl : FrI A [r] [] w0 _).trans (FrI.sub hfr3 rfl)) f9 f10 f11 f12 f13 f1 hx2 (by omega) ?_
          rw [rbF_step (by omega), if_pos ⟨c224, c239⟩] at hX; exact hX
theorem flX6_hear_65 : FL wsX6_hear RX6 65 6 39 := ⟨RX6, TX6, 45, rfl, by decide, by decide +kernel, by decide +kernel⟩
set_option maxRecDepth 100000 in
theorem mX6_hear_0 : Cond.constant RX6 202 (268435456) ∈ wsX6_hear := by decide +kernel
theorem flX6_hear_68 : FL wsX6_hear RX6 68 6 40 := ⟨RX6, TX6, 45, rfl, by decide, by decide +kernel, by decide +kernel⟩
theorem flX6_hear_17 : FL wsX6_hear RX6 17 6 10 := ⟨RX6, TX6, 45, rfl, by decide, by decide +kernel, by decide +kernel⟩
set_option maxHeartbeats 4000000 in
set_option maxRecDepth 100000 in
theorem l_h33 {x0 o xk xm p : Nat → Nat} {xp : Nat → Int32} {ev r no : Nat} {w0 : pW} {fs : List Value} {A : Nat → Nat} {mm : Nat} (hAD : AD A mm) (hA : RA A fs) (h5 : fs[5]? = some (.int (nI ev))) (hrw : RW A mm r) (hev : ev ≤ 100) (hm4 : ∀ e, e < ev → xm e ≤ 4) (hk2 : ∀ e, e < ev → xk e < 4 ∧ (xk e = 2 → xm e = 1)) (hpb : ∀ j, p j ≤ 50) (hob : ∀ j, o j ≤ 268435456) (hno : no < 128) {e : Nat} {X : Nat → Nat} (he : e < ev) (hc : ∀ (w : pW), (w mm = some (.inr (6, fs))) → (FrI A [r] [] w0 w) → (w (A 10) = some (.inl (0, 100, .inl (fun j9 => nI (xk j9))))) → (w (A 11) = some (.inl (0, 100, .inl (fun j9 => nI (xm j9))))) → (w (A 12) = some (.inl (0, 400, .inl xp))) → (w (A 39) = some (.inl (0, 1600, .inl (fun j9 => nI (o j9))))) → (w (A 40) = some (.inl (0, 4, .inl (fun j9 => nI (p j9))))) → (w r = some (.inl (0, 1600, .inl (fun j9 => nI (X j9))))) → (∀ j, X j ≤ 268435456) → J ((cX6_hear, RX6, 9, wsX6_hear), (rX6_hear, none, "hear", []), fun o9 w9 => o9 = .inl none ∧ FrI A [r] [] w0 w9 ∧ w9 r = some (.inl (0, 1600, .inl (fun j9 => nI ((heF o xk xm xp p no ev 0 (fil x0 (fun _ => 268435456) 1600)) j9)))), fun _ _ _ => True) 268 [(0, .ref mm), (1, .int (nI no)), (2, .ref r), (3, .int (nI e))] [] w 0 0) : ∀ (m9 : Nat) (w : pW) (x : Nat → Nat) (b : Nat), 2 ^ xm e - b < m9 → (w mm = some (.inr (6, fs))) → (FrI A [r] [] w0 w) → (w (A 10) = some (.inl (0, 100, .inl (fun j9 => nI (xk j9))))) → (w (A 11) = some (.inl (0, 100, .inl (fun j9 => nI (xm j9))))) → (w (A 12) = some (.inl (0, 400, .inl xp))) → (w (A 39) = some (.inl (0, 1600, .inl (fun j9 => nI (o j9))))) → (w (A 40) = some (.inl (0, 4, .inl (fun j9 => nI (p j9))))) → (w r = some (.inl (0, 1600, .inl (fun j9 => nI (x j9))))) → (∀ j, x j ≤ 268435456) → (b ≤ 2 ^ xm e) → (hbF o xp p (decide (xk e = 2)) (xm e) no e (2 ^ xm e - b) b x = X) → J ((cX6_hear, RX6, 9, wsX6_hear), (rX6_hear, none, "hear", []), fun o9 w9 => o9 = .inl none ∧ FrI A [r] [] w0 w9 ∧ w9 r = some (.inl (0, 1600, .inl (fun j9 => nI ((heF o xk xm xp p no ev 0 (fil x0 (fun _ => 268435456) 1600)) j9)))), fun _ _ _ => True) 33 [(0, .ref mm), (1, .int (nI no)), (2, .ref r), (3, .int (nI e)), (4, .int (nI b))] [] w 0 0 := by
  intro m9
  induction m9 with
  | zero => intro w x b h9; omega
  | succ m9 ih =>
    intro w x b hm9 hmm hfr a10 a11 a12 a39 a40 hr0 hx hb hX
    have hm4e := hm4 e he
    have hp4 := pw4 hm4e
    have hk2e := (hk2 e he).1
    refine j_iload dX6_hear_33 4 rfl ?_
    refine j_aload_n dX6_hear_35 0 rfl ?_
    refine j_iload_n dX6_hear_36 3 rfl ?_
    refine j_callV (rm := rX6_full) (As := [.int (nI e)]) (st := [.int (nI b)]) (b0 := mm) (ci := 6) (na := 1) (m_full hAD hmm hA a11 (by omega) (hm4 _ (by omega))) (by intro E w9 h9; first | exact nomatch h9.1 | (obtain ⟨_, h9, _⟩ := h9; exact nomatch h9) | (obtain ⟨_, _, _, h9, _⟩ := h9; exact nomatch h9)) gX6_hear_X6_full rfl rfl hmm (by decide +kernel) rfl ⟨Nat.le_of_ble_eq_true rfl, Nat.le_of_ble_eq_true rfl⟩ rfl (Nat.le_of_ble_eq_true rfl) dX6_hear_37 ⟨(show 0 + 0 ≤ 0 by omega), (show 0 + 0 ≤ 0 by omega)⟩ (fun v1 w2 h3 => ?_)
    obtain ⟨h3, h4⟩ := h3
    cases h3
    subst w2
    refine j_after (st' := [.int (nI (2 ^ xm e - 1)), .int (nI b)]) (k' := 0) (n' := 0) rfl rfl rfl ?_
    refine j_icmp_gtN 268 (by omega) (by omega) dX6_hear_40 (by decide) (fun c40 => ?_) (fun c40 => ?_)
    · skip
      refine j_lv (lv' := [(0, .ref mm), (1, .int (nI no)), (2, .ref r), (3, .int (nI e))]) [0, 1, 2, 3] rfl ?_
      have hbn : b = 2 ^ xm e := by omega
      rw [hbn, Nat.sub_self] at hX
      have hXx : x = X := hX
      subst hXx
      exact hc _ hmm (FrI.mono hfr (by simp) rfl : FrI A [r] [] w0 _) a10 a11 a12 a39 a40 hr0 hx
    · skip
      refine j_bipush (v := nI 16) dX6_hear_43 (by decide) ?_
      refine j_iload_n dX6_hear_45 3 rfl ?_
      refine j_imulN dX6_hear_46 ?_
      refine j_iload dX6_hear_47 4 rfl ?_
      refine j_iaddN dX6_hear_49 ?_
      refine j_istore (lv' := [(5, .int (nI ((16 * e) + b))), (0, .ref mm), (1, .int (nI no)), (2, .ref r), (3, .int (nI e)), (4, .int (nI b))]) dX6_hear_50 (Nat.le_of_ble_eq_true rfl) rfl ?_
      refine j_aload_n dX6_hear_52 1 rfl ?_
      refine j_get (v := .ref (A 39)) flX6_hear_65 hmm (hA.2 39 rfl) dX6_hear_53 ?_
      refine j_iload dX6_hear_56 0 rfl ?_
      refine j_ialdN (j := (16 * e) + b) a39 rfl (by omega) (by omega) dX6_hear_58 ?_
      have hb5 := hob ((16 * e) + b)
      refine j_istore (lv' := [(6, .int (nI (o ((16 * e) + b)))), (5, .int (nI ((16 * e) + b))), (0, .ref mm), (1, .int (nI no)), (2, .ref r), (3, .int (nI e)), (4, .int (nI b))]) dX6_hear_59 (Nat.le_of_ble_eq_true rfl) rfl ?_
      refine j_iload dX6_hear_61 0 rfl ?_
      refine j_ldc (v := nI 268435456) dX6_hear_63 mX6_hear_0 ?_
      refine j_icmp_ltN 71 (by omega) (by omega) dX6_hear_65 (by decide) (fun c65 => ?_) (fun c65 => ?_)
      · skip
        refine j_aload_n dX6_hear_71 2 rfl ?_
        refine j_aload_n dX6_hear_72 4 rfl ?_
        refine j_iload dX6_hear_73 1 rfl ?_
        refine j_iload dX6_hear_75 0 rfl ?_
        refine j_aload_n dX6_hear_77 2 rfl ?_
        refine j_get (v := .ref (A 40)) flX6_hear_68 hmm (hA.2 40 rfl) dX6_hear_78 ?_
        refine j_iconst (v := nI 1) dX6_hear_81 (by decide) ?_
        refine j_ialdN (j := 1) a40 rfl (by omega) (by omega) dX6_hear_82 ?_
        have hb6 := hpb 1
        refine j_iaddN dX6_hear_83 ?_
        have hx8a := hx ((16 * e) + b)
        refine j_callV (rm := rX6_come) (As := [.ref r, .int (nI ((16 * e) + b)), .int (nI ((o ((16 * e) + b)) + (p 1)))]) (st := []) (b0 := mm) (ci := 6) (na := 3) (m_come hAD hmm hA hr0 hrw (by omega) (by omega) (by omega)) (by intro E w9 h9; first | exact nomatch h9.1 | (obtain ⟨_, h9, _⟩ := h9; exact nomatch h9) | (obtain ⟨_, _, _, h9, _⟩ := h9; exact nomatch h9)) gX6_hear_X6_come rfl rfl hmm (by decide +kernel) rfl ⟨Nat.le_of_ble_eq_true rfl, Nat.le_of_ble_eq_true rfl⟩ rfl (Nat.le_of_ble_eq_true rfl) dX6_hear_84 ⟨(show 0 + 0 ≤ 0 by omega), (show 0 + 0 ≤ 0 by omega)⟩ (fun v11 w12 h13 => ?_)
        obtain ⟨h10, hfr9, f7⟩ := h13
        cases h10
        refine j_after (st' := []) (k' := 0) (n' := 0) rfl rfl rfl ?_
        have hx8 : ∀ j, (cmF x ((16 * e) + b) ((o ((16 * e) + b)) + (p 1))) j ≤ 268435456 := up_le hx (by omega)
        refine j_aload_n dX6_hear_87 2 rfl ?_
        have f14 := (FrI.gen hfr9 (nm1 (Ne.symm hrw.1)) (AD.ml hAD rfl) hmm)
        refine j_get (v := .ref (A 10)) flX6_hear_17 f14 (hA.2 10 rfl) dX6_hear_88 ?_
        refine j_iload_n dX6_hear_91 5 rfl ?_
        have f15 := (FrI.gen hfr9 (nm1 (Ne.symm (hrw.2 10 rfl))) (AD.nl hAD 10 rfl rfl rfl) a10)
        refine j_ialdN (j := e) f15 rfl (by omega) (by omega) dX6_hear_92 ?_
        refine j_iconst (v := nI 2) dX6_hear_93 (by decide) ?_
        refine j_icmp_neN 162 (by omega) (by omega) dX6_hear_94 (by decide) (fun c94 => ?_) (fun c94 => ?_)
        · skip
          refine j_aload_n dX6_hear_162 2 rfl ?_
          refine j_iload_n dX6_hear_163 5 rfl ?_
          have f16 := (FrI.gen hfr9 (nm1 (Ne.symm (hrw.2 11 rfl))) (AD.nl hAD 11 rfl rfl rfl) a11)
          refine j_callV (rm := rX6_full) (As := [.int (nI e)]) (st := []) (b0 := mm) (ci := 6) (na := 1) (m_full hAD f14 hA f16 (by omega) (hm4 _ (by omega))) (by intro E w9 h9; first | exact nomatch h9.1 | (obtain ⟨_, h9, _⟩ := h9; exact nomatch h9) | (obtain ⟨_, _, _, h9, _⟩ := h9; exact nomatch h9)) gX6_hear_X6_full rfl rfl f14 (by decide +kernel) rfl ⟨Nat.le_of_ble_eq_true rfl, Nat.le_of_ble_eq_true rfl⟩ rfl (Nat.le_of_ble_eq_true rfl) dX6_hear_164 ⟨(show 0 + 0 ≤ 0 by omega), (show 0 + 0 ≤ 0 by omega)⟩ (fun v17 w18 h19 => ?_)
          obtain ⟨h19, h20⟩ := h19
          cases h19
          subst w18
          refine j_after (st' := [.int (nI (2 ^ xm e - 1))]) (k' := 0) (n' := 0) rfl rfl rfl ?_
          refine j_iload dX6_hear_167 6 rfl ?_
          refine j_iconst (v := (-1)) dX6_hear_169 (by decide) ?_
          refine j_ixor dX6_hear_170 ?_
          refine j_iand dX6_hear_171 ?_
          refine j_eqi (y := nI (2 ^ xm e - 1 - b)) (ntb (hm4 e he) (by omega)) ?_
          refine j_istore (lv' := [(7, .int (nI (2 ^ xm e - 1 - b))), (6, .int (nI (o ((16 * e) + b)))), (5, .int (nI ((16 * e) + b))), (0, .ref mm), (1, .int (nI no)), (2, .ref r), (3, .int (nI e)), (4, .int (nI b))]) dX6_hear_172 (Nat.le_of_ble_eq_true rfl) rfl ?_
          refine j_iload dX6_hear_174 0 rfl ?_
          refine j_if_eqN 202 (by omega) dX6_hear_176 (by decide) (fun c176 => ?_) (fun c176 => ?_)
          · skip
            refine j_iconst (v := nI 0) dX6_hear_202 (by decide) ?_
            refine j_istore (lv' := [(8, .int (nI 0)), (7, .int (nI (2 ^ xm e - 1 - b))), (6, .int (nI (o ((16 * e) + b)))), (5, .int (nI ((16 * e) + b))), (0, .ref mm), (1, .int (nI no)), (2, .ref r), (3, .int (nI e)), (4, .int (nI b))]) dX6_hear_203 (Nat.le_of_ble_eq_true rfl) rfl ?_
            refine j_lv (lv' := [(0, .ref mm), (1, .int (nI no)), (2, .ref r), (3, .int (nI e)), (4, .int (nI b)), (5, .int (nI (16 * e + b))), (6, .int (nI (o (16 * e + b)))), (7, .int (nI (2 ^ xm e - 1 - b))), (8, .int (nI 0))]) [4, 5, 6, 7, 8, 3, 2, 1, 0] rfl ?_
            have f21 := (FrI.gen hfr9 (nm1 (Ne.symm (hrw.2 12 rfl))) (AD.nl hAD 12 rfl rfl rfl) a12)
            have f22 := (FrI.gen hfr9 (nm1 (Ne.symm (hrw.2 39 rfl))) (AD.nl hAD 39 rfl rfl rfl) a39)
            have f23 := (FrI.gen hfr9 (nm1 (Ne.symm (hrw.2 40 rfl))) (AD.nl hAD 40 rfl rfl rfl) a40)
            refine l_h205 (X := hbS o xp p (decide (xk e = 2)) (xm e) no e b x) hAD hA h5 hrw hev hm4 hk2 hpb hob hno he (by omega) (by omega) c65 ?_ _ _ _ 0 (Nat.lt_succ_self _) f14 ((FrI.mono hfr (by simp) rfl : FrI A [r] [] w0 _).trans (FrI.sub hfr9 rfl)) f15 f16 f21 f22 f23 f7 hx8 (Nat.zero_le _) ?_
            rotate_left
            · unfold hbS; rw [if_pos c65, decide_eq_false c94, if_neg (by decide), if_pos c176]; rfl
            intro w2 g0 g1 g2 g3 g4 g5 g6 g7 g8
            refine j_iinc (q := 4) (v := nI (b + 1)) (lv' := [(4, .int (nI (b + 1))), (0, .ref mm), (1, .int (nI no)), (2, .ref r), (3, .int (nI e))]) dX6_hear_262 rfl (by first | exact nI_1 _ | exact nI_add _ _) (Nat.le_of_ble_eq_true rfl) rfl ?_
            refine j_goto 33 dX6_hear_265 (by decide) ?_
            refine j_lv (lv' := [(0, .ref mm), (1, .int (nI no)), (2, .ref r), (3, .int (nI e)), (4, .int (nI (b + 1)))]) [1, 2, 3, 4, 0] rfl ?_
            have hS : hbS o xp p (decide (xk e = 2)) (xm e) no e b x = (hbS o xp p (decide (xk e = 2)) (xm e) no e b x) := rfl
            refine ih _ _ (b + 1) (by omega) g0 (FrI.mono g1 (by simp) rfl : FrI A [r] [] w0 _) g2 g3 g4 g5 g6 g7 g8 (by omega) ?_
            rw [hbF_step (by omega)] at hX; exact hX
          · skip
            refine j_aload_n dX6_hear_179 3 rfl ?_
            refine j_aload_n dX6_hear_180 5 rfl ?_
            refine j_iload dX6_hear_181 2 rfl ?_
            refine j_iload dX6_hear_183 0 rfl ?_
            refine j_iload dX6_hear_185 0 rfl ?_
            refine j_ineg dX6_hear_187 ?_
            refine j_iand dX6_hear_188 ?_
            obtain ⟨l1, l2, l3, l4⟩ := lowb (hm4 e he) (show b < 2 ^ xm e by omega) (by omega)
            refine j_eqi (y := nI ((2 ^ xm e - 1 - b) &&& (16 - (2 ^ xm e - 1 - b)))) (l1) ?_
            refine j_ior dX6_hear_189 ?_
            refine j_eqi (y := nI (((16 * e) + b) ||| ((2 ^ xm e - 1 - b) &&& (16 - (2 ^ xm e - 1 - b))))) (fa_or _ _) ?_
            refine j_eqi (y := nI (16 * e + (b ||| (b + 1)))) (by rw [or16 (by omega) l3, l2]) ?_
            refine j_iload dX6_hear_190 1 rfl ?_
            refine j_aload_n dX6_hear_192 3 rfl ?_
            refine j_get (v := .ref (A 40)) flX6_hear_68 f14 (hA.2 40 rfl) dX6_hear_193 ?_
            refine j_iconst (v := nI 0) dX6_hear_196 (by decide) ?_
            have f24 := (FrI.gen hfr9 (nm1 (Ne.symm (hrw.2 40 rfl))) (AD.nl hAD 40 rfl rfl rfl) a40)
            refine j_ialdN (j := 0) f24 rfl (by omega) (by omega) dX6_hear_197 ?_
            have hb25 := hpb 0
            refine j_iaddN dX6_hear_198 ?_
            have hx27a := hx8 (16 * e + (b ||| (b + 1)))
            refine j_callV (rm := rX6_come) (As := [.ref r, .int (nI (16 * e + (b ||| (b + 1)))), .int (nI ((o ((16 * e) + b)) + (p 0)))]) (st := []) (b0 := mm) (ci := 6) (na := 3) (m_come hAD f14 hA f7 hrw (by omega) (by omega) (by omega)) (by intro E w9 h9; first | exact nomatch h9.1 | (obtain ⟨_, h9, _⟩ := h9; exact nomatch h9) | (obtain ⟨_, _, _, h9, _⟩ := h9; exact nomatch h9)) gX6_hear_X6_come rfl rfl f14 (by decide +kernel) rfl ⟨Nat.le_of_ble_eq_true rfl, Nat.le_of_ble_eq_true rfl⟩ rfl (Nat.le_of_ble_eq_true rfl) dX6_hear_199 ⟨(show 0 + 0 ≤ 0 by omega), (show 0 + 0 ≤ 0 by omega)⟩ (fun v30 w31 h32 => ?_)
            obtain ⟨h29, hfr28, f26⟩ := h32
            cases h29
            refine j_after (st' := []) (k' := 0) (n' := 0) rfl rfl rfl ?_
            have hx27 : ∀ j, (cmF (cmF x ((16 * e) + b) ((o ((16 * e) + b)) + (p 1))) (16 * e + (b ||| (b + 1))) ((o ((16 * e) + b)) + (p 0))) j ≤ 268435456 := up_le hx8 (by omega)
            refine j_iconst (v := nI 0) dX6_hear_202 (by decide) ?_
            refine j_istore (lv' := [(8, .int (nI 0)), (7, .int (nI (2 ^ xm e - 1 - b))), (6, .int (nI (o ((16 * e) + b)))), (5, .int (nI ((16 * e) + b))), (0, .ref mm), (1, .int (nI no)), (2, .ref r), (3, .int (nI e)), (4, .int (nI b))]) dX6_hear_203 (Nat.le_of_ble_eq_true rfl) rfl ?_
            refine j_lv (lv' := [(0, .ref mm), (1, .int (nI no)), (2, .ref r), (3, .int (nI e)), (4, .int (nI b)), (5, .int (nI (16 * e + b))), (6, .int (nI (o (16 * e + b)))), (7, .int (nI (2 ^ xm e - 1 - b))), (8, .int (nI 0))]) [4, 5, 6, 7, 8, 3, 2, 1, 0] rfl ?_
            have f33 := (FrI.gen hfr28 (nm1 (Ne.symm hrw.1)) (AD.ml hAD rfl) f14)
            have f34 := (FrI.gen hfr28 (nm1 (Ne.symm (hrw.2 10 rfl))) (AD.nl hAD 10 rfl rfl rfl) f15)
            have f35 := (FrI.gen hfr28 (nm1 (Ne.symm (hrw.2 11 rfl))) (AD.nl hAD 11 rfl rfl rfl) f16)
            have f36 := (FrI.gen hfr28 (nm1 (Ne.symm (hrw.2 12 rfl))) (AD.nl hAD 12 rfl rfl rfl) (FrI.gen hfr9 (nm1 (Ne.symm (hrw.2 12 rfl))) (AD.nl hAD 12 rfl rfl rfl) a12))
            have f37 := (FrI.gen hfr28 (nm1 (Ne.symm (hrw.2 39 rfl))) (AD.nl hAD 39 rfl rfl rfl) (FrI.gen hfr9 (nm1 (Ne.symm (hrw.2 39 rfl))) (AD.nl hAD 39 rfl rfl rfl) a39))
            have f38 := (FrI.gen hfr28 (nm1 (Ne.symm (hrw.2 40 rfl))) (AD.nl hAD 40 rfl rfl rfl) f24)
            refine l_h205 (X := hbS o xp p (decide (xk e = 2)) (xm e) no e b x) hAD hA h5 hrw hev hm4 hk2 hpb hob hno he (by omega) (by omega) c65 ?_ _ _ _ 0 (Nat.lt_succ_self _) f33 (((FrI.mono hfr (by simp) rfl : FrI A [r] [] w0 _).trans (FrI.sub hfr9 rfl)).trans (FrI.sub hfr28 rfl)) f34 f35 f36 f37 f38 f26 hx27 (Nat.zero_le _) ?_
            rotate_left
            · unfold hbS; rw [if_pos c65, decide_eq_false c94, if_neg (by decide), if_neg c176]; rfl
            intro w2 g0 g1 g2 g3 g4 g5 g6 g7 g8
            refine j_iinc (q := 4) (v := nI (b + 1)) (lv' := [(4, .int (nI (b + 1))), (0, .ref mm), (1, .int (nI no)), (2, .ref r), (3, .int (nI e))]) dX6_hear_262 rfl (by first | exact nI_1 _ | exact nI_add _ _) (Nat.le_of_ble_eq_true rfl) rfl ?_
            refine j_goto 33 dX6_hear_265 (by decide) ?_
            refine j_lv (lv' := [(0, .ref mm), (1, .int (nI no)), (2, .ref r), (3, .int (nI e)), (4, .int (nI (b + 1)))]) [1, 2, 3, 4, 0] rfl ?_
            have hS : hbS o xp p (decide (xk e = 2)) (xm e) no e b x = (hbS o xp p (decide (xk e = 2)) (xm e) no e b x) := rfl
            refine ih _ _ (b + 1) (by omega) g0 (FrI.mono g1 (by simp) rfl : FrI A [r] [] w0 _) g2 g3 g4 g5 g6 g7 g8 (by omega) ?_
            rw [hbF_step (by omega)] at hX; exact hX
        · skip
          have hxm1 := (hk2 e he).2 c94
          refine j_iload_n dX6_hear_97 3 rfl ?_
          refine j_aload_n dX6_hear_98 2 rfl ?_
          refine j_get (v := .ref (A 12)) flX6_hear_23 f14 (hA.2 12 rfl) dX6_hear_99 ?_
          refine j_iconst (v := nI 4) dX6_hear_102 (by decide) ?_
          refine j_iload_n dX6_hear_103 5 rfl ?_
          refine j_imulN dX6_hear_104 ?_
          have f39 := (FrI.gen hfr9 (nm1 (Ne.symm (hrw.2 12 rfl))) (AD.nl hAD 12 rfl rfl rfl) a12)
          refine j_ialdN (j := 4 * e) f39 rfl (by omega) (by omega) dX6_hear_105 ?_
          refine j_isub dX6_hear_106 ?_
          refine j_istore (lv' := [(7, .int ((nI no) - (xp (4 * e)))), (6, .int (nI (o ((16 * e) + b)))), (5, .int (nI ((16 * e) + b))), (0, .ref mm), (1, .int (nI no)), (2, .ref r), (3, .int (nI e)), (4, .int (nI b))]) dX6_hear_107 (Nat.le_of_ble_eq_true rfl) rfl ?_
          refine j_iload dX6_hear_109 0 rfl ?_
          refine j_iconst (v := (-1)) dX6_hear_111 (by decide) ?_
          refine j_icmp_lt 134 dX6_hear_112 (by decide) (fun c112 => ?_) (fun c112 => ?_)
          · skip
            refine j_iload dX6_hear_134 7 rfl ?_
            refine j_if_neN 262 (by omega) dX6_hear_136 (by decide) (fun c136 => ?_) (fun c136 => ?_)
            · skip
              refine j_iinc (q := 7) (v := nI (b + 1)) (lv' := [(4, .int (nI (b + 1))), (7, .int ((nI no) - (xp (4 * e)))), (6, .int (nI (o ((16 * e) + b)))), (5, .int (nI ((16 * e) + b))), (0, .ref mm), (1, .int (nI no)), (2, .ref r), (3, .int (nI e))]) dX6_hear_262 rfl (by first | exact nI_1 _ | exact nI_add _ _) (Nat.le_of_ble_eq_true rfl) rfl ?_
              refine j_goto 33 dX6_hear_265 (by decide) ?_
              refine j_lv (lv' := [(0, .ref mm), (1, .int (nI no)), (2, .ref r), (3, .int (nI e)), (4, .int (nI (b + 1)))]) [4, 5, 6, 7, 0] rfl ?_
              have hS : hbS o xp p (decide (xk e = 2)) (xm e) no e b x = (cmF x ((16 * e) + b) ((o ((16 * e) + b)) + (p 1))) := by unfold hbS; rw [if_pos c65, decide_eq_true c94, if_pos rfl, if_neg c136, show nearB (nI no - xp (4 * e)) = false from decide_eq_false (fun q => q.1 c112), if_neg (by decide)]
              have f40 := (FrI.gen hfr9 (nm1 (Ne.symm (hrw.2 11 rfl))) (AD.nl hAD 11 rfl rfl rfl) a11)
              have f41 := (FrI.gen hfr9 (nm1 (Ne.symm (hrw.2 39 rfl))) (AD.nl hAD 39 rfl rfl rfl) a39)
              have f42 := (FrI.gen hfr9 (nm1 (Ne.symm (hrw.2 40 rfl))) (AD.nl hAD 40 rfl rfl rfl) a40)
              refine ih _ _ (b + 1) (by omega) f14 ((FrI.mono hfr (by simp) rfl : FrI A [r] [] w0 _).trans (FrI.sub hfr9 rfl)) f15 f40 f39 f41 f42 f7 hx8 (by omega) ?_
              rw [hbF_step (by omega), hS] at hX; exact hX
            · skip
              refine j_aload_n dX6_hear_139 3 rfl ?_
              refine j_aload_n dX6_hear_140 5 rfl ?_
              refine j_bipush (v := nI 16) dX6_hear_141 (by decide) ?_
              refine j_iload_n dX6_hear_143 6 rfl ?_
              refine j_imulN dX6_hear_144 ?_
              refine j_iconst (v := nI 1) dX6_hear_145 (by decide) ?_
              refine j_iaddN dX6_hear_146 ?_
              refine j_iload dX6_hear_147 1 rfl ?_
              refine j_aload_n dX6_hear_149 3 rfl ?_
              refine j_get (v := .ref (A 40)) flX6_hear_68 f14 (hA.2 40 rfl) dX6_hear_150 ?_
              refine j_iconst (v := nI 0) dX6_hear_153 (by decide) ?_
              have f43 := (FrI.gen hfr9 (nm1 (Ne.symm (hrw.2 40 rfl))) (AD.nl hAD 40 rfl rfl rfl) a40)
              refine j_ialdN (j := 0) f43 rfl (by omega) (by omega) dX6_hear_154 ?_
              have hb44 := hpb 0
              refine j_iaddN dX6_hear_155 ?_
              have hx46a := hx8 ((16 * e) + 1)
              refine j_callV (rm := rX6_come) (As := [.ref r, .int (nI ((16 * e) + 1)), .int (nI ((o ((16 * e) + b)) + (p 0)))]) (st := []) (b0 := mm) (ci := 6) (na := 3) (m_come hAD f14 hA f7 hrw (by omega) (by omega) (by omega)) (by intro E w9 h9; first | exact nomatch h9.1 | (obtain ⟨_, h9, _⟩ := h9; exact nomatch h9) | (obtain ⟨_, _, _, h9, _⟩ := h9; exact nomatch h9)) gX6_hear_X6_come rfl rfl f14 (by decide +kernel) rfl ⟨Nat.le_of_ble_eq_true rfl, Nat.le_of_ble_eq_true rfl⟩ rfl (Nat.le_of_ble_eq_true rfl) dX6_hear_156 ⟨(show 0 + 0 ≤ 0 by omega), (show 0 + 0 ≤ 0 by omega)⟩ (fun v49 w50 h51 => ?_)
              obtain ⟨h48, hfr47, f45⟩ := h51
              cases h48
              refine j_after (st' := []) (k' := 0) (n' := 0) rfl rfl rfl ?_
              have hx46 : ∀ j, (cmF (cmF x ((16 * e) + b) ((o ((16 * e) + b)) + (p 1))) ((16 * e) + 1) ((o ((16 * e) + b)) + (p 0))) j ≤ 268435456 := up_le hx8 (by omega)
              refine j_goto 262 dX6_hear_159 (by decide) ?_
              refine j_iinc (q := 7) (v := nI (b + 1)) (lv' := [(4, .int (nI (b + 1))), (7, .int ((nI no) - (xp (4 * e)))), (6, .int (nI (o ((16 * e) + b)))), (5, .int (nI ((16 * e) + b))), (0, .ref mm), (1, .int (nI no)), (2, .ref r), (3, .int (nI e))]) dX6_hear_262 rfl (by first | exact nI_1 _ | exact nI_add _ _) (Nat.le_of_ble_eq_true rfl) rfl ?_
              refine j_goto 33 dX6_hear_265 (by decide) ?_
              refine j_lv (lv' := [(0, .ref mm), (1, .int (nI no)), (2, .ref r), (3, .int (nI e)), (4, .int (nI (b + 1)))]) [4, 5, 6, 7, 0] rfl ?_
              have hS : hbS o xp p (decide (xk e = 2)) (xm e) no e b x = (cmF (cmF x ((16 * e) + b) ((o ((16 * e) + b)) + (p 1))) ((16 * e) + 1) ((o ((16 * e) + b)) + (p 0))) := by unfold hbS; rw [if_pos c65, decide_eq_true c94, if_pos rfl, if_pos c136, show nearB (nI no - xp (4 * e)) = false from decide_eq_false (fun q => q.1 c112), if_neg (by decide)]
              have f52 := (FrI.gen hfr47 (nm1 (Ne.symm hrw.1)) (AD.ml hAD rfl) f14)
              have f53 := (FrI.gen hfr47 (nm1 (Ne.symm (hrw.2 10 rfl))) (AD.nl hAD 10 rfl rfl rfl) f15)
              have f54 := (FrI.gen hfr47 (nm1 (Ne.symm (hrw.2 11 rfl))) (AD.nl hAD 11 rfl rfl rfl) (FrI.gen hfr9 (nm1 (Ne.symm (hrw.2 11 rfl))) (AD.nl hAD 11 rfl rfl rfl) a11))
              have f55 := (FrI.gen hfr47 (nm1 (Ne.symm (hrw.2 12 rfl))) (AD.nl hAD 12 rfl rfl rfl) f39)
              have f56 := (FrI.gen hfr47 (nm1 (Ne.symm (hrw.2 39 rfl))) (AD.nl hAD 39 rfl rfl rfl) (FrI.gen hfr9 (nm1 (Ne.symm (hrw.2 39 rfl))) (AD.nl hAD 39 rfl rfl rfl) a39))
              have f57 := (FrI.gen hfr47 (nm1 (Ne.symm (hrw.2 40 rfl))) (AD.nl hAD 40 rfl rfl rfl) f43)
              refine ih _ _ (b + 1) (by omega) f52 (((FrI.mono hfr (by simp) rfl : FrI A [r] [] w0 _).trans (FrI.sub hfr9 rfl)).trans (FrI.sub hfr47 rfl)) f53 f54 f55 f56 f57 f45 hx46 (by omega) ?_
              rw [hbF_step (by omega), hS] at hX; exact hX
          · skip
            refine j_iload dX6_hear_115 0 rfl ?_
            refine j_iconst (v := nI 1) dX6_hear_117 (by decide) ?_
            refine j_icmp_gt 134 dX6_hear_118 (by decide) (fun c118 => ?_) (fun c118 => ?_)
            · skip
              refine j_iload dX6_hear_134 7 rfl ?_
              refine j_if_neN 262 (by omega) dX6_hear_136 (by decide) (fun c136 => ?_) (fun c136 => ?_)
              · skip
                refine j_iinc (q := 7) (v := nI (b + 1)) (lv' := [(4, .int (nI (b + 1))), (7, .int ((nI no) - (xp (4 * e)))), (6, .int (nI (o ((16 * e) + b)))), (5, .int (nI ((16 * e) + b))), (0, .ref mm), (1, .int (nI no)), (2, .ref r), (3, .int (nI e))]) dX6_hear_262 rfl (by first | exact nI_1 _ | exact nI_add _ _) (Nat.le_of_ble_eq_true rfl) rfl ?_
                refine j_goto 33 dX6_hear_265 (by decide) ?_
                refine j_lv (lv' := [(0, .ref mm), (1, .int (nI no)), (2, .ref r), (3, .int (nI e)), (4, .int (nI (b + 1)))]) [4, 5, 6, 7, 0] rfl ?_
                have hS : hbS o xp p (decide (xk e = 2)) (xm e) no e b x = (cmF x ((16 * e) + b) ((o ((16 * e) + b)) + (p 1))) := by unfold hbS; rw [if_pos c65, decide_eq_true c94, if_pos rfl, if_neg c136, show nearB (nI no - xp (4 * e)) = false from decide_eq_false (fun q => q.2 c118), if_neg (by decide)]
                have f58 := (FrI.gen hfr9 (nm1 (Ne.symm (hrw.2 11 rfl))) (AD.nl hAD 11 rfl rfl rfl) a11)
                have f59 := (FrI.gen hfr9 (nm1 (Ne.symm (hrw.2 39 rfl))) (AD.nl hAD 39 rfl rfl rfl) a39)
                have f60 := (FrI.gen hfr9 (nm1 (Ne.symm (hrw.2 40 rfl))) (AD.nl hAD 40 rfl rfl rfl) a40)
                refine ih _ _ (b + 1) (by omega) f14 ((FrI.mono hfr (by simp) rfl : FrI A [r] [] w0 _).trans (FrI.sub hfr9 rfl)) f15 f58 f39 f59 f60 f7 hx8 (by omega) ?_
                rw [hbF_step (by omega), hS] at hX; exact hX
              · skip
                refine j_aload_n dX6_hear_139 3 rfl ?_
                refine j_aload_n dX6_hear_140 5 rfl ?_
                refine j_bipush (v := nI 16) dX6_hear_141 (by decide) ?_
                refine j_iload_n dX6_hear_143 6 rfl ?_
                refine j_imulN dX6_hear_144 ?_
                refine j_iconst (v := nI 1) dX6_hear_145 (by decide) ?_
                refine j_iaddN dX6_hear_146 ?_
                refine j_iload dX6_hear_147 1 rfl ?_
                refine j_aload_n dX6_hear_149 3 rfl ?_
                refine j_get (v := .ref (A 40)) flX6_hear_68 f14 (hA.2 40 rfl) dX6_hear_150 ?_
                refine j_iconst (v := nI 0) dX6_hear_153 (by decide) ?_
                have f61 := (FrI.gen hfr9 (nm1 (Ne.symm (hrw.2 40 rfl))) (AD.nl hAD 40 rfl rfl rfl) a40)
                refine j_ialdN (j := 0) f61 rfl (by omega) (by omega) dX6_hear_154 ?_
                have hb62 := hpb 0
                refine j_iaddN dX6_hear_155 ?_
                have hx64a := hx8 ((16 * e) + 1)
                refine j_callV (rm := rX6_come) (As := [.ref r, .int (nI ((16 * e) + 1)), .int (nI ((o ((16 * e) + b)) + (p 0)))]) (st := []) (b0 := mm) (ci := 6) (na := 3) (m_come hAD f14 hA f7 hrw (by omega) (by omega) (by omega)) (by intro E w9 h9; first | exact nomatch h9.1 | (obtain ⟨_, h9, _⟩ := h9; exact nomatch h9) | (obtain ⟨_, _, _, h9, _⟩ := h9; exact nomatch h9)) gX6_hear_X6_come rfl rfl f14 (by decide +kernel) rfl ⟨Nat.le_of_ble_eq_true rfl, Nat.le_of_ble_eq_true rfl⟩ rfl (Nat.le_of_ble_eq_true rfl) dX6_hear_156 ⟨(show 0 + 0 ≤ 0 by omega), (show 0 + 0 ≤ 0 by omega)⟩ (fun v67 w68 h69 => ?_)
                obtain ⟨h66, hfr65, f63⟩ := h69
                cases h66
                refine j_after (st' := []) (k' := 0) (n' := 0) rfl rfl rfl ?_
                have hx64 : ∀ j, (cmF (cmF x ((16 * e) + b) ((o ((16 * e) + b)) + (p 1))) ((16 * e) + 1) ((o ((16 * e) + b)) + (p 0))) j ≤ 268435456 := up_le hx8 (by omega)
                refine j_goto 262 dX6_hear_159 (by decide) ?_
                refine j_iinc (q := 7) (v := nI (b + 1)) (lv' := [(4, .int (nI (b + 1))), (7, .int ((nI no) - (xp (4 * e)))), (6, .int (nI (o ((16 * e) + b)))), (5, .int (nI ((16 * e) + b))), (0, .ref mm), (1, .int (nI no)), (2, .ref r), (3, .int (nI e))]) dX6_hear_262 rfl (by first | exact nI_1 _ | exact nI_add _ _) (Nat.le_of_ble_eq_true rfl) rfl ?_
                refine j_goto 33 dX6_hear_265 (by decide) ?_
                refine j_lv (lv' := [(0, .ref mm), (1, .int (nI no)), (2, .ref r), (3, .int (nI e)), (4, .int (nI (b + 1)))]) [4, 5, 6, 7, 0] rfl ?_
                have hS : hbS o xp p (decide (xk e = 2)) (xm e) no e b x = (cmF (cmF x ((16 * e) + b) ((o ((16 * e) + b)) + (p 1))) ((16 * e) + 1) ((o ((16 * e) + b)) + (p 0))) := by unfold hbS; rw [if_pos c65, decide_eq_true c94, if_pos rfl, if_pos c136, show nearB (nI no - xp (4 * e)) = false from decide_eq_false (fun q => q.2 c118), if_neg (by decide)]
                have f70 := (FrI.gen hfr65 (nm1 (Ne.symm hrw.1)) (AD.ml hAD rfl) f14)
                have f71 := (FrI.gen hfr65 (nm1 (Ne.symm (hrw.2 10 rfl))) (AD.nl hAD 10 rfl rfl rfl) f15)
                have f72 := (FrI.gen hfr65 (nm1 (Ne.symm (hrw.2 11 rfl))) (AD.nl hAD 11 rfl rfl rfl) (FrI.gen hfr9 (nm1 (Ne.symm (hrw.2 11 rfl))) (AD.nl hAD 11 rfl rfl rfl) a11))
                have f73 := (FrI.gen hfr65 (nm1 (Ne.symm (hrw.2 12 rfl))) (AD.nl hAD 12 rfl rfl rfl) f39)
                have f74 := (FrI.gen hfr65 (nm1 (Ne.symm (hrw.2 39 rfl))) (AD.nl hAD 39 rfl rfl rfl) (FrI.gen hfr9 (nm1 (Ne.symm (hrw.2 39 rfl))) (AD.nl hAD 39 rfl rfl rfl) a39))
                have f75 := (FrI.gen hfr65 (nm1 (Ne.symm (hrw.2 40 rfl))) (AD.nl hAD 40 rfl rfl rfl) f61)
                refine ih _ _ (b + 1) (by omega) f70 (((FrI.mono hfr (by simp) rfl : FrI A [r] [] w0 _).trans (FrI.sub hfr9 rfl)).trans (FrI.sub hfr65 rfl)) f71 f72 f73 f74 f75 f63 hx64 (by omega) ?_
                rw [hbF_step (by omega), hS] at hX; exact hX
            · skip
              refine j_aload_n dX6_hear_121 3 rfl ?_
              refine j_aload_n dX6_hear_122 5 rfl ?_
              refine j_bipush (v := nI 16) dX6_hear_123 (by decide) ?_
              refine j_iload_n dX6_hear_125 6 rfl ?_
              refine j_imulN dX6_hear_126 ?_
              refine j_iconst (v := nI 1) dX6_hear_127 (by decide) ?_
              refine j_iaddN dX6_hear_128 ?_
              refine j_iload dX6_hear_129 1 rfl ?_
              have hx77a := hx8 ((16 * e) + 1)
              refine j_callV (rm := rX6_come) (As := [.ref r, .int (nI ((16 * e) + 1)), .int (nI (o ((16 * e) + b)))]) (st := []) (b0 := mm) (ci := 6) (na := 3) (m_come hAD f14 hA f7 hrw (by omega) (by omega) (by omega)) (by intro E w9 h9; first | exact nomatch h9.1 | (obtain ⟨_, h9, _⟩ := h9; exact nomatch h9) | (obtain ⟨_, _, _, h9, _⟩ := h9; exact nomatch h9)) gX6_hear_X6_come rfl rfl f14 (by decide +kernel) rfl ⟨Nat.le_of_ble_eq_true rfl, Nat.le_of_ble_eq_true rfl⟩ rfl (Nat.le_of_ble_eq_true rfl) dX6_hear_131 ⟨(show 0 + 0 ≤ 0 by omega), (show 0 + 0 ≤ 0 by omega)⟩ (fun v80 w81 h82 => ?_)
              obtain ⟨h79, hfr78, f76⟩ := h82
              cases h79
              refine j_after (st' := []) (k' := 0) (n' := 0) rfl rfl rfl ?_
              have hx77 : ∀ j, (cmF (cmF x ((16 * e) + b) ((o ((16 * e) + b)) + (p 1))) ((16 * e) + 1) (o ((16 * e) + b))) j ≤ 268435456 := up_le hx8 (by omega)
              refine j_iload dX6_hear_134 7 rfl ?_
              refine j_if_neN 262 (by omega) dX6_hear_136 (by decide) (fun c136 => ?_) (fun c136 => ?_)
              · skip
                refine j_iinc (q := 7) (v := nI (b + 1)) (lv' := [(4, .int (nI (b + 1))), (7, .int ((nI no) - (xp (4 * e)))), (6, .int (nI (o ((16 * e) + b)))), (5, .int (nI ((16 * e) + b))), (0, .ref mm), (1, .int (nI no)), (2, .ref r), (3, .int (nI e))]) dX6_hear_262 rfl (by first | exact nI_1 _ | exact nI_add _ _) (Nat.le_of_ble_eq_true rfl) rfl ?_
                refine j_goto 33 dX6_hear_265 (by decide) ?_
                refine j_lv (lv' := [(0, .ref mm), (1, .int (nI no)), (2, .ref r), (3, .int (nI e)), (4, .int (nI (b + 1)))]) [4, 5, 6, 7, 0] rfl ?_
                have hS : hbS o xp p (decide (xk e = 2)) (xm e) no e b x = (cmF (cmF x ((16 * e) + b) ((o ((16 * e) + b)) + (p 1))) ((16 * e) + 1) (o ((16 * e) + b))) := by unfold hbS; rw [if_pos c65, decide_eq_true c94, if_pos rfl, if_neg c136, show nearB (nI no - xp (4 * e)) = true from decide_eq_true ⟨c112, c118⟩, if_pos rfl]
                have f83 := (FrI.gen hfr78 (nm1 (Ne.symm hrw.1)) (AD.ml hAD rfl) f14)
                have f84 := (FrI.gen hfr78 (nm1 (Ne.symm (hrw.2 10 rfl))) (AD.nl hAD 10 rfl rfl rfl) f15)
                have f85 := (FrI.gen hfr78 (nm1 (Ne.symm (hrw.2 11 rfl))) (AD.nl hAD 11 rfl rfl rfl) (FrI.gen hfr9 (nm1 (Ne.symm (hrw.2 11 rfl))) (AD.nl hAD 11 rfl rfl rfl) a11))
                have f86 := (FrI.gen hfr78 (nm1 (Ne.symm (hrw.2 12 rfl))) (AD.nl hAD 12 rfl rfl rfl) f39)
                have f87 := (FrI.gen hfr78 (nm1 (Ne.symm (hrw.2 39 rfl))) (AD.nl hAD 39 rfl rfl rfl) (FrI.gen hfr9 (nm1 (Ne.symm (hrw.2 39 rfl))) (AD.nl hAD 39 rfl rfl rfl) a39))
                have f88 := (FrI.gen hfr78 (nm1 (Ne.symm (hrw.2 40 rfl))) (AD.nl hAD 40 rfl rfl rfl) (FrI.gen hfr9 (nm1 (Ne.symm (hrw.2 40 rfl))) (AD.nl hAD 40 rfl rfl rfl) a40))
                refine ih _ _ (b + 1) (by omega) f83 (((FrI.mono hfr (by simp) rfl : FrI A [r] [] w0 _).trans (FrI.sub hfr9 rfl)).trans (FrI.sub hfr78 rfl)) f84 f85 f86 f87 f88 f76 hx77 (by omega) ?_
                rw [hbF_step (by omega), hS] at hX; exact hX
              · skip
                refine j_aload_n dX6_hear_139 3 rfl ?_
                refine j_aload_n dX6_hear_140 5 rfl ?_
                refine j_bipush (v := nI 16) dX6_hear_141 (by decide) ?_
                refine j_iload_n dX6_hear_143 6 rfl ?_
                refine j_imulN dX6_hear_144 ?_
                refine j_iconst (v := nI 1) dX6_hear_145 (by decide) ?_
                refine j_iaddN dX6_hear_146 ?_
                refine j_iload dX6_hear_147 1 rfl ?_
                refine j_aload_n dX6_hear_149 3 rfl ?_
                have f89 := (FrI.gen hfr78 (nm1 (Ne.symm hrw.1)) (AD.ml hAD rfl) f14)
                refine j_get (v := .ref (A 40)) flX6_hear_68 f89 (hA.2 40 rfl) dX6_hear_150 ?_
                refine j_iconst (v := nI 0) dX6_hear_153 (by decide) ?_
                have f90 := (FrI.gen hfr78 (nm1 (Ne.symm (hrw.2 40 rfl))) (AD.nl hAD 40 rfl rfl rfl) (FrI.gen hfr9 (nm1 (Ne.symm (hrw.2 40 rfl))) (AD.nl hAD 40 rfl rfl rfl) a40))
                refine j_ialdN (j := 0) f90 rfl (by omega) (by omega) dX6_hear_154 ?_
                have hb91 := hpb 0
                refine j_iaddN dX6_hear_155 ?_
                have hx93a := hx77 ((16 * e) + 1)
                refine j_callV (rm := rX6_come) (As := [.ref r, .int (nI ((16 * e) + 1)), .int (nI ((o ((16 * e) + b)) + (p 0)))]) (st := []) (b0 := mm) (ci := 6) (na := 3) (m_come hAD f89 hA f76 hrw (by omega) (by omega) (by omega)) (by intro E w9 h9; first | exact nomatch h9.1 | (obtain ⟨_, h9, _⟩ := h9; exact nomatch h9) | (obtain ⟨_, _, _, h9, _⟩ := h9; exact nomatch h9)) gX6_hear_X6_come rfl rfl f89 (by decide +kernel) rfl ⟨Nat.le_of_ble_eq_true rfl, Nat.le_of_ble_eq_true rfl⟩ rfl (Nat.le_of_ble_eq_true rfl) dX6_hear_156 ⟨(show 0 + 0 ≤ 0 by omega), (show 0 + 0 ≤ 0 by omega)⟩ (fun v96 w97 h98 => ?_)
                obtain ⟨h95, hfr94, f92⟩ := h98
                cases h95
                refine j_after (st' := []) (k' := 0) (n' := 0) rfl rfl rfl ?_
                have hx93 : ∀ j, (cmF (cmF (cmF x ((16 * e) + b) ((o ((16 * e) + b)) + (p 1))) ((16 * e) + 1) (o ((16 * e) + b))) ((16 * e) + 1) ((o ((16 * e) + b)) + (p 0))) j ≤ 268435456 := up_le hx77 (by omega)
                refine j_goto 262 dX6_hear_159 (by decide) ?_
                refine j_iinc (q := 7) (v := nI (b + 1)) (lv' := [(4, .int (nI (b + 1))), (7, .int ((nI no) - (xp (4 * e)))), (6, .int (nI (o ((16 * e) + b)))), (5, .int (nI ((16 * e) + b))), (0, .ref mm), (1, .int (nI no)), (2, .ref r), (3, .int (nI e))]) dX6_hear_262 rfl (by first | exact nI_1 _ | exact nI_add _ _) (Nat.le_of_ble_eq_true rfl) rfl ?_
                refine j_goto 33 dX6_hear_265 (by decide) ?_
                refine j_lv (lv' := [(0, .ref mm), (1, .int (nI no)), (2, .ref r), (3, .int (nI e)), (4, .int (nI (b + 1)))]) [4, 5, 6, 7, 0] rfl ?_
                have hS : hbS o xp p (decide (xk e = 2)) (xm e) no e b x = (cmF (cmF (cmF x ((16 * e) + b) ((o ((16 * e) + b)) + (p 1))) ((16 * e) + 1) (o ((16 * e) + b))) ((16 * e) + 1) ((o ((16 * e) + b)) + (p 0))) := by unfold hbS; rw [if_pos c65, decide_eq_true c94, if_pos rfl, if_pos c136, show nearB (nI no - xp (4 * e)) = true from decide_eq_true ⟨c112, c118⟩, if_pos rfl]
                have f99 := (FrI.gen hfr94 (nm1 (Ne.symm hrw.1)) (AD.ml hAD rfl) f89)
                have f100 := (FrI.gen hfr94 (nm1 (Ne.symm (hrw.2 10 rfl))) (AD.nl hAD 10 rfl rfl rfl) (FrI.gen hfr78 (nm1 (Ne.symm (hrw.2 10 rfl))) (AD.nl hAD 10 rfl rfl rfl) f15))
                have f101 := (FrI.gen hfr94 (nm1 (Ne.symm (hrw.2 11 rfl))) (AD.nl hAD 11 rfl rfl rfl) (FrI.gen hfr78 (nm1 (Ne.symm (hrw.2 11 rfl))) (AD.nl hAD 11 rfl rfl rfl) (FrI.gen hfr9 (nm1 (Ne.symm (hrw.2 11 rfl))) (AD.nl hAD 11 rfl rfl rfl) a11)))
                have f102 := (FrI.gen hfr94 (nm1 (Ne.symm (hrw.2 12 rfl))) (AD.nl hAD 12 rfl rfl rfl) (FrI.gen hfr78 (nm1 (Ne.symm (hrw.2 12 rfl))) (AD.nl hAD 12 rfl rfl rfl) f39))
                have f103 := (FrI.gen hfr94 (nm1 (Ne.symm (hrw.2 39 rfl))) (AD.nl hAD 39 rfl rfl rfl) (FrI.gen hfr78 (nm1 (Ne.symm (hrw.2 39 rfl))) (AD.nl hAD 39 rfl rfl rfl) (FrI.gen hfr9 (nm1 (Ne.symm (hrw.2 39 rfl))) (AD.nl hAD 39 rfl rfl rfl) a39)))
                have f104 := (FrI.gen hfr94 (nm1 (Ne.symm (hrw.2 40 rfl))) (AD.nl hAD 40 rfl rfl rfl) f90)
                refine ih _ _ (b + 1) (by omega) f99 ((((FrI.mono hfr (by simp) rfl : FrI A [r] [] w0 _).trans (FrI.sub hfr9 rfl)).trans (FrI.sub hfr78 rfl)).trans (FrI.sub hfr94 rfl)) f100 f101 f102 f103 f104 f92 hx93 (by omega) ?_
                rw [hbF_step (by omega), hS] at hX; exact hX
      · skip
        refine j_goto 262 dX6_hear_68 (by decide) ?_
        refine j_iinc (q := 6) (v := nI (b + 1)) (lv' := [(4, .int (nI (b + 1))), (6, .int (nI (o ((16 * e) + b)))), (5, .int (nI ((16 * e) + b))), (0, .ref mm), (1, .int (nI no)), (2, .ref r), (3, .int (nI e))]) dX6_hear_262 rfl (by first | exact nI_1 _ | exact nI_add _ _) (Nat.le_of_ble_eq_true rfl) rfl ?_
        refine j_goto 33 dX6_hear_265 (by decide) ?_
        refine j_lv (lv' := [(0, .ref mm), (1, .int (nI no)), (2, .ref r), (3, .int (nI e)), (4, .int (nI (b + 1)))]) [3, 4, 5, 6, 0] rfl ?_
        have hS : hbS o xp p (decide (xk e = 2)) (xm e) no e b x = x := by unfold hbS; rw [if_neg (by omega)]
        refine ih _ _ (b + 1) (by omega) hmm (FrI.mono hfr (by simp) rfl : FrI A [r] [] w0 _) a10 a11 a12 a39 a40 hr0 hx (by omega) ?_
        rw [hbF_step (by omega), hS] at hX; exact hX
theorem flX6_hear_144 : FL wsX6_hear RX6 144 6 5 := ⟨RX6, TX6, 45, rfl, by decide, by decide +kernel, by decide +kernel⟩
set_option maxHeartbeats 4000000 in
set_option maxRecDepth 100000 in
theorem l_h22 {x0 o xk xm p : Nat → Nat} {xp : Nat → Int32} {ev r no : Nat} {w0 : pW} {fs : List Value} {A : Nat → Nat} {mm : Nat} (hAD : AD A mm) (hA : RA A fs) (h5 : fs[5]? = some (.int (nI ev))) (hrw : RW A mm r) (hev : ev ≤ 100) (hm4 : ∀ e, e < ev → xm e ≤ 4) (hk2 : ∀ e, e < ev → xk e < 4 ∧ (xk e = 2 → xm e = 1)) (hpb : ∀ j, p j ≤ 50) (hob : ∀ j, o j ≤ 268435456) (hno : no < 128) : ∀ (m9 : Nat) (w : pW) (x : Nat → Nat) (e : Nat), ev - e < m9 → (w mm = some (.inr (6, fs))) → (FrI A [r] [] w0 w) → (w (A 10) = some (.inl (0, 100, .inl (fun j9 => nI (xk j9))))) → (w (A 11) = some (.inl (0, 100, .inl (fun j9 => nI (xm j9))))) → (w (A 12) = some (.inl (0, 400, .inl xp))) → (w (A 39) = some (.inl (0, 1600, .inl (fun j9 => nI (o j9))))) → (w (A 40) = some (.inl (0, 4, .inl (fun j9 => nI (p j9))))) → (w r = some (.inl (0, 1600, .inl (fun j9 => nI (x j9))))) → (∀ j, x j ≤ 268435456) → (e ≤ ev) → (heF o xk xm xp p no (ev - e) e x = heF o xk xm xp p no ev 0 (fil x0 (fun _ => 268435456) 1600)) → J ((cX6_hear, RX6, 9, wsX6_hear), (rX6_hear, none, "hear", []), fun o9 w9 => o9 = .inl none ∧ FrI A [r] [] w0 w9 ∧ w9 r = some (.inl (0, 1600, .inl (fun j9 => nI ((heF o xk xm xp p no ev 0 (fil x0 (fun _ => 268435456) 1600)) j9)))), fun _ _ _ => True) 22 [(0, .ref mm), (1, .int (nI no)), (2, .ref r), (3, .int (nI e))] [] w 0 0 := by
  intro m9
  induction m9 with
  | zero => intro w x e h9; omega
  | succ m9 ih =>
    intro w x e hm9 hmm hfr a10 a11 a12 a39 a40 hr0 hx hi hX
    refine j_iload_n dX6_hear_22 3 rfl ?_
    refine j_aload_n dX6_hear_23 0 rfl ?_
    refine j_get (v := .int (nI ev)) flX6_hear_144 hmm h5 dX6_hear_24 ?_
    refine j_icmp_geN 274 (by omega) (by omega) dX6_hear_27 (by decide) (fun c27 => ?_) (fun c27 => ?_)
    · skip
      have hin : e = ev := by omega
      rw [hin, Nat.sub_self] at hX
      have hXx : x = heF o xk xm xp p no ev 0 (fil x0 (fun _ => 268435456) 1600) := hX
      subst hXx
      exact j_vret rfl ⟨rfl, (FrI.mono hfr (by simp) rfl : FrI A [r] [] w0 _), hr0⟩ (show 0 ≤ 0 by omega) (show 0 ≤ 0 by omega) dX6_hear_274
    · skip
      refine j_iconst (v := nI 0) dX6_hear_30 (by decide) ?_
      refine j_istore (lv' := [(4, .int (nI 0)), (0, .ref mm), (1, .int (nI no)), (2, .ref r), (3, .int (nI e))]) dX6_hear_31 (Nat.le_of_ble_eq_true rfl) rfl ?_
      refine j_lv (lv' := [(0, .ref mm), (1, .int (nI no)), (2, .ref r), (3, .int (nI e)), (4, .int (nI 0))]) [1, 2, 3, 4, 0] rfl ?_
      refine l_h33 (X := hbF o xp p (decide (xk e = 2)) (xm e) no e (2 ^ xm e) 0 x) hAD hA h5 hrw hev hm4 hk2 hpb hob hno (by omega) ?_ _ _ _ 0 (Nat.lt_succ_self _) hmm (FrI.mono hfr (by simp) rfl : FrI A [r] [] w0 _) a10 a11 a12 a39 a40 hr0 hx (Nat.zero_le _) rfl
      intro w2 g0 g1 g2 g3 g4 g5 g6 g7 g8
      refine j_iinc (q := 3) (v := nI (e + 1)) (lv' := [(3, .int (nI (e + 1))), (0, .ref mm), (1, .int (nI no)), (2, .ref r)]) dX6_hear_268 rfl (by first | exact nI_1 _ | exact nI_add _ _) (Nat.le_of_ble_eq_true rfl) rfl ?_
      refine j_goto 22 dX6_hear_271 (by decide) ?_
      refine j_lv (lv' := [(0, .ref mm), (1, .int (nI no)), (2, .ref r), (3, .int (nI (e + 1)))]) [1, 2, 3, 0] rfl ?_
      exact ih _ _ (e + 1) (by omega) g0 (FrI.mono g1 (by simp) rfl : FrI A [r] [] w0 _) g2 g3 g4 g5 g6 g7 g8 (by omega) (by rw [← heF_step (by omega)]; exact hX)
set_option maxHeartbeats 4000000 in
set_option maxRecDepth 100000 in
theorem l_h2 {x0 o xk xm p : Nat → Nat} {xp : Nat → Int32} {ev r no : Nat} {w0 : pW} {fs : List Value} {A : Nat → Nat} {mm : Nat} (hAD : AD A mm) (hA : RA A fs) (h5 : fs[5]? = some (.int (nI ev))) (hrw : RW A mm r) (hev : ev ≤ 100) (hm4 : ∀ e, e < ev → xm e ≤ 4) (hk2 : ∀ e, e < ev → xk e < 4 ∧ (xk e = 2 → xm e = 1)) (hpb : ∀ j, p j ≤ 50) (hob : ∀ j, o j ≤ 268435456) (hno : no < 128) (hx0 : ∀ j, x0 j ≤ 268435456) : ∀ (m9 : Nat) (w : pW) (i : Nat), 1600 - i < m9 → (w mm = some (.inr (6, fs))) → (FrI A [r] [] w0 w) → (w (A 10) = some (.inl (0, 100, .inl (fun j9 => nI (xk j9))))) → (w (A 11) = some (.inl (0, 100, .inl (fun j9 => nI (xm j9))))) → (w (A 12) = some (.inl (0, 400, .inl xp))) → (w (A 39) = some (.inl (0, 1600, .inl (fun j9 => nI (o j9))))) → (w (A 40) = some (.inl (0, 4, .inl (fun j9 => nI (p j9))))) → (w r = some (.inl (0, 1600, .inl (fun j9 => nI ((fil x0 (fun _ => 268435456) i) j9))))) → (∀ j, (fil x0 (fun _ => 268435456) i) j ≤ 268435456) → (i ≤ 1600) → J ((cX6_hear, RX6, 9, wsX6_hear), (rX6_hear, none, "hear", []), fun o9 w9 => o9 = .inl none ∧ FrI A [r] [] w0 w9 ∧ w9 r = some (.inl (0, 1600, .inl (fun j9 => nI ((heF o xk xm xp p no ev 0 (fil x0 (fun _ => 268435456) 1600)) j9)))), fun _ _ _ => True) 2 [(0, .ref mm), (1, .int (nI no)), (2, .ref r), (3, .int (nI i))] [] w 0 0 := by
  intro m9
  induction m9 with
  | zero => intro w i h9; omega
  | succ m9 ih =>
    intro w i hm9 hmm hfr a10 a11 a12 a39 a40 hr0 hx hi
    refine j_iload_n dX6_hear_2 3 rfl ?_
    refine j_sipush (v := nI 1600) dX6_hear_3 (by decide) ?_
    refine j_icmp_geN 20 (by omega) (by omega) dX6_hear_6 (by decide) (fun c6 => ?_) (fun c6 => ?_)
    · skip
      refine j_iconst (v := nI 0) dX6_hear_20 (by decide) ?_
      refine j_istore_n (lv' := [(3, .int (nI 0)), (0, .ref mm), (1, .int (nI no)), (2, .ref r)]) dX6_hear_21 (Nat.le_of_ble_eq_true rfl) rfl ?_
      refine j_lv (lv' := [(0, .ref mm), (1, .int (nI no)), (2, .ref r), (3, .int (nI 0))]) [1, 2, 3, 0] rfl ?_
      have hin : i = 1600 := by omega
      subst hin
      exact l_h22 hAD hA h5 hrw hev hm4 hk2 hpb hob hno _ _ _ 0 (Nat.lt_succ_self _) hmm (FrI.mono hfr (by simp) rfl : FrI A [r] [] w0 _) a10 a11 a12 a39 a40 hr0 hx (Nat.zero_le _) rfl
    · skip
      refine j_aload_n dX6_hear_9 2 rfl ?_
      refine j_iload_n dX6_hear_10 3 rfl ?_
      refine j_ldc (v := nI 268435456) dX6_hear_11 mX6_hear_0 ?_
      refine j_iastn (j := i) (x := 268435456) hr0 rfl (by omega) (by omega) dX6_hear_13 ?_
      refine j_w (fun w1 hw1 => ?_)
      have f2 : w1 r = some (.inl (0, 1600, .inl (fun j9 => nI ((va_up (fil x0 (fun _ => 268435456) i) i 268435456) j9)))) := up_at hw1
      refine j_iinc (q := 3) (v := nI (i + 1)) (lv' := [(3, .int (nI (i + 1))), (0, .ref mm), (1, .int (nI no)), (2, .ref r)]) dX6_hear_14 rfl (by first | exact nI_1 _ | exact nI_add _ _) (Nat.le_of_ble_eq_true rfl) rfl ?_
      refine j_goto 2 dX6_hear_17 (by decide) ?_
      refine j_lv (lv' := [(0, .ref mm), (1, .int (nI no)), (2, .ref r), (3, .int (nI (i + 1)))]) [1, 2, 3, 0] rfl ?_
      have f3 := (up_ne hw1 (Ne.symm hrw.1) hmm)
      have f4 := (up_ne hw1 (Ne.symm (hrw.2 10 rfl)) a10)
      have f5 := (up_ne hw1 (Ne.symm (hrw.2 11 rfl)) a11)
      have f6 := (up_ne hw1 (Ne.symm (hrw.2 12 rfl)) a12)
      have f7 := (up_ne hw1 (Ne.symm (hrw.2 39 rfl)) a39)
      have f8 := (up_ne hw1 (Ne.symm (hrw.2 40 rfl)) a40)
      exact ih _ (i + 1) (by omega) f3 ((FrI.mono hfr (by simp) rfl : FrI A [r] [] w0 _).trans (FrI.ux hw1 (by simp))) f4 f5 f6 f7 f8 (by rw [← fil_s]; exact f2) (fil_le hx0 (fun _ _ => Nat.le_refl _)) (by omega)
set_option maxHeartbeats 4000000 in
set_option maxRecDepth 100000 in
theorem m_hear {x0 o xk xm p : Nat → Nat} {xp : Nat → Int32} {ev r no : Nat} {w : pW} {A : Nat → Nat} {mm : Nat} {fs : List Value} (hAD : AD A mm) (hmm : w mm = some (.inr (6, fs))) (hA : RA A fs) (h5 : fs[5]? = some (.int (nI ev))) (a10 : w (A 10) = some (.inl (0, 100, .inl (fun j9 => nI (xk j9))))) (a11 : w (A 11) = some (.inl (0, 100, .inl (fun j9 => nI (xm j9))))) (a12 : w (A 12) = some (.inl (0, 400, .inl xp))) (a39 : w (A 39) = some (.inl (0, 1600, .inl (fun j9 => nI (o j9))))) (a40 : w (A 40) = some (.inl (0, 4, .inl (fun j9 => nI (p j9))))) (hr0 : w r = some (.inl (0, 1600, .inl (fun j9 => nI (x0 j9))))) (hrw : RW A mm r) (hev : ev ≤ 100) (hm4 : ∀ e, e < ev → xm e ≤ 4) (hk2 : ∀ e, e < ev → xk e < 4 ∧ (xk e = 2 → xm e = 1)) (hpb : ∀ j, p j ≤ 50) (hob : ∀ j, o j ≤ 268435456) (hno : no < 128) (hx0 : ∀ j, x0 j ≤ 268435456) : Ct yX6_hear wsX6_hear rX6_hear [.ref mm, .int (nI no), .ref r] w (fun o9 w9 => o9 = .inl none ∧ FrI A [r] [] w w9 ∧ w9 r = some (.inl (0, 1600, .inl (fun j9 => nI ((heF o xk xm xp p no ev 0 (fil x0 (fun _ => 268435456) 1600)) j9))))) := by
  refine Ct.of (cc := cX6_hear) (own := RX6) (nm := "hear") (nL := 9) (ret := none) (by decide +kernel) rfl rfl rfl (Nat.le_of_ble_eq_true rfl) ?_
  refine j_lvE (lv' := [(0, .ref mm), (1, .int (nI no)), (2, .ref r)]) rfl ?_
  refine j_iconst (v := nI 0) dX6_hear_0 (by decide) ?_
  refine j_istore_n (lv' := [(3, .int (nI 0)), (0, .ref mm), (1, .int (nI no)), (2, .ref r)]) dX6_hear_1 (Nat.le_of_ble_eq_true rfl) rfl ?_
  refine j_lv (lv' := [(0, .ref mm), (1, .int (nI no)), (2, .ref r), (3, .int (nI 0))]) [1, 2, 3, 0] rfl ?_
  exact l_h2 hAD hA h5 hrw hev hm4 hk2 hpb hob hno hx0 _ _ 0 (Nat.lt_succ_self _) hmm FrI.refl a10 a11 a12 a39 a40 (by rw [fil_0]; exact hr0) (fil_le hx0 (fun _ _ => Nat.le_refl _)) (Nat.zero_le _)
