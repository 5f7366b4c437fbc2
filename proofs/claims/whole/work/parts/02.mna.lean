section MNA
theorem vr_outer (c : ClassId) (N h0 : Nat) : ∀ i : Nat, Jvm.Free.Multi.outerC c N h0 i = arrV c N (fun j => va_rf (if j < i then some (h0 + 1 + j) else none))
  | 0 => by
    show ({ cls := c, slots := Array.replicate N .null, vm := .none } : Cell) = _
    rw [arrV_new]
    refine congrArg (arrV c N) (funext fun j => ?_)
    simp [va_rf]
  | i + 1 => by
    show (Jvm.Free.Multi.outerC c N h0 i).setSlot i (.ref (h0 + 1 + i)) = _
    rw [vr_outer c N h0 i, arrV_store]
    refine congrArg (arrV c N) (funext fun j => ?_)
    by_cases e : j = i
    · subst e
      simp [updV, va_rf]
    · by_cases h : j < i
      · simp [updV, e, h, Nat.lt_succ_of_lt h]
      · simp [updV, e, h, show ¬ j < i + 1 by omega]
variable {P : JP} {pc : Nat} {lv : List (Nat × Value)} {st : List Value} {w : pW} {k n : Nat}
/-- new int[N][K] -/
theorem j_mna {idx N K : Nat} (hcl : Cond.classLink P.1.2.1 idx "[[I" ∈ P.1.2.2.2) (harr : Cond.arrayClass .int ∈ P.1.2.2.2) (hN : N ≤ 100000) (hK4 : K ≤ 100000) (hcells : k + (1 + N) ≤ P.2.1.1.cells) (hslots : n + (N + N * K) ≤ P.2.1.1.slots) (hd : decode P.1.1 pc = .ok (.multianewarray idx 2, 4))
    (h : ∀ (q : Nat) (r : Nat → Nat) (w1 : pW), w q = none → (∀ i, i < N → w (r i) = none ∧ r i ≠ q) → (∀ i j, i < N → j < N → r i = r j → i = j) → w1 q = some (.inl (4, N, .inr (.inr (.inr (.inr (fun j9 => some (r j9))))))) → (∀ i, i < N → w1 (r i) = some (.inl (0, K, .inl (fun _ => 0)))) → (∀ x c, w x = some c → w1 x = some c) → J P (pc + 4) lv (.ref q :: st) w1 (k + 1 + N) (n + N + N * K)) : J P pc lv (.int (nI K) :: .int (nI N) :: st) w k n := by
  intro p l e s m args below meth c H locs G b ls F hP hD hS hl
  obtain ⟨hx, hb, hml, hown, hts, hr, hlk, hnm, htb, hK, hBg, hst2, hbs, hXX⟩ := id F
  have hAO : jAO s := hBg.2.2.2.2.2.2.2.1
  intro T hT Xs
  have eN : (nI N).toNatClampNeg = N := nI_clamp (by omega)
  have eK : (nI K).toNatClampNeg = K := nI_clamp (by omega)
  obtain ⟨vm₁, cA, comp, -, fA, fC, -, -, X', step⟩ := Xs.multianewarray2F hx hown (ty := .int) (hts _ hcl) hAO (hts _ harr) (g := F0 m pc ls (.int (nI K) :: .int (nI N) :: st)) rfl (by rw [hb]; exact hd) rfl (nI_pos (by omega)) (nI_pos (by omega)) (by rw [eN]; omega) (by rw [eK]; show K * 4 ≤ _; omega) (by rw [eK]; omega) rfl rfl (by rw [eN]; exact hcells) (by rw [eN, eK]; exact hslots)
  rw [eN, eK] at X' step
  have e1 : cA = G.2 4 := Option.some.inj (fA.symm.trans (hK.2 4 (G.2 4, .array .int) rfl).2)
  have e2 : comp = G.2 0 := Option.some.inj (fC.symm.trans (hK.2 0 (G.2 0, .int) rfl).2)
  subst e1 e2
  generalize hF : Jvm.Free.Multi.fill (T.setVm vm₁) (G.2 4) (G.2 0) N K (defaultValue .int) N = FF9 at X' step
  have hTh : (T.setVm vm₁).heap = H := hT
  obtain ⟨f1, f2, -, -⟩ := Jvm.Free.Multi.fill_facts (T.setVm vm₁) (G.2 4) (G.2 0) N K (defaultValue .int) N
  rw [hF, hTh] at f1 f2
  have hold : ∀ x : Nat, x < H.size → FF9.heap[x]? = H[x]? := fun x hx9 => by
    have := Jvm.Free.Multi.fill_old (T.setVm vm₁) (G.2 4) (G.2 0) N K (defaultValue .int) (a := x) (by rw [hTh]; exact hx9) N
    rw [hF, hTh] at this
    exact this
  have hrow : ∀ j : Nat, j < N → FF9.heap[H.size + 1 + j]? = some (vp_cell (G.2 0) (K, .inl (fun _ => 0))) := fun j hj => by
    have := Jvm.Free.Multi.fill_inner (T.setVm vm₁) (G.2 4) (G.2 0) N K (defaultValue .int) N j hj
    rw [hF, hTh] at this
    rw [this]
    refine congrArg some ?_
    show ({ cls := G.2 0, slots := Array.replicate K (.int 0), vm := .none } : Cell) = _
    rw [arrV_new, vp_cell_i]
  have hout : Jvm.Free.Multi.outerC (G.2 4) N H.size N = vp_cell (G.2 4) (N, .inr (.inr (.inr (.inr (fun j9 => some (H.size + 1 + j9)))))) := by
    rw [vp_cell_q, vr_outer (G.2 4) N H.size N]
    unfold arrV
    congr 1
    refine congrArg Array.ofFn (funext fun j => ?_)
    show va_rf (if j.val < N then _ else _) = _
    rw [if_pos j.isLt]
  rw [hout] at f2
  have hwn : ∀ x, H.size ≤ x → w x = none := fun x hx9 => by
    cases hw : w x with
    | none => rfl
    | some e9 => have := hP.lt hw; omega
  obtain ⟨w1, hw1⟩ : ∃ w1 : pW, w1 = fun x => if x = H.size then some (.inl (4, N, .inr (.inr (.inr (.inr (fun j9 => some (H.size + 1 + j9))))))) else if H.size < x ∧ x ≤ H.size + N then some (.inl (0, K, .inl (fun _ => 0))) else w x := ⟨_, rfl⟩
  have hq1 : w1 H.size = some (.inl (4, N, .inr (.inr (.inr (.inr (fun j9 => some (H.size + 1 + j9))))))) := by rw [hw1]; exact if_pos rfl
  have hr1 : ∀ i, i < N → w1 (H.size + 1 + i) = some (.inl (0, K, .inl (fun _ => 0))) := fun i hi => by
    rw [hw1]
    show (if _ then _ else _) = _
    rw [if_neg (by omega), if_pos (by omega)]
  have hk1 : ∀ x c, w x = some c → w1 x = some c := fun x c9 hx9 => by
    have hlt := hP.lt hx9
    rw [hw1]
    show (if _ then _ else _) = _
    rw [if_neg (by omega), if_neg (by omega)]
    exact hx9
  have hP1 : fP G w1 FF9.heap := by
    intro x e9 hx9
    rw [hw1] at hx9
    replace hx9 : (if x = H.size then _ else if H.size < x ∧ x ≤ H.size + N then _ else w x) = some e9 := hx9
    by_cases c1 : x = H.size
    · rw [if_pos c1] at hx9
      cases hx9
      subst c1
      exact f2
    · rw [if_neg c1] at hx9
      by_cases c2 : H.size < x ∧ x ≤ H.size + N
      · rw [if_pos c2] at hx9
        cases hx9
        have := hrow (x - H.size - 1) (by omega)
        rw [show H.size + 1 + (x - H.size - 1) = x by omega] at this
        exact this
      · rw [if_neg c2] at hx9
        obtain ⟨k9, hk9⟩ := fL_at hP hx9
        exact ((fL_P hP).kept (fun k8 z hz => hold z.1 ((fL_P hP k8 z hz).lt))) k9 _ hk9
  have hD1 : fD b w1 := by
    intro x e9 hx9
    have hbH : b ≤ H.size := Nat.le_trans hbs hS.1
    by_cases c1 : x < H.size
    · rw [hw1] at hx9
      replace hx9 : (if x = H.size then _ else if H.size < x ∧ x ≤ H.size + N then _ else w x) = some e9 := hx9
      rw [if_neg (by omega), if_neg (by omega)] at hx9
      exact hD x e9 hx9
    · show b ≤ x
      omega
  have hS1 : va_S (pB b) s.heap FF9.heap locs := ⟨Nat.le_trans hS.1 (by rw [f1]; omega), fun q h1 h2 => (hold q (Nat.lt_of_lt_of_le h1 hS.1)).trans (hS.2.1 q h1 h2), hS.2.2⟩
  obtain ⟨t2, a1, b1⟩ := h H.size (fun i => H.size + 1 + i) w1 (hwn _ (Nat.le_refl _)) (fun i _ => ⟨hwn _ (by omega), by omega⟩) (fun i j _ _ q => by omega) hq1 hr1 hk1 p l e s m args below meth c FF9.heap locs G b ls F hP1 hD1 hS1 hl FF9 rfl X'
  have hTs : T.heap.size = H.size := by rw [hT]
  rw [hTs] at step
  exact ⟨t2, step t2 a1, b1⟩
end MNA
