/-! the hours, over the chain -/
theorem getD_some {L : List Nat} {i : Nat} (hi : i < L.length) : L[i]? = some (L.getD i 0) := by
  rw [List.getD_eq_getElem?_getD, List.getElem?_eq_getElem hi]
  rfl
def upC (mcl mpe : Nat → Nat) (nt : Nat) : Nat := if (anL mpe nt).length < 2 then 500 else mcl ((anL mpe nt).getD 0 0) - mcl ((anL mpe nt).getD (min 4 ((anL mpe nt).length - 1)) 0)
def loC (xb mpe : Nat → Nat) (nt : Nat) : Nat := if (anL mpe nt).length < 2 then 1 else xb (mpe ((anL mpe nt).getD 0 0)) - xb (mpe ((anL mpe nt).getD (min 4 ((anL mpe nt).length - 1)) 0))
section
variable {w : pW} {fo sc pr ar de nt : Nat} {fa ev be cu st me pa : Nat} {f : Nat → Int32} {u : Nat → Nat → Nat} {bh : Nat → Option Nat} {ml ca : Nat → Nat} {K : Nat} {mcl mpe mpb mpc mcn : Nat → Nat} {md : Nat → Nat → Nat} {pt tx tl rd ld : Nat}
theorem CHN.anch (hC : CHN w ml ca K nt mcl mpe mpb mpc mcn md) : ∀ i, i < (anL mpe nt).length → w ((fun i => ml ((anL mpe nt).getD i 0)) i) = some (.inr (1, [va_rf ((fun i => if (anL mpe nt).getD i 0 = 0 then none else some (ml ((anL mpe nt).getD i 0 - 1))) i), va_rf ((fun i => if (anL mpe nt).getD i 0 < K then some (ml ((anL mpe nt).getD i 0 + 1)) else none) i), .ref ((fun i => ca ((anL mpe nt).getD i 0)) i), .int (nI ((fun i => mcl ((anL mpe nt).getD i 0)) i)), .int (nI ((fun i => mpe ((anL mpe nt).getD i 0)) i)), .int (nI ((fun i => mpb ((anL mpe nt).getD i 0)) i)), .int (nI ((fun i => mpc ((anL mpe nt).getD i 0)) i)), .int (nI ((fun i => (anL mpe ((anL mpe nt).getD i 0)).length) i)), va_rf ((fun i => (anL mpe ((anL mpe nt).getD i 0)).head?.map ml) i), va_rf (if i + 1 < (anL mpe nt).length then some ((fun i => ml ((anL mpe nt).getD i 0)) (i + 1)) else none)])) := by
  intro i hi
  obtain ⟨h1, h2, -, -, -⟩ := hC
  have hg := getD_some hi
  have hle : (anL mpe nt).getD i 0 ≤ nt := anL_mem (List.mem_of_getElem? hg)
  have ht := anL_tail hg
  obtain ⟨an, av, ah, e, g⟩ := h2 ((anL mpe nt).getD i 0) (by omega)
  obtain ⟨rfl, rfl, rfl⟩ := g hle
  have hm : mah mpe ml ((anL mpe nt).getD i 0) = if i + 1 < (anL mpe nt).length then some (ml ((anL mpe nt).getD (i + 1) 0)) else none := by
    unfold mah
    rw [ht, List.head?_drop, hg, if_pos rfl, List.getElem?_drop]
    by_cases h : i + 1 < (anL mpe nt).length
    · rw [if_pos h, getD_some h]; rfl
    · rw [if_neg h, List.getElem?_eq_none (by omega)]; rfl
  rw [hm] at e
  exact e
theorem CHN.ancl (hpe : ∀ i, 1 ≤ i → i ≤ nt → mpe i < ev) : ∀ i, i < (anL mpe nt).length → (1 ≤ (anL mpe nt).getD i 0 ∧ (anL mpe nt).getD i 0 ≤ nt) ∧ mpe ((anL mpe nt).getD i 0) < ev := fun i hi => by
  have hg := List.mem_of_getElem? (getD_some hi)
  exact ⟨⟨anL_pos hg, anL_mem hg⟩, hpe _ (anL_pos hg) (anL_mem hg)⟩
theorem anL_nil (h : (anL mpe nt).length = 0) : nt = 0 := by
  by_cases h0 : nt = 0
  · exact h0
  · obtain ⟨a, l, e, -⟩ := anL_hd (pe := mpe) (k := nt) (by omega)
    rw [e] at h
    simp at h
theorem anL_zero : (anL mpe 0).length = 0 := rfl
theorem anL_h0 (h : 0 < nt) : 0 < (anL mpe nt).length ∧ (anL mpe nt).head?.map ml = some (ml ((anL mpe nt).getD 0 0)) ∧ mpe ((anL mpe nt).getD 0 0) = mpe nt := by
  obtain ⟨a, l, e, e2, -⟩ := anL_hd (pe := mpe) (k := nt) h
  rw [e]
  exact ⟨Nat.succ_pos _, rfl, e2⟩
/-- what is needed of the anchors -/
theorem CHN.anc2 (hpe : ∀ i, 1 ≤ i → i ≤ nt → mpe i < ev) (hcl : ∀ i j, 1 ≤ i → i ≤ j → j ≤ nt → mcl i ≤ mcl j) (hbt : ∀ e e', e < e' → e' < ev → u 2 e < u 2 e') (h : 2 ≤ (anL mpe nt).length) :
    (∀ i, i < (anL mpe nt).length → mcl ((anL mpe nt).getD i 0) ≤ mcl ((anL mpe nt).getD 0 0)) ∧ (∀ i, i < (anL mpe nt).length → u 2 (mpe ((anL mpe nt).getD i 0)) ≤ u 2 (mpe ((anL mpe nt).getD 0 0))) ∧ 0 < u 2 (mpe ((anL mpe nt).getD 0 0)) - u 2 (mpe ((anL mpe nt).getD (min 4 ((anL mpe nt).length - 1)) 0)) := by
  have hA := CHN.ancl (ev := ev) hpe
  have key : ∀ i, 0 < i → i < (anL mpe nt).length → mpe ((anL mpe nt).getD i 0) < mpe ((anL mpe nt).getD 0 0) ∧ (anL mpe nt).getD i 0 < (anL mpe nt).getD 0 0 := fun i h0 hi => anL_lt h0 (getD_some (by omega)) (getD_some hi)
  refine ⟨fun i hi => ?_, fun i hi => ?_, ?_⟩
  · by_cases h0 : i = 0
    · subst h0; exact Nat.le_refl _
    · exact hcl _ _ (hA i hi).1.1 (by have := (key i (by omega) hi).2; omega) (hA 0 (by omega)).1.2
  · by_cases h0 : i = 0
    · subst h0; exact Nat.le_refl _
    · exact Nat.le_of_lt (hbt _ _ (key i (by omega) hi).1 (hA 0 (by omega)).2)
  · have := hbt _ _ (key (min 4 ((anL mpe nt).length - 1)) (by omega) (by omega)).1 (hA 0 (by omega)).2
    omega
theorem c_tempoW (hC : CHN w ml ca K nt mcl mpe mpb mpc mcn md) (hfo : w fo = some (.inr (0, [.ref sc, .ref pr, .ref ar, .ref de, .ref (ml 0), .ref (ml nt), .int (nI nt)]))) (hs : w sc = some (.inr (3, [.ref fa, .int (nI ev), .int (nI be), .int (nI cu), .int (nI st), .int (nI me), .int (nI pa)]))) (hf : w fa = some (.inl (0, 1400, .inl f))) (hM : Mus f ev st u bh) (hpt : w pt = some (.inr (5, [.ref tx, .int (nI tl), .ref rd, .ref sc, .ref fo, .int (nI ld)]))) (hnt : nt ≤ 400) (hpe : ∀ i, 1 ≤ i → i ≤ nt → mpe i < ev) (hcl : ∀ i j, 1 ≤ i → i ≤ j → j ≤ nt → mcl i ≤ mcl j) (hclb : ∀ i, 1 ≤ i → i ≤ nt → mcl i < 2 ^ 31) (hbt : ∀ e e', e < e' → e' < ev → u 2 e < u 2 e') {bl : Bool} : Ct yX5_tempo wsX5_tempo rX5_tempo [.ref pt, .int (zb bl)] w (fun o w9 => o = .inl (some (.int (nI (tpF bl (upC mcl mpe nt) (loC (u 2) mpe nt))))) ∧ w9 = w) := by
  obtain ⟨an, av, ah, hm, g⟩ := hC.2.1 nt hC.1
  obtain ⟨rfl, rfl, rfl⟩ := g (Nat.le_refl _)
  unfold momE at hm
  have hle : (anL mpe nt).length ≤ nt := anL_le
  by_cases h0 : nt = 0
  · subst h0
    refine (c_tempo0 hfo hm hs hf hM hpt (bl := bl)).imp (fun o w9 h => ⟨?_, h.2⟩)
    exact h.1
  · obtain ⟨l1, l2, l3⟩ := anL_h0 (mpe := mpe) (ml := ml) (show 0 < nt by omega)
    have hA := CHN.ancl (ev := ev) hpe
    rw [l2] at hm
    by_cases h2 : (anL mpe nt).length < 2
    · have e1 : upC mcl mpe nt = 500 := if_pos h2
      have e2 : loC (u 2) mpe nt = 1 := if_pos h2
      refine (c_tempo1 (lc := fun i => ml ((anL mpe nt).getD i 0)) hfo hm hs hf hM hC.anch (show (anL mpe nt).length = 1 by omega) (fun i hi => (hA i hi).2) hpt (bl := bl)).imp (fun o w9 h => ⟨?_, h.2⟩)
      rw [e1, e2]; exact h.1
    · have e1 : upC mcl mpe nt = _ := if_neg h2
      have e2 : loC (u 2) mpe nt = _ := if_neg h2
      obtain ⟨k1, k2, k3⟩ := CHN.anc2 hpe hcl hbt (show 2 ≤ (anL mpe nt).length by omega)
      refine (c_tempo2 (lc := fun i => ml ((anL mpe nt).getD i 0)) hfo hm hs hf hM hC.anch (show 2 ≤ (anL mpe nt).length by omega) (by omega) k1 (hclb _ (hA 0 l1).1.1 (hA 0 l1).1.2) (fun i hi => (hA i hi).2) k2 k3 hpt (bl := bl)).imp (fun o w9 h => ⟨?_, h.2⟩)
      rw [e1, e2]; exact h.1
theorem c_timeW (hC : CHN w ml ca K nt mcl mpe mpb mpc mcn md) (hfo : w fo = some (.inr (0, [.ref sc, .ref pr, .ref ar, .ref de, .ref (ml 0), .ref (ml nt), .int (nI nt)]))) (hs : w sc = some (.inr (3, [.ref fa, .int (nI ev), .int (nI be), .int (nI cu), .int (nI st), .int (nI me), .int (nI pa)]))) (hf : w fa = some (.inl (0, 1400, .inl f))) (hM : Mus f ev st u bh) (hpt : w pt = some (.inr (5, [.ref tx, .int (nI tl), .ref rd, .ref sc, .ref fo, .int (nI ld)]))) (hnt : nt ≤ 400) (hpe : ∀ i, 1 ≤ i → i ≤ nt → mpe i < ev) (hcl : ∀ i j, 1 ≤ i → i ≤ j → j ≤ nt → mcl i ≤ mcl j) (hclb : ∀ i, 1 ≤ i → i ≤ nt → mcl i < 2 ^ 31) (hbt : ∀ e e', e < e' → e' < ev → u 2 e < u 2 e') {bt : Nat} (hb : bt ≤ 100000) : Ct yX5_time wsX5_time rX5_time [.ref pt, .int (nI bt)] w (fun o w9 => o = .inl (some (.long (if nt = 0 then -1 else tmV (mcl ((anL mpe nt).getD 0 0)) (upC mcl mpe nt) (loC (u 2) mpe nt) (u 2 (mpe nt)) bt))) ∧ w9 = w) := by
  obtain ⟨an, av, ah, hm, g⟩ := hC.2.1 nt hC.1
  obtain ⟨rfl, rfl, rfl⟩ := g (Nat.le_refl _)
  unfold momE at hm
  have hle : (anL mpe nt).length ≤ nt := anL_le
  by_cases h0 : nt = 0
  · subst h0
    refine (c_time0 hfo hm hs hf hM hpt hb).imp (fun o w9 h => ⟨?_, h.2⟩)
    exact h.1
  · obtain ⟨l1, l2, l3⟩ := anL_h0 (mpe := mpe) (ml := ml) (show 0 < nt by omega)
    have hA := CHN.ancl (ev := ev) hpe
    rw [l2] at hm
    by_cases h2 : (anL mpe nt).length < 2
    · have e1 : upC mcl mpe nt = 500 := if_pos h2
      have e2 : loC (u 2) mpe nt = 1 := if_pos h2
      refine (c_time1 (lc := fun i => ml ((anL mpe nt).getD i 0)) hfo hm hs hf hM hC.anch (show (anL mpe nt).length = 1 by omega) (fun i hi => (hA i hi).2) hpt hb).imp (fun o w9 h => ⟨?_, h.2⟩)
      rw [e1, e2, if_neg h0]; have h1 := h.1; simp only [l3] at h1 ⊢; exact h1
    · have e1 : upC mcl mpe nt = _ := if_neg h2
      have e2 : loC (u 2) mpe nt = _ := if_neg h2
      obtain ⟨k1, k2, k3⟩ := CHN.anc2 hpe hcl hbt (show 2 ≤ (anL mpe nt).length by omega)
      refine (c_time2 (lc := fun i => ml ((anL mpe nt).getD i 0)) hfo hm hs hf hM hC.anch (show 2 ≤ (anL mpe nt).length by omega) (by omega) k1 (hclb _ (hA 0 l1).1.1 (hA 0 l1).1.2) (fun i hi => (hA i hi).2) k2 k3 hpt hb).imp (fun o w9 h => ⟨?_, h.2⟩)
      rw [e1, e2, if_neg h0]; have h1 := h.1; simp only [l3] at h1 ⊢; exact h1
theorem c_turnsW (hC : CHN w ml ca K nt mcl mpe mpb mpc mcn md) (hfo : w fo = some (.inr (0, [.ref sc, .ref pr, .ref ar, .ref de, .ref (ml 0), .ref (ml nt), .int (nI nt)]))) (hs : w sc = some (.inr (3, [.ref fa, .int (nI ev), .int (nI be), .int (nI cu), .int (nI st), .int (nI me), .int (nI pa)]))) (hf : w fa = some (.inl (0, 1400, .inl f))) (hM : Mus f ev st u bh) (hpt : w pt = some (.inr (5, [.ref tx, .int (nI tl), .ref rd, .ref sc, .ref fo, .int (nI ld)]))) (hnt : nt ≤ 400) (hpe : ∀ i, 1 ≤ i → i ≤ nt → mpe i < ev) (hcl : ∀ i j, 1 ≤ i → i ≤ j → j ≤ nt → mcl i ≤ mcl j) (hclb : ∀ i, 1 ≤ i → i ≤ nt → mcl i < 2 ^ 31) (hbt : ∀ e e', e < e' → e' < ev → u 2 e < u 2 e') (hp0 : mpe 0 < 100) : Ct yX5_turnsAt wsX5_turnsAt rX5_turnsAt [.ref pt] w (fun o w9 => o = .inl (some (.long (if nt = 0 then -1 else match nxP f ev (mpe nt) with | none => -1 | some z => tmV (mcl ((anL mpe nt).getD 0 0)) (upC mcl mpe nt) (loC (u 2) mpe nt) (u 2 (mpe nt)) (u 2 z) - (nI ld).toInt64))) ∧ w9 = w) := by
  obtain ⟨an, av, ah, hm, g⟩ := hC.2.1 nt hC.1
  obtain ⟨rfl, rfl, rfl⟩ := g (Nat.le_refl _)
  unfold momE at hm
  have hle : (anL mpe nt).length ≤ nt := anL_le
  by_cases h0 : nt = 0
  · subst h0
    refine (c_turnsAtE hfo hm hs hf hM hpt hp0 rfl).imp (fun o w9 h => ⟨?_, h.2⟩)
    exact h.1
  · obtain ⟨l1, l2, l3⟩ := anL_h0 (mpe := mpe) (ml := ml) (show 0 < nt by omega)
    have hA := CHN.ancl (ev := ev) hpe
    rw [l2] at hm
    by_cases h2 : (anL mpe nt).length < 2
    · have e1 : upC mcl mpe nt = 500 := if_pos h2
      have e2 : loC (u 2) mpe nt = 1 := if_pos h2
      refine (c_turnsAt1 (lc := fun i => ml ((anL mpe nt).getD i 0)) hfo hm hs hf hM hC.anch (show (anL mpe nt).length = 1 by omega) (fun i hi => (hA i hi).2) hpt (hpe nt (by omega) (Nat.le_refl _)) l1 (by omega)).imp (fun o w9 h => ⟨?_, h.2⟩)
      rw [e1, e2, if_neg h0]; have h1 := h.1; simp only [l3] at h1 ⊢; exact h1
    · have e1 : upC mcl mpe nt = _ := if_neg h2
      have e2 : loC (u 2) mpe nt = _ := if_neg h2
      obtain ⟨k1, k2, k3⟩ := CHN.anc2 hpe hcl hbt (show 2 ≤ (anL mpe nt).length by omega)
      refine (c_turnsAt2 (lc := fun i => ml ((anL mpe nt).getD i 0)) hfo hm hs hf hM hC.anch (show 2 ≤ (anL mpe nt).length by omega) (by omega) k1 (hclb _ (hA 0 l1).1.1 (hA 0 l1).1.2) (fun i hi => (hA i hi).2) k2 k3 hpt (hpe nt (by omega) (Nat.le_refl _)) l1 (by omega)).imp (fun o w9 h => ⟨?_, h.2⟩)
      rw [e1, e2, if_neg h0]; have h1 := h.1; simp only [l3] at h1 ⊢; exact h1
theorem c_cueW (hC : CHN w ml ca K nt mcl mpe mpb mpc mcn md) (hfo : w fo = some (.inr (0, [.ref sc, .ref pr, .ref ar, .ref de, .ref (ml 0), .ref (ml nt), .int (nI nt)]))) (hs : w sc = some (.inr (3, [.ref fa, .int (nI ev), .int (nI be), .int (nI cu), .int (nI st), .int (nI me), .int (nI pa)]))) (hf : w fa = some (.inl (0, 1400, .inl f))) (hM : Mus f ev st u bh) (hpt : w pt = some (.inr (5, [.ref tx, .int (nI tl), .ref rd, .ref sc, .ref fo, .int (nI ld)]))) (hnt : nt ≤ 400) (hpe : ∀ i, 1 ≤ i → i ≤ nt → mpe i < ev) (hcl : ∀ i j, 1 ≤ i → i ≤ j → j ≤ nt → mcl i ≤ mcl j) (hclb : ∀ i, 1 ≤ i → i ≤ nt → mcl i < 2 ^ 31) (hbt : ∀ e e', e < e' → e' < ev → u 2 e < u 2 e') (hp0 : mpe 0 < 100) : Ct yX5_cue wsX5_cue rX5_cue [.ref pt] w (fun o w9 => o = .inl (some (.long (if nt = 0 then -1 else match cuF f ev (mpe nt) with | none => -1 | some z => tmV (mcl ((anL mpe nt).getD 0 0)) (upC mcl mpe nt) (loC (u 2) mpe nt) (u 2 (mpe nt)) (u 2 z)))) ∧ w9 = w) := by
  obtain ⟨an, av, ah, hm, g⟩ := hC.2.1 nt hC.1
  obtain ⟨rfl, rfl, rfl⟩ := g (Nat.le_refl _)
  unfold momE at hm
  have hle : (anL mpe nt).length ≤ nt := anL_le
  by_cases h0 : nt = 0
  · subst h0
    refine (c_cueE hfo hm hs hf hM hpt hp0).imp (fun o w9 h => ⟨?_, h.2⟩)
    exact h.1
  · obtain ⟨l1, l2, l3⟩ := anL_h0 (mpe := mpe) (ml := ml) (show 0 < nt by omega)
    have hA := CHN.ancl (ev := ev) hpe
    rw [l2] at hm
    by_cases h2 : (anL mpe nt).length < 2
    · have e1 : upC mcl mpe nt = 500 := if_pos h2
      have e2 : loC (u 2) mpe nt = 1 := if_pos h2
      refine (c_cue1 (lc := fun i => ml ((anL mpe nt).getD i 0)) hfo hm hs hf hM hC.anch (show (anL mpe nt).length = 1 by omega) (fun i hi => (hA i hi).2) hpt (hpe nt (by omega) (Nat.le_refl _))).imp (fun o w9 h => ⟨?_, h.2⟩)
      rw [e1, e2, if_neg h0]; have h1 := h.1; simp only [l3] at h1 ⊢; exact h1
    · have e1 : upC mcl mpe nt = _ := if_neg h2
      have e2 : loC (u 2) mpe nt = _ := if_neg h2
      obtain ⟨k1, k2, k3⟩ := CHN.anc2 hpe hcl hbt (show 2 ≤ (anL mpe nt).length by omega)
      refine (c_cue2 (lc := fun i => ml ((anL mpe nt).getD i 0)) hfo hm hs hf hM hC.anch (show 2 ≤ (anL mpe nt).length by omega) (by omega) k1 (hclb _ (hA 0 l1).1.1 (hA 0 l1).1.2) (fun i hi => (hA i hi).2) k2 k3 hpt (hpe nt (by omega) (Nat.le_refl _))).imp (fun o w9 h => ⟨?_, h.2⟩)
      rw [e1, e2, if_neg h0]; have h1 := h.1; simp only [l3] at h1 ⊢; exact h1
end
