/-! music over the chain -/
section
variable {w w9 : pW} {fo sc pr ar de nt : Nat} {ml ca : Nat → Nat} {K : Nat} {mcl mpe mpb mpc mcn : Nat → Nat} {md : Nat → Nat → Nat}
theorem CHN.begin {q cn9 : Nat} {d9 : Nat → Nat} (h : CHN w ml ca K nt mcl mpe mpb mpc mcn md) (hq : q = ca 0 ∨ w q = none)
    (hwq : w9 q = some (.inl (0, cn9, .inl (fun j9 => nI (d9 j9))))) (hcn : cn9 ≤ 100000) (hd9 : ∀ j, d9 j ≤ 1000000)
    (hwn : w9 (ml 0) = some (.inr (1, [va_rf none, va_rf (if 0 < K then some (ml (0 + 1)) else none), .ref q, .int (nI (mcl 0)), .int (nI 0), .int (nI 0), .int (nI 0), .int (nI 0), va_rf none, va_rf none])))
    (hfr : ∀ x c, w x = some c → x ≠ ml 0 → x ≠ ca 0 → (∃ i, i ≤ K ∧ (x = ml i ∨ x = ca i)) → w9 x = some c) :
    CHN w9 ml (va_up ca 0 q) K 0 mcl (va_up mpe 0 0) (va_up mpb 0 0) (va_up mpc 0 0) (va_up mcn 0 cn9) (va_up md 0 d9) := by
  have hC := h
  obtain ⟨h1, h2, h3, h4, h5⟩ := h
  refine ⟨Nat.zero_le _, fun i hi => ?_, fun i hi => ?_, h4, fun i j hi hj hij => ?_⟩
  · by_cases hin : i = 0
    · subst hin
      refine ⟨0, none, none, ?_, fun _ => ⟨rfl, rfl, rfl⟩⟩
      rw [hwn]
      unfold momE
      rw [va_up_self, va_up_self, va_up_self, va_up_self, if_pos (rfl : 0 = 0)]
    · obtain ⟨an, av, ah, e, g⟩ := h2 i hi
      refine ⟨an, av, ah, ?_, fun hle => by omega⟩
      rw [hfr _ _ e (fun z => hin (h4 _ _ hi (by omega) z)) (hC.mc hi (by omega)) ⟨i, hi, Or.inl rfl⟩]
      unfold momE
      rw [va_up_ne _ _ hin, va_up_ne _ _ hin, va_up_ne _ _ hin, va_up_ne _ _ hin]
  · by_cases hin : i = 0
    · subst hin
      rw [va_up_self, va_up_self, va_up_self]
      exact ⟨hwq, hcn, hd9⟩
    · rw [va_up_ne _ _ hin, va_up_ne _ _ hin, va_up_ne _ _ hin]
      obtain ⟨e, g⟩ := h3 i hi
      exact ⟨hfr _ _ e (fun z => hC.mc (Nat.zero_le _) hi z.symm) (fun z => hin (h5 _ _ hi (by omega) z)) ⟨i, hi, Or.inr rfl⟩, g⟩
  · have key : ∀ i, i ≤ K → i ≠ 0 → q ≠ ca i := fun i hi hin z => by
      rcases hq with z2 | z2
      · exact hin (h5 _ _ hi (by omega) (z.symm.trans z2))
      · rw [z, (h3 i hi).1] at z2; cases z2
    by_cases hin : i = 0
    · by_cases hjn : j = 0
      · omega
      · subst hin; rw [va_up_self, va_up_ne _ _ hjn] at hij; exact absurd hij (key j hj hjn)
    · by_cases hjn : j = 0
      · subst hjn; rw [va_up_self, va_up_ne _ _ hin] at hij; exact absurd hij.symm (key i hi hin)
      · rw [va_up_ne _ _ hin, va_up_ne _ _ hjn] at hij; exact h5 _ _ hi hj hij
end
theorem c_musicW {w : pW} {pt tx tl rd sc fo ld to sd fd tx0 ln0 nx kd sa s0 mr cu rep ev be cq st me pa flt ln : Nat} {mkd cud : Bool} {fp va : Int32} {f : Nat → Int32} {t : Nat → Nat} (hpt : w pt = some (.inr (5, [.ref tx, .int (nI tl), .ref rd, .ref sc, .ref fo, .int (nI ld)]))) (htx : w tx = some (.inl (1, 2400, .inl (fun j9 => sb_b (t j9))))) (hrd : w rd = some (.inr (2, [.ref to, .ref sd, .int (nI s0), .int (nI mr), .int (nI cu), .int (zb mkd), .int (zb cud), .int (nI rep), .int (nI flt), .int fp]))) (hsd : w sd = some (.inr (3, [.ref fd, .int (nI ev), .int (nI be), .int (nI cq), .int (nI st), .int (nI me), .int (nI pa)]))) (hfd : w fd = some (.inl (0, 1400, .inl f))) (hto : w to = some (.inr (4, [.ref tx0, .int (nI ln0), .int (nI nx), .int (nI kd), .int (nI sa), .int va]))) (ht : ∀ j, t j < 256) (hln : ln ≤ tl) (htl : tl ≤ 2400) {fb ev1 be1 cq1 st1 me1 pa1 pr ar de nt K : Nat} {ml ca mcl mpe mpb mpc mcn : Nat → Nat} {md : Nat → Nat → Nat} (hsc : w sc = some (.inr (3, [.ref fb, .int (nI ev1), .int (nI be1), .int (nI cq1), .int (nI st1), .int (nI me1), .int (nI pa1)]))) (hsn : sd ≠ sc) (hfo : w fo = some (.inr (0, [.ref sc, .ref pr, .ref ar, .ref de, .ref (ml 0), .ref (ml nt), .int (nI nt)]))) (hC : CHN w ml ca K nt mcl mpe mpb mpc mcn md) (hfc : ∀ i, i ≤ K → fd ≠ ca i) (hfa0 : (rRead t ln f).1 = 0) (hst9 : (rRead t ln f).2.2.2.2.2.2.2.2.2.2.2.2.2.2.1 ≤ 1600) :
    Ct yX5_music wsX5_music rX5_music [.ref pt, .int (nI ln)] w (fun o w9 => o = .inl (some (.int (nI 0))) ∧
      (∃ (q cn9 : Nat) (x9 : Nat → Nat), (q = ca 0 ∨ w q = none) ∧ (rRead t ln f).2.2.2.2.2.2.2.2.2.2.2.2.2.2.1 ≤ cn9 ∧ (∀ j, x9 j ≤ 1000000) ∧
        CHN w9 ml (va_up ca 0 q) K 0 mcl (va_up mpe 0 0) (va_up mpb 0 0) (va_up mpc 0 0) (va_up mcn 0 cn9) (va_up md 0 (offN (clr x9 (rRead t ln f).2.2.2.2.2.2.2.2.2.2.2.2.2.2.1) cn9 0 0))) ∧
      w9 fo = some (.inr (0, [.ref sd, .ref pr, .ref ar, .ref de, .ref (ml 0), .ref (ml 0), .int (nI 0)])) ∧ FrS [pt, rd, sd, fd, to, fo, ml 0, ca 0] w w9 ∧ w9 pt = some (.inr (5, [.ref tx, .int (nI 0), .ref rd, .ref sd, .ref fo, .int (nI ld)])) ∧ w9 rd = some (rdC to sc 0 (-1) (rRead t ln f).2.2) ∧ w9 sd = some (scC fd (rRead t ln f).2.2) ∧ w9 fd = some (faC (rRead t ln f).2.2) ∧ w9 to = some (toC tx t ln (rRead t ln f).2.1)) := by
  obtain ⟨an, av, ah, hm, -⟩ := hC.2.1 0 (Nat.zero_le _)
  unfold momE at hm
  rw [if_pos (rfl : 0 = 0)] at hm
  obtain ⟨hc, hcn, hdd⟩ := hC.2.2.1 0 (Nat.zero_le _)
  refine (c_musicOk hpt htx hrd hsd hfd hto ht hln htl hsc hsn hfo hm hc (hfc 0 (Nat.zero_le _)) hcn hdd hfa0 hst9).imp ?_
  rintro o w9 ⟨ho, ⟨q, cn9, x9, hq, hs9, hwq, hwm⟩, hF2⟩
  refine ⟨ho, ⟨q, cn9, x9, ?_, hs9, ?_, ?_⟩, hF2⟩
  · rcases hq with z | z
    · exact Or.inl z.1
    · exact Or.inr z.1
  · rcases hq with z | z
    · rw [z.2.2]; exact hdd
    · rw [z.2.2]; exact fun _ => Nat.zero_le _
  · refine hC.begin ?_ hwq ?_ (offN_le (clr_le ?_)) hwm (fun x c hx k1 k2 ⟨i, hi, z⟩ => hF2.2.1 x c ?_ hx)
    · rcases hq with z | z
      · exact Or.inl z.1
      · exact Or.inr z.1
    · rcases hq with z | z
      · rw [z.2.1]; exact hcn
      · rw [z.2.1]; omega
    · rcases hq with z | z
      · rw [z.2.2]; exact hdd
      · rw [z.2.2]; exact fun _ => Nat.zero_le _
    · simp only [List.mem_cons, List.not_mem_nil, or_false, not_or]
      rcases z with z | z
      · rw [z] at k1 k2 ⊢
        exact ⟨(hC.ne hi hpt).1 (fun l z => nomatch z), (hC.ne hi hrd).1 (fun l z => nomatch z), (hC.ne hi hsd).1 (fun l z => nomatch z), (hC.ne hi hfd).1 (fun l z => nomatch z), (hC.ne hi hto).1 (fun l z => nomatch z), (hC.ne hi hfo).1 (fun l z => nomatch z), k1, k2⟩
      · rw [z] at k1 k2 ⊢
        exact ⟨(hC.ne hi hpt).2 (fun n g z => nomatch z), (hC.ne hi hrd).2 (fun n g z => nomatch z), (hC.ne hi hsd).2 (fun n g z => nomatch z), Ne.symm (hfc i hi), (hC.ne hi hto).2 (fun n g z => nomatch z), (hC.ne hi hfo).2 (fun n g z => nomatch z), k1, k2⟩
