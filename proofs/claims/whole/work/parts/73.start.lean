/-! the machine at the law's start -/
theorem w_arr {s : State} {args : Array Value} {ty : FieldType} (h : (Cond.arrayClass ty).before args s = true) : ∃ cA : ClassId, ArrOfT s cA ty ∧ s.vm.findClass ("[" ++ ty.toString) = some cA := by
  obtain ⟨c, k, comp, h1, h2, h3⟩ := Cond.arrayClass_spec h
  exact ⟨c, fun n z => ⟨(fun k h => by cases h), k, h2, comp, h3⟩, h1⟩
theorem w_arr2 {s : State} {args : Array Value} (h : (Cond.arrayOver (.array .int)).before args s = true) : ∃ cA : ClassId, ArrOfT s cA (.array .int) ∧ s.vm.findClass ("[" ++ (FieldType.array .int).toString) = some cA := by
  obtain ⟨comp, c, k, h0, h2, h3, h1⟩ := Cond.arrayOver_specA h
  exact ⟨c, fun n z => ⟨(fun k h => by cases h), k, h2, comp, h3⟩, h1⟩
set_option maxRecDepth 100000 in
theorem w_K {s : State} {b : Nat} (hts : ∀ w ∈ lw_tbl, w.before #[Value.ref b] s = true) : ∃ G : pG, fK G s := by
  obtain ⟨c0, i0, h0⟩ := u_known (C := RX0) (T := TX0) (N := 7) (n := 7) hts lwc_X0 (hts (.instantiable RX0 7) (by decide +kernel))
  obtain ⟨c1, i1, h1⟩ := u_known (C := RX1) (T := TX1) (N := 10) (n := 10) hts lwc_X1 (hts (.instantiable RX1 10) (by decide +kernel))
  obtain ⟨c2, i2, h2⟩ := u_known (C := RX2) (T := TX2) (N := 10) (n := 10) hts lwc_X2 (hts (.instantiable RX2 10) (by decide +kernel))
  obtain ⟨c3, i3, h3⟩ := u_known (C := RX3) (T := TX3) (N := 7) (n := 7) hts lwc_X3 (hts (.instantiable RX3 7) (by decide +kernel))
  obtain ⟨c4, i4, h4⟩ := u_known (C := RX4) (T := TX4) (N := 6) (n := 6) hts lwc_X4 (hts (.instantiable RX4 6) (by decide +kernel))
  obtain ⟨c5, i5, h5⟩ := u_known (C := RX5) (T := TX5) (N := 6) (n := 6) hts lwc_X5 (hts (.instantiable RX5 6) (by decide +kernel))
  obtain ⟨c6, i6, h6⟩ := u_known (C := RX6) (T := TX6) (N := 45) (n := 45) hts lwc_X6 (hts (.instantiable RX6 45) (by decide +kernel))
  obtain ⟨a0, g0, e0⟩ := w_arr (hts (.arrayClass .int) (by decide +kernel))
  obtain ⟨a1, g1, e1⟩ := w_arr (hts (.arrayClass .byte) (by decide +kernel))
  obtain ⟨a2, g2, e2⟩ := w_arr (hts (.arrayClass .boolean) (by decide +kernel))
  obtain ⟨a3, g3, e3⟩ := w_arr (hts (.arrayClass .long) (by decide +kernel))
  obtain ⟨a4, g4, e4⟩ := w_arr2 (hts (.arrayOver (.array .int)) (by decide +kernel))
  refine ⟨((fun k => if k = 0 then c0 else if k = 1 then c1 else if k = 2 then c2 else if k = 3 then c3 else if k = 4 then c4 else if k = 5 then c5 else c6, fun k => if k = 0 then i0 else if k = 1 then i1 else if k = 2 then i2 else if k = 3 then i3 else if k = 4 then i4 else if k = 5 then i5 else i6), fun k => if k = 0 then a0 else if k = 1 then a1 else if k = 2 then a2 else if k = 3 then a3 else a4), fun k q hq => ?_, fun k q hq => ?_⟩
  · match k, hq with
    | 0, hq => cases hq; exact h0
    | 1, hq => cases hq; exact h1
    | 2, hq => cases hq; exact h2
    | 3, hq => cases hq; exact h3
    | 4, hq => cases hq; exact h4
    | 5, hq => cases hq; exact h5
    | 6, hq => cases hq; exact h6
    | k + 7, hq => simp [vwCl] at hq
  · match k, hq with
    | 0, hq => cases hq; exact ⟨g0, e0⟩
    | 1, hq => cases hq; exact ⟨g1, e1⟩
    | 2, hq => cases hq; exact ⟨g2, e2⟩
    | 3, hq => cases hq; exact ⟨g3, e3⟩
    | 4, hq => cases hq; exact ⟨g4, e4⟩
    | k + 5, hq => simp at hq
set_option maxRecDepth 100000 in
set_option maxHeartbeats 4000000 in
theorem w_Bg {s : State} {b : Nat} (hts : ∀ w ∈ lw_tbl, w.before #[Value.ref b] s = true) (hgv : (Jvm.Cond.and given_1 narrow_1).before #[Value.ref b] s = true) : Bg s.heap.size s := by
  have hs := flat_of_before _ hgv
  have hA : ∀ a : Nat, a < s.heap.size → ¬ pB s.heap.size a := fun a ha => Nat.not_le.mpr ha
  have w1 : ∀ z ∈ bgStr, Cond.stringRef z.1 z.2.1 z.2.2 ∈ lw_tbl := by decide +kernel
  have w2 : ∀ z ∈ bgStr, Cond.exactly (.string z.1 z.2.1) "java/lang/String" ∈ flatC (Jvm.Cond.and given_1 narrow_1) := by decide +kernel
  have w3 : ∀ j, j < 7 → Cond.eq (.elem (.static RX4 "STEPS" "[I") (.int (Int32.ofNat j))) (.int (bgStep j)) ∈ flatC (Jvm.Cond.and given_1 narrow_1) := by decide +kernel
  have w4 : ∀ j, j < 9 → Cond.eq (.elem (.field (.string RX4 62) "java/lang/String" "value" "[B") (.int (Int32.ofNat j))) (.int (bgSigns.getD j 0)) ∈ flatC (Jvm.Cond.and given_1 narrow_1) := by decide +kernel
  have w5 : ∀ z ∈ bgNest, Cond.methodLinkNest z.1 z.2.1 z.2.2 RX5 ∈ lw_tbl := by decide +kernel
  have w6 : ∀ z ∈ bgDecl, Cond.declares (Bundle.initS z) ∈ lw_tbl := by decide +kernel
  refine ⟨vx_Zqof (hts _ (by decide +kernel)) (hts _ (by decide +kernel)) (hs _ (by decide +kernel)) hA, vx_Zqof (hts _ (by decide +kernel)) (hts _ (by decide +kernel)) (hs _ (by decide +kernel)) hA, fun z hz => ?_, ?_, ?_, ?_, fun z hz => ?_, ?_, ?_, ?_, fun z hz => ?_⟩
  · obtain ⟨a, c, cell, k, q, -⟩ := Cond.exactly_spec (hs _ (w2 z hz))
    exact ⟨a, vk_R.of (hts _ (w1 z hz)) q⟩
  · obtain ⟨t, ht, hT⟩ := va_Tof (tm := .static RX4 "STEPS" "[I") (ty := .int) (N := 7) (f := fun j => .int (bgStep j)) (A := pB s.heap.size) (by omega) (hs _ (by decide +kernel)) (va_eqt (hs _ (by decide +kernel))) (fun j hj => va_eqt (hs _ (w3 j hj))) hA
    exact ⟨t, va_Zof (hts _ (by decide +kernel)) (hts _ (by decide +kernel)) ht hA, hT⟩
  · have k1 : ∀ i : Nat, i < 1 → ([9] : List Nat).getD i 0 < 2 ^ 31 := by decide
    have k2 : (Cond.eq (.length (.field (.string RX4 62) "java/lang/String" "value" "[B")) (.int (Int32.ofNat 9))).before #[Value.ref b] s = true := hs _ (by decide +kernel)
    have k3 : ∀ i : Nat, i < 1 → (Cond.eq (.length (.field (.string RX4 62) "java/lang/String" "value" "[B")) (.int (Int32.ofNat (([9] : List Nat).getD i 0)))).before #[Value.ref b] s = true := fun i hi => by
      obtain rfl : i = 0 := by omega
      exact k2
    have k4 : ∀ i : Nat, i < 1 → ∀ j : Nat, j < ([9] : List Nat).getD i 0 → (Cond.eq (.elem (.field (.string RX4 62) "java/lang/String" "value" "[B") (.int (Int32.ofNat j))) (.int ((([bgSigns] : List (List Int32)).getD i []).getD j 0))).before #[Value.ref b] s = true := fun i hi j hj => by
      obtain rfl : i = 0 := by omega
      exact hs _ (w4 j hj)
    obtain ⟨adK, adV, hS, hE⟩ := vk_Sof (args := #[Value.ref b]) (s := s) (N := 1) (tm := fun _ => .string RX4 62) (len := [9]) (byt := [bgSigns]) (A := pB s.heap.size) k1 (fun i hi => hs _ (by decide +kernel)) (fun i hi => hs _ (by decide +kernel)) (fun i hi => hs _ (by decide +kernel)) k3 k4 (fun i j hi hj hij => by omega) hA
    exact ⟨adK, adV, vk_R.of (hts _ (by decide +kernel)) (hE 0 (by omega)), hS⟩
  · exact va_Zof (hts _ (by decide +kernel)) (hts _ (by decide +kernel)) (va_eqt (hs _ (by decide +kernel))) hA
  · exact hts _ (w5 z hz)
  · exact hts (.arrayOver (.array .int)) (by decide +kernel)
  · exact hts (.castable "java/lang/IllegalArgumentException" "java/lang/IllegalArgumentException") (by decide +kernel)
  · exact hts (.castable "java/util/NoSuchElementException" "java/util/NoSuchElementException") (by decide +kernel)
  · exact hts _ (w6 z hz)
