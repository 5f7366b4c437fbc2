/-! the class's world -/
def CW (w : pW) (pt tx rd to sd fd sc fa fo pr ar de : Nat) (t : Nat → Nat) (tl ld flt : Nat) (fp : Int32) (S : RSt) (p a dd ml ca : Nat → Nat) (K nt : Nat) (mcl mpe mpb mpc mcn : Nat → Nat) (md : Nat → Nat → Nat) : Prop :=
  (w pt = some (.inr (5, [.ref tx, .int (nI tl), .ref rd, .ref sc, .ref fo, .int (nI ld)])) ∧ w tx = some (.inl (1, 2400, .inl (fun j9 => sb_b (t j9)))) ∧ (∀ j, t j < 256) ∧ tl ≤ 2400) ∧
  (∃ (s0 mr cu rep : Nat) (mkd cud : Bool), w rd = some (.inr (2, [.ref to, .ref sd, .int (nI s0), .int (nI mr), .int (nI cu), .int (zb mkd), .int (zb cud), .int (nI rep), .int (nI flt), .int fp]))) ∧
  (∃ (ev be cq st me pa : Nat) (f : Nat → Int32), w sd = some (.inr (3, [.ref fd, .int (nI ev), .int (nI be), .int (nI cq), .int (nI st), .int (nI me), .int (nI pa)])) ∧ w fd = some (.inl (0, 1400, .inl f))) ∧
  (∃ (tx0 ln0 nx kd sa : Nat) (va : Int32), w to = some (.inr (4, [.ref tx0, .int (nI ln0), .int (nI nx), .int (nI kd), .int (nI sa), .int va]))) ∧
  (w sc = some (scC fa S) ∧ w fa = some (faC S) ∧ sd ≠ sc) ∧
  (w fo = some (.inr (0, [.ref sc, .ref pr, .ref ar, .ref de, .ref (ml 0), .ref (ml nt), .int (nI nt)])) ∧ w pr = some (.inl (0, 4, .inl (fun j9 => nI (p j9)))) ∧ w ar = some (.inl (0, 100, .inl (fun j9 => nI (a j9)))) ∧ w de = some (.inl (0, 100, .inl (fun j9 => nI (dd j9)))) ∧ (∀ j, p j ≤ 50) ∧ (∀ j, a j ≤ 1000000) ∧ ∀ j, dd j ≤ 1000000) ∧
  CHN w ml ca K nt mcl mpe mpb mpc mcn md ∧ va_nd [fd, fa, pr, ar, de] = true ∧ ∀ i, i ≤ K → ca i ≠ fd ∧ ca i ≠ fa ∧ ca i ≠ pr ∧ ca i ≠ ar ∧ ca i ≠ de
/-- the prices at first -/
def pr0 : Nat → Nat := va_up (va_up (va_up (va_up (fun _ => 0) 0 3) 1 2) 2 2) 3 6
theorem pr0_le : ∀ j, pr0 j ≤ 50 := up_le (up_le (up_le (up_le (fun _ => by omega) (by omega)) (by omega)) (by omega)) (by omega)
theorem c_initW {w : pW} {pt : Nat} (hpt : w pt = some (.inr (5, [.null, .int (nI 0), .null, .null, .null, .int (nI 0)]))) : Ct yX5_init wsX5_init rX5_init [.ref pt] w (fun o w9 => o = .inl none ∧ (∃ (tx rd to sd fd sc fa fo pr ar de : Nat) (f : Nat → Int32) (ml ca : Nat → Nat), CW w9 pt tx rd to sd fd sc fa fo pr ar de (fun _ => 0) 0 1000 0 (-1) (1, 0, 0, false, false, 0, 0, 0, f, 0, 0, 0, 0, 0, 0) pr0 (fun _ => 0) (fun _ => 0) ml ca 0 0 (fun _ => 0) (fun _ => 0) (fun _ => 0) (fun _ => 0) (fun _ => 0) (fun _ _ => 0)) ∧ FrS [pt] w w9) := by
  refine (c_initP hpt).imp ?_
  rintro o w9 ⟨tx, rd, to, tb, sd, fd, sc, fb, fo, pr, ar, de, ms, c0, ho, -, ⟨n1, n2, hnd⟩, ⟨e1, e2, e3, e4, e5, e6, e7, e8, e9, e10, e11, e12, e13, e14, e15⟩, hF⟩
  refine ⟨ho, ⟨tx, rd, to, sd, fd, sc, fb, fo, pr, ar, de, (fun _ => 0), (fun _ => ms), (fun _ => c0), ?_⟩, hF⟩
  have d := fun i j (a b : Nat) h1 h2 h3 => nd_ne hnd i j (a := a) (b := b) h1 h2 h3
  refine ⟨⟨e1, e2, fun _ => (by decide : 0 < 256), by omega⟩, ⟨0, 0, 0, 0, false, false, e3⟩, ⟨0, 0, 0, 0, 0, 0, _, e6, e7⟩, ⟨tb, 0, 0, 0, 0, nI 0, e4⟩, ⟨e8, e9, n1⟩, ⟨e10, e11, e12, e13, pr0_le, fun _ => Nat.zero_le _, fun _ => Nat.zero_le _⟩, ?_, ?_, fun i _ => ?_⟩
  · refine ⟨Nat.le_refl _, fun i hi => ⟨0, none, none, ?_, fun _ => ?_⟩, fun i hi => ⟨e15, Nat.zero_le _, fun _ => Nat.zero_le _⟩, fun i j hi hj _ => by omega, fun i j hi hj _ => by omega⟩
    · obtain rfl : i = 0 := by omega
      exact e14
    · obtain rfl : i = 0 := by omega
      exact ⟨rfl, rfl, rfl⟩
  · simp [va_nd, d 0 1 _ _ rfl rfl rfl, d 0 2 _ _ rfl rfl rfl, d 0 3 _ _ rfl rfl rfl, d 0 4 _ _ rfl rfl rfl, d 1 2 _ _ rfl rfl rfl, d 1 3 _ _ rfl rfl rfl, d 1 4 _ _ rfl rfl rfl, d 2 3 _ _ rfl rfl rfl, d 2 4 _ _ rfl rfl rfl, d 3 4 _ _ rfl rfl rfl]
  · exact ⟨d 5 0 _ _ rfl rfl rfl, d 5 1 _ _ rfl rfl rfl, d 5 2 _ _ rfl rfl rfl, d 5 3 _ _ rfl rfl rfl, d 5 4 _ _ rfl rfl rfl⟩
