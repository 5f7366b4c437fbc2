section JT
/-- throw new E("text") of the class, for the two kinds of E -/
theorem j_throwS {P : JP} {pc : Nat} {lv : List (Nat × Value)} {st : List Value} {w : pW} {k n ik is ic : Nat} {cls text : String} (hown0 : P.1.2.1 = RX5)
    (hE : cls = "java/lang/IllegalArgumentException" ∧ ic = 51 ∨ cls = "java/util/NoSuchElementException" ∧ ic = 75) (hz : (RX5, is, text) ∈ bgStr)
    (h1 : Cond.classLink RX5 ik cls ∈ P.1.2.2.2) (h2 : Cond.initialized cls ∈ P.1.2.2.2) (h3 : ∀ x ∈ (vx_atS RX5 ic cls ["java/lang/RuntimeException", "java/lang/Exception"]).filter goodWord, x ∈ P.1.2.2.2)
    (hg : ((Cond.classLink RX5 ik cls :: Cond.initialized cls :: vx_atS RX5 ic cls ["java/lang/RuntimeException", "java/lang/Exception"]).all vx_ot) = true) (htb0 : P.2.1.2.2.2 = [])
    (hfr : 5 < P.2.1.1.frames) (hlo : (st.map fun v => v.category).sum + 82 ≤ P.2.1.1.locals) (hk : k + 1 ≤ P.2.1.1.cells) (hn : n + 6 ≤ P.2.1.1.slots)
    (d0 : decode P.1.1 pc = .ok (.new ik, 3)) (d3 : decode P.1.1 (pc + 3) = .ok (.dup, 1)) (d4 : decode P.1.1 (pc + 4) = .ok (.ldc is, 2)) (d6 : decode P.1.1 (pc + 6) = .ok (.invokespecial ic, 3)) (d9 : decode P.1.1 (pc + 9) = .ok (.athrow, 1))
    (hp : P.2.2.1 (.inr cls) w) : J P pc lv st w k n := by
  intro p l e s m args below meth cd H locs G b ls F hP hD hS hl
  obtain ⟨hx, hb, hml, hown, hts, hr, hlk, hnm, htb, hK, hBg, hst2, hbs, hXX⟩ := id F
  obtain ⟨z1, z2, z3, -, -, -, -, -, z9, z10, z11⟩ := hBg
  obtain ⟨sa, hsa⟩ := z3 _ hz
  rw [hown0] at hown
  have hcast : (Cond.castable cls cls).before args s = true := by
    rcases hE with ⟨rfl, -⟩ | ⟨rfl, -⟩
    · exact z9
    · exact z10
  have hno : ∀ x ∈ vx_atS RX5 ic cls ["java/lang/RuntimeException", "java/lang/Exception"], goodWord x = true ∨ x = Cond.castable cls cls ∨ x ∈ bgDecl.map (fun z => Cond.declares (Bundle.initS z)) := by
    rcases hE with ⟨rfl, rfl⟩ | ⟨rfl, rfl⟩ <;> decide +kernel
  refine vx_throwS hx hb hst2 (own := RX5) (cls := cls) (text := text) (names := ["java/lang/RuntimeException", "java/lang/Exception"]) (sa := sa) hown ?_ (by decide +kernel) (hts _ h1) (hts _ h2) hsa (fun x hx9 => ?_) (fun x hx9 => List.all_eq_true.mp hg x hx9) z1 z2 hS (hl.1.trans hml.symm) d0 d3 d4 d6 d9 (fun x hx9 => ?_) hfr (by show _ + (13 * (2 + 1) + 43) ≤ _; omega) hk hn hlk (fun t ha h5 h6 => ⟨w, hp, ⟨fun a c hc => (hP a c hc).kept (h6 a (hP.lt hc)), hD⟩, Nat.le_trans hS.1 h5, fun q q1 q2 => (h6 q (Nat.lt_of_lt_of_le q1 hS.1)).trans (hS.2.1 q q1 q2)⟩) hS.2.2 hk hn
  · rcases hE with ⟨rfl, -⟩ | ⟨rfl, -⟩ <;> decide +kernel
  · rcases hno x hx9 with h | rfl | h
    · exact hts _ (h3 x (List.mem_filter.mpr ⟨hx9, h⟩))
    · exact hcast
    · obtain ⟨z, hz9, rfl⟩ := List.mem_map.mp h
      exact z11 z hz9
  · rw [htb, htb0] at hx9; cases hx9
end JT
