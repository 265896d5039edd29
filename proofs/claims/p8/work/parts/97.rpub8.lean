/-! Scenes with one drone less, with other slots, with drones elsewhere. -/
theorem SI.shift {f f2 : Nat → Int32} (h : SI f) (e : ∀ j, j ≠ 111 → ¬ (112 ≤ j ∧ j < 118) → f2 j = f j) (e1 : 0 ≤ (f2 111).toInt ∧ (f2 111).toInt < (f 111).toInt) (g : ∀ i : Nat, i < 6 → ∃ j : Nat, j < 6 ∧ ((i : Int) < (f 111).toInt → (j : Int) < (f 111).toInt) ∧ f2 (112 + i) = f (112 + j)) : SI f2 := by
  obtain ⟨⟨h1, h2, h3, h4, h5⟩, h6⟩ := h
  refine ⟨⟨e1.1, by omega, by rw [e 118 (by omega) (by omega)]; exact h3, by rw [e 118 (by omega) (by omega)]; exact h4, fun i hi => ?_⟩, fun i hi hl => ?_⟩
  · obtain ⟨j, j1, -, j3⟩ := g i hi
    have h7 := h5 i hi
    have h8 := h5 j j1
    rw [j3, e (119 + i) (by omega) (by omega)]
    exact ⟨h8.1, h8.2.1, h7.2.2.1, h7.2.2.2⟩
  · obtain ⟨j, j1, j2, j3⟩ := g i hi
    have h8 := h5 j j1
    rw [j3, e _ (by omega) (by omega)]
    exact h6 j j1 (j2 (by omega))
theorem SI.sls {f f2 : Nat → Int32} (h : SI f) (e : ∀ j, j < 118 → f2 j = f j) (e1 : 0 ≤ (f2 118).toInt ∧ (f2 118).toInt ≤ 6) (g : ∀ i : Nat, i < 6 → 0 ≤ (f2 (119 + i)).toInt ∧ (f2 (119 + i)).toInt < 108) : SI f2 := by
  obtain ⟨⟨h1, h2, h3, h4, h5⟩, h6⟩ := h
  refine ⟨⟨by rw [e 111 (by omega)]; exact h1, by rw [e 111 (by omega)]; exact h2, e1.1, e1.2, fun i hi => ?_⟩, fun i hi hl => ?_⟩
  · have h7 := h5 i hi
    rw [e (112 + i) (by omega)]
    exact ⟨h7.1, h7.2.1, (g i hi).1, (g i hi).2⟩
  · have h7 := h5 i hi
    rw [e 111 (by omega)] at hl
    rw [e (112 + i) (by omega), e _ (by omega)]
    exact h6 i hi hl
theorem SI.drs {f f2 : Nat → Int32} (h : SI f) (e : ∀ j, j < 125 → ¬ (112 ≤ j ∧ j < 118) → f2 j = f j) (g : ∀ i : Nat, i < 6 → 0 ≤ (f2 (112 + i)).toInt ∧ (f2 (112 + i)).toInt < 108 ∧ ((i : Int) < (f 111).toInt → (f (3 + (f2 (112 + i)).toInt.toNat)).toInt ≠ 1)) : SI f2 := by
  obtain ⟨⟨h1, h2, h3, h4, h5⟩, h6⟩ := h
  refine ⟨⟨by rw [e 111 (by omega) (by omega)]; exact h1, by rw [e 111 (by omega) (by omega)]; exact h2, by rw [e 118 (by omega) (by omega)]; exact h3, by rw [e 118 (by omega) (by omega)]; exact h4, fun i hi => ?_⟩, fun i hi hl => ?_⟩
  · have h7 := h5 i hi
    rw [e (119 + i) (by omega) (by omega)]
    exact ⟨(g i hi).1, (g i hi).2.1, h7.2.2.1, h7.2.2.2⟩
  · have h7 := g i hi
    rw [e 111 (by omega) (by omega)] at hl
    rw [e _ (by omega) (by omega)]
    exact h7.2.2 hl
/-! What reading leaves of the reference's invariant. -/
theorem RI.rd {iv iv2 : gIv} {ar ar2 : gAr} (h : RI iv ar) (ei : ∀ x y, ¬ (x = 0 ∧ (y = 4 ∨ y = 5)) → iv2 x y = iv x y) (e : ∀ c, c ≠ 4 → ar2 c = ar c) (w : 0 ≤ (iv2 0 4).toInt ∧ (iv2 0 4).toInt ≤ 60) : RI iv2 ar2 := by
  obtain ⟨h1, h2, h3, -, h5, h6, h7, h8⟩ := h
  refine ⟨by rw [e 1 (by omega)]; exact h1, by rw [ei 0 3 (by omega)]; exact h2, fun j hj => SI.of (h3 j (by rw [ei 0 3 (by omega)] at hj; exact hj)) (fun i hi => by show ar2 2 _ = ar 2 _; rw [e 2 (by omega)]), w, h5.fr (e 1 (by omega)) (e 5 (by omega)) (e 6 (by omega)), h6.fr (e 7 (by omega)) (e 8 (by omega)), by rw [ei 0 17 (by omega)]; exact h7, fun z d hd => ?_⟩
  rw [e 1 (by omega)] at hd
  rw [ei 0 15 (by omega)] at z
  have h9 := h8 z d hd
  rw [e 14 (by omega), e 11 (by omega), e 9 (by omega), e 1 (by omega)]
  exact h9
theorem or01 {a b c : Int32} (ha : 0 ≤ a.toInt ∧ a.toInt ≤ 1) (hb : 0 ≤ b.toInt ∧ b.toInt ≤ 1) (e : c = a ||| b) : 0 ≤ c.toInt ∧ c.toInt ≤ 1 := by
  have k : ∀ z : Int32, 0 ≤ z.toInt ∧ z.toInt ≤ 1 → z = 0 ∨ z = 1 := fun z hz => by
    by_cases q : z.toInt = 0
    · exact Or.inl (Int32.toInt_inj.mp (q.trans i_l0.symm))
    · exact Or.inr (Int32.toInt_inj.mp ((show z.toInt = 1 from by omega).trans i_l1.symm))
  rcases k a ha with z | z <;> rcases k b hb with y | y <;> subst z <;> subst y <;> rw [e] <;> decide
