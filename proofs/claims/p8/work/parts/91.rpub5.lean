/-! Scenes with one more drone or slot. -/
theorem SI.addS {f : Nat → Int32} {n : Nat} {x y : Int32} (h : SI f) (hn : n < 6) (hx : 0 ≤ x.toInt ∧ x.toInt < 108) (hy : y.toInt = (n : Int) + 1) : SI (upd (upd f (119 + n) x) 118 y) := by
  refine SI.sl (f := upd f (119 + n) x) ?_ (by omega)
  obtain ⟨⟨h1, h2, h3, h4, h5⟩, h6⟩ := h
  have e : ∀ i, i < 119 → upd f (119 + n) x i = f i := fun i hi => pk_un (show i ≠ 119 + n from by omega)
  refine ⟨⟨by rw [e 111 (by omega)]; exact h1, by rw [e 111 (by omega)]; exact h2, by rw [e 118 (by omega)]; exact h3, by rw [e 118 (by omega)]; exact h4, fun i hi => ?_⟩, fun i hi hl => ?_⟩
  · rw [e (112 + i) (by omega)]
    have h7 := h5 i hi
    by_cases q : i = n
    · rw [q, pk_us]; rw [q] at h7; exact ⟨h7.1, h7.2.1, hx.1, hx.2⟩
    · rw [pk_un (show 119 + i ≠ 119 + n from by omega)]; exact h7
  · rw [e 111 (by omega)] at hl
    have h7 := h5 i hi
    rw [e (112 + i) (by omega), e _ (by omega)]; exact h6 i hi hl
