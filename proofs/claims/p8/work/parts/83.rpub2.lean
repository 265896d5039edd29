/-! Scenes with one obstacle set, or another number of slots. -/
theorem SI.ob {f : Nat → Int32} {c : Nat} {x : Int32} (h : SI f) (hc : c < 108) (hx : x.toInt ≠ 1 ∨ ∀ i : Nat, (i : Int) < (f 111).toInt → (f (112 + i)).toInt ≠ (c : Int)) : SI (upd f (3 + c) x) := by
  obtain ⟨⟨h1, h2, h3, h4, h5⟩, h6⟩ := h
  have e : ∀ i, 111 ≤ i → upd f (3 + c) x i = f i := fun i hi => pk_un (show i ≠ 3 + c from by omega)
  refine ⟨⟨by rw [e 111 (by omega)]; exact h1, by rw [e 111 (by omega)]; exact h2, by rw [e 118 (by omega)]; exact h3, by rw [e 118 (by omega)]; exact h4, fun i hi => ?_⟩, fun i hi hl => ?_⟩
  · rw [e (112 + i) (by omega), e (119 + i) (by omega)]; exact h5 i hi
  · rw [e 111 (by omega)] at hl
    rw [e (112 + i) (by omega)]
    have h7 := h5 i hi
    by_cases q : (f (112 + i)).toInt.toNat = c
    · rw [q, pk_us]
      rcases hx with z | z
      · exact z
      · exact absurd (show (f (112 + i)).toInt = (c : Int) from by omega) (z i hl)
    · rw [pk_un (show 3 + (f (112 + i)).toInt.toNat ≠ 3 + c from by omega)]; exact h6 i hi hl
theorem SI.sl {f : Nat → Int32} {x : Int32} (h : SI f) (hx : 0 ≤ x.toInt ∧ x.toInt ≤ 6) : SI (upd f 118 x) := by
  obtain ⟨⟨h1, h2, h3, h4, h5⟩, h6⟩ := h
  have e : ∀ i, i ≠ 118 → upd f 118 x i = f i := fun i hi => pk_un hi
  refine ⟨⟨by rw [e 111 (by omega)]; exact h1, by rw [e 111 (by omega)]; exact h2, by rw [pk_us]; exact hx.1, by rw [pk_us]; exact hx.2, fun i hi => ?_⟩, fun i hi hl => ?_⟩
  · rw [e (112 + i) (by omega), e (119 + i) (by omega)]; exact h5 i hi
  · rw [e 111 (by omega)] at hl
    have h7 := h5 i hi
    rw [e (112 + i) (by omega), e _ (by omega)]; exact h6 i hi hl
