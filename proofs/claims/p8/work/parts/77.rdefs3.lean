/-! What a scene's row holds, and the rows that are kept. -/
def SI (f : Nat → Int32) : Prop := SB f ∧ ∀ i : Nat, i < 6 → (i : Int) < (f 111).toInt → (f (3 + (f (112 + i)).toInt.toNat)).toInt ≠ 1
theorem SI.of {f f2 : Nat → Int32} (h : SI f) (e : ∀ i, i < 126 → f2 i = f i) : SI f2 := by
  obtain ⟨⟨h1, h2, h3, h4, h5⟩, h6⟩ := h
  refine ⟨⟨by rw [e 111 (by omega)]; exact h1, by rw [e 111 (by omega)]; exact h2, by rw [e 118 (by omega)]; exact h3, by rw [e 118 (by omega)]; exact h4, fun i hi => ?_⟩, fun i hi hl => ?_⟩
  · rw [e (112 + i) (by omega), e (119 + i) (by omega)]; exact h5 i hi
  · rw [e 111 (by omega)] at hl
    have h7 := h5 i hi
    rw [e (112 + i) (by omega), e _ (by omega)]; exact h6 i hi hl
def PA (iv : gIv) (ar : gAr) : Prop := ∀ k : Nat, (k : Int) < (iv 0 3).toInt → SI (fun i => ar 2 (126 * k + i))
