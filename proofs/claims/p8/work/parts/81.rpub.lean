/-! What a change leaves of the reference's invariant. -/
theorem SI.ge3 {f f2 : Nat → Int32} (h : SI f) (e : ∀ i, 3 ≤ i → i < 126 → f2 i = f i) : SI f2 := by
  obtain ⟨⟨h1, h2, h3, h4, h5⟩, h6⟩ := h
  refine ⟨⟨by rw [e 111 (by omega) (by omega)]; exact h1, by rw [e 111 (by omega) (by omega)]; exact h2, by rw [e 118 (by omega) (by omega)]; exact h3, by rw [e 118 (by omega) (by omega)]; exact h4, fun i hi => ?_⟩, fun i hi hl => ?_⟩
  · rw [e (112 + i) (by omega) (by omega), e (119 + i) (by omega) (by omega)]; exact h5 i hi
  · rw [e 111 (by omega) (by omega)] at hl
    have h7 := h5 i hi
    rw [e (112 + i) (by omega) (by omega), e _ (by omega) (by omega)]; exact h6 i hi hl
theorem RI.chg {iv iv2 : gIv} {ar ar2 : gAr} (h : RI iv ar) (hs : SI (ar2 1)) (c3 : 0 ≤ (iv2 0 3).toInt ∧ (iv2 0 3).toInt ≤ 8) (pa : PA iv2 ar2) (z : ∀ g, g < 108 → (ar2 6 g).toInt = 0) (p : (iv2 0 15).toInt = 0) (e4 : iv2 0 4 = iv 0 4) (e17 : iv2 0 17 = iv 0 17) (e7 : ar2 7 = ar 7) (e8 : ar2 8 = ar 8) : RI iv2 ar2 := by
  obtain ⟨-, -, -, h4, -, h6, h7, -⟩ := h
  exact ⟨hs, c3, pa, by rw [e4]; exact h4, fun g hg k => absurd (z g hg) k, h6.fr e7 e8, by rw [e17]; exact h7, fun k => absurd p k⟩
