/-! What a longer text leaves of the reference's invariant. -/
theorem RI.txt {iv iv2 : gIv} {ar ar2 : gAr} (h : RI iv ar) (ei : ∀ x y, ¬ (x = 0 ∧ y = 4) → iv2 x y = iv x y) (e : ∀ c, c ≠ 3 → ar2 c = ar c) (w : 0 ≤ (iv2 0 4).toInt ∧ (iv2 0 4).toInt ≤ 60) : RI iv2 ar2 := by
  obtain ⟨h1, h2, h3, -, h5, h6, h7, h8⟩ := h
  refine ⟨by rw [e 1 (by omega)]; exact h1, by rw [ei 0 3 (by omega)]; exact h2, fun j hj => SI.of (h3 j (by rw [ei 0 3 (by omega)] at hj; exact hj)) (fun i hi => by show ar2 2 _ = ar 2 _; rw [e 2 (by omega)]), w, h5.fr (e 1 (by omega)) (e 5 (by omega)) (e 6 (by omega)), h6.fr (e 7 (by omega)) (e 8 (by omega)), by rw [ei 0 17 (by omega)]; exact h7, fun z d hd => ?_⟩
  rw [e 1 (by omega)] at hd
  rw [ei 0 15 (by omega)] at z
  have h9 := h8 z d hd
  rw [e 14 (by omega), e 11 (by omega), e 9 (by omega), e 1 (by omega)]
  exact h9
