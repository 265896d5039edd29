/-! What an assignment leaves of the reference's invariant. -/
theorem RI.asg {iv iv2 : gIv} {ar ar2 : gAr} (h : RI iv ar) (ei : ∀ x y, ¬ (x = 0 ∧ (y = 11 ∨ y = 12 ∨ y = 13 ∨ y = 14)) → iv2 x y = iv x y) (e : ∀ c, c ≠ 5 → c ≠ 6 → c ≠ 7 → c ≠ 8 → ar2 c = ar c) (k : KA ar2) (t : TR ar2) : RI iv2 ar2 := by
  obtain ⟨h1, h2, h3, h4, -, -, h7, h8⟩ := h
  refine ⟨by rw [e 1 (by omega) (by omega) (by omega) (by omega)]; exact h1, by rw [ei 0 3 (by omega)]; exact h2, fun j hj => SI.of (h3 j (by rw [ei 0 3 (by omega)] at hj; exact hj)) (fun i hi => by show ar2 2 _ = ar 2 _; rw [e 2 (by omega) (by omega) (by omega) (by omega)]), by rw [ei 0 4 (by omega)]; exact h4, k, t, by rw [ei 0 17 (by omega)]; exact h7, fun z d hd => ?_⟩
  rw [e 1 (by omega) (by omega) (by omega) (by omega)] at hd
  rw [ei 0 15 (by omega)] at z
  have h9 := h8 z d hd
  rw [e 14 (by omega) (by omega) (by omega) (by omega), e 11 (by omega) (by omega) (by omega) (by omega), e 9 (by omega) (by omega) (by omega) (by omega), e 1 (by omega) (by omega) (by omega) (by omega)]
  exact h9
