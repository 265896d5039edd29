theorem bt_0 (i : Nat) (hi : i < 6) : bt 0 i = 0 := by
  have k : ∀ m : Fin 6, bt 0 m.val = 0 := by decide +kernel
  exact k ⟨i, hi⟩
theorem RI.way {iv : gIv} {ar ar2 : gAr} (h : RI iv ar) (e : ∀ c, c ≠ 5 → c ≠ 6 → c ≠ 18 → ar2 c = ar c) (k : KA ar2) : RI iv ar2 := by
  obtain ⟨h1, h2, h3, h4, -, h6, h7, h8⟩ := h
  refine ⟨by rw [e 1 (by omega) (by omega) (by omega)]; exact h1, h2, fun j hj => SI.of (h3 j hj) (fun i hi => by show ar2 2 _ = ar 2 _; rw [e 2 (by omega) (by omega) (by omega)]), h4, k, h6.fr (e 7 (by omega) (by omega) (by omega)) (e 8 (by omega) (by omega) (by omega)), h7, fun z d hd => ?_⟩
  rw [e 1 (by omega) (by omega) (by omega)] at hd
  have h9 := h8 z d hd
  rw [e 14 (by omega) (by omega) (by omega), e 11 (by omega) (by omega) (by omega), e 9 (by omega) (by omega) (by omega), e 1 (by omega) (by omega) (by omega)]
  exact h9
theorem AL.fr {ar ar2 : gAr} {g c : Nat} {t : Int} (h : AL ar g t c) (e1 : ar2 1 = ar 1) (e5 : ar2 5 = ar 5) (e6 : ar2 6 = ar 6) : AL ar2 g t c := by
  unfold AL at h ⊢
  rw [e1, e5, e6]
  exact h
