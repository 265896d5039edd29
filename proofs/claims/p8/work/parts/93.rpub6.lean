/-! Scenes with one more drone. -/
theorem SI.addD {f : Nat → Int32} {n : Nat} {x y : Int32} (h : SI f) (hn : n < 6) (en : (f 111).toInt = (n : Int)) (hx : 0 ≤ x.toInt ∧ x.toInt < 108) (ho : (f (3 + x.toInt.toNat)).toInt ≠ 1) (hy : y.toInt = (n : Int) + 1) : SI (upd (upd f (112 + n) x) 111 y) := by
  obtain ⟨⟨h1, h2, h3, h4, h5⟩, h6⟩ := h
  have e : ∀ i, i ≠ 111 → i ≠ 112 + n → upd (upd f (112 + n) x) 111 y i = f i := fun i hi hj => by rw [pk_un hi, pk_un hj]
  have e1 : upd (upd f (112 + n) x) 111 y 111 = y := pk_us
  have en1 : upd (upd f (112 + n) x) 111 y (112 + n) = x := by rw [pk_un (show 112 + n ≠ 111 from by omega), pk_us]
  refine ⟨⟨by rw [e1]; omega, by rw [e1]; omega, by rw [e 118 (by omega) (by omega)]; exact h3, by rw [e 118 (by omega) (by omega)]; exact h4, fun i hi => ?_⟩, fun i hi hl => ?_⟩
  · rw [e (119 + i) (by omega) (by omega)]
    have h7 := h5 i hi
    by_cases q : i = n
    · rw [q, en1]; rw [q] at h7; exact ⟨hx.1, hx.2, h7.2.2.1, h7.2.2.2⟩
    · rw [e (112 + i) (by omega) (by omega)]; exact h7
  · rw [e1] at hl
    by_cases q : i = n
    · rw [q, en1, e _ (by omega) (by omega)]; exact ho
    · have h7 := h5 i hi
      rw [e (112 + i) (by omega) (by omega), e _ (by omega) (by omega)]; exact h6 i hi (by omega)
