/-! Rows of times say the same where only drones have moved; the plan stands where the lattice does. -/
theorem KN.row {f f2 T : Nat → Int32} {g : Nat} (e : ∀ i, i < 111 → f2 i = f i) (k : KN f T g) : KN f2 T g := by
  have enx : ∀ d q : Nat, d < 108 → q < 7 → NX f2 d q = NX f d q := fun d q hd hq => by
    have hb := nb_b hd hq
    unfold NX
    by_cases z : nbN d q < 0
    · rw [if_pos (Or.inl z), if_pos (Or.inl z)]
    · rw [e (3 + (nbN d q).toNat) (by omega)]
  have etk : ∀ d q : Nat, d < 108 → TK f2 d q = TK f d q := fun d q hd => by
    unfold TK
    rw [e (d / 36) (by omega)]
  refine ⟨fun d hd => ?_, fun d hd q h1 h7 ho m hn => ?_⟩
  · have kb := k.1 d hd
    rw [e (3 + d) (by omega)]
    refine ⟨kb.1, kb.2.1, kb.2.2.1, fun z1 z2 => ?_⟩
    obtain ⟨q, m, a1, a2, a3, a4, a5⟩ := kb.2.2.2 z1 z2
    exact ⟨q, m, a1, a2, a3, by rw [enx d q hd a2]; exact a4, by rw [etk d q hd]; exact a5⟩
  · rw [e (3 + d) (by omega)] at ho
    rw [enx d q hd h7] at hn
    have kx := k.2 d hd q h1 h7 ho m hn
    rw [etk d q hd]
    exact kx
theorem upd_back {f : Nat → Int32} {k : Nat} {x : Int32} : upd (upd f k x) k (f k) = f := by
  funext i
  by_cases e : i = k
  · rw [e, pk_us]
  · rw [pk_un e, pk_un e]
theorem RI.fly {iv iv2 : gIv} {ar ar2 : gAr} (h : RI iv ar) (hs : SI (ar2 1)) (c3 : 0 ≤ (iv2 0 3).toInt ∧ (iv2 0 3).toInt ≤ 8) (pa : PA iv2 ar2) (e : ∀ c, c ≠ 1 → c ≠ 2 → ar2 c = ar c) (e1 : ∀ j, j < 112 → ar2 1 j = ar 1 j) (e4 : iv2 0 4 = iv 0 4) (e15 : iv2 0 15 = iv 0 15) (h17 : 0 ≤ (iv2 0 17).toInt) : RI iv2 ar2 := by
  obtain ⟨-, -, -, h4, h5, h6, -, h8⟩ := h
  refine ⟨hs, c3, pa, by rw [e4]; exact h4, fun g hg k => ?_, h6.fr (e 7 (by omega) (by omega)) (e 8 (by omega) (by omega)), h17, fun z d hd => ?_⟩
  · rw [e 6 (by omega) (by omega)] at k
    rw [e 5 (by omega) (by omega)]
    exact KN.row (fun i hi => e1 i (by omega)) (h5 g hg k)
  · rw [e15] at z
    rw [e1 111 (by omega)] at hd
    have h9 := h8 z d hd
    rw [e 14 (by omega) (by omega), e 11 (by omega) (by omega), e 9 (by omega) (by omega)]
    exact ⟨h9.1, h9.2.1, h9.2.2.1, h9.2.2.2.1, fun t ht => ⟨(h9.2.2.2.2 t ht).1, (h9.2.2.2.2 t ht).2.1, DB.of (by have := (h9.2.2.2.2 t ht).2.1; have := (h9.2.2.2.2 t ht).1; omega) (by have := h9.2.1; have := h9.1; omega) (fun i hi => e1 i (by omega)) (h9.2.2.2.2 t ht).2.2⟩⟩
