/-! What the class keeps at any state: sizes of places from 0 to 6, and the length of the text. -/
def SZ (iv : gIv) : Prop := ∀ c, c < 135 → kd c = 5 → 0 ≤ (iv c 1).toInt ∧ (iv c 1).toInt ≤ 6
def FK (iv iv2 : gIv) : Prop := ∀ c b, kd c = 5 ∨ c = 66 → iv2 c b = iv c b
theorem FK.rf {iv : gIv} : FK iv iv := fun _ _ _ => rfl
theorem FK.tr {iv iv2 iv3 : gIv} (h : FK iv iv2) (k : FK iv2 iv3) : FK iv iv3 := fun c b z => (k c b z).trans (h c b z)
theorem FK.up {iv iv2 : gIv} {k j : Nat} {x : Int32} (h : FK iv iv2) (h5 : kd k ≠ 5) (h6 : k ≠ 66) : FK iv (u2 iv2 k j x) := fun c b z => by
  rw [u2_o (fun q => ?_)]
  · exact h c b z
  · rcases z with z | z
    · exact h5 (q.1 ▸ z)
    · exact h6 (q.1 ▸ z)
def KP (iv iv2 : gIv) : Prop := SZ iv2 ∧ iv2 66 2 = iv 66 2
theorem KP.rf {iv : gIv} (h : SZ iv) : KP iv iv := ⟨h, rfl⟩
theorem KP.tr {iv iv2 iv3 : gIv} (h : KP iv iv2) (k : KP iv2 iv3) : KP iv iv3 := ⟨k.1, k.2.trans h.2⟩
theorem SZ.fk {iv iv2 : gIv} (h : SZ iv) (k : FK iv iv2) : SZ iv2 := fun c hc h5 => by
  rw [k c 1 (Or.inl h5)]
  exact h c hc h5
theorem KP.fk {iv iv2 iv3 : gIv} (h : KP iv iv2) (k : FK iv2 iv3) : KP iv iv3 := ⟨h.1.fk k, (k 66 2 (Or.inr rfl)).trans h.2⟩
theorem KP.up {iv iv2 : gIv} {k j : Nat} {x : Int32} (h : KP iv iv2) (h5 : kd k ≠ 5) (h6 : ¬ (k = 66 ∧ j = 2)) : KP iv (u2 iv2 k j x) := by
  refine ⟨fun c hc z => ?_, ?_⟩
  · rw [u2_o (show ¬ (c = k ∧ 1 = j) from fun q => h5 (by rw [← q.1]; exact z))]
    exact h.1 c hc z
  · rw [u2_o (show ¬ (66 = k ∧ 2 = j) from fun q => h6 ⟨q.1.symm, q.2.symm⟩)]
    exact h.2
theorem KP.set {iv iv2 iv3 : gIv} {k : Nat} (h : KP iv iv2) (hk : kd k = 5) (he : ∀ a b, ¬ (a = k ∧ b = 1) → iv3 a b = iv2 a b) (hx : 0 ≤ (iv3 k 1).toInt ∧ (iv3 k 1).toInt ≤ 6) : KP iv iv3 := by
  refine ⟨fun c hc z => ?_, ?_⟩
  · by_cases e : c = k
    · rw [e]; exact hx
    · rw [he c 1 (fun q => e q.1)]
      exact h.1 c hc z
  · rw [he 66 2 (fun q => absurd q.2 (by decide))]
    exact h.2
theorem KP.up5 {iv iv2 : gIv} {k : Nat} {x : Int32} (h : KP iv iv2) (hk : kd k = 5) (hx : 0 ≤ x.toInt ∧ x.toInt ≤ 6) : KP iv (u2 iv2 k 1 x) := h.set hk (fun a b q => u2_o q) (by rw [u2_s]; exact hx)
theorem k66_in {k : Nat} (hk : k < 135) (h : kd k = 8) : 66 < k ∨ k + 7 ≤ 66 := (by decide +kernel : ∀ k, k < 135 → kd k = 8 → 66 < k ∨ k + 7 ≤ 66) k hk h
theorem KP.sc {iv iv2 iv3 : gIv} {k k2 : Nat} (h : KP iv iv2) (hk : k < 135) (hd : kd k = 8) (hk2 : k2 < 135) (hd2 : kd k2 = 8) (e : ∀ a b, (a < k ∨ k + 7 ≤ a) → iv3 a b = iv2 a b) (e3 : iv3 (k + 3) 1 = iv2 (k2 + 3) 1) (e5 : iv3 (k + 5) 1 = iv2 (k2 + 5) 1) : KP iv iv3 := by
  have h6 := k66_in hk hd
  have c3 := g_k8_2 hk2 hd2
  have c5 := g_k8_3 hk2 hd2
  refine ⟨fun c hc z => ?_, (e 66 2 (by omega)).trans h.2⟩
  by_cases hin : k ≤ c ∧ c < k + 7
  · obtain ⟨d, hd9⟩ : ∃ d, c = k + d := ⟨c - k, by omega⟩
    rw [hd9] at z
    rcases g_pl_in hk hd (by omega) z with h3 | h3
    · rw [hd9, h3, e3]; exact h.1 _ c3.1 c3.2
    · rw [hd9, h3, e5]; exact h.1 _ c5.1 c5.2
  · rw [e c 1 (by omega)]; exact h.1 c hc z
