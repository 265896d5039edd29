/-! What the reference's own row holds, and what trials keep. -/
def SB (f : Nat → Int32) : Prop := 0 ≤ (f 111).toInt ∧ (f 111).toInt ≤ 6 ∧ 0 ≤ (f 118).toInt ∧ (f 118).toInt ≤ 6 ∧ ∀ i, i < 6 → 0 ≤ (f (112 + i)).toInt ∧ (f (112 + i)).toInt < 108 ∧ 0 ≤ (f (119 + i)).toInt ∧ (f (119 + i)).toInt < 108
def TR (ar : gAr) : Prop := ∀ i, i < 6 → 0 ≤ (ar 7 i).toInt ∧ (ar 7 i).toInt ≤ 5 ∧ 0 ≤ (ar 8 i).toInt ∧ (ar 8 i).toInt ≤ 5
theorem KA.fr {ar ar2 : gAr} (h : KA ar) (e1 : ar2 1 = ar 1) (e5 : ar2 5 = ar 5) (e6 : ar2 6 = ar 6) : KA ar2 := by
  intro g hg hk
  rw [e1, e5]
  rw [e6] at hk
  exact h g hg hk
theorem TR.fr {ar ar2 : gAr} (h : TR ar) (e7 : ar2 7 = ar 7) (e8 : ar2 8 = ar 8) : TR ar2 := by
  intro i hi
  rw [e7, e8]
  exact h i hi
