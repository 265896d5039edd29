/-! The reference at any state: the lattice with obstacles and winds; what a plan's rows say of cells and times. All in whole numbers, so that omega reads it. -/
def NX (f : Nat → Int32) (c q : Nat) : Int := if nbN c q < 0 ∨ (f (3 + (nbN c q).toNat)).toInt = 1 then -1 else nbN c q
def TK (f : Nat → Int32) (c q : Nat) : Int := if q = 1 ∧ (f (c / 36)).toInt = 2 ∨ q = 2 ∧ (f (c / 36)).toInt = 1 ∨ q = 3 ∧ (f (c / 36)).toInt = 4 ∨ q = 4 ∧ (f (c / 36)).toInt = 3 then 2 else 1
theorem NX_no {f : Nat → Int32} {c q : Nat} (h : nbN c q < 0 ∨ (f (3 + (nbN c q).toNat)).toInt = 1) : NX f c q = -1 := if_pos h
theorem NX_is {f : Nat → Int32} {c q : Nat} (h : ¬ (nbN c q < 0 ∨ (f (3 + (nbN c q).toNat)).toInt = 1)) : NX f c q = nbN c q := if_neg h
theorem NX_b {f : Nat → Int32} {c q : Nat} (hc : c < 108) (h7 : q < 7) : -1 ≤ NX f c q ∧ NX f c q < 108 := by
  have hb := nb_b hc h7
  unfold NX
  split
  · omega
  · exact hb
theorem TK_b {f : Nat → Int32} {c q : Nat} : 1 ≤ TK f c q ∧ TK f c q ≤ 2 := by
  unfold TK
  split <;> omega
theorem TK_0 {f : Nat → Int32} {c : Nat} : TK f c 0 = 1 := if_neg (by omega)
theorem TK_two {f : Nat → Int32} {c q : Nat} (h : q = 1 ∧ (f (c / 36)).toInt = 2 ∨ q = 2 ∧ (f (c / 36)).toInt = 1 ∨ q = 3 ∧ (f (c / 36)).toInt = 4 ∨ q = 4 ∧ (f (c / 36)).toInt = 3) : TK f c q = 2 := if_pos h
theorem TK_one {f : Nat → Int32} {c q : Nat} (h : ¬ (q = 1 ∧ (f (c / 36)).toInt = 2 ∨ q = 2 ∧ (f (c / 36)).toInt = 1 ∨ q = 3 ∧ (f (c / 36)).toInt = 4 ∨ q = 4 ∧ (f (c / 36)).toInt = 3)) : TK f c q = 1 := if_neg h
/-- whether a cell is taken at a time (1 or 0), and whether one that was planned goes the other way -/
def tA (k : Nat → Int32) (c : Nat) (t : Int) : Int := if (k (108 * t.toNat + c)).toInt = 0 then 0 else 1
def mT (k : Nat → Int32) (c d : Nat) (t : Int) : Int := if (k (108 * t.toNat + d)).toInt ≠ 0 ∧ (k (108 * t.toNat + d)).toInt = (k (108 * (t.toNat + 1) + c)).toInt then 1 else 0
def MD (f k : Nat → Int32) (c q : Nat) (t : Int) : Prop := q = 0 ∧ t < 60 ∧ tA k c (t + 1) = 0 ∨ q ≠ 0 ∧ 0 ≤ NX f c q ∧ t + TK f c q ≤ 60 ∧ (TK f c q = 2 → tA k c (t + 1) = 0) ∧ tA k (NX f c q).toNat (t + TK f c q) = 0 ∧ mT k c (NX f c q).toNat (t + TK f c q - 1) = 0
theorem tA_b {k : Nat → Int32} {c : Nat} {t : Int} : 0 ≤ tA k c t ∧ tA k c t ≤ 1 := by
  unfold tA
  split <;> omega
theorem mT_b {k : Nat → Int32} {c d : Nat} {t : Int} : 0 ≤ mT k c d t ∧ mT k c d t ≤ 1 := by
  unfold mT
  split <;> omega
