/-! What one cell's search backwards has found so far; a good cell of a plan. -/
def QI (f k R E : Nat → Int32) (L t c : Nat) (is q : Int) : Prop := is = 0 ∧ ((R (108 * t + c)).toInt ≠ 0 → ∀ p : Nat, (p : Int) < q → ¬ CQ f k E L t c p) ∨ is = 1 ∧ (R (108 * t + c)).toInt ≠ 0 ∧ ∃ p : Nat, p < 7 ∧ CQ f k E L t c p
theorem QI.init {f k R E : Nat → Int32} {L t c : Nat} : QI f k R E L t c 0 0 := Or.inl ⟨rfl, fun _ p hp => by exfalso; omega⟩
theorem QI.no {f k R E : Nat → Int32} {L t c : Nat} {is q : Int} (h : QI f k R E L t c is q) (h0 : is = 0) (hq : 0 ≤ q) (hn : ¬ CQ f k E L t c q.toNat) : QI f k R E L t c 0 (q + 1) := by
  rcases h with ⟨-, a⟩ | ⟨a, -⟩
  · refine Or.inl ⟨rfl, fun hr p hp => ?_⟩
    by_cases e : p = q.toNat
    · rw [e]; exact hn
    · exact a hr p (by omega)
  · exfalso; omega
theorem QI.yes {f k R E : Nat → Int32} {L t c : Nat} {q : Int} (hr : (R (108 * t + c)).toInt ≠ 0) (hq : 0 ≤ q ∧ q < 7) (hn : CQ f k E L t c q.toNat) : QI f k R E L t c 1 (q + 1) := Or.inr ⟨rfl, hr, q.toNat, by omega, hn⟩
theorem QI.fin {f k R E : Nat → Int32} {L t c : Nat} {is q : Int} (h : QI f k R E L t c is q) (e : 7 ≤ q ∨ (R (108 * t + c)).toInt = 0 ∨ is ≠ 0) : is ≠ 0 ↔ (R (108 * t + c)).toInt ≠ 0 ∧ ∃ p, p < 7 ∧ CQ f k E L t c p := by
  rcases h with ⟨a, b⟩ | ⟨a, b, p, p7, hp⟩
  · refine ⟨fun z => absurd a z, fun ⟨z, p, p7, hp⟩ => absurd hp (b z p ?_)⟩
    rcases e with e | e | e
    · omega
    · exact absurd e z
    · exact absurd a e
  · exact ⟨fun _ => ⟨b, p, p7, hp⟩, fun _ => by omega⟩
def GD (f : Nat → Int32) (g : Nat) (x : Int32) : Prop := 0 ≤ x.toInt ∧ x.toInt < 108 ∧ DB f g 61 x.toInt.toNat
theorem nar01 {x : Int32} (h : 0 ≤ x.toInt ∧ x.toInt ≤ 1) : vp_nar .boolean x = x := by
  have k : x = 0 ∨ x = 1 := by
    by_cases q : x.toInt = 0
    · exact Or.inl (i_of (q.trans i_l0.symm))
    · exact Or.inr (i_of ((show x.toInt = 1 from by omega).trans i_l1.symm))
  rcases k with z | z <;> subst z <;> decide
