/-! How far a cell is from a goal at most, said by every right row of times; the plan that stands; the whole of what the reference keeps between calls. -/
def DB (f : Nat → Int32) (g : Nat) (n : Int) (c : Nat) : Prop := (c = g ∨ ∃ q m : Nat, 1 ≤ q ∧ q < 7 ∧ NX f c q = (m : Int)) ∧ (f (3 + c)).toInt ≠ 1 ∧ ∀ T, KN f T g → (T (108 * g + c)).toInt ≤ n
theorem DB.goal {f : Nat → Int32} {g : Nat} (hg : g < 108) (ho : (f (3 + g)).toInt ≠ 1) {n : Int} (hn : 0 ≤ n) : DB f g n g := by
  refine ⟨Or.inl rfl, ho, fun T h => ?_⟩
  have h1 := (h.1 g hg).2.2.1 rfl ho
  rw [h1]; exact hn
theorem DB.more {f : Nat → Int32} {g c : Nat} {n n2 : Int} (h : DB f g n c) (hn : n ≤ n2) : DB f g n2 c := ⟨h.1, h.2.1, fun T k => Int.le_trans (h.2.2 T k) hn⟩
theorem DB.step {f : Nat → Int32} {g c q m : Nat} {n : Int} (hc : c < 108) (ho : (f (3 + c)).toInt ≠ 1) (h1 : 1 ≤ q) (h7 : q < 7) (hn : NX f c q = (m : Int)) (h : DB f g n m) : DB f g (n + TK f c q) c := by
  refine ⟨Or.inr ⟨q, m, h1, h7, hn⟩, ho, fun T k => ?_⟩
  have h2 := h.2.2 T k
  have h3 := k.2 c hc q h1 h7 ho m hn
  clear h k
  omega
theorem DB.of {f f2 : Nat → Int32} {g c : Nat} {n : Int} (hc : c < 108) (hg : g < 108) (e : ∀ i, i < 111 → f2 i = f i) (h : DB f g n c) : DB f2 g n c := by
  have enx : ∀ d q : Nat, d < 108 → q < 7 → NX f2 d q = NX f d q := fun d q hd hq => by
    have hb := nb_b hd hq
    unfold NX
    by_cases z : nbN d q < 0
    · rw [if_pos (Or.inl z), if_pos (Or.inl z)]
    · rw [e (3 + (nbN d q).toNat) (by omega)]
  have etk : ∀ d q : Nat, d < 108 → TK f2 d q = TK f d q := fun d q hd => by
    unfold TK
    rw [e (d / 36) (by omega)]
  refine ⟨h.1.imp id (fun ⟨q, m, h1, h7, hn⟩ => ⟨q, m, h1, h7, by rw [enx c q hc h7]; exact hn⟩), by rw [e (3 + c) (by omega)]; exact h.2.1, fun T k => h.2.2 T ⟨fun d hd => ?_, fun d hd q h1 h7 ho m hn => ?_⟩⟩
  · have kb := k.1 d hd
    rw [e (3 + d) (by omega)] at kb
    refine ⟨kb.1, kb.2.1, kb.2.2.1, fun z1 z2 => ?_⟩
    obtain ⟨q, m, a1, a2, a3, a4, a5⟩ := kb.2.2.2 z1 z2
    rw [enx d q hd a2] at a4
    rw [etk d q hd] at a5
    exact ⟨q, m, a1, a2, a3, a4, a5⟩
  · have kx := k.2 d hd q h1 h7 (by rw [e (3 + d) (by omega)]; exact ho) m (by rw [enx d q hd h7]; exact hn)
    rw [etk d q hd] at kx
    exact kx
/-- the plan that stands: for each drone its goal, its arrival, and at each time a cell from which the goal is near enough -/
def PL (ar : gAr) : Prop := ∀ d : Nat, (d : Int) < (ar 1 111).toInt → 0 ≤ (ar 14 d).toInt ∧ (ar 14 d).toInt < 108 ∧ 0 ≤ (ar 11 d).toInt ∧ (ar 11 d).toInt ≤ 60 ∧ ∀ t, t < 61 → 0 ≤ (ar 9 (61 * d + t)).toInt ∧ (ar 9 (61 * d + t)).toInt < 108 ∧ DB (ar 1) (ar 14 d).toInt.toNat 61 (ar 9 (61 * d + t)).toInt.toNat
def RI (iv : gIv) (ar : gAr) : Prop := SI (ar 1) ∧ (0 ≤ (iv 0 3).toInt ∧ (iv 0 3).toInt ≤ 8) ∧ PA iv ar ∧ (0 ≤ (iv 0 4).toInt ∧ (iv 0 4).toInt ≤ 60) ∧ KA ar ∧ TR ar ∧ 0 ≤ (iv 0 17).toInt ∧ ((iv 0 15).toInt ≠ 0 → PL ar)
