/-! The world of the class: 135 cells, numbered; ad: where each lies; iv: the numbers in the objects by object and field, ar: the contents of the rows of numbers. -/
def kdl : List (Nat × Nat) := [(10, 0), (8, 0), (12, 3), (12, 108), (5, 0), (12, 6), (5, 0), (12, 6), (3, 0), (15, 10), (8, 0), (12, 3), (12, 108), (5, 0), (12, 6), (5, 0), (12, 6), (8, 0), (12, 3), (12, 108), (5, 0), (12, 6), (5, 0), (12, 6), (8, 0), (12, 3), (12, 108), (5, 0), (12, 6), (5, 0), (12, 6), (8, 0), (12, 3), (12, 108), (5, 0), (12, 6), (5, 0), (12, 6), (8, 0), (12, 3), (12, 108), (5, 0), (12, 6), (5, 0), (12, 6), (8, 0), (12, 3), (12, 108), (5, 0), (12, 6), (5, 0), (12, 6), (8, 0), (12, 3), (12, 108), (5, 0), (12, 6), (5, 0), (12, 6), (8, 0), (12, 3), (12, 108), (5, 0), (12, 6), (5, 0), (12, 6), (2, 0), (12, 60), (5, 0), (12, 6), (4, 0), (12, 756), (9, 0), (12, 108), (0, 0), (16, 78), (12, 6), (12, 6), (9, 0), (12, 108), (9, 0), (12, 108), (9, 0), (12, 108), (9, 0), (12, 108), (9, 0), (12, 108), (9, 0), (12, 108), (6, 0), (9, 0), (12, 108), (7, 0), (12, 6588), (12, 6588), (14, 99), (14, 117), (12, 6), (1, 0), (12, 61), (12, 61), (1, 0), (12, 61), (12, 61), (1, 0), (12, 61), (12, 61), (1, 0), (12, 61), (12, 61), (1, 0), (12, 61), (12, 61), (1, 0), (12, 61), (12, 61), (1, 0), (12, 61), (12, 61), (1, 0), (12, 61), (12, 61), (1, 0), (12, 61), (12, 61), (1, 0), (12, 61), (12, 61), (1, 0), (12, 61), (12, 61), (1, 0), (12, 61), (12, 61)]
def kd (k : Nat) : Nat := (kdl.getD k (99, 0)).1
def ln (k : Nat) : Nat := (kdl.getD k (99, 0)).2
abbrev gIv : Type := Nat → Nat → Int32
abbrev gAr : Type := Nat → Nat → Int32
def gE (cy : Nat → ClassId) (ad : Nat → Nat) (iv : gIv) (ar : gAr) (k : Nat) : va_E := match kd k with
  | 0 => .inr (0, [.ref (ad (1)), .ref (ad (75)), .ref (ad (76)), .ref (ad (77)), .int (iv k 4), .int (iv k 5), .int (iv k 6), .int (iv k 7), .int (iv k 8)])
  | 1 => .inr (1, [.ref (ad (k+1)), .ref (ad (k+2)), .int (iv k 2), .int (iv k 3), .int (iv k 4)])
  | 2 => .inr (2, [.ref (ad (67)), .ref (ad (68)), .int (iv k 2), .int (iv k 3), .int (iv k 4)])
  | 3 => .inr (3, [.ref (ad (9)), .int (iv k 1), .int (iv k 2)])
  | 4 => .inr (4, [.ref (ad (1)), .ref (ad (71))])
  | 5 => .inr (5, [.ref (ad (k+1)), .int (iv k 1)])
  | 6 => .inr (6, [.ref (ad (1)), .ref (ad (70)), .ref (ad (91)), .ref (ad (93)), .ref (ad (96)), .ref (ad (97)), .ref (ad (98)), .int (iv k 7), .int (iv k 8), .int (iv k 9), .int (iv k 10)])
  | 7 => .inr (7, [.ref (ad (70)), .ref (ad (94)), .ref (ad (95))])
  | 8 => .inr (8, [.ref (ad (k+1)), .ref (ad (k+2)), .ref (ad (k+3)), .ref (ad (k+5)), .int (iv k 4)])
  | 9 => .inr (9, [.ref (ad (70)), .ref (ad (k+1))])
  | 10 => .inr (10, [.ref (ad (1)), .ref (ad (8)), .ref (ad (66)), .ref (ad (72)), .ref (ad (74)), .ref (ad (90))])
  | 12 => .inl (cy 0, ln k, .inl (ar k))
  | 14 => .inl (cy 2, 6, .inr (.inr (.inr (.inr (fun j => some (ad (ln k + 3 * j)))))))
  | 15 => .inl (cy 3, 8, .inr (.inr (.inr (.inr (fun j => some (ad (ln k + 7 * j)))))))
  | 16 => .inl (cy 4, 6, .inr (.inr (.inr (.inr (fun j => some (ad (ln k + 2 * j)))))))
  | _ => .inr (99, [])
def GW (cy : Nat → ClassId) (ad : Nat → Nat) (iv : gIv) (ar : gAr) : va_W := (List.range 135).map (fun k => (ad k, gE cy ad iv ar k))
def u2 (iv : gIv) (k j : Nat) (x : Int32) : gIv := fun a b => if a = k ∧ b = j then x else iv a b
theorem u2_s (iv : gIv) (k j : Nat) (x : Int32) : u2 iv k j x k j = x := by simp [u2]
theorem u2_o {iv : gIv} {k j a b : Nat} {x : Int32} (h : ¬ (a = k ∧ b = j)) : u2 iv k j x a b = iv a b := by simp only [u2, if_neg h]
theorem ua_s (ar : gAr) (k : Nat) (f : Nat → Int32) : va_up ar k f k = f := by simp [va_up]
theorem ua_o {ar : gAr} {k a : Nat} {f : Nat → Int32} (h : a ≠ k) : va_up ar k f a = ar a := by simp [va_up, h]
section GWS
variable {cy : Nat → ClassId} {ad : Nat → Nat} {iv iv2 : gIv} {ar ar2 : gAr} {k : Nat} {x : Int32}
theorem GW_get (hk : k < 135) : (GW cy ad iv ar)[k]? = some (ad k, gE cy ad iv ar k) := by simp [GW, hk]
theorem GW_len : (GW cy ad iv ar).length = 135 := by simp [GW]
theorem gE_ext (h1 : ∀ b, iv2 k b = iv k b) (h2 : ar2 k = ar k) : gE cy ad iv2 ar2 k = gE cy ad iv ar k := by simp only [gE, h1, h2]
theorem GW_set (hk : k < 135) {e : va_E} (he : e = gE cy ad iv2 ar2 k) (h1 : ∀ j b, j ≠ k → iv2 j b = iv j b) (h2 : ∀ j, j ≠ k → ar2 j = ar j) : (GW cy ad iv ar).set k (ad k, e) = GW cy ad iv2 ar2 := by
  subst he
  refine List.ext_getElem? (fun j => ?_)
  rw [List.getElem?_set]
  by_cases hj : k = j
  · subst hj
    rw [if_pos rfl, if_pos (by rw [GW_len]; exact hk), GW_get hk]
  · rw [if_neg hj]
    by_cases hl : j < 135
    · rw [GW_get hl, GW_get hl, gE_ext (fun b => h1 j b (fun q => hj q.symm)) (h2 j (fun q => hj q.symm))]
    · rw [List.getElem?_eq_none (by rw [GW_len]; omega), List.getElem?_eq_none (by rw [GW_len]; omega)]
theorem g_at0 (hk : k < 135) (h : kd k = 0) : (GW cy ad iv ar)[k]? = some (ad k, .inr (0, [.ref (ad (1)), .ref (ad (75)), .ref (ad (76)), .ref (ad (77)), .int (iv k 4), .int (iv k 5), .int (iv k 6), .int (iv k 7), .int (iv k 8)])) := by rw [GW_get hk]; simp only [gE, h]
theorem g_at1 (hk : k < 135) (h : kd k = 1) : (GW cy ad iv ar)[k]? = some (ad k, .inr (1, [.ref (ad (k+1)), .ref (ad (k+2)), .int (iv k 2), .int (iv k 3), .int (iv k 4)])) := by rw [GW_get hk]; simp only [gE, h]
theorem g_at2 (hk : k < 135) (h : kd k = 2) : (GW cy ad iv ar)[k]? = some (ad k, .inr (2, [.ref (ad (67)), .ref (ad (68)), .int (iv k 2), .int (iv k 3), .int (iv k 4)])) := by rw [GW_get hk]; simp only [gE, h]
theorem g_at3 (hk : k < 135) (h : kd k = 3) : (GW cy ad iv ar)[k]? = some (ad k, .inr (3, [.ref (ad (9)), .int (iv k 1), .int (iv k 2)])) := by rw [GW_get hk]; simp only [gE, h]
theorem g_at4 (hk : k < 135) (h : kd k = 4) : (GW cy ad iv ar)[k]? = some (ad k, .inr (4, [.ref (ad (1)), .ref (ad (71))])) := by rw [GW_get hk]; simp only [gE, h]
theorem g_at5 (hk : k < 135) (h : kd k = 5) : (GW cy ad iv ar)[k]? = some (ad k, .inr (5, [.ref (ad (k+1)), .int (iv k 1)])) := by rw [GW_get hk]; simp only [gE, h]
theorem g_at6 (hk : k < 135) (h : kd k = 6) : (GW cy ad iv ar)[k]? = some (ad k, .inr (6, [.ref (ad (1)), .ref (ad (70)), .ref (ad (91)), .ref (ad (93)), .ref (ad (96)), .ref (ad (97)), .ref (ad (98)), .int (iv k 7), .int (iv k 8), .int (iv k 9), .int (iv k 10)])) := by rw [GW_get hk]; simp only [gE, h]
theorem g_at7 (hk : k < 135) (h : kd k = 7) : (GW cy ad iv ar)[k]? = some (ad k, .inr (7, [.ref (ad (70)), .ref (ad (94)), .ref (ad (95))])) := by rw [GW_get hk]; simp only [gE, h]
theorem g_at8 (hk : k < 135) (h : kd k = 8) : (GW cy ad iv ar)[k]? = some (ad k, .inr (8, [.ref (ad (k+1)), .ref (ad (k+2)), .ref (ad (k+3)), .ref (ad (k+5)), .int (iv k 4)])) := by rw [GW_get hk]; simp only [gE, h]
theorem g_at9 (hk : k < 135) (h : kd k = 9) : (GW cy ad iv ar)[k]? = some (ad k, .inr (9, [.ref (ad (70)), .ref (ad (k+1))])) := by rw [GW_get hk]; simp only [gE, h]
theorem g_at10 (hk : k < 135) (h : kd k = 10) : (GW cy ad iv ar)[k]? = some (ad k, .inr (10, [.ref (ad (1)), .ref (ad (8)), .ref (ad (66)), .ref (ad (72)), .ref (ad (74)), .ref (ad (90))])) := by rw [GW_get hk]; simp only [gE, h]
theorem g_at12 (hk : k < 135) (h : kd k = 12) : (GW cy ad iv ar)[k]? = some (ad k, .inl (cy 0, ln k, .inl (ar k))) := by rw [GW_get hk]; simp only [gE, h]
theorem g_at14 (hk : k < 135) (h : kd k = 14) : (GW cy ad iv ar)[k]? = some (ad k, .inl (cy 2, 6, .inr (.inr (.inr (.inr (fun j => some (ad (ln k + 3 * j)))))))) := by rw [GW_get hk]; simp only [gE, h]
theorem g_at15 (hk : k < 135) (h : kd k = 15) : (GW cy ad iv ar)[k]? = some (ad k, .inl (cy 3, 8, .inr (.inr (.inr (.inr (fun j => some (ad (ln k + 7 * j)))))))) := by rw [GW_get hk]; simp only [gE, h]
theorem g_at16 (hk : k < 135) (h : kd k = 16) : (GW cy ad iv ar)[k]? = some (ad k, .inl (cy 4, 6, .inr (.inr (.inr (.inr (fun j => some (ad (ln k + 2 * j)))))))) := by rw [GW_get hk]; simp only [gE, h]
theorem g_pt0_4 (hk : k < 135) (h : kd k = 0) : (GW cy ad iv ar).set k (ad k, .inr (0, [.ref (ad (1)), .ref (ad (75)), .ref (ad (76)), .ref (ad (77)), .int x, .int (iv k 5), .int (iv k 6), .int (iv k 7), .int (iv k 8)])) = GW cy ad (u2 iv k 4 x) ar := GW_set hk (by simp only [gE, h]; simp [u2]) (fun j b hj => u2_o (fun q => hj q.1)) (fun _ _ => rfl)
theorem g_pt0_5 (hk : k < 135) (h : kd k = 0) : (GW cy ad iv ar).set k (ad k, .inr (0, [.ref (ad (1)), .ref (ad (75)), .ref (ad (76)), .ref (ad (77)), .int (iv k 4), .int x, .int (iv k 6), .int (iv k 7), .int (iv k 8)])) = GW cy ad (u2 iv k 5 x) ar := GW_set hk (by simp only [gE, h]; simp [u2]) (fun j b hj => u2_o (fun q => hj q.1)) (fun _ _ => rfl)
theorem g_pt0_6 (hk : k < 135) (h : kd k = 0) : (GW cy ad iv ar).set k (ad k, .inr (0, [.ref (ad (1)), .ref (ad (75)), .ref (ad (76)), .ref (ad (77)), .int (iv k 4), .int (iv k 5), .int x, .int (iv k 7), .int (iv k 8)])) = GW cy ad (u2 iv k 6 x) ar := GW_set hk (by simp only [gE, h]; simp [u2]) (fun j b hj => u2_o (fun q => hj q.1)) (fun _ _ => rfl)
theorem g_pt0_7 (hk : k < 135) (h : kd k = 0) : (GW cy ad iv ar).set k (ad k, .inr (0, [.ref (ad (1)), .ref (ad (75)), .ref (ad (76)), .ref (ad (77)), .int (iv k 4), .int (iv k 5), .int (iv k 6), .int x, .int (iv k 8)])) = GW cy ad (u2 iv k 7 x) ar := GW_set hk (by simp only [gE, h]; simp [u2]) (fun j b hj => u2_o (fun q => hj q.1)) (fun _ _ => rfl)
theorem g_pt0_8 (hk : k < 135) (h : kd k = 0) : (GW cy ad iv ar).set k (ad k, .inr (0, [.ref (ad (1)), .ref (ad (75)), .ref (ad (76)), .ref (ad (77)), .int (iv k 4), .int (iv k 5), .int (iv k 6), .int (iv k 7), .int x])) = GW cy ad (u2 iv k 8 x) ar := GW_set hk (by simp only [gE, h]; simp [u2]) (fun j b hj => u2_o (fun q => hj q.1)) (fun _ _ => rfl)
theorem g_pt1_2 (hk : k < 135) (h : kd k = 1) : (GW cy ad iv ar).set k (ad k, .inr (1, [.ref (ad (k+1)), .ref (ad (k+2)), .int x, .int (iv k 3), .int (iv k 4)])) = GW cy ad (u2 iv k 2 x) ar := GW_set hk (by simp only [gE, h]; simp [u2]) (fun j b hj => u2_o (fun q => hj q.1)) (fun _ _ => rfl)
theorem g_pt1_3 (hk : k < 135) (h : kd k = 1) : (GW cy ad iv ar).set k (ad k, .inr (1, [.ref (ad (k+1)), .ref (ad (k+2)), .int (iv k 2), .int x, .int (iv k 4)])) = GW cy ad (u2 iv k 3 x) ar := GW_set hk (by simp only [gE, h]; simp [u2]) (fun j b hj => u2_o (fun q => hj q.1)) (fun _ _ => rfl)
theorem g_pt1_4 (hk : k < 135) (h : kd k = 1) : (GW cy ad iv ar).set k (ad k, .inr (1, [.ref (ad (k+1)), .ref (ad (k+2)), .int (iv k 2), .int (iv k 3), .int x])) = GW cy ad (u2 iv k 4 x) ar := GW_set hk (by simp only [gE, h]; simp [u2]) (fun j b hj => u2_o (fun q => hj q.1)) (fun _ _ => rfl)
theorem g_pt2_2 (hk : k < 135) (h : kd k = 2) : (GW cy ad iv ar).set k (ad k, .inr (2, [.ref (ad (67)), .ref (ad (68)), .int x, .int (iv k 3), .int (iv k 4)])) = GW cy ad (u2 iv k 2 x) ar := GW_set hk (by simp only [gE, h]; simp [u2]) (fun j b hj => u2_o (fun q => hj q.1)) (fun _ _ => rfl)
theorem g_pt2_3 (hk : k < 135) (h : kd k = 2) : (GW cy ad iv ar).set k (ad k, .inr (2, [.ref (ad (67)), .ref (ad (68)), .int (iv k 2), .int x, .int (iv k 4)])) = GW cy ad (u2 iv k 3 x) ar := GW_set hk (by simp only [gE, h]; simp [u2]) (fun j b hj => u2_o (fun q => hj q.1)) (fun _ _ => rfl)
theorem g_pt2_4 (hk : k < 135) (h : kd k = 2) : (GW cy ad iv ar).set k (ad k, .inr (2, [.ref (ad (67)), .ref (ad (68)), .int (iv k 2), .int (iv k 3), .int x])) = GW cy ad (u2 iv k 4 x) ar := GW_set hk (by simp only [gE, h]; simp [u2]) (fun j b hj => u2_o (fun q => hj q.1)) (fun _ _ => rfl)
theorem g_pt3_1 (hk : k < 135) (h : kd k = 3) : (GW cy ad iv ar).set k (ad k, .inr (3, [.ref (ad (9)), .int x, .int (iv k 2)])) = GW cy ad (u2 iv k 1 x) ar := GW_set hk (by simp only [gE, h]; simp [u2]) (fun j b hj => u2_o (fun q => hj q.1)) (fun _ _ => rfl)
theorem g_pt3_2 (hk : k < 135) (h : kd k = 3) : (GW cy ad iv ar).set k (ad k, .inr (3, [.ref (ad (9)), .int (iv k 1), .int x])) = GW cy ad (u2 iv k 2 x) ar := GW_set hk (by simp only [gE, h]; simp [u2]) (fun j b hj => u2_o (fun q => hj q.1)) (fun _ _ => rfl)
theorem g_pt5_1 (hk : k < 135) (h : kd k = 5) : (GW cy ad iv ar).set k (ad k, .inr (5, [.ref (ad (k+1)), .int x])) = GW cy ad (u2 iv k 1 x) ar := GW_set hk (by simp only [gE, h]; simp [u2]) (fun j b hj => u2_o (fun q => hj q.1)) (fun _ _ => rfl)
theorem g_pt6_7 (hk : k < 135) (h : kd k = 6) : (GW cy ad iv ar).set k (ad k, .inr (6, [.ref (ad (1)), .ref (ad (70)), .ref (ad (91)), .ref (ad (93)), .ref (ad (96)), .ref (ad (97)), .ref (ad (98)), .int x, .int (iv k 8), .int (iv k 9), .int (iv k 10)])) = GW cy ad (u2 iv k 7 x) ar := GW_set hk (by simp only [gE, h]; simp [u2]) (fun j b hj => u2_o (fun q => hj q.1)) (fun _ _ => rfl)
theorem g_pt6_8 (hk : k < 135) (h : kd k = 6) : (GW cy ad iv ar).set k (ad k, .inr (6, [.ref (ad (1)), .ref (ad (70)), .ref (ad (91)), .ref (ad (93)), .ref (ad (96)), .ref (ad (97)), .ref (ad (98)), .int (iv k 7), .int x, .int (iv k 9), .int (iv k 10)])) = GW cy ad (u2 iv k 8 x) ar := GW_set hk (by simp only [gE, h]; simp [u2]) (fun j b hj => u2_o (fun q => hj q.1)) (fun _ _ => rfl)
theorem g_pt6_9 (hk : k < 135) (h : kd k = 6) : (GW cy ad iv ar).set k (ad k, .inr (6, [.ref (ad (1)), .ref (ad (70)), .ref (ad (91)), .ref (ad (93)), .ref (ad (96)), .ref (ad (97)), .ref (ad (98)), .int (iv k 7), .int (iv k 8), .int x, .int (iv k 10)])) = GW cy ad (u2 iv k 9 x) ar := GW_set hk (by simp only [gE, h]; simp [u2]) (fun j b hj => u2_o (fun q => hj q.1)) (fun _ _ => rfl)
theorem g_pt6_10 (hk : k < 135) (h : kd k = 6) : (GW cy ad iv ar).set k (ad k, .inr (6, [.ref (ad (1)), .ref (ad (70)), .ref (ad (91)), .ref (ad (93)), .ref (ad (96)), .ref (ad (97)), .ref (ad (98)), .int (iv k 7), .int (iv k 8), .int (iv k 9), .int x])) = GW cy ad (u2 iv k 10 x) ar := GW_set hk (by simp only [gE, h]; simp [u2]) (fun j b hj => u2_o (fun q => hj q.1)) (fun _ _ => rfl)
theorem g_pt8_4 (hk : k < 135) (h : kd k = 8) : (GW cy ad iv ar).set k (ad k, .inr (8, [.ref (ad (k+1)), .ref (ad (k+2)), .ref (ad (k+3)), .ref (ad (k+5)), .int x])) = GW cy ad (u2 iv k 4 x) ar := GW_set hk (by simp only [gE, h]; simp [u2]) (fun j b hj => u2_o (fun q => hj q.1)) (fun _ _ => rfl)
theorem g_pt12 {f : Nat → Int32} (hk : k < 135) (h : kd k = 12) : (GW cy ad iv ar).set k (ad k, .inl (cy 0, ln k, .inl f)) = GW cy ad iv (va_up ar k f) := GW_set hk (by simp only [gE, h]; simp [va_up]) (fun _ _ _ => rfl) (fun j hj => ua_o hj)
end GWS
def gInj (ad : Nat → Nat) : Prop := ∀ i j, i < 135 → j < 135 → ad i = ad j → i = j
def gA (ad : Nat → Nat) (sz : Nat) : Nat → Prop := fun q => (∃ k, k < 135 ∧ q = ad k) ∨ sz ≤ q
theorem gD {cy : Nat → ClassId} {ad : Nat → Nat} {iv : gIv} {ar : gAr} {sz : Nat} (hI : gInj ad) : va_D (gA ad sz) (GW cy ad iv ar) := by
  have key : ∀ (k : Nat) (q : Nat × va_E), (GW cy ad iv ar)[k]? = some q → k < 135 ∧ q.1 = ad k := by
    intro k q h
    have hk : k < 135 := by rw [← GW_len (cy := cy) (ad := ad) (iv := iv) (ar := ar)]; exact (List.getElem?_eq_some_iff.mp h).1
    rw [GW_get hk] at h
    exact ⟨hk, by rw [← Option.some.inj h]⟩
  exact ⟨fun i j p q hi hj e => hI i j (key i p hi).1 (key j q hj).1 (by rw [← (key i p hi).2, ← (key j q hj).2, e]), fun k q h => Or.inl ⟨k, (key k q h).1, (key k q h).2⟩⟩
def gty (cy : Nat → ClassId) : List (ClassId × FieldType) := [(cy 0, .int), (cy 2, .object "FormationPlanner$Flight"), (cy 3, .object "FormationPlanner$Scene"), (cy 4, .object "FormationPlanner$TimesTo")]
def tBACK (j : Nat) : Int32 := [0, 2, 1, 4, 3, 6, 5].getD j 0
def tCOL (j : Nat) : Int32 := [0, 1, -1, 0, 0, 0, 0].getD j 0
def tROW (j : Nat) : Int32 := [0, 0, 0, 1, -1, 0, 0].getD j 0
def tLAY (j : Nat) : Int32 := [0, 0, 0, 0, 0, 1, -1].getD j 0
def gSt1 (n : String) (f : Nat → Int32) (A : Nat → Prop) (U : State) (H : Heap) : Prop := ∃ t : Nat, va_Z "FormationPlanner" n "[I" (.ref t) A U H ∧ va_T .int t 7 (fun j => .int (f j)) A U H
def gSt (A : Nat → Prop) (U : State) (H : Heap) : Prop := gSt1 "BACK" tBACK A U H ∧ gSt1 "COLUMN_STEP" tCOL A U H ∧ gSt1 "ROW_STEP" tROW A U H ∧ gSt1 "LAYER_STEP" tLAY A U H
theorem gSt1.moved {n : String} {f : Nat → Int32} {A : Nat → Prop} {u U : State} {H : Heap} (hvm : u.vm.Alike U.vm) (h : gSt1 n f A u H) : gSt1 n f A U H := by
  obtain ⟨t, h1, h2⟩ := h
  exact ⟨t, h1.moved hvm, h2.moved hvm⟩
theorem gSt.moved {A : Nat → Prop} {u U : State} {H : Heap} (hvm : u.vm.Alike U.vm) (h : gSt A u H) : gSt A U H := ⟨h.1.moved hvm, h.2.1.moved hvm, h.2.2.1.moved hvm, h.2.2.2.moved hvm⟩
theorem gSt1.pass {n : String} {f : Nat → Int32} {A B : Nat → Prop} {U : State} {H H1 : Heap} (h : gSt1 n f A U H) (hq : ∀ a : Nat, a < H.size → ¬ A a → H1[a]? = H[a]?) (hAB : ∀ q, B q → A q) : gSt1 n f B U H1 := by
  obtain ⟨t, h1, h2⟩ := h
  exact ⟨t, (h1.kept hq).narrow hAB, (h2.kept hq).narrow hAB⟩
theorem gSt.pass {A B : Nat → Prop} {U : State} {H H1 : Heap} (h : gSt A U H) (hq : ∀ a : Nat, a < H.size → ¬ A a → H1[a]? = H[a]?) (hAB : ∀ q, B q → A q) : gSt B U H1 := ⟨h.1.pass hq hAB, h.2.1.pass hq hAB, h.2.2.1.pass hq hAB, h.2.2.2.pass hq hAB⟩
def gNest : List Cond := [Cond.fieldLinkNest "FormationPlanner$Lattice" 38 "FormationPlanner" "BACK" "[I" "FormationPlanner", Cond.fieldLinkNest "FormationPlanner$Lattice" 41 "FormationPlanner" "COLUMN_STEP" "[I" "FormationPlanner", Cond.fieldLinkNest "FormationPlanner$Lattice" 44 "FormationPlanner" "ROW_STEP" "[I" "FormationPlanner", Cond.fieldLinkNest "FormationPlanner$Lattice" 47 "FormationPlanner" "LAYER_STEP" "[I" "FormationPlanner", Cond.fieldLinkNest "FormationPlanner$TimesTo" 59 "FormationPlanner" "BACK" "[I" "FormationPlanner", Cond.methodLinkNest RX10 11 yX8_init "FormationPlanner", Cond.methodLinkNest RX10 25 yX2_init "FormationPlanner", Cond.methodLinkNest RX2 17 yX5_init "FormationPlanner", Cond.methodLinkNest RX3 17 yX8_init "FormationPlanner", Cond.methodLinkNest RX4 23 yX10_isCell "FormationPlanner", Cond.methodLinkNest RX4 27 yX10_isAction "FormationPlanner", Cond.methodLinkNest RX4 50 yX10_isLayer "FormationPlanner", Cond.methodLinkNest RX6 52 yX1_init "FormationPlanner", Cond.methodLinkNest RX7 83 yX10_isCell "FormationPlanner", Cond.methodLinkNest RX8 20 yX5_init "FormationPlanner", Cond.methodLinkNest RX8 28 yX10_isCell "FormationPlanner", Cond.methodLinkNest RX9 25 yX10_isCell "FormationPlanner"]
def gNw (U : State) : Prop := ∀ w ∈ gNest, va_Nw w U
theorem gNw.warm {s U : State} (hW : s.WarmedH U.vm) (h : gNw s) : gNw U := by
  intro w hw
  have h1 := h w hw
  simp only [gNest, List.mem_cons, List.not_mem_nil, or_false] at hw
  rcases hw with rfl | rfl | rfl | rfl | rfl | rfl | rfl | rfl | rfl | rfl | rfl | rfl | rfl | rfl | rfl | rfl | rfl <;> first | exact h1.warmF hW | exact va_Nw.warmF hW h1 | exact va_Nw.warmM hW h1
theorem gNw.same {s U : State} (hW : s.vm = U.vm) (h : gNw s) : gNw U := by
  intro w hw
  have h1 := h w hw
  simp only [gNest, List.mem_cons, List.not_mem_nil, or_false] at hw
  rcases hw with rfl | rfl | rfl | rfl | rfl | rfl | rfl | rfl | rfl | rfl | rfl | rfl | rfl | rfl | rfl | rfl | rfl <;> exact va_Nw.same rfl hW h1
def gPre (D : va_G) (cy : Nat → ClassId) (ad : Nat → Nat) (sz : Nat) (iv : gIv) (ar : gAr) (U : State) : Prop := U.heap.size = sz ∧ va_P D vwCl (GW cy ad iv ar) U.heap ∧ va_K D vwCl (gty cy) U ∧ gSt (gA ad sz) U U.heap ∧ gNw U
def gPost (D : va_G) (cy : Nat → ClassId) (ad : Nat → Nat) (u : gIv × gAr) (t : State) : Prop := va_P D vwCl (GW cy ad u.1 u.2) t.heap
theorem gPre.blind {D : va_G} {cy : Nat → ClassId} {ad : Nat → Nat} {sz : Nat} {iv : gIv} {ar : gAr} {av : List Value} : FrameBlind (va_Pc av (gPre D cy ad sz iv ar)) := fun a U g mk q => by
  obtain ⟨q0, q1, q2, q3, q4, q5⟩ := q
  exact ⟨q0, q1, q2, va_K.moved (u := U) (U := U.calling g mk a) (Vm.Alike.refl U.vm) q3, gSt.moved (u := U) (U := U.calling g mk a) (Vm.Alike.refl U.vm) q4, gNw.same (s := U) (U := U.calling g mk a) rfl q5⟩
theorem gA_mono {ad : Nat → Nat} {a b : Nat} (h : a ≤ b) : ∀ q, gA ad b q → gA ad a q := fun q hq => hq.elim (fun z => Or.inl z) (fun z => Or.inr (Nat.le_trans h z))
section GC
variable {p : Program} {l : Launch} {e : Env} {R : Room} {s : State} {m : MethodId} {args : Array Value} {below : List Frame} {meth : Method} {c : Code} {H : Heap} {locs : List Loc} {cells slots : Nat} {Q : State → Prop} {D : va_G} {cy : Nat → ClassId} {ad : Nat → Nat} {iv : gIv} {ar : gAr} {pc : Nat} {ls : Array Slot} {rest st0 : List Value} {a : Array Value}
theorem gPre.at {U : State} (hP : va_P D vwCl (GW cy ad iv ar) H) (hK : va_K D vwCl (gty cy) s) (hSt : gSt (gA ad s.heap.size) s s.heap) (hNw : gNw s) (hS : va_S (gA ad s.heap.size) s.heap H locs) (hU : U.heap = H) (hW : s.WarmedH U.vm) : gPre D cy ad H.size iv ar U :=
  ⟨by rw [hU], by rw [hU]; exact hP, hK.moved hW.alike, by rw [hU]; exact (hSt.pass hS.2.1 (gA_mono hS.1)).moved hW.alike, hNw.warm hW⟩
theorem g_preV {k ci : Nat} {fs As : List Value} {q : vw_C} (hP : va_P D vwCl (GW cy ad iv ar) H) (hK : va_K D vwCl (gty cy) s) (hSt : gSt (gA ad s.heap.size) s s.heap) (hNw : gNw s) (hS : va_S (gA ad s.heap.size) s.heap H locs) (he : (GW cy ad iv ar)[k]? = some (ad k, .inr (ci, fs))) (hc : vwCl[ci]? = some q) : PreV s H q.1 (ad k) (va_Pc (.ref (ad k) :: As) (gPre D cy ad H.size iv ar)) As :=
  ⟨gPre.blind, va_recv hK hP hc he, fun U hU hW => ⟨rfl, gPre.at hP hK hSt hNw hS hU hW⟩⟩
theorem g_preS {As : List Value} (hP : va_P D vwCl (GW cy ad iv ar) H) (hK : va_K D vwCl (gty cy) s) (hSt : gSt (gA ad s.heap.size) s s.heap) (hNw : gNw s) (hS : va_S (gA ad s.heap.size) s.heap H locs) : PreS s H (va_Pc As (gPre D cy ad H.size iv ar)) As :=
  ⟨gPre.blind, fun U hU hW => ⟨rfl, gPre.at hP hK hSt hNw hS hU hW⟩⟩
theorem g_preT {As : List Value} : PreS s H (va_Pc As (fun _ => True)) As := ⟨fun a U g mk q => q, fun U _ _ => ⟨rfl, trivial⟩⟩
theorem g_calli {post : Int32 → gIv × gAr → Prop} (hr : va_Run p l e R s m args below meth c H locs cells slots 0 0 (F0 m pc ls st0) rest (va_Qi post (gPost D cy ad) (gA ad H.size) a) (gA ad H.size)) (hS : va_S (gA ad s.heap.size) s.heap H locs)
    (kk : ∀ (r : Int32) (iv1 : gIv) (ar1 : gAr) (H1 : Heap) (locs1 : List Loc), post r (iv1, ar1) → va_P D vwCl (GW cy ad iv1 ar1) H1 → va_S (gA ad s.heap.size) s.heap H1 locs1 → W p l e R s m args below meth c H1 locs1 cells slots Q (F0 m (pc + 3) ls (.int r :: rest))) : W p l e R s m args below meth c H locs cells slots Q (F0 m pc ls st0) :=
  va_calli hr hS (fun q _ h => gA_mono hS.1 q h) (gA_mono hS.1) (fun r u t H1 locs1 ht _ hp hb _ _ hS1 => kk r u.1 u.2 H1 locs1 hp (by rw [← ht]; exact hb) hS1)
theorem g_callv {post : gIv × gAr → Prop} (hr : va_Run p l e R s m args below meth c H locs cells slots 0 0 (F0 m pc ls st0) rest (va_Qv post (gPost D cy ad) (gA ad H.size) a) (gA ad H.size)) (hS : va_S (gA ad s.heap.size) s.heap H locs)
    (kk : ∀ (iv1 : gIv) (ar1 : gAr) (H1 : Heap) (locs1 : List Loc), post (iv1, ar1) → va_P D vwCl (GW cy ad iv1 ar1) H1 → va_S (gA ad s.heap.size) s.heap H1 locs1 → W p l e R s m args below meth c H1 locs1 cells slots Q (F0 m (pc + 3) ls rest)) : W p l e R s m args below meth c H locs cells slots Q (F0 m pc ls st0) :=
  va_callv hr hS (fun q _ h => gA_mono hS.1 q h) (gA_mono hS.1) (fun u t H1 locs1 ht _ hp hb _ _ hS1 => kk u.1 u.2 H1 locs1 hp (by rw [← ht]; exact hb) hS1)
theorem g_callSi {post : Int32 → Prop} (hr : va_Run p l e R s m args below meth c H locs cells slots 0 0 (F0 m pc ls st0) rest (vp_Si post a) (fun _ => False))
    (kk : ∀ r : Int32, post r → W p l e R s m args below meth c H locs cells slots Q (F0 m (pc + 3) ls (.int r :: rest))) : W p l e R s m args below meth c H locs cells slots Q (F0 m pc ls st0) := by
  intro T hT X
  obtain ⟨v, st₀, t, T', L, h0, X', hL, e1, -, ⟨r, hv, hp, hh⟩, st⟩ := hr T hT X
  cases hv
  obtain ⟨t2, a1, b1⟩ := kk r hp T' (by rw [e1, hh, h0]) (Stand.forget X' (fun q h => (hL q h).elim))
  exact ⟨t2, st t2 a1, b1⟩
theorem g_callSv {post : Unit → Prop} (hr : va_Run p l e R s m args below meth c H locs cells slots 0 0 (F0 m pc ls st0) rest (va_Sv post a) (fun _ => False))
    (kk : post () → W p l e R s m args below meth c H locs cells slots Q (F0 m (pc + 3) ls rest)) : W p l e R s m args below meth c H locs cells slots Q (F0 m pc ls st0) := by
  intro T hT X
  obtain ⟨v, st₀, t, T', L, h0, X', hL, e1, -, ⟨hv, hp, hh⟩, st⟩ := hr T hT X
  cases hv
  obtain ⟨t2, a1, b1⟩ := kk hp T' (by rw [e1, hh, h0]) (Stand.forget X' (fun q h => (hL q h).elim))
  exact ⟨t2, st t2 a1, b1⟩
theorem g_callSr {post : Nat → Prop} {adr : Nat → Value} (hr : va_Run p l e R s m args below meth c H locs cells slots 0 0 (F0 m pc ls st0) rest (va_Sr post adr a) (fun _ => False))
    (kk : ∀ r : Nat, post r → W p l e R s m args below meth c H locs cells slots Q (F0 m (pc + 3) ls (adr r :: rest))) : W p l e R s m args below meth c H locs cells slots Q (F0 m pc ls st0) := by
  intro T hT X
  obtain ⟨v, st₀, t, T', L, h0, X', hL, e1, -, ⟨r, hv, hp, hh⟩, st⟩ := hr T hT X
  cases hv
  obtain ⟨t2, a1, b1⟩ := kk r hp T' (by rw [e1, hh, h0]) (Stand.forget X' (fun q h => (hL q h).elim))
  exact ⟨t2, st t2 a1, b1⟩
end GC
-- Int32 as whole numbers
theorem i_add {x y z : Int32} {a b : Int} (hx : x.toInt = a) (hy : y.toInt = b) (h1 : -2147483648 ≤ a + b) (h2 : a + b < 2147483648) (e : z = x + y) : z.toInt = a + b := by
  subst e; subst hx; subst hy
  rw [Int32.toInt_add, Int.bmod_eq_of_le (by omega) (by omega)]
theorem i_sub {x y z : Int32} {a b : Int} (hx : x.toInt = a) (hy : y.toInt = b) (h1 : -2147483648 ≤ a - b) (h2 : a - b < 2147483648) (e : z = x - y) : z.toInt = a - b := by
  subst e; subst hx; subst hy
  rw [Int32.toInt_sub, Int.bmod_eq_of_le (by omega) (by omega)]
theorem i_mul {x y z : Int32} {a b : Int} (hx : x.toInt = a) (hy : y.toInt = b) (h1 : -2147483648 ≤ a * b) (h2 : a * b < 2147483648) (e : z = x * y) : z.toInt = a * b := by
  subst e; subst hx; subst hy
  rw [Int32.toInt_mul, Int.bmod_eq_of_le (by omega) (by omega)]
theorem i_rng (x : Int32) : -2147483648 ≤ x.toInt ∧ x.toInt < 2147483648 := ⟨by have := Int32.le_toInt x; omega, by have := Int32.toInt_lt x; omega⟩
theorem i_le {x y : Int32} (h : x ≤ y) : x.toInt ≤ y.toInt := Int32.le_iff_toInt_le.mp h
theorem i_nle {x y : Int32} (h : ¬ x ≤ y) : y.toInt < x.toInt := Int.not_le.mp (fun q => h (Int32.le_iff_toInt_le.mpr q))
theorem i_lt {x y : Int32} (h : x < y) : x.toInt < y.toInt := Int32.lt_iff_toInt_lt.mp h
theorem i_nlt {x y : Int32} (h : ¬ x < y) : y.toInt ≤ x.toInt := Int.not_lt.mp (fun q => h (Int32.lt_iff_toInt_lt.mpr q))
theorem i_eq {x y : Int32} (h : x = y) : x.toInt = y.toInt := congrArg _ h
theorem i_ne {x y : Int32} (h : ¬ x = y) : x.toInt ≠ y.toInt := fun q => h (Int32.toInt_inj.mp q)
theorem i_of {x y : Int32} (h : x.toInt = y.toInt) : x = y := Int32.toInt_inj.mp h
theorem i_le2 {x y : Int32} {a b : Int} (hx : x.toInt = a) (hy : y.toInt = b) (h : x ≤ y) : a ≤ b := by subst hx; subst hy; exact i_le h
theorem i_nle2 {x y : Int32} {a b : Int} (hx : x.toInt = a) (hy : y.toInt = b) (h : ¬ x ≤ y) : b < a := by subst hx; subst hy; exact i_nle h
theorem i_lt2 {x y : Int32} {a b : Int} (hx : x.toInt = a) (hy : y.toInt = b) (h : x < y) : a < b := by subst hx; subst hy; exact i_lt h
theorem i_nlt2 {x y : Int32} {a b : Int} (hx : x.toInt = a) (hy : y.toInt = b) (h : ¬ x < y) : b ≤ a := by subst hx; subst hy; exact i_nlt h
theorem i_eq2 {x y : Int32} {a b : Int} (hx : x.toInt = a) (hy : y.toInt = b) (h : x = y) : a = b := by subst hx; subst hy; exact i_eq h
theorem i_ne2 {x y : Int32} {a b : Int} (hx : x.toInt = a) (hy : y.toInt = b) (h : ¬ x = y) : a ≠ b := by subst hx; subst hy; exact i_ne h
theorem i_max {x y z : Int32} {a b : Int} (hx : x.toInt = a) (hy : y.toInt = b) (e : z = if x < y then y else x) : z.toInt = max a b := by
  subst e; subst hx; subst hy
  by_cases h : x < y
  · rw [if_pos h]; have := i_lt h; omega
  · rw [if_neg h]; have := i_nlt h; omega
theorem i_min {x y z : Int32} {a b : Int} (hx : x.toInt = a) (hy : y.toInt = b) (e : z = if y < x then y else x) : z.toInt = min a b := by
  subst e; subst hx; subst hy
  by_cases h : y < x
  · rw [if_pos h]; have := i_lt h; omega
  · rw [if_neg h]; have := i_nlt h; omega
theorem i_div {x y z : Int32} {a b : Int} (hx : x.toInt = a) (hy : y.toInt = b) (h0 : 0 ≤ a) (hb : 0 < b) (e : z = x / y) : z.toInt = a / b := by
  have h1 := i_rng x
  have h2 : a / b ≤ a := Int.ediv_le_self _ h0
  have h3 : 0 ≤ a / b := Int.ediv_nonneg h0 (by omega)
  subst e; subst hx; subst hy
  rw [Int32.toInt_div, Int.tdiv_eq_ediv_of_nonneg h0, Int.bmod_eq_of_le (by omega) (by omega)]
theorem i_rem {x y z : Int32} {a b : Int} (hx : x.toInt = a) (hy : y.toInt = b) (h0 : 0 ≤ a) (hb : 0 < b) (e : z = x - x / y * y) : z.toInt = a % b := by
  have h1 := i_rng x
  have h2 : a / b ≤ a := Int.ediv_le_self _ h0
  have h3 : 0 ≤ a / b := Int.ediv_nonneg h0 (by omega)
  have h4 : a / b * b ≤ a := Int.ediv_mul_le _ (by omega)
  have h5 : 0 ≤ a / b * b := Int.mul_nonneg h3 (by omega)
  have e1 : (x / y).toInt = a / b := i_div hx hy h0 hb rfl
  have e2 : (x / y * y).toInt = a / b * b := i_mul e1 hy (by omega) (by omega) rfl
  rw [i_sub hx e2 (by omega) (by omega) e, Int.emod_def, Int.mul_comm b]
theorem g_in {i : Int32} {n N : Nat} {a : Int} (hi : i.toInt = a) (h : n = N) (h0 : 0 ≤ a) (h1 : a < N) : vp_in i n := vp_in_iff.mpr ⟨by omega, by omega⟩
theorem g_le3 {n0 N a b : Nat} (h : n0 = N) (h2 : a + b ≤ N) : a + b ≤ n0 := by omega
theorem g_cl {x : Int32} {a : Int} {N : Nat} (hx : x.toInt = a) (h0 : 0 ≤ a) (h1 : a < N) : x.toNatClampNeg < N := by
  have : x.toNatClampNeg = x.toInt.toNat := rfl
  omega
theorem g_cN {x : Int32} {a : Int} (hx : x.toInt = a) : x.toNatClampNeg = a.toNat := by subst hx; rfl
theorem g_ne {x y : Int32} {a b : Int} (hx : x.toInt = a) (hy : y.toInt = b) (h : a ≠ b ∧ 0 ≤ a ∧ 0 ≤ b) : x.toNatClampNeg ≠ y.toNatClampNeg := by rw [g_cN hx, g_cN hy]; omega
theorem i_bool {x : Int32} (h : x.toInt = 0 ∨ x.toInt = 1) : narrow .boolean (.int x) = .int x := by
  rcases h with h | h
  · have e : x = 0 := i_of (h.trans (rfl : (0 : Int) = (0 : Int32).toInt))
    subst e; rfl
  · have e : x = 1 := i_of (h.trans (rfl : (1 : Int) = (1 : Int32).toInt))
    subst e; rfl
theorem g_un {f : Nat → Int32} {i j : Nat} {x : Int32} (h : j ≠ i) : upd f i x j = f j := pk_un h
theorem g_ch96 {j : Nat} (h : j < 6) : ln 96 + 3 * j < 135 ∧ kd (ln 96 + 3 * j) = 1 := (by decide +kernel : ∀ j, j < 6 → (ln 96 + 3 * j < 135 ∧ kd (ln 96 + 3 * j) = 1)) j h
theorem g_ch97 {j : Nat} (h : j < 6) : ln 97 + 3 * j < 135 ∧ kd (ln 97 + 3 * j) = 1 := (by decide +kernel : ∀ j, j < 6 → (ln 97 + 3 * j < 135 ∧ kd (ln 97 + 3 * j) = 1)) j h
theorem g_ch9 {j : Nat} (h : j < 8) : ln 9 + 7 * j < 135 ∧ kd (ln 9 + 7 * j) = 8 := (by decide +kernel : ∀ j, j < 8 → (ln 9 + 7 * j < 135 ∧ kd (ln 9 + 7 * j) = 8)) j h
theorem g_ch75 {j : Nat} (h : j < 6) : ln 75 + 2 * j < 135 ∧ kd (ln 75 + 2 * j) = 9 := (by decide +kernel : ∀ j, j < 6 → (ln 75 + 2 * j < 135 ∧ kd (ln 75 + 2 * j) = 9)) j h
-- the class's state behind its constructor
def nbN (c a : Nat) : Int := if a = 1 then (if c % 6 < 5 then c + 1 else -1) else if a = 2 then (if 0 < c % 6 then (c : Int) - 1 else -1) else if a = 3 then (if c / 6 % 6 < 5 then c + 6 else -1) else if a = 4 then (if 0 < c / 6 % 6 then (c : Int) - 6 else -1) else if a = 5 then (if c < 72 then c + 36 else -1) else if a = 6 then (if 36 ≤ c then (c : Int) - 36 else -1) else c
def gFr (iv : gIv) (ar : gAr) : Prop := (∀ k j, ¬ (k = 90 ∧ j = 8) → iv k j = 0) ∧ iv 90 8 = -1 ∧ (∀ k i, k ≠ 71 → ar k i = 0) ∧ ∀ c a, c < 108 → a < 7 → (ar 71 (c * 7 + a)).toInt = nbN c a
def gLat (ar : gAr) : Prop := (∀ i, (ar 2 i).toInt = 0) ∧ (∀ i, (ar 3 i).toInt = 0) ∧ ∀ c a, c < 108 → a < 7 → (ar 71 (c * 7 + a)).toInt = nbN c a
theorem gLat.of {ar ar2 : gAr} (h : gLat ar) (h2 : ar2 2 = ar 2) (h3 : ar2 3 = ar 3) (h7 : ar2 71 = ar 71) : gLat ar2 := ⟨fun i => by rw [h2]; exact h.1 i, fun i => by rw [h3]; exact h.2.1 i, fun c a hc ha => by rw [h7]; exact h.2.2 c a hc ha⟩
theorem gFr.lat {iv : gIv} {ar : gAr} (h : gFr iv ar) : gLat ar := ⟨fun i => by rw [h.2.2.1 2 i (by decide)]; rfl, fun i => by rw [h.2.2.1 3 i (by decide)]; rfl, h.2.2.2⟩
theorem g_t9 {k : Nat} (hk : k < 135) (h : kd k = 9) : 72 ≤ k := (by decide +kernel : ∀ k, k < 135 → kd k = 9 → 72 ≤ k) k hk h
theorem fr0 {iv : gIv} {ar : gAr} (h : gFr iv ar) (k j : Nat) (hn : ¬ (k = 90 ∧ j = 8)) : (iv k j).toInt = 0 := by rw [h.1 k j hn]; rfl
theorem frm {iv : gIv} {ar : gAr} (h : gFr iv ar) : (iv 90 8).toInt = -1 := by rw [h.2.1]; rfl
theorem fra {iv : gIv} {ar : gAr} (h : gFr iv ar) (k i : Nat) (hn : k ≠ 71) : (ar k i).toInt = 0 := by rw [h.2.2.1 k i hn]; rfl
theorem fru {iv : gIv} {ar : gAr} (h : gFr iv ar) (k j : Nat) (hn : ¬ (k = 90 ∧ j = 8)) {x : Int32} (hx : x.toInt = 0) : gFr (u2 iv k j x) ar := by
  have hx0 : x = 0 := i_of (hx.trans (rfl : (0 : Int) = (0 : Int32).toInt))
  subst hx0
  refine ⟨fun a b hab => ?_, ?_, h.2.2.1, h.2.2.2⟩
  · by_cases q : a = k ∧ b = j
    · rw [q.1, q.2, u2_s]
    · rw [u2_o q, h.1 a b hab]
  · rw [u2_o (fun q => hn ⟨q.1.symm, q.2.symm⟩), h.2.1]
theorem i_l0 : (0 : Int32).toInt = 0 := rfl
theorem i_l1 : (1 : Int32).toInt = 1 := rfl
theorem i_m1 : (-1 : Int32).toInt = -1 := rfl
theorem i_m2 : (-2 : Int32).toInt = -2 := rfl
theorem i_m3 : (-3 : Int32).toInt = -3 := rfl
theorem i_m4 : (-4 : Int32).toInt = -4 := rfl
theorem i_m5 : (-5 : Int32).toInt = -5 := rfl
theorem i_m6 : (-6 : Int32).toInt = -6 := rfl
theorem i_m7 : (-7 : Int32).toInt = -7 := rfl
theorem g_ln {k : Nat} (hk : k < 135) {v : Int32} (e : v = Int32.ofNat (ln k)) : v.toInt = (ln k : Int) ∧ (ln k : Int) ≤ 6588 := by
  have h := (by decide +kernel : ∀ k, k < 135 → ln k ≤ 6588) k hk
  subst e
  exact ⟨nI_toInt (n := ln k) (by omega), by omega⟩
theorem g_pl_in {k : Nat} (hk : k < 135) (h : kd k = 8) {d : Nat} (hd : d < 7) (h5 : kd (k + d) = 5) : d = 3 ∨ d = 5 := (by decide +kernel : ∀ k, k < 135 → kd k = 8 → ∀ d, d < 7 → kd (k + d) = 5 → d = 3 ∨ d = 5) k hk h d hd h5
theorem i_fmod {a b r : Int} (hr : r = a.tmod 8) (hb : b = 8) : (0 ≤ a → 0 ≤ r ∧ r < 8 ∧ r = a % 8) ∧ (a < 0 → -8 < r ∧ r ≤ 0) := by
  subst hr; subst hb
  refine ⟨fun h => ⟨Int.tmod_nonneg _ h, Int.tmod_lt_of_pos _ (by decide), by rw [Int.tmod_eq_emod_of_nonneg h]⟩, fun h => ⟨by have := Int.lt_tmod_of_pos a (b := 8) (by decide); omega, ?_⟩⟩
  have := Int.neg_tmod (a := a) (b := 8)
  have h2 := Int.tmod_nonneg (a := -a) 8 (by omega)
  omega
theorem i_trem {x y z : Int32} (hy : y.toInt = 8) (e : z = x - x / y * y) : z.toInt = x.toInt.tmod 8 := by
  have h1 := i_rng x
  have e0 : y = 8 := i_of (hy.trans (rfl : (8 : Int) = (8 : Int32).toInt))
  subst e0
  have e1 : (x / 8).toInt = x.toInt.tdiv 8 := by
    rw [Int32.toInt_div, show (8 : Int32).toInt = 8 from rfl]
    rcases Int.le_total 0 x.toInt with h | h
    · rw [Int.tdiv_eq_ediv_of_nonneg h, Int.bmod_eq_of_le (by omega) (by omega)]
    · rw [show x.toInt.tdiv 8 = -((-x.toInt).tdiv 8) from by rw [Int.neg_tdiv, Int.neg_neg], Int.tdiv_eq_ediv_of_nonneg (by omega), Int.bmod_eq_of_le (by omega) (by omega)]
  have h2 : x.toInt.tmod 8 = x.toInt - x.toInt.tdiv 8 * 8 := by rw [Int.tmod_def, Int.mul_comm]
  have h3 : -8 < x.toInt.tmod 8 ∧ x.toInt.tmod 8 < 8 := ⟨by have := Int.lt_tmod_of_pos x.toInt (b := 8) (by decide); omega, Int.tmod_lt_of_pos _ (by decide)⟩
  have hf := i_fmod (a := x.toInt) (r := x.toInt.tmod 8) rfl (rfl : (8 : Int) = 8)
  have e2 : (x / 8 * 8).toInt = x.toInt.tdiv 8 * 8 := i_mul e1 (rfl : (8 : Int32).toInt = 8) (by omega) (by omega) rfl
  rw [i_sub rfl e2 (by omega) (by omega) e, h2]
theorem i_xneg {x y : Int32} (hy : 0 ≤ y.toInt) : (x ^^^ y).toInt < 0 ↔ x.toInt < 0 := by
  have h : ∀ z : Int32, z.toBitVec.msb = decide (z.toInt < 0) := fun z => BitVec.msb_eq_toInt
  have hy' : y.toBitVec.msb = false := by rw [h]; exact decide_eq_false (by omega)
  have hz : (x ^^^ y).toBitVec.msb = x.toBitVec.msb := by rw [Int32.toBitVec_xor, BitVec.msb_xor, hy', Bool.xor_false]
  rw [h, h] at hz
  constructor <;> intro q
  · exact of_decide_eq_true (hz ▸ decide_eq_true q)
  · exact of_decide_eq_true (hz.symm ▸ decide_eq_true q)
theorem g_k1_0 {k : Nat} (hk : k < 135) (h : kd k = 1) : k + 1 < 135 ∧ kd (k + 1) = 12 := (by decide +kernel : ∀ k, k < 135 → kd k = 1 → (k + 1 < 135 ∧ kd (k + 1) = 12)) k hk h
theorem g_l1_0 {k : Nat} (hk : k < 135) (h : kd k = 1) : ln (k + 1) = 61 := (by decide +kernel : ∀ k, k < 135 → kd k = 1 → ln (k + 1) = 61) k hk h
theorem g_k1_1 {k : Nat} (hk : k < 135) (h : kd k = 1) : k + 2 < 135 ∧ kd (k + 2) = 12 := (by decide +kernel : ∀ k, k < 135 → kd k = 1 → (k + 2 < 135 ∧ kd (k + 2) = 12)) k hk h
theorem g_l1_1 {k : Nat} (hk : k < 135) (h : kd k = 1) : ln (k + 2) = 61 := (by decide +kernel : ∀ k, k < 135 → kd k = 1 → ln (k + 2) = 61) k hk h
theorem g_k5_0 {k : Nat} (hk : k < 135) (h : kd k = 5) : k + 1 < 135 ∧ kd (k + 1) = 12 := (by decide +kernel : ∀ k, k < 135 → kd k = 5 → (k + 1 < 135 ∧ kd (k + 1) = 12)) k hk h
theorem g_l5_0 {k : Nat} (hk : k < 135) (h : kd k = 5) : ln (k + 1) = 6 := (by decide +kernel : ∀ k, k < 135 → kd k = 5 → ln (k + 1) = 6) k hk h
theorem g_k8_0 {k : Nat} (hk : k < 135) (h : kd k = 8) : k + 1 < 135 ∧ kd (k + 1) = 12 := (by decide +kernel : ∀ k, k < 135 → kd k = 8 → (k + 1 < 135 ∧ kd (k + 1) = 12)) k hk h
theorem g_l8_0 {k : Nat} (hk : k < 135) (h : kd k = 8) : ln (k + 1) = 3 := (by decide +kernel : ∀ k, k < 135 → kd k = 8 → ln (k + 1) = 3) k hk h
theorem g_k8_1 {k : Nat} (hk : k < 135) (h : kd k = 8) : k + 2 < 135 ∧ kd (k + 2) = 12 := (by decide +kernel : ∀ k, k < 135 → kd k = 8 → (k + 2 < 135 ∧ kd (k + 2) = 12)) k hk h
theorem g_l8_1 {k : Nat} (hk : k < 135) (h : kd k = 8) : ln (k + 2) = 108 := (by decide +kernel : ∀ k, k < 135 → kd k = 8 → ln (k + 2) = 108) k hk h
theorem g_k8_2 {k : Nat} (hk : k < 135) (h : kd k = 8) : k + 3 < 135 ∧ kd (k + 3) = 5 := (by decide +kernel : ∀ k, k < 135 → kd k = 8 → (k + 3 < 135 ∧ kd (k + 3) = 5)) k hk h
theorem g_k8_3 {k : Nat} (hk : k < 135) (h : kd k = 8) : k + 5 < 135 ∧ kd (k + 5) = 5 := (by decide +kernel : ∀ k, k < 135 → kd k = 8 → (k + 5 < 135 ∧ kd (k + 5) = 5)) k hk h
theorem g_k9_1 {k : Nat} (hk : k < 135) (h : kd k = 9) : k + 1 < 135 ∧ kd (k + 1) = 12 := (by decide +kernel : ∀ k, k < 135 → kd k = 9 → (k + 1 < 135 ∧ kd (k + 1) = 12)) k hk h
theorem g_l9_1 {k : Nat} (hk : k < 135) (h : kd k = 9) : ln (k + 1) = 108 := (by decide +kernel : ∀ k, k < 135 → kd k = 9 → ln (k + 1) = 108) k hk h
