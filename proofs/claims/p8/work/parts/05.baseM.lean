/-! The world of the reference: 19 cells: the object, its rows. -/
def mkl : List (Nat × Nat) := [(11, 0), (12, 126), (12, 1008), (12, 60), (12, 60), (12, 11664), (13, 108), (12, 6), (12, 6), (12, 366), (12, 366), (12, 6), (12, 6), (12, 6), (12, 6), (12, 6588), (13, 6588), (13, 6588), (12, 1800)]
def mk (k : Nat) : Nat := (mkl.getD k (99, 0)).1
def ml (k : Nat) : Nat := (mkl.getD k (99, 0)).2
def mE (cy : Nat → ClassId) (ad : Nat → Nat) (iv : gIv) (ar : gAr) (k : Nat) : va_E := match mk k with
  | 11 => .inr (11, [.ref (ad 1), .ref (ad 2), .ref (ad 3), .int (iv k 3), .int (iv k 4), .int (iv k 5), .ref (ad 4), .ref (ad 5), .ref (ad 6), .ref (ad 7), .ref (ad 8), .int (iv k 11), .int (iv k 12), .int (iv k 13), .int (iv k 14), .int (iv k 15), .int (iv k 16), .int (iv k 17), .int (iv k 18), .ref (ad 9), .ref (ad 10), .ref (ad 11), .ref (ad 12), .ref (ad 13), .ref (ad 14), .int (iv k 25), .ref (ad 15), .ref (ad 16), .ref (ad 17), .ref (ad 18)])
  | 12 => .inl (cy 0, ml k, .inl (ar k))
  | 13 => .inl (cy 1, ml k, .inl (ar k))
  | _ => .inr (99, [])
def MW (cy : Nat → ClassId) (ad : Nat → Nat) (iv : gIv) (ar : gAr) : va_W := (List.range 19).map (fun k => (ad k, mE cy ad iv ar k))
section MWS
variable {cy : Nat → ClassId} {ad : Nat → Nat} {iv iv2 : gIv} {ar ar2 : gAr} {k : Nat} {x : Int32}
theorem MW_get (hk : k < 19) : (MW cy ad iv ar)[k]? = some (ad k, mE cy ad iv ar k) := by simp [MW, hk]
theorem MW_len : (MW cy ad iv ar).length = 19 := by simp [MW]
theorem mE_ext (h1 : ∀ b, iv2 k b = iv k b) (h2 : ar2 k = ar k) : mE cy ad iv2 ar2 k = mE cy ad iv ar k := by simp only [mE, h1, h2]
theorem MW_set (hk : k < 19) {e : va_E} (he : e = mE cy ad iv2 ar2 k) (h1 : ∀ j b, j ≠ k → iv2 j b = iv j b) (h2 : ∀ j, j ≠ k → ar2 j = ar j) : (MW cy ad iv ar).set k (ad k, e) = MW cy ad iv2 ar2 := by
  subst he
  refine List.ext_getElem? (fun j => ?_)
  rw [List.getElem?_set]
  by_cases hj : k = j
  · subst hj
    rw [if_pos rfl, if_pos (by rw [MW_len]; exact hk), MW_get hk]
  · rw [if_neg hj]
    by_cases hl : j < 19
    · rw [MW_get hl, MW_get hl, mE_ext (fun b => h1 j b (fun q => hj q.symm)) (h2 j (fun q => hj q.symm))]
    · rw [List.getElem?_eq_none (by rw [MW_len]; omega), List.getElem?_eq_none (by rw [MW_len]; omega)]
theorem m_at11 (hk : k < 19) (h : mk k = 11) : (MW cy ad iv ar)[k]? = some (ad k, .inr (11, [.ref (ad 1), .ref (ad 2), .ref (ad 3), .int (iv k 3), .int (iv k 4), .int (iv k 5), .ref (ad 4), .ref (ad 5), .ref (ad 6), .ref (ad 7), .ref (ad 8), .int (iv k 11), .int (iv k 12), .int (iv k 13), .int (iv k 14), .int (iv k 15), .int (iv k 16), .int (iv k 17), .int (iv k 18), .ref (ad 9), .ref (ad 10), .ref (ad 11), .ref (ad 12), .ref (ad 13), .ref (ad 14), .int (iv k 25), .ref (ad 15), .ref (ad 16), .ref (ad 17), .ref (ad 18)])) := by rw [MW_get hk]; simp only [mE, h]
theorem m_at12 (hk : k < 19) (h : mk k = 12) : (MW cy ad iv ar)[k]? = some (ad k, .inl (cy 0, ml k, .inl (ar k))) := by rw [MW_get hk]; simp only [mE, h]
theorem m_at13 (hk : k < 19) (h : mk k = 13) : (MW cy ad iv ar)[k]? = some (ad k, .inl (cy 1, ml k, .inl (ar k))) := by rw [MW_get hk]; simp only [mE, h]
theorem m_pt11_3 (hk : k < 19) (h : mk k = 11) : (MW cy ad iv ar).set k (ad k, .inr (11, [.ref (ad 1), .ref (ad 2), .ref (ad 3), .int x, .int (iv k 4), .int (iv k 5), .ref (ad 4), .ref (ad 5), .ref (ad 6), .ref (ad 7), .ref (ad 8), .int (iv k 11), .int (iv k 12), .int (iv k 13), .int (iv k 14), .int (iv k 15), .int (iv k 16), .int (iv k 17), .int (iv k 18), .ref (ad 9), .ref (ad 10), .ref (ad 11), .ref (ad 12), .ref (ad 13), .ref (ad 14), .int (iv k 25), .ref (ad 15), .ref (ad 16), .ref (ad 17), .ref (ad 18)])) = MW cy ad (u2 iv k 3 x) ar := MW_set hk (by simp only [mE, h]; simp [u2]) (fun j b hj => u2_o (fun q => hj q.1)) (fun _ _ => rfl)
theorem m_pt11_4 (hk : k < 19) (h : mk k = 11) : (MW cy ad iv ar).set k (ad k, .inr (11, [.ref (ad 1), .ref (ad 2), .ref (ad 3), .int (iv k 3), .int x, .int (iv k 5), .ref (ad 4), .ref (ad 5), .ref (ad 6), .ref (ad 7), .ref (ad 8), .int (iv k 11), .int (iv k 12), .int (iv k 13), .int (iv k 14), .int (iv k 15), .int (iv k 16), .int (iv k 17), .int (iv k 18), .ref (ad 9), .ref (ad 10), .ref (ad 11), .ref (ad 12), .ref (ad 13), .ref (ad 14), .int (iv k 25), .ref (ad 15), .ref (ad 16), .ref (ad 17), .ref (ad 18)])) = MW cy ad (u2 iv k 4 x) ar := MW_set hk (by simp only [mE, h]; simp [u2]) (fun j b hj => u2_o (fun q => hj q.1)) (fun _ _ => rfl)
theorem m_pt11_5 (hk : k < 19) (h : mk k = 11) : (MW cy ad iv ar).set k (ad k, .inr (11, [.ref (ad 1), .ref (ad 2), .ref (ad 3), .int (iv k 3), .int (iv k 4), .int x, .ref (ad 4), .ref (ad 5), .ref (ad 6), .ref (ad 7), .ref (ad 8), .int (iv k 11), .int (iv k 12), .int (iv k 13), .int (iv k 14), .int (iv k 15), .int (iv k 16), .int (iv k 17), .int (iv k 18), .ref (ad 9), .ref (ad 10), .ref (ad 11), .ref (ad 12), .ref (ad 13), .ref (ad 14), .int (iv k 25), .ref (ad 15), .ref (ad 16), .ref (ad 17), .ref (ad 18)])) = MW cy ad (u2 iv k 5 x) ar := MW_set hk (by simp only [mE, h]; simp [u2]) (fun j b hj => u2_o (fun q => hj q.1)) (fun _ _ => rfl)
theorem m_pt11_11 (hk : k < 19) (h : mk k = 11) : (MW cy ad iv ar).set k (ad k, .inr (11, [.ref (ad 1), .ref (ad 2), .ref (ad 3), .int (iv k 3), .int (iv k 4), .int (iv k 5), .ref (ad 4), .ref (ad 5), .ref (ad 6), .ref (ad 7), .ref (ad 8), .int x, .int (iv k 12), .int (iv k 13), .int (iv k 14), .int (iv k 15), .int (iv k 16), .int (iv k 17), .int (iv k 18), .ref (ad 9), .ref (ad 10), .ref (ad 11), .ref (ad 12), .ref (ad 13), .ref (ad 14), .int (iv k 25), .ref (ad 15), .ref (ad 16), .ref (ad 17), .ref (ad 18)])) = MW cy ad (u2 iv k 11 x) ar := MW_set hk (by simp only [mE, h]; simp [u2]) (fun j b hj => u2_o (fun q => hj q.1)) (fun _ _ => rfl)
theorem m_pt11_12 (hk : k < 19) (h : mk k = 11) : (MW cy ad iv ar).set k (ad k, .inr (11, [.ref (ad 1), .ref (ad 2), .ref (ad 3), .int (iv k 3), .int (iv k 4), .int (iv k 5), .ref (ad 4), .ref (ad 5), .ref (ad 6), .ref (ad 7), .ref (ad 8), .int (iv k 11), .int x, .int (iv k 13), .int (iv k 14), .int (iv k 15), .int (iv k 16), .int (iv k 17), .int (iv k 18), .ref (ad 9), .ref (ad 10), .ref (ad 11), .ref (ad 12), .ref (ad 13), .ref (ad 14), .int (iv k 25), .ref (ad 15), .ref (ad 16), .ref (ad 17), .ref (ad 18)])) = MW cy ad (u2 iv k 12 x) ar := MW_set hk (by simp only [mE, h]; simp [u2]) (fun j b hj => u2_o (fun q => hj q.1)) (fun _ _ => rfl)
theorem m_pt11_13 (hk : k < 19) (h : mk k = 11) : (MW cy ad iv ar).set k (ad k, .inr (11, [.ref (ad 1), .ref (ad 2), .ref (ad 3), .int (iv k 3), .int (iv k 4), .int (iv k 5), .ref (ad 4), .ref (ad 5), .ref (ad 6), .ref (ad 7), .ref (ad 8), .int (iv k 11), .int (iv k 12), .int x, .int (iv k 14), .int (iv k 15), .int (iv k 16), .int (iv k 17), .int (iv k 18), .ref (ad 9), .ref (ad 10), .ref (ad 11), .ref (ad 12), .ref (ad 13), .ref (ad 14), .int (iv k 25), .ref (ad 15), .ref (ad 16), .ref (ad 17), .ref (ad 18)])) = MW cy ad (u2 iv k 13 x) ar := MW_set hk (by simp only [mE, h]; simp [u2]) (fun j b hj => u2_o (fun q => hj q.1)) (fun _ _ => rfl)
theorem m_pt11_14 (hk : k < 19) (h : mk k = 11) : (MW cy ad iv ar).set k (ad k, .inr (11, [.ref (ad 1), .ref (ad 2), .ref (ad 3), .int (iv k 3), .int (iv k 4), .int (iv k 5), .ref (ad 4), .ref (ad 5), .ref (ad 6), .ref (ad 7), .ref (ad 8), .int (iv k 11), .int (iv k 12), .int (iv k 13), .int x, .int (iv k 15), .int (iv k 16), .int (iv k 17), .int (iv k 18), .ref (ad 9), .ref (ad 10), .ref (ad 11), .ref (ad 12), .ref (ad 13), .ref (ad 14), .int (iv k 25), .ref (ad 15), .ref (ad 16), .ref (ad 17), .ref (ad 18)])) = MW cy ad (u2 iv k 14 x) ar := MW_set hk (by simp only [mE, h]; simp [u2]) (fun j b hj => u2_o (fun q => hj q.1)) (fun _ _ => rfl)
theorem m_pt11_15 (hk : k < 19) (h : mk k = 11) : (MW cy ad iv ar).set k (ad k, .inr (11, [.ref (ad 1), .ref (ad 2), .ref (ad 3), .int (iv k 3), .int (iv k 4), .int (iv k 5), .ref (ad 4), .ref (ad 5), .ref (ad 6), .ref (ad 7), .ref (ad 8), .int (iv k 11), .int (iv k 12), .int (iv k 13), .int (iv k 14), .int x, .int (iv k 16), .int (iv k 17), .int (iv k 18), .ref (ad 9), .ref (ad 10), .ref (ad 11), .ref (ad 12), .ref (ad 13), .ref (ad 14), .int (iv k 25), .ref (ad 15), .ref (ad 16), .ref (ad 17), .ref (ad 18)])) = MW cy ad (u2 iv k 15 x) ar := MW_set hk (by simp only [mE, h]; simp [u2]) (fun j b hj => u2_o (fun q => hj q.1)) (fun _ _ => rfl)
theorem m_pt11_16 (hk : k < 19) (h : mk k = 11) : (MW cy ad iv ar).set k (ad k, .inr (11, [.ref (ad 1), .ref (ad 2), .ref (ad 3), .int (iv k 3), .int (iv k 4), .int (iv k 5), .ref (ad 4), .ref (ad 5), .ref (ad 6), .ref (ad 7), .ref (ad 8), .int (iv k 11), .int (iv k 12), .int (iv k 13), .int (iv k 14), .int (iv k 15), .int x, .int (iv k 17), .int (iv k 18), .ref (ad 9), .ref (ad 10), .ref (ad 11), .ref (ad 12), .ref (ad 13), .ref (ad 14), .int (iv k 25), .ref (ad 15), .ref (ad 16), .ref (ad 17), .ref (ad 18)])) = MW cy ad (u2 iv k 16 x) ar := MW_set hk (by simp only [mE, h]; simp [u2]) (fun j b hj => u2_o (fun q => hj q.1)) (fun _ _ => rfl)
theorem m_pt11_17 (hk : k < 19) (h : mk k = 11) : (MW cy ad iv ar).set k (ad k, .inr (11, [.ref (ad 1), .ref (ad 2), .ref (ad 3), .int (iv k 3), .int (iv k 4), .int (iv k 5), .ref (ad 4), .ref (ad 5), .ref (ad 6), .ref (ad 7), .ref (ad 8), .int (iv k 11), .int (iv k 12), .int (iv k 13), .int (iv k 14), .int (iv k 15), .int (iv k 16), .int x, .int (iv k 18), .ref (ad 9), .ref (ad 10), .ref (ad 11), .ref (ad 12), .ref (ad 13), .ref (ad 14), .int (iv k 25), .ref (ad 15), .ref (ad 16), .ref (ad 17), .ref (ad 18)])) = MW cy ad (u2 iv k 17 x) ar := MW_set hk (by simp only [mE, h]; simp [u2]) (fun j b hj => u2_o (fun q => hj q.1)) (fun _ _ => rfl)
theorem m_pt11_18 (hk : k < 19) (h : mk k = 11) : (MW cy ad iv ar).set k (ad k, .inr (11, [.ref (ad 1), .ref (ad 2), .ref (ad 3), .int (iv k 3), .int (iv k 4), .int (iv k 5), .ref (ad 4), .ref (ad 5), .ref (ad 6), .ref (ad 7), .ref (ad 8), .int (iv k 11), .int (iv k 12), .int (iv k 13), .int (iv k 14), .int (iv k 15), .int (iv k 16), .int (iv k 17), .int x, .ref (ad 9), .ref (ad 10), .ref (ad 11), .ref (ad 12), .ref (ad 13), .ref (ad 14), .int (iv k 25), .ref (ad 15), .ref (ad 16), .ref (ad 17), .ref (ad 18)])) = MW cy ad (u2 iv k 18 x) ar := MW_set hk (by simp only [mE, h]; simp [u2]) (fun j b hj => u2_o (fun q => hj q.1)) (fun _ _ => rfl)
theorem m_pt11_25 (hk : k < 19) (h : mk k = 11) : (MW cy ad iv ar).set k (ad k, .inr (11, [.ref (ad 1), .ref (ad 2), .ref (ad 3), .int (iv k 3), .int (iv k 4), .int (iv k 5), .ref (ad 4), .ref (ad 5), .ref (ad 6), .ref (ad 7), .ref (ad 8), .int (iv k 11), .int (iv k 12), .int (iv k 13), .int (iv k 14), .int (iv k 15), .int (iv k 16), .int (iv k 17), .int (iv k 18), .ref (ad 9), .ref (ad 10), .ref (ad 11), .ref (ad 12), .ref (ad 13), .ref (ad 14), .int x, .ref (ad 15), .ref (ad 16), .ref (ad 17), .ref (ad 18)])) = MW cy ad (u2 iv k 25 x) ar := MW_set hk (by simp only [mE, h]; simp [u2]) (fun j b hj => u2_o (fun q => hj q.1)) (fun _ _ => rfl)
theorem m_pt12 {f : Nat → Int32} (hk : k < 19) (h : mk k = 12) : (MW cy ad iv ar).set k (ad k, .inl (cy 0, ml k, .inl f)) = MW cy ad iv (va_up ar k f) := MW_set hk (by simp only [mE, h]; simp [va_up]) (fun _ _ _ => rfl) (fun j hj => ua_o hj)
theorem m_pt13 {f : Nat → Int32} (hk : k < 19) (h : mk k = 13) : (MW cy ad iv ar).set k (ad k, .inl (cy 1, ml k, .inl f)) = MW cy ad iv (va_up ar k f) := MW_set hk (by simp only [mE, h]; simp [va_up]) (fun _ _ _ => rfl) (fun j hj => ua_o hj)
end MWS
def mInj (ad : Nat → Nat) : Prop := ∀ i j, i < 19 → j < 19 → ad i = ad j → i = j
def mA (ad : Nat → Nat) (sz : Nat) : Nat → Prop := fun q => (∃ k, k < 19 ∧ q = ad k) ∨ sz ≤ q
theorem mD {cy : Nat → ClassId} {ad : Nat → Nat} {iv : gIv} {ar : gAr} {sz : Nat} (hI : mInj ad) : va_D (mA ad sz) (MW cy ad iv ar) := by
  have key : ∀ (k : Nat) (q : Nat × va_E), (MW cy ad iv ar)[k]? = some q → k < 19 ∧ q.1 = ad k := by
    intro k q h
    have hk : k < 19 := by rw [← MW_len (cy := cy) (ad := ad) (iv := iv) (ar := ar)]; exact (List.getElem?_eq_some_iff.mp h).1
    rw [MW_get hk] at h
    exact ⟨hk, by rw [← Option.some.inj h]⟩
  exact ⟨fun i j p q hi hj e => hI i j (key i p hi).1 (key j q hj).1 (by rw [← (key i p hi).2, ← (key j q hj).2, e]), fun k q h => Or.inl ⟨k, (key k q h).1, (key k q h).2⟩⟩
def mty (cy : Nat → ClassId) : List (ClassId × FieldType) := [(cy 0, .int), (cy 1, .boolean)]
def mPre (D : va_G) (cy : Nat → ClassId) (ad : Nat → Nat) (sz : Nat) (iv : gIv) (ar : gAr) (U : State) : Prop := U.heap.size = sz ∧ va_P D vwCl (MW cy ad iv ar) U.heap ∧ va_K D vwCl (mty cy) U ∧ True ∧ True
def mPost (D : va_G) (cy : Nat → ClassId) (ad : Nat → Nat) (u : gIv × gAr) (t : State) : Prop := va_P D vwCl (MW cy ad u.1 u.2) t.heap
theorem mPre.blind {D : va_G} {cy : Nat → ClassId} {ad : Nat → Nat} {sz : Nat} {iv : gIv} {ar : gAr} {av : List Value} : FrameBlind (va_Pc av (mPre D cy ad sz iv ar)) := fun a U g mk q => by
  obtain ⟨q0, q1, q2, q3, q4, q5⟩ := q
  exact ⟨q0, q1, q2, va_K.moved (u := U) (U := U.calling g mk a) (Vm.Alike.refl U.vm) q3, q4, q5⟩
theorem mA_mono {ad : Nat → Nat} {a b : Nat} (h : a ≤ b) : ∀ q, mA ad b q → mA ad a q := fun q hq => hq.elim (fun z => Or.inl z) (fun z => Or.inr (Nat.le_trans h z))
section MC
variable {p : Program} {l : Launch} {e : Env} {R : Room} {s : State} {m : MethodId} {args : Array Value} {below : List Frame} {meth : Method} {c : Code} {H : Heap} {locs : List Loc} {cells slots : Nat} {Q : State → Prop} {D : va_G} {cy : Nat → ClassId} {ad : Nat → Nat} {iv : gIv} {ar : gAr} {pc : Nat} {ls : Array Slot} {rest st0 : List Value} {a : Array Value}
theorem mPre.at {U : State} (hP : va_P D vwCl (MW cy ad iv ar) H) (hK : va_K D vwCl (mty cy) s) (hSt : True) (hNw : True) (hS : va_S (mA ad s.heap.size) s.heap H locs) (hU : U.heap = H) (hW : s.WarmedH U.vm) : mPre D cy ad H.size iv ar U :=
  ⟨by rw [hU], by rw [hU]; exact hP, hK.moved hW.alike, trivial, trivial⟩
theorem m_preV {k ci : Nat} {fs As : List Value} {q : vw_C} (hP : va_P D vwCl (MW cy ad iv ar) H) (hK : va_K D vwCl (mty cy) s) (hSt : True) (hNw : True) (hS : va_S (mA ad s.heap.size) s.heap H locs) (he : (MW cy ad iv ar)[k]? = some (ad k, .inr (ci, fs))) (hc : vwCl[ci]? = some q) : PreV s H q.1 (ad k) (va_Pc (.ref (ad k) :: As) (mPre D cy ad H.size iv ar)) As :=
  ⟨mPre.blind, va_recv hK hP hc he, fun U hU hW => ⟨rfl, mPre.at hP hK hSt hNw hS hU hW⟩⟩
theorem m_preS {As : List Value} (hP : va_P D vwCl (MW cy ad iv ar) H) (hK : va_K D vwCl (mty cy) s) (hSt : True) (hNw : True) (hS : va_S (mA ad s.heap.size) s.heap H locs) : PreS s H (va_Pc As (mPre D cy ad H.size iv ar)) As :=
  ⟨mPre.blind, fun U hU hW => ⟨rfl, mPre.at hP hK hSt hNw hS hU hW⟩⟩
theorem m_calli {post : Int32 → gIv × gAr → Prop} (hr : va_Run p l e R s m args below meth c H locs cells slots 0 0 (F0 m pc ls st0) rest (va_Qi post (mPost D cy ad) (mA ad H.size) a) (mA ad H.size)) (hS : va_S (mA ad s.heap.size) s.heap H locs)
    (kk : ∀ (r : Int32) (iv1 : gIv) (ar1 : gAr) (H1 : Heap) (locs1 : List Loc), post r (iv1, ar1) → va_P D vwCl (MW cy ad iv1 ar1) H1 → va_S (mA ad s.heap.size) s.heap H1 locs1 → W p l e R s m args below meth c H1 locs1 cells slots Q (F0 m (pc + 3) ls (.int r :: rest))) : W p l e R s m args below meth c H locs cells slots Q (F0 m pc ls st0) :=
  va_calli hr hS (fun q _ h => mA_mono hS.1 q h) (mA_mono hS.1) (fun r u t H1 locs1 ht _ hp hb _ _ hS1 => kk r u.1 u.2 H1 locs1 hp (by rw [← ht]; exact hb) hS1)
theorem m_callv {post : gIv × gAr → Prop} (hr : va_Run p l e R s m args below meth c H locs cells slots 0 0 (F0 m pc ls st0) rest (va_Qv post (mPost D cy ad) (mA ad H.size) a) (mA ad H.size)) (hS : va_S (mA ad s.heap.size) s.heap H locs)
    (kk : ∀ (iv1 : gIv) (ar1 : gAr) (H1 : Heap) (locs1 : List Loc), post (iv1, ar1) → va_P D vwCl (MW cy ad iv1 ar1) H1 → va_S (mA ad s.heap.size) s.heap H1 locs1 → W p l e R s m args below meth c H1 locs1 cells slots Q (F0 m (pc + 3) ls rest)) : W p l e R s m args below meth c H locs cells slots Q (F0 m pc ls st0) :=
  va_callv hr hS (fun q _ h => mA_mono hS.1 q h) (mA_mono hS.1) (fun u t H1 locs1 ht _ hp hb _ _ hS1 => kk u.1 u.2 H1 locs1 hp (by rw [← ht]; exact hb) hS1)
end MC
def mFr (iv : gIv) (ar : gAr) : Prop := (∀ k j, ¬ (k = 0 ∧ j = 16) → iv k j = 0) ∧ iv 0 16 = -1 ∧ ∀ k i, ar k i = 0
theorem mr0 {iv : gIv} {ar : gAr} (h : mFr iv ar) (k j : Nat) (hn : ¬ (k = 0 ∧ j = 16)) : (iv k j).toInt = 0 := by rw [h.1 k j hn]; rfl
theorem mrm {iv : gIv} {ar : gAr} (h : mFr iv ar) : (iv 0 16).toInt = -1 := by rw [h.2.1]; rfl
theorem mra {iv : gIv} {ar : gAr} (h : mFr iv ar) (k i : Nat) (hn : k ≠ 71) : (ar k i).toInt = 0 := by rw [h.2.2 k i]; rfl
theorem mru {iv : gIv} {ar : gAr} (h : mFr iv ar) (k j : Nat) (hn : ¬ (k = 0 ∧ j = 16)) {x : Int32} (hx : x.toInt = 0) : mFr (u2 iv k j x) ar := by
  have hx0 : x = 0 := i_of (hx.trans (rfl : (0 : Int) = (0 : Int32).toInt))
  subst hx0
  refine ⟨fun a b hab => ?_, ?_, h.2.2⟩
  · by_cases q : a = k ∧ b = j
    · rw [q.1, q.2, u2_s]
    · rw [u2_o q, h.1 a b hab]
  · rw [u2_o (fun q => hn ⟨q.1.symm, q.2.symm⟩), h.2.1]
