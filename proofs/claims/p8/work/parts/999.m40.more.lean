theorem va_D.same {A : Nat → Prop} {ws ws2 : va_W} (h : va_D A ws) (e : ws.map Prod.fst = ws2.map Prod.fst) : va_D A ws2 := by
  have key : ∀ (k : Nat) (q : Nat × va_E), ws2[k]? = some q → ∃ q0, ws[k]? = some q0 ∧ q0.1 = q.1 := by
    intro k q hk
    have h1 : (ws2.map Prod.fst)[k]? = some q.1 := by rw [List.getElem?_map, hk]; rfl
    rw [← e, List.getElem?_map] at h1
    cases h2 : ws[k]? with
    | none => rw [h2] at h1; cases h1
    | some q0 => rw [h2] at h1; exact ⟨q0, rfl, Option.some.inj h1⟩
  refine ⟨fun i j p q hi hj hpq => ?_, fun k q hk => ?_⟩
  · obtain ⟨p0, h1, h2⟩ := key i p hi
    obtain ⟨q0, h3, h4⟩ := key j q hj
    exact h.1 i j p0 q0 h1 h3 (by rw [h2, h4, hpq])
  · obtain ⟨q0, h1, h2⟩ := key k q hk
    rw [← h2]; exact h.2 k q0 h1
theorem w_left {D : va_G} {cl : List vw_C} {X Y : va_W} {H : Heap} (hP : va_P D cl (X ++ Y) H) : va_P D cl X H := fun k q hk => hP k q (by rw [List.getElem?_append_left (List.getElem?_eq_some_iff.mp hk).1]; exact hk)
theorem w_right {D : va_G} {cl : List vw_C} {X Y : va_W} {H : Heap} (hP : va_P D cl (X ++ Y) H) : va_P D cl Y H := fun k q hk => hP (X.length + k) q (by rw [List.getElem?_append_right (by omega), Nat.add_sub_cancel_left]; exact hk)
theorem d_left {A : Nat → Prop} {X Y : va_W} (hD : va_D A (X ++ Y)) : va_D A X := ⟨fun i j p q hi hj e => hD.1 i j p q (by rw [List.getElem?_append_left (List.getElem?_eq_some_iff.mp hi).1]; exact hi) (by rw [List.getElem?_append_left (List.getElem?_eq_some_iff.mp hj).1]; exact hj) e, fun k q hk => hD.2 k q (by rw [List.getElem?_append_left (List.getElem?_eq_some_iff.mp hk).1]; exact hk)⟩
theorem d_right {A : Nat → Prop} {X Y : va_W} (hD : va_D A (X ++ Y)) : va_D A Y := by
  refine ⟨fun i j p q hi hj e => ?_, fun k q hk => hD.2 (X.length + k) q (by rw [List.getElem?_append_right (by omega), Nat.add_sub_cancel_left]; exact hk)⟩
  have := hD.1 (X.length + i) (X.length + j) p q (by rw [List.getElem?_append_right (by omega), Nat.add_sub_cancel_left]; exact hi) (by rw [List.getElem?_append_right (by omega), Nat.add_sub_cancel_left]; exact hj) e
  omega
def lA (s : State) : Nat → Prop := fun q => s.heap.size ≤ q
section LAW
variable {p : Program} {l : Launch} {e : Env} {R : Room} {s : State} {m : MethodId} {args : Array Value} {below : List Frame} {meth : Method} {c : Code} {H : Heap} {locs : List Loc} {cells slots : Nat} {Q : State → Prop} {D : va_G} {cy : Nat → ClassId} {ad ad2 : Nat → Nat} {iv iv2 : gIv} {ar ar2 : gAr} {pc : Nat} {ls : Array Slot} {rest st0 : List Value} {a : Array Value} {Y : va_W}
theorem lA_g (hD : va_D (lA s) (GW cy ad iv ar ++ Y)) (hS : va_S (lA s) s.heap H locs) : ∀ q, gA ad H.size q → lA s q := by
  rintro q (⟨k, hk, rfl⟩ | h)
  · exact (d_left hD).2 k _ (GW_get hk)
  · exact Nat.le_trans hS.1 h
theorem lA_m (hD : va_D (lA s) (MW cy ad2 iv2 ar2)) (hS : va_S (lA s) s.heap H locs) : ∀ q, mA ad2 H.size q → lA s q := by
  rintro q (⟨k, hk, rfl⟩ | h)
  · exact hD.2 k _ (MW_get hk)
  · exact Nat.le_trans hS.1 h
theorem l_preV {k ci : Nat} {fs As : List Value} {q : vw_C} (hP : va_P D vwCl (GW cy ad iv ar ++ Y) H) (hD : va_D (lA s) (GW cy ad iv ar ++ Y)) (hK : va_K D vwCl (gty cy) s) (hSt : gSt (lA s) s s.heap) (hNw : gNw s) (hS : va_S (lA s) s.heap H locs) (he : (GW cy ad iv ar)[k]? = some (ad k, .inr (ci, fs))) (hc : vwCl[ci]? = some q) : PreV s H q.1 (ad k) (va_Pc (.ref (ad k) :: As) (gPre D cy ad H.size iv ar)) As :=
  ⟨gPre.blind, va_recv hK (w_left hP) hc he, fun U hU hW => ⟨rfl, ⟨by rw [hU], by rw [hU]; exact w_left hP, hK.moved hW.alike, by rw [hU]; exact (hSt.pass hS.2.1 (lA_g hD hS)).moved hW.alike, hNw.warm hW⟩⟩⟩
theorem l_preVm {k ci : Nat} {fs As : List Value} {q : vw_C} (hP : va_P D vwCl (MW cy ad2 iv2 ar2) H) (hK : va_K D vwCl (mty cy) s) (he : (MW cy ad2 iv2 ar2)[k]? = some (ad2 k, .inr (ci, fs))) (hc : vwCl[ci]? = some q) : PreV s H q.1 (ad2 k) (va_Pc (.ref (ad2 k) :: As) (mPre D cy ad2 H.size iv2 ar2)) As :=
  ⟨mPre.blind, va_recv hK hP hc he, fun U hU hW => ⟨rfl, ⟨by rw [hU], by rw [hU]; exact hP, hK.moved hW.alike, trivial, trivial⟩⟩⟩
theorem l_calli {post : Int32 → gIv × gAr → Prop} (hr : va_Run p l e R s m args below meth c H locs cells slots 0 0 (F0 m pc ls st0) rest (va_Qi post (gPost D cy ad) (gA ad H.size) a) (gA ad H.size)) (hP : va_P D vwCl (GW cy ad iv ar ++ Y) H) (hD : va_D (lA s) (GW cy ad iv ar ++ Y)) (hS : va_S (lA s) s.heap H locs)
    (kk : ∀ (r : Int32) (u : gIv × gAr) (H1 : Heap) (locs1 : List Loc), post r u → va_P D vwCl Y H1 → va_S (lA s) s.heap H1 locs1 → W p l e R s m args below meth c H1 locs1 cells slots Q (F0 m (pc + 3) ls (.int r :: rest))) : W p l e R s m args below meth c H locs cells slots Q (F0 m pc ls st0) :=
  va_calli hr hS (fun q _ h => lA_g hD hS q h) (lA_g hD hS) (fun r u t H1 locs1 ht _ hp hb _ hk hS1 => kk r u H1 locs1 hp (fun k q hq => (w_right hP k q hq).kept (hk q.1 (w_right hP k q hq).lt (by
    rintro (⟨k2, hk2, e2⟩ | h)
    · have h3 := hD.1 k2 (135 + k) (ad k2, gE cy ad iv ar k2) q (by rw [List.getElem?_append_left (by rw [GW_len]; exact hk2)]; exact GW_get hk2) (by rw [List.getElem?_append_right (by rw [GW_len]; omega), GW_len, Nat.add_sub_cancel_left]; exact hq) e2.symm
      omega
    · have := (w_right hP k q hq).lt
      omega))) hS1)
theorem l_callim {post : Int32 → gIv × gAr → Prop} (hr : va_Run p l e R s m args below meth c H locs cells slots 0 0 (F0 m pc ls st0) rest (va_Qi post (mPost D cy ad2) (mA ad2 H.size) a) (mA ad2 H.size)) (hD : va_D (lA s) (MW cy ad2 iv2 ar2)) (hS : va_S (lA s) s.heap H locs)
    (kk : ∀ (r : Int32) (u : gIv × gAr) (H1 : Heap) (locs1 : List Loc), post r u → va_S (lA s) s.heap H1 locs1 → W p l e R s m args below meth c H1 locs1 cells slots Q (F0 m (pc + 3) ls (.int r :: rest))) : W p l e R s m args below meth c H locs cells slots Q (F0 m pc ls st0) :=
  va_calli hr hS (fun q _ h => lA_m hD hS q h) (lA_m hD hS) (fun r u t H1 locs1 ht _ hp hb _ hk hS1 => kk r u H1 locs1 hp hS1)
end LAW
theorem app_l (X Y : va_W) (n : Nat) (hn : X.length = n) : (List.range n).map (fun i => (X ++ Y)[i]?) = X.map some := by
  subst hn
  refine List.ext_getElem? (fun j => ?_)
  by_cases h : j < X.length
  · simp [h]
    rw [List.getElem?_append_left h, List.getElem?_eq_getElem h]
  · simp [h]
theorem app_r (X : va_W) (x : Nat × va_E) (n : Nat) (hn : X.length = n) : (X ++ [x])[n]? = some x := by
  subst hn
  simp
def mIv0 : gIv := fun k j => if k = 0 ∧ j = 16 then -1 else 0
def mAr0 : gAr := fun _ _ => 0
theorem mFr0 : mFr mIv0 mAr0 := ⟨fun k j h => if_neg h, if_pos ⟨rfl, rfl⟩, fun _ _ => rfl⟩
theorem l_and (x : Int32) : 0 ≤ (x &&& 31).toInt ∧ (x &&& 31).toInt < 32 := by
  obtain ⟨j, hj, e⟩ := pk_andE x (m := 31) 5 (by decide)
  rw [e, nI_toInt (by omega)]
  omega
