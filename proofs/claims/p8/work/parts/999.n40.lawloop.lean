/-! The law's loop: both worlds side by side, and what each turn keeps. -/
theorem w_app {D : va_G} {cl : List vw_C} {X Y : va_W} {H : Heap} (hX : va_P D cl X H) (hY : va_P D cl Y H) : va_P D cl (X ++ Y) H := fun k q hk => by
  by_cases h : k < X.length
  · rw [List.getElem?_append_left h] at hk; exact hX k q hk
  · rw [List.getElem?_append_right (by omega)] at hk; exact hY _ q hk
theorem GW_fst {cy : Nat → ClassId} {ad : Nat → Nat} {iv : gIv} {ar : gAr} : (GW cy ad iv ar).map Prod.fst = (List.range 135).map ad := by
  unfold GW
  rw [List.map_map]
  rfl
theorem MW_fst {cy : Nat → ClassId} {ad : Nat → Nat} {iv : gIv} {ar : gAr} : (MW cy ad iv ar).map Prod.fst = (List.range 19).map ad := by
  unfold MW
  rw [List.map_map]
  rfl
section LAW2
variable {p : Program} {l : Launch} {e : Env} {R : Room} {s : State} {m : MethodId} {args : Array Value} {below : List Frame} {meth : Method} {c : Code} {H : Heap} {locs : List Loc} {cells slots : Nat} {Q : State → Prop} {D : va_G} {cy : Nat → ClassId} {ad ad2 : Nat → Nat} {iv iv2 : gIv} {ar ar2 : gAr} {pc : Nat} {ls : Array Slot} {rest st0 : List Value} {a : Array Value} {Y : va_W}
theorem lp_calli {post : Int32 → gIv × gAr → Prop} (hr : va_Run p l e R s m args below meth c H locs cells slots 0 0 (F0 m pc ls st0) rest (va_Qi post (gPost D cy ad) (gA ad H.size) a) (gA ad H.size)) (hP : va_P D vwCl (GW cy ad iv ar ++ Y) H) (hD : va_D (lA s) (GW cy ad iv ar ++ Y)) (hS : va_S (lA s) s.heap H locs)
    (kk : ∀ (r : Int32) (iv1 : gIv) (ar1 : gAr) (H1 : Heap) (locs1 : List Loc), post r (iv1, ar1) → va_P D vwCl (GW cy ad iv1 ar1 ++ Y) H1 → va_S (lA s) s.heap H1 locs1 → W p l e R s m args below meth c H1 locs1 cells slots Q (F0 m (pc + 3) ls (.int r :: rest))) : W p l e R s m args below meth c H locs cells slots Q (F0 m pc ls st0) :=
  va_calli hr hS (fun q _ h => lA_g hD hS q h) (lA_g hD hS) (fun r u t H1 locs1 ht _ hp hb _ hk hS1 => kk r u.1 u.2 H1 locs1 hp (w_app (by rw [← ht]; exact hb) (fun k q hq => (w_right hP k q hq).kept (hk q.1 (w_right hP k q hq).lt (by
    rintro (⟨k2, hk2, e2⟩ | h)
    · have h3 := hD.1 k2 (135 + k) (ad k2, gE cy ad iv ar k2) q (by rw [List.getElem?_append_left (by rw [GW_len]; exact hk2)]; exact GW_get hk2) (by rw [List.getElem?_append_right (by rw [GW_len]; omega), GW_len, Nat.add_sub_cancel_left]; exact hq) e2.symm
      omega
    · have := (w_right hP k q hq).lt
      omega)))) hS1)
theorem lp_callim {post : Int32 → gIv × gAr → Prop} (hr : va_Run p l e R s m args below meth c H locs cells slots 0 0 (F0 m pc ls st0) rest (va_Qi post (mPost D cy ad2) (mA ad2 H.size) a) (mA ad2 H.size)) (hP : va_P D vwCl (GW cy ad iv ar ++ MW cy ad2 iv2 ar2) H) (hD : va_D (lA s) (GW cy ad iv ar ++ MW cy ad2 iv2 ar2)) (hS : va_S (lA s) s.heap H locs)
    (kk : ∀ (r : Int32) (iv1 : gIv) (ar1 : gAr) (H1 : Heap) (locs1 : List Loc), post r (iv1, ar1) → va_P D vwCl (GW cy ad iv ar ++ MW cy ad2 iv1 ar1) H1 → va_S (lA s) s.heap H1 locs1 → W p l e R s m args below meth c H1 locs1 cells slots Q (F0 m (pc + 3) ls (.int r :: rest))) : W p l e R s m args below meth c H locs cells slots Q (F0 m pc ls st0) :=
  va_calli hr hS (fun q _ h => lA_m (d_right hD) hS q h) (lA_m (d_right hD) hS) (fun r u t H1 locs1 ht _ hp hb _ hk hS1 => kk r u.1 u.2 H1 locs1 hp (w_app (fun k q hq => (w_left hP k q hq).kept (hk q.1 (w_left hP k q hq).lt (by
    rintro (⟨k2, hk2, e2⟩ | h)
    · have hk9 : k < 135 := by rw [← GW_len (cy := cy) (ad := ad) (iv := iv) (ar := ar)]; exact (List.getElem?_eq_some_iff.mp hq).1
      have h3 := hD.1 k (135 + k2) q (ad2 k2, mE cy ad2 iv2 ar2 k2) (by rw [List.getElem?_append_left (by rw [GW_len]; exact hk9)]; exact hq) (by rw [List.getElem?_append_right (by rw [GW_len]; omega), GW_len, Nat.add_sub_cancel_left]; exact MW_get hk2) e2
      omega
    · have := (w_left hP k q hq).lt
      omega))) (by rw [← ht]; exact hb)) hS1)
end LAW2
/-- what holds of both before each call: the class' sizes and text, the reference's own, as long a text in both, how much was flown -/
def LI (iv iv2 : gIv) (ar2 : gAr) (i : Int) : Prop := SZ iv ∧ (iv 66 2).toInt = (iv2 0 4).toInt ∧ RI iv2 ar2 ∧ (iv2 0 17).toInt ≤ 20 * i
theorem LI.step {iv iv' iv2 iv2' : gIv} {ar2 ar2' : gAr} {i : Int} (h : LI iv iv2 ar2 i) (k : KP iv iv') (r : RI iv2' ar2' ∧ iv2' 0 4 = iv2 0 4 ∧ (iv2' 0 17).toInt ≤ (iv2 0 17).toInt + 60) : LI iv' iv2' ar2' (i + 3) :=
  ⟨k.1, by rw [k.2, r.2.1]; exact h.2.1, r.1, by have h1 := h.2.2.2; have h2 := r.2.2; clear h r; omega⟩
theorem LI.same {iv iv' iv2 : gIv} {ar2 : gAr} {i : Int} (h : LI iv iv2 ar2 i) (k : KP iv iv') : LI iv' iv2 ar2 (i + 3) := h.step k ⟨h.2.2.1, rfl, by omega⟩
theorem LI.p0 {iv iv' iv2 iv2' : gIv} {ar2 ar2' : gAr} {i : Int} (h : LI iv iv2 ar2 i) (k : KP iv iv') (r : RI iv2' ar2' ∧ iv2' 0 4 = iv2 0 4 ∧ iv2' 0 17 = iv2 0 17) : LI iv' iv2' ar2' (i + 3) := h.step k ⟨r.1, r.2.1, by rw [r.2.2]; omega⟩
theorem LI.init {iv iv2 : gIv} {ar ar2 : gAr} (h : gFr iv ar) (k : mFr iv2 ar2) : LI iv iv2 ar2 0 := by
  have z : ∀ j, j ≠ 16 → (iv2 0 j).toInt = 0 := fun j hj => mr0 k 0 j (fun q => hj q.2)
  have y : ∀ a i, a ≠ 71 → (ar2 a i).toInt = 0 := fun a i ha => mra k a i ha
  refine ⟨fun c hc h5 => ?_, ?_, ⟨⟨⟨?_, ?_, ?_, ?_, fun i hi => ?_⟩, fun i hi hl => ?_⟩, ?_, fun j hj => ?_, ?_, fun g hg q => ?_, fun i hi => ?_, ?_, fun q => ?_⟩, ?_⟩
  · have := fr0 h c 1 (fun q => absurd q.2 (by decide)); omega
  · have h1 := fr0 h 66 2 (by decide); have h2 := z 4 (by decide); omega
  · rw [y 1 111 (by decide)]; decide
  · rw [y 1 111 (by decide)]; decide
  · rw [y 1 118 (by decide)]; decide
  · rw [y 1 118 (by decide)]; decide
  · rw [y 1 (112 + i) (by decide), y 1 (119 + i) (by decide)]; decide
  · rw [y 1 111 (by decide)] at hl; exfalso; omega
  · rw [z 3 (by decide)]; decide
  · rw [z 3 (by decide)] at hj; exfalso; omega
  · rw [z 4 (by decide)]; decide
  · exact absurd (y 6 g (by decide)) q
  · rw [y 7 i (by decide), y 8 i (by decide)]; decide
  · rw [z 17 (by decide)]; decide
  · exact absurd (z 15 (by decide)) q
  · rw [z 17 (by decide)]; decide
