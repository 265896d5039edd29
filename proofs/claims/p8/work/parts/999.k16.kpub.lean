set_option maxHeartbeats 4000000 in
set_option maxRecDepth 100000 in
theorem c_X10_hasObstacle (l : Launch) (D : va_G) (cy : Nat → ClassId) (ad : Nat → Nat) (hI : gInj ad) (sz : Nat) (iv : gIv) (ar : gAr) (k1 : Nat) (hk_k1 : k1 < 135) (hd_k1 : kd k1 = 5)  : Met l yX10_hasObstacle wsX10_hasObstacle ({ frames := 2, cells := 0, slots := 0, locals := 42 } : Room) (va_Pc [.ref (ad 0), .ref (ad k1)] (gPre D cy ad sz iv ar)) (vp_Si (fun r => True)) 0 0 (fun _ => False) := by
  refine Met.ofW (cc := cX10_hasObstacle) (maxL := 3) (ret := (some .boolean)) (by decide) rfl ?_
  intro p e s m args below meth c s₁ B hml hv
  obtain ⟨rfl, rfl, hP, hK, hSt, hNw⟩ := hv
  have hx := B.exec
  have hb := B.bytes
  have hr := B.returns
  have hts := atoms_spec (ws := wsX10_hasObstacle) B.pre
  have hown : s.vm.findClass RX10 = some m.cls := findClass_of_methodNamed B.named
  have hlocks := B.notSynchronized
  have hS : va_S (gA ad s.heap.size) s.heap s.heap [] := va_S.rf
  have inX10 : ∀ w ∈ u_ws RX10 TX10 6, w ∈ wsX10_hasObstacle := by decide +kernel
  have inX5 : ∀ w ∈ u_ws RX5 TX5 2, w ∈ wsX10_hasObstacle := by decide +kernel
  have lk0 := hts (.fieldLink RX10 100 "FormationPlanner$Places" "size" "I") (by decide +kernel)
  have lk1 := hts (.fieldLink RX10 12 "FormationPlanner" "scene" "LFormationPlanner$Scene;") (by decide +kernel)
  have hl := lv_entry ([.ref (ad 0), .ref (ad k1)]) (n := 3) (Nat.le_of_ble_eq_true rfl)
  rw [lg_entry_eq]
  generalize (lg_sl ([.ref (ad 0), .ref (ad k1)]) ++ List.replicate (3 - (lg_sl ([.ref (ad 0), .ref (ad k1)])).length) Slot.unset).toArray = ls at hl ⊢
  have hl : lv_has ls 3 [(0, .ref (ad 0)), (1, .ref (ad k1))] := hl
  obtain ⟨Q, hQ⟩ : ∃ Q, Q = MQ below (vp_Si (fun r => True)) (([.ref (ad 0), .ref (ad k1)] : List Value).toArray) s 0 0 (fun _ => False) := ⟨_, rfl⟩
  rw [← hQ]
  refine lv_iconst (v := 0) hx hb dX10_hasObstacle_0 (by decide) ?_
  refine lv_istore_n (lv' := [(2, .int 0), (0, .ref (ad 0)), (1, .ref (ad k1))]) hx hb dX10_hasObstacle_1 rfl hl (by decide) rfl (fun ls hl => ?_)
  have loop2 : ∀ (n : Nat) (x2_1 : Int32) (ls : Array Slot), (((iv k1 1).toInt - (x2_1.toInt)).toNat) < n → (0 ≤ (x2_1.toInt)) → lv_has ls 3 [(2, .int x2_1), (0, .ref (ad 0)), (1, .ref (ad k1))] → W p l e (headSpec wsX10_hasObstacle (({ frames := 2, cells := 0, slots := 0, locals := 42 } : Room))).room s m (([.ref (ad 0), .ref (ad k1)] : List Value).toArray) below meth c s.heap [] 0 0 Q (F0 m 2 ls []) := by
    intro n
    induction n with
    | zero => intro x2_1 ls hm; omega
    | succ n ih2 =>
      intro x2_1 ls hm hg0 hl
      refine lv_iload_n hx hb dX10_hasObstacle_2 rfl (lv_at hl 0 rfl) ?_
      refine lv_aload_n hx hb dX10_hasObstacle_3 rfl (lv_at hl 2 rfl) ?_
      refine va_get (D := D) (ci := 5) (v := .int (iv k1 1)) (C := RX5) (T := TX5) (N := 2) hx hb hts inX5 hown hK hP k1 (g_at5 hk_k1 hd_k1) rfl 1 (by decide) lk0 (fun _ h9 => h9) rfl dX10_hasObstacle_4 ?_
      refine lv_icmp_ge (tgt := 33) hx hb dX10_hasObstacle_7 (by decide) (fun c_3 => ?_) (fun c_3 => ?_)
      · skip
        have q_3 : (iv k1 1).toInt ≤ x2_1.toInt := i_le2 (rfl : (iv k1 1).toInt = (iv k1 1).toInt) (rfl : x2_1.toInt = x2_1.toInt) c_3
        refine lv_iconst (v := 0) hx hb dX10_hasObstacle_33 (by decide) ?_
        rw [hQ]
        exact W.zret (v := 0) hx hb hr rfl (fun t ht hW => ⟨0, rfl, trivial, ht⟩) (fun q h => by cases h) dX10_hasObstacle_34
      · skip
        have q_3 : x2_1.toInt < (iv k1 1).toInt := i_nle2 (rfl : (iv k1 1).toInt = (iv k1 1).toInt) (rfl : x2_1.toInt = x2_1.toInt) c_3
        have hrg := i_rng (iv k1 1)
        refine lv_aload_n hx hb dX10_hasObstacle_10 rfl (lv_at hl 1 rfl) ?_
        refine va_get (D := D) (ci := 10) (v := .ref (ad 1)) (C := RX10) (T := TX10) (N := 6) hx hb hts inX10 hown hK hP 0 (g_at10 (Nat.le_of_ble_eq_true rfl) rfl) rfl 0 (by decide) lk1 (fun _ h9 => h9) rfl dX10_hasObstacle_11 ?_
        refine lv_aload_n hx hb dX10_hasObstacle_14 rfl (lv_at hl 2 rfl) ?_
        refine lv_iload_n hx hb dX10_hasObstacle_15 rfl (lv_at hl 0 rfl) ?_
        refine g_callSi (va_runV (As := [.int x2_1]) (rest := [.ref (ad 1)]) ⟨hx, hb, hml, hown, hts⟩ (c_X5_cellAt l D cy ad hI _ iv ar k1 hk_k1 hd_k1 x2_1) (cwV 1 hts gX10_hasObstacle_X5_cellAt rfl rfl rfl (by decide +kernel) ⟨Nat.le_of_ble_eq_true rfl, Nat.le_of_ble_eq_true rfl⟩) (g_preV hP hK hSt hNw hS (g_at5 hk_k1 hd_k1) rfl) rfl rfl hl.1 rfl (lv_room (Nat.le_of_ble_eq_true rfl)) dX10_hasObstacle_16 ⟨Nat.zero_le _, Nat.zero_le _⟩) (fun r_4 w_4 => ?_)
        try dsimp only at w_4
        refine g_callSi (va_runV (As := [.int r_4]) (rest := []) ⟨hx, hb, hml, hown, hts⟩ (c_X8_hasObstacleAt l D cy ad hI _ iv ar r_4) (cwV 1 hts gX10_hasObstacle_X8_hasObstacleAt rfl rfl rfl (by decide +kernel) ⟨Nat.le_of_ble_eq_true rfl, Nat.le_of_ble_eq_true rfl⟩) (g_preV hP hK hSt hNw hS (g_at8 (Nat.le_of_ble_eq_true rfl) rfl) rfl) rfl rfl hl.1 rfl (lv_room (Nat.le_of_ble_eq_true rfl)) dX10_hasObstacle_19 ⟨Nat.zero_le _, Nat.zero_le _⟩) (fun r_5 w_5 => ?_)
        try dsimp only at w_5
        refine lv_if_eq (tgt := 27) hx hb dX10_hasObstacle_22 (by decide) (fun c_6 => ?_) (fun c_6 => ?_)
        · skip
          have q_6 : r_5.toInt = (0 : Int) := i_eq2 (rfl : r_5.toInt = r_5.toInt) (show (0 : Int32).toInt = (0 : Int) from rfl) c_6
          obtain ⟨x2_7, ex2_7⟩ : ∃ y : Int32, y = x2_1 + 1 := ⟨_, rfl⟩
          have tx2_7 : x2_7.toInt = x2_1.toInt + (1 : Int) := i_add (rfl : x2_1.toInt = x2_1.toInt) (show (1 : Int32).toInt = (1 : Int) from rfl) (by omega) (by omega) ex2_7
          refine lv_iinc (v := x2_7) (lv' := [(2, .int x2_7), (0, .ref (ad 0)), (1, .ref (ad k1))]) hx hb dX10_hasObstacle_27 hl (k := 0) rfl (by rw [ex2_7]; rfl) (by decide) rfl (fun ls hl => ?_)
          refine lv_goto (tgt := 2) hx hb dX10_hasObstacle_30 (by decide) ?_
          exact ih2 x2_7 _ (by omega) (by omega) (lv_sub hl [0, 1, 2] rfl)
        · skip
          have q_6 : r_5.toInt ≠ (0 : Int) := i_ne2 (rfl : r_5.toInt = r_5.toInt) (show (0 : Int32).toInt = (0 : Int) from rfl) c_6
          refine lv_iconst (v := 1) hx hb dX10_hasObstacle_25 (by decide) ?_
          rw [hQ]
          exact W.zret (v := 1) hx hb hr rfl (fun t ht hW => ⟨1, rfl, trivial, ht⟩) (fun q h => by cases h) dX10_hasObstacle_26
  have zl_8 : (0 : Int32).toInt = (0 : Int) := rfl
  exact loop2 ((((iv k1 1).toInt - ((0 : Int))).toNat) + 1) 0 _ (by omega) (by omega) (lv_sub hl [0, 1, 2] rfl)
set_option maxHeartbeats 4000000 in
set_option maxRecDepth 100000 in
theorem c_X10_planError (l : Launch) (D : va_G) (cy : Nat → ClassId) (ad : Nat → Nat) (hI : gInj ad) (sz : Nat) (iv : gIv) (ar : gAr) (a : Int32) (b : Int32)  : Met l yX10_planError wsX10_planError ({ frames := 1, cells := 0, slots := 0, locals := 21 } : Room) (va_Pc [.ref (ad 0), .int a, .int b] (gPre D cy ad sz iv ar)) (vp_Si (fun r => True)) 0 0 (fun _ => False) := by
  refine Met.ofW (cc := cX10_planError) (maxL := 3) (ret := (some .int)) (by decide) rfl ?_
  intro p e s m args below meth c s₁ B hml hv
  obtain ⟨rfl, rfl, hP, hK, hSt, hNw⟩ := hv
  have hx := B.exec
  have hb := B.bytes
  have hr := B.returns
  have hts := atoms_spec (ws := wsX10_planError) B.pre
  have hown : s.vm.findClass RX10 = some m.cls := findClass_of_methodNamed B.named
  have hlocks := B.notSynchronized
  have hS : va_S (gA ad s.heap.size) s.heap s.heap [] := va_S.rf
  have inX10 : ∀ w ∈ u_ws RX10 TX10 6, w ∈ wsX10_planError := by decide +kernel
  have inX6 : ∀ w ∈ u_ws RX6 TX6 11, w ∈ wsX10_planError := by decide +kernel
  have inX8 : ∀ w ∈ u_ws RX8 TX8 5, w ∈ wsX10_planError := by decide +kernel
  have lk0 := hts (.fieldLink RX10 12 "FormationPlanner" "scene" "LFormationPlanner$Scene;") (by decide +kernel)
  have lk1 := hts (.fieldLink RX10 77 "FormationPlanner$Scene" "drones" "LFormationPlanner$Places;") (by decide +kernel)
  have lk2 := hts (.fieldLink RX10 56 "FormationPlanner" "plan" "LFormationPlanner$Plan;") (by decide +kernel)
  have lk3 := hts (.fieldLink RX10 195 "FormationPlanner$Plan" "stands" "Z") (by decide +kernel)
  have hl := lv_entry ([.ref (ad 0), .int a, .int b]) (n := 3) (Nat.le_of_ble_eq_true rfl)
  rw [lg_entry_eq]
  generalize (lg_sl ([.ref (ad 0), .int a, .int b]) ++ List.replicate (3 - (lg_sl ([.ref (ad 0), .int a, .int b])).length) Slot.unset).toArray = ls at hl ⊢
  have hl : lv_has ls 3 [(0, .ref (ad 0)), (1, .int a), (2, .int b)] := hl
  obtain ⟨Q, hQ⟩ : ∃ Q, Q = MQ below (vp_Si (fun r => True)) (([.ref (ad 0), .int a, .int b] : List Value).toArray) s 0 0 (fun _ => False) := ⟨_, rfl⟩
  rw [← hQ]
  refine lv_aload_n hx hb dX10_planError_0 rfl (lv_at hl 0 rfl) ?_
  refine va_get (D := D) (ci := 10) (v := .ref (ad 1)) (C := RX10) (T := TX10) (N := 6) hx hb hts inX10 hown hK hP 0 (g_at10 (Nat.le_of_ble_eq_true rfl) rfl) rfl 0 (by decide) lk0 (fun _ h9 => h9) rfl dX10_planError_1 ?_
  refine va_get (D := D) (ci := 8) (v := .ref (ad 4)) (C := RX8) (T := TX8) (N := 5) hx hb hts inX8 hown hK hP 1 (g_at8 (Nat.le_of_ble_eq_true rfl) rfl) rfl 2 (by decide) lk1 (fun _ h9 => h9) rfl dX10_planError_4 ?_
  refine lv_iload_n hx hb dX10_planError_7 rfl (lv_at hl 1 rfl) ?_
  refine g_callSi (va_runV (As := [.int a]) (rest := []) ⟨hx, hb, hml, hown, hts⟩ (c_X5_has l D cy ad hI _ iv ar 4 (Nat.le_of_ble_eq_true rfl) rfl a) (cwV 1 hts gX10_planError_X5_has rfl rfl rfl (by decide +kernel) ⟨Nat.le_of_ble_eq_true rfl, Nat.le_of_ble_eq_true rfl⟩) (g_preV hP hK hSt hNw hS (g_at5 (Nat.le_of_ble_eq_true rfl) rfl) rfl) rfl rfl hl.1 rfl (lv_room (Nat.le_of_ble_eq_true rfl)) dX10_planError_8 ⟨Nat.zero_le _, Nat.zero_le _⟩) (fun r_1 w_1 => ?_)
  try dsimp only at w_1
  refine lv_if_ne (tgt := 16) hx hb dX10_planError_11 (by decide) (fun c_2 => ?_) (fun c_2 => ?_)
  · skip
    have q_2 : r_1.toInt ≠ (0 : Int) := i_ne2 (rfl : r_1.toInt = r_1.toInt) (show (0 : Int32).toInt = (0 : Int) from rfl) c_2
    refine lv_iload_n hx hb dX10_planError_16 rfl (lv_at hl 2 rfl) ?_
    refine lv_if_ne (tgt := 23) hx hb dX10_planError_17 (by decide) (fun c_3 => ?_) (fun c_3 => ?_)
    · skip
      have q_3 : b.toInt ≠ (0 : Int) := i_ne2 (rfl : b.toInt = b.toInt) (show (0 : Int32).toInt = (0 : Int) from rfl) c_3
      refine lv_aload_n hx hb dX10_planError_23 rfl (lv_at hl 0 rfl) ?_
      refine va_get (D := D) (ci := 10) (v := .ref (ad 90)) (C := RX10) (T := TX10) (N := 6) hx hb hts inX10 hown hK hP 0 (g_at10 (Nat.le_of_ble_eq_true rfl) rfl) rfl 5 (by decide) lk2 (fun _ h9 => h9) rfl dX10_planError_24 ?_
      refine va_get (D := D) (ci := 6) (v := .int (iv 90 7)) (C := RX6) (T := TX6) (N := 11) hx hb hts inX6 hown hK hP 90 (g_at6 (Nat.le_of_ble_eq_true rfl) rfl) rfl 7 (by decide) lk3 (fun _ h9 => h9) rfl dX10_planError_27 ?_
      refine lv_if_eq (tgt := 37) hx hb dX10_planError_30 (by decide) (fun c_4 => ?_) (fun c_4 => ?_)
      · skip
        have q_4 : (iv 90 7).toInt = (0 : Int) := i_eq2 (rfl : (iv 90 7).toInt = (iv 90 7).toInt) (show (0 : Int32).toInt = (0 : Int) from rfl) c_4
        refine lv_bipush (v := (-7)) hx hb dX10_planError_37 (by decide) ?_
        rw [hQ]
        exact W.iret (v := (-7)) hx hb hr (fun t ht hW => ⟨(-7), rfl, trivial, ht⟩) (fun q h => by cases h) dX10_planError_39
      · skip
        have q_4 : (iv 90 7).toInt ≠ (0 : Int) := i_ne2 (rfl : (iv 90 7).toInt = (iv 90 7).toInt) (show (0 : Int32).toInt = (0 : Int) from rfl) c_4
        refine lv_iconst (v := 0) hx hb dX10_planError_33 (by decide) ?_
        refine lv_goto (tgt := 39) hx hb dX10_planError_34 (by decide) ?_
        rw [hQ]
        exact W.iret (v := 0) hx hb hr (fun t ht hW => ⟨0, rfl, trivial, ht⟩) (fun q h => by cases h) dX10_planError_39
    · skip
      have q_3 : b.toInt = (0 : Int) := i_eq2 (rfl : b.toInt = b.toInt) (show (0 : Int32).toInt = (0 : Int) from rfl) c_3
      refine lv_bipush (v := (-2)) hx hb dX10_planError_20 (by decide) ?_
      rw [hQ]
      exact W.iret (v := (-2)) hx hb hr (fun t ht hW => ⟨(-2), rfl, trivial, ht⟩) (fun q h => by cases h) dX10_planError_22
  · skip
    have q_2 : r_1.toInt = (0 : Int) := i_eq2 (rfl : r_1.toInt = r_1.toInt) (show (0 : Int32).toInt = (0 : Int) from rfl) c_2
    refine lv_iconst (v := (-1)) hx hb dX10_planError_14 (by decide) ?_
    rw [hQ]
    exact W.iret (v := (-1)) hx hb hr (fun t ht hW => ⟨(-1), rfl, trivial, ht⟩) (fun q h => by cases h) dX10_planError_15
set_option maxHeartbeats 4000000 in
set_option maxRecDepth 100000 in
theorem c_X10_addPlace (l : Launch) (D : va_G) (cy : Nat → ClassId) (ad : Nat → Nat) (hI : gInj ad) (sz : Nat) (iv : gIv) (ar : gAr) (k1 : Nat) (hk_k1 : k1 < 135) (hd_k1 : kd k1 = 5) (b : Int32) (hz : SZ iv) : Met l yX10_addPlace wsX10_addPlace ({ frames := 5, cells := 0, slots := 0, locals := 123 } : Room) (va_Pc [.ref (ad 0), .ref (ad k1), .int b] (gPre D cy ad sz iv ar)) (va_Qi (fun (r : Int32) (u : gIv × gAr) => KP iv u.1) (gPost D cy ad) (gA ad sz)) 0 0 (gA ad sz) := by
  refine Met.ofW (cc := cX10_addPlace) (maxL := 3) (ret := (some .int)) (by decide) rfl ?_
  intro p e s m args below meth c s₁ B hml hv
  obtain ⟨rfl, rfl, hP, hK, hSt, hNw⟩ := hv
  have hx := B.exec
  have hb := B.bytes
  have hr := B.returns
  have hts := atoms_spec (ws := wsX10_addPlace) B.pre
  have hown : s.vm.findClass RX10 = some m.cls := findClass_of_methodNamed B.named
  have hlocks := B.notSynchronized
  have hS : va_S (gA ad s.heap.size) s.heap s.heap [] := va_S.rf
  have inX10 : ∀ w ∈ u_ws RX10 TX10 6, w ∈ wsX10_addPlace := by decide +kernel
  have inX5 : ∀ w ∈ u_ws RX5 TX5 2, w ∈ wsX10_addPlace := by decide +kernel
  have inX8 : ∀ w ∈ u_ws RX8 TX8 5, w ∈ wsX10_addPlace := by decide +kernel
  have lk0 := hts (.fieldLink RX10 100 "FormationPlanner$Places" "size" "I") (by decide +kernel)
  have lk1 := hts (.fieldLink RX10 12 "FormationPlanner" "scene" "LFormationPlanner$Scene;") (by decide +kernel)
  have lk2 := hts (.fieldLink RX10 90 "FormationPlanner$Scene" "obstacles" "[I") (by decide +kernel)
  have hl := lv_entry ([.ref (ad 0), .ref (ad k1), .int b]) (n := 3) (Nat.le_of_ble_eq_true rfl)
  rw [lg_entry_eq]
  generalize (lg_sl ([.ref (ad 0), .ref (ad k1), .int b]) ++ List.replicate (3 - (lg_sl ([.ref (ad 0), .ref (ad k1), .int b])).length) Slot.unset).toArray = ls at hl ⊢
  have hl : lv_has ls 3 [(0, .ref (ad 0)), (1, .ref (ad k1)), (2, .int b)] := hl
  obtain ⟨Q, hQ⟩ : ∃ Q, Q = MQ below (va_Qi (fun (r : Int32) (u : gIv × gAr) => KP iv u.1) (gPost D cy ad) (gA ad s.heap.size)) (([.ref (ad 0), .ref (ad k1), .int b] : List Value).toArray) s 0 0 (gA ad s.heap.size) := ⟨_, rfl⟩
  rw [← hQ]
  have fk0 : KP iv iv := KP.rf hz
  refine lv_iload_n hx hb dX10_addPlace_0 rfl (lv_at hl 2 rfl) ?_
  refine g_callSi (va_runS (As := [.int b]) (rest := []) ⟨hx, hb, hml, hown, hts⟩ (c_X10_isCell l b) (va_cwS 1 hts gX10_addPlace_X10_isCell rfl rfl rfl (by decide +kernel) ⟨Nat.le_of_ble_eq_true rfl, Nat.le_of_ble_eq_true rfl⟩) (g_preT) rfl rfl hl.1 rfl (lv_room (Nat.le_of_ble_eq_true rfl)) dX10_addPlace_1 ⟨Nat.zero_le _, Nat.zero_le _⟩) (fun r_1 w_1 => ?_)
  try dsimp only at w_1
  refine lv_if_ne (tgt := 10) hx hb dX10_addPlace_4 (by decide) (fun c_2 => ?_) (fun c_2 => ?_)
  · skip
    have q_2 : r_1.toInt ≠ (0 : Int) := i_ne2 (rfl : r_1.toInt = r_1.toInt) (show (0 : Int32).toInt = (0 : Int) from rfl) c_2
    refine lv_aload_n hx hb dX10_addPlace_10 rfl (lv_at hl 1 rfl) ?_
    refine va_get (D := D) (ci := 5) (v := .int (iv k1 1)) (C := RX5) (T := TX5) (N := 2) hx hb hts inX5 hown hK hP k1 (g_at5 hk_k1 hd_k1) rfl 1 (by decide) lk0 (fun _ h9 => h9) rfl dX10_addPlace_11 ?_
    refine lv_bipush (v := 6) hx hb dX10_addPlace_14 (by decide) ?_
    refine lv_icmp_lt (tgt := 22) hx hb dX10_addPlace_16 (by decide) (fun c_3 => ?_) (fun c_3 => ?_)
    · skip
      have q_3 : (iv k1 1).toInt < (6 : Int) := i_lt2 (rfl : (iv k1 1).toInt = (iv k1 1).toInt) (show (6 : Int32).toInt = (6 : Int) from rfl) c_3
      refine lv_aload_n hx hb dX10_addPlace_22 rfl (lv_at hl 0 rfl) ?_
      refine va_get (D := D) (ci := 10) (v := .ref (ad 1)) (C := RX10) (T := TX10) (N := 6) hx hb hts inX10 hown hK hP 0 (g_at10 (Nat.le_of_ble_eq_true rfl) rfl) rfl 0 (by decide) lk1 (fun _ h9 => h9) rfl dX10_addPlace_23 ?_
      refine va_get (D := D) (ci := 8) (v := .ref (ad 3)) (C := RX8) (T := TX8) (N := 5) hx hb hts inX8 hown hK hP 1 (g_at8 (Nat.le_of_ble_eq_true rfl) rfl) rfl 1 (by decide) lk2 (fun _ h9 => h9) rfl dX10_addPlace_26 ?_
      refine lv_iload_n hx hb dX10_addPlace_29 rfl (lv_at hl 2 rfl) ?_
      refine va_iald hx hb hK hP 3 0 (g_at12 (Nat.le_of_ble_eq_true rfl) rfl) rfl (g_in (N := 108) (rfl : b.toInt = b.toInt) rfl (by omega) (by omega)) dX10_addPlace_30 ?_
      refine lv_topi (fun v_4 ev_4 => ?_)
      refine lv_if_ne (tgt := 43) hx hb dX10_addPlace_31 (by decide) (fun c_5 => ?_) (fun c_5 => ?_)
      · skip
        have q_5 : v_4.toInt ≠ (0 : Int) := i_ne2 (rfl : v_4.toInt = v_4.toInt) (show (0 : Int32).toInt = (0 : Int) from rfl) c_5
        refine lv_bipush (v := (-4)) hx hb dX10_addPlace_43 (by decide) ?_
        rw [hQ]
        exact W.iret (v := (-4)) hx hb hr (fun t ht hW => ⟨⟨(-4), (iv, ar), rfl, fk0, by show va_P _ _ _ _; rw [ht]; exact hP⟩, hS.F ht⟩) hS.2.2 dX10_addPlace_45
      · skip
        have q_5 : v_4.toInt = (0 : Int) := i_eq2 (rfl : v_4.toInt = v_4.toInt) (show (0 : Int32).toInt = (0 : Int) from rfl) c_5
        refine lv_aload_n hx hb dX10_addPlace_34 rfl (lv_at hl 1 rfl) ?_
        refine lv_iload_n hx hb dX10_addPlace_35 rfl (lv_at hl 2 rfl) ?_
        refine g_callSi (va_runV (As := [.int b]) (rest := []) ⟨hx, hb, hml, hown, hts⟩ (c_X5_find l D cy ad hI _ iv ar k1 hk_k1 hd_k1 b) (cwV 1 hts gX10_addPlace_X5_find rfl rfl rfl (by decide +kernel) ⟨Nat.le_of_ble_eq_true rfl, Nat.le_of_ble_eq_true rfl⟩) (g_preV hP hK hSt hNw hS (g_at5 hk_k1 hd_k1) rfl) rfl rfl hl.1 rfl (lv_room (Nat.le_of_ble_eq_true rfl)) dX10_addPlace_36 ⟨Nat.zero_le _, Nat.zero_le _⟩) (fun r_6 w_6 => ?_)
        try dsimp only at w_6
        refine lv_iconst (v := (-1)) hx hb dX10_addPlace_39 (by decide) ?_
        refine lv_icmp_eq (tgt := 46) hx hb dX10_addPlace_40 (by decide) (fun c_7 => ?_) (fun c_7 => ?_)
        · skip
          have q_7 : r_6.toInt = (-1 : Int) := i_eq2 (rfl : r_6.toInt = r_6.toInt) (show ((-1) : Int32).toInt = (-1 : Int) from rfl) c_7
          refine lv_aload_n hx hb dX10_addPlace_46 rfl (lv_at hl 0 rfl) ?_
          refine g_callv (va_runV (As := []) (rest := []) ⟨hx, hb, hml, hown, hts⟩ (c_X10_beginChange l D cy ad hI _ iv ar fk0.1) (cwV 0 hts gX10_addPlace_X10_beginChange rfl rfl rfl (by decide +kernel) ⟨Nat.le_of_ble_eq_true rfl, Nat.le_of_ble_eq_true rfl⟩) (g_preV hP hK hSt hNw hS (g_at10 (Nat.le_of_ble_eq_true rfl) rfl) rfl) rfl rfl hl.1 rfl (lv_room (Nat.le_of_ble_eq_true rfl)) dX10_addPlace_47 ⟨Nat.zero_le _, Nat.zero_le _⟩) hS (fun iv_8 ar_8 H locs w_8 hP hS => ?_)
          try dsimp only at w_8
          have fk_8 : KP iv iv_8 := ⟨w_8.2.2, (w_8.1 66 2 (by omega) (by omega)).trans fk0.2⟩
          refine lv_aload_n hx hb dX10_addPlace_50 rfl (lv_at hl 1 rfl) ?_
          refine lv_iload_n hx hb dX10_addPlace_51 rfl (lv_at hl 2 rfl) ?_
          refine g_callv (va_runV (As := [.int b]) (rest := []) ⟨hx, hb, hml, hown, hts⟩ (c_X5_add l D cy ad hI _ iv_8 ar_8 k1 hk_k1 hd_k1 b) (cwV 1 hts gX10_addPlace_X5_add rfl rfl rfl (by decide +kernel) ⟨Nat.le_of_ble_eq_true rfl, Nat.le_of_ble_eq_true rfl⟩) (g_preV hP hK hSt hNw hS (g_at5 hk_k1 hd_k1) rfl) rfl rfl hl.1 rfl (lv_room (Nat.le_of_ble_eq_true rfl)) dX10_addPlace_52 ⟨Nat.zero_le _, Nat.zero_le _⟩) hS (fun iv_9 ar_9 H locs w_9 hP hS => ?_)
          try dsimp only at w_9
          have fk_9 : KP iv iv_9 := (by
            rcases w_9 with ⟨-, q⟩ | ⟨q1, q2, x, q3, q⟩
            · rw [show iv_9 = iv_8 from congrArg Prod.fst q]; exact fk_8
            · rw [show iv_9 = u2 iv_8 _ 1 x from congrArg Prod.fst q]; exact fk_8.up5 hd_k1 (by omega))
          refine lv_aload_n hx hb dX10_addPlace_55 rfl (lv_at hl 1 rfl) ?_
          refine va_get (D := D) (ci := 5) (v := .int (iv_9 k1 1)) (C := RX5) (T := TX5) (N := 2) hx hb hts inX5 hown hK hP k1 (g_at5 hk_k1 hd_k1) rfl 1 (by decide) lk0 (fun _ h9 => h9) rfl dX10_addPlace_56 ?_
          refine lv_iconst (v := 1) hx hb dX10_addPlace_59 (by decide) ?_
          refine lv_isub hx hb dX10_addPlace_60 ?_
          refine lv_topi (fun v_10 ev_10 => ?_)
          rw [hQ]
          exact W.iret (v := v_10) hx hb hr (fun t ht hW => ⟨⟨v_10, (iv_9, ar_9), rfl, fk_9, by show va_P _ _ _ _; rw [ht]; exact hP⟩, hS.F ht⟩) hS.2.2 dX10_addPlace_61
        · skip
          have q_7 : r_6.toInt ≠ (-1 : Int) := i_ne2 (rfl : r_6.toInt = r_6.toInt) (show ((-1) : Int32).toInt = (-1 : Int) from rfl) c_7
          refine lv_bipush (v := (-4)) hx hb dX10_addPlace_43 (by decide) ?_
          rw [hQ]
          exact W.iret (v := (-4)) hx hb hr (fun t ht hW => ⟨⟨(-4), (iv, ar), rfl, fk0, by show va_P _ _ _ _; rw [ht]; exact hP⟩, hS.F ht⟩) hS.2.2 dX10_addPlace_45
    · skip
      have q_3 : (6 : Int) ≤ (iv k1 1).toInt := i_nlt2 (rfl : (iv k1 1).toInt = (iv k1 1).toInt) (show (6 : Int32).toInt = (6 : Int) from rfl) c_3
      refine lv_bipush (v := (-3)) hx hb dX10_addPlace_19 (by decide) ?_
      rw [hQ]
      exact W.iret (v := (-3)) hx hb hr (fun t ht hW => ⟨⟨(-3), (iv, ar), rfl, fk0, by show va_P _ _ _ _; rw [ht]; exact hP⟩, hS.F ht⟩) hS.2.2 dX10_addPlace_21
  · skip
    have q_2 : r_1.toInt = (0 : Int) := i_eq2 (rfl : r_1.toInt = r_1.toInt) (show (0 : Int32).toInt = (0 : Int) from rfl) c_2
    refine lv_bipush (v := (-2)) hx hb dX10_addPlace_7 (by decide) ?_
    rw [hQ]
    exact W.iret (v := (-2)) hx hb hr (fun t ht hW => ⟨⟨(-2), (iv, ar), rfl, fk0, by show va_P _ _ _ _; rw [ht]; exact hP⟩, hS.F ht⟩) hS.2.2 dX10_addPlace_9
set_option maxHeartbeats 4000000 in
set_option maxRecDepth 100000 in
theorem c_X10_setWind (l : Launch) (D : va_G) (cy : Nat → ClassId) (ad : Nat → Nat) (hI : gInj ad) (sz : Nat) (iv : gIv) (ar : gAr) (a : Int32) (b : Int32) (hz : SZ iv) : Met l yX10_setWind wsX10_setWind ({ frames := 5, cells := 0, slots := 0, locals := 123 } : Room) (va_Pc [.ref (ad 0), .int a, .int b] (gPre D cy ad sz iv ar)) (va_Qi (fun (r : Int32) (u : gIv × gAr) => KP iv u.1) (gPost D cy ad) (gA ad sz)) 0 0 (gA ad sz) := by
  refine Met.ofW (cc := cX10_setWind) (maxL := 4) (ret := (some .int)) (by decide) rfl ?_
  intro p e s m args below meth c s₁ B hml hv
  obtain ⟨rfl, rfl, hP, hK, hSt, hNw⟩ := hv
  have hx := B.exec
  have hb := B.bytes
  have hr := B.returns
  have hts := atoms_spec (ws := wsX10_setWind) B.pre
  have hown : s.vm.findClass RX10 = some m.cls := findClass_of_methodNamed B.named
  have hlocks := B.notSynchronized
  have hS : va_S (gA ad s.heap.size) s.heap s.heap [] := va_S.rf
  have inX10 : ∀ w ∈ u_ws RX10 TX10 6, w ∈ wsX10_setWind := by decide +kernel
  have inX8 : ∀ w ∈ u_ws RX8 TX8 5, w ∈ wsX10_setWind := by decide +kernel
  have lk0 := hts (.fieldLink RX10 12 "FormationPlanner" "scene" "LFormationPlanner$Scene;") (by decide +kernel)
  have lk1 := hts (.fieldLink RX10 70 "FormationPlanner$Scene" "winds" "[I") (by decide +kernel)
  have hl := lv_entry ([.ref (ad 0), .int a, .int b]) (n := 4) (Nat.le_of_ble_eq_true rfl)
  rw [lg_entry_eq]
  generalize (lg_sl ([.ref (ad 0), .int a, .int b]) ++ List.replicate (4 - (lg_sl ([.ref (ad 0), .int a, .int b])).length) Slot.unset).toArray = ls at hl ⊢
  have hl : lv_has ls 4 [(0, .ref (ad 0)), (1, .int a), (2, .int b)] := hl
  obtain ⟨Q, hQ⟩ : ∃ Q, Q = MQ below (va_Qi (fun (r : Int32) (u : gIv × gAr) => KP iv u.1) (gPost D cy ad) (gA ad s.heap.size)) (([.ref (ad 0), .int a, .int b] : List Value).toArray) s 0 0 (gA ad s.heap.size) := ⟨_, rfl⟩
  rw [← hQ]
  have fk0 : KP iv iv := KP.rf hz
  refine lv_iload_n hx hb dX10_setWind_0 rfl (lv_at hl 1 rfl) ?_
  refine g_callSi (va_runS (As := [.int a]) (rest := []) ⟨hx, hb, hml, hown, hts⟩ (c_X10_isLayer l a) (va_cwS 1 hts gX10_setWind_X10_isLayer rfl rfl rfl (by decide +kernel) ⟨Nat.le_of_ble_eq_true rfl, Nat.le_of_ble_eq_true rfl⟩) (g_preT) rfl rfl hl.1 rfl (lv_room (Nat.le_of_ble_eq_true rfl)) dX10_setWind_1 ⟨Nat.zero_le _, Nat.zero_le _⟩) (fun r_1 w_1 => ?_)
  try dsimp only at w_1
  refine lv_if_eq (tgt := 14) hx hb dX10_setWind_4 (by decide) (fun c_2 => ?_) (fun c_2 => ?_)
  · skip
    have q_2 : r_1.toInt = (0 : Int) := i_eq2 (rfl : r_1.toInt = r_1.toInt) (show (0 : Int32).toInt = (0 : Int) from rfl) c_2
    refine lv_bipush (v := (-2)) hx hb dX10_setWind_14 (by decide) ?_
    rw [hQ]
    exact W.iret (v := (-2)) hx hb hr (fun t ht hW => ⟨⟨(-2), (iv, ar), rfl, fk0, by show va_P _ _ _ _; rw [ht]; exact hP⟩, hS.F ht⟩) hS.2.2 dX10_setWind_16
  · skip
    have q_2 : r_1.toInt ≠ (0 : Int) := i_ne2 (rfl : r_1.toInt = r_1.toInt) (show (0 : Int32).toInt = (0 : Int) from rfl) c_2
    refine lv_iload_n hx hb dX10_setWind_7 rfl (lv_at hl 2 rfl) ?_
    refine g_callSi (va_runS (As := [.int b]) (rest := []) ⟨hx, hb, hml, hown, hts⟩ (c_X10_isWind l b) (va_cwS 1 hts gX10_setWind_X10_isWind rfl rfl rfl (by decide +kernel) ⟨Nat.le_of_ble_eq_true rfl, Nat.le_of_ble_eq_true rfl⟩) (g_preT) rfl rfl hl.1 rfl (lv_room (Nat.le_of_ble_eq_true rfl)) dX10_setWind_8 ⟨Nat.zero_le _, Nat.zero_le _⟩) (fun r_3 w_3 => ?_)
    try dsimp only at w_3
    refine lv_if_ne (tgt := 17) hx hb dX10_setWind_11 (by decide) (fun c_4 => ?_) (fun c_4 => ?_)
    · skip
      have q_4 : r_3.toInt ≠ (0 : Int) := i_ne2 (rfl : r_3.toInt = r_3.toInt) (show (0 : Int32).toInt = (0 : Int) from rfl) c_4
      refine lv_aload_n hx hb dX10_setWind_17 rfl (lv_at hl 0 rfl) ?_
      refine g_callv (va_runV (As := []) (rest := []) ⟨hx, hb, hml, hown, hts⟩ (c_X10_beginChange l D cy ad hI _ iv ar fk0.1) (cwV 0 hts gX10_setWind_X10_beginChange rfl rfl rfl (by decide +kernel) ⟨Nat.le_of_ble_eq_true rfl, Nat.le_of_ble_eq_true rfl⟩) (g_preV hP hK hSt hNw hS (g_at10 (Nat.le_of_ble_eq_true rfl) rfl) rfl) rfl rfl hl.1 rfl (lv_room (Nat.le_of_ble_eq_true rfl)) dX10_setWind_18 ⟨Nat.zero_le _, Nat.zero_le _⟩) hS (fun iv_5 ar_5 H locs w_5 hP hS => ?_)
      try dsimp only at w_5
      have fk_5 : KP iv iv_5 := ⟨w_5.2.2, (w_5.1 66 2 (by omega) (by omega)).trans fk0.2⟩
      refine lv_aload_n hx hb dX10_setWind_21 rfl (lv_at hl 0 rfl) ?_
      refine va_get (D := D) (ci := 10) (v := .ref (ad 1)) (C := RX10) (T := TX10) (N := 6) hx hb hts inX10 hown hK hP 0 (g_at10 (Nat.le_of_ble_eq_true rfl) rfl) rfl 0 (by decide) lk0 (fun _ h9 => h9) rfl dX10_setWind_22 ?_
      refine va_get (D := D) (ci := 8) (v := .ref (ad 2)) (C := RX8) (T := TX8) (N := 5) hx hb hts inX8 hown hK hP 1 (g_at8 (Nat.le_of_ble_eq_true rfl) rfl) rfl 0 (by decide) lk1 (fun _ h9 => h9) rfl dX10_setWind_25 ?_
      refine lv_iload_n hx hb dX10_setWind_28 rfl (lv_at hl 1 rfl) ?_
      refine va_iald hx hb hK hP 2 0 (g_at12 (Nat.le_of_ble_eq_true rfl) rfl) rfl (g_in (N := 3) (rfl : a.toInt = a.toInt) rfl (by omega) (by omega)) dX10_setWind_29 ?_
      refine lv_topi (fun v_6 ev_6 => ?_)
      refine lv_istore_n (lv' := [(3, .int v_6), (0, .ref (ad 0)), (1, .int a), (2, .int b)]) hx hb dX10_setWind_30 rfl hl (by decide) rfl (fun ls hl => ?_)
      refine lv_aload_n hx hb dX10_setWind_31 rfl (lv_at hl 1 rfl) ?_
      refine va_get (D := D) (ci := 10) (v := .ref (ad 1)) (C := RX10) (T := TX10) (N := 6) hx hb hts inX10 hown hK hP 0 (g_at10 (Nat.le_of_ble_eq_true rfl) rfl) rfl 0 (by decide) lk0 (fun _ h9 => h9) rfl dX10_setWind_32 ?_
      refine va_get (D := D) (ci := 8) (v := .ref (ad 2)) (C := RX8) (T := TX8) (N := 5) hx hb hts inX8 hown hK hP 1 (g_at8 (Nat.le_of_ble_eq_true rfl) rfl) rfl 0 (by decide) lk1 (fun _ h9 => h9) rfl dX10_setWind_35 ?_
      refine lv_iload_n hx hb dX10_setWind_38 rfl (lv_at hl 2 rfl) ?_
      refine lv_iload_n hx hb dX10_setWind_39 rfl (lv_at hl 3 rfl) ?_
      refine va_iast hx hb hK hP (gD hI) hS 2 0 (g_at12 (Nat.le_of_ble_eq_true rfl) rfl) rfl (g_in (N := 3) (rfl : a.toInt = a.toInt) rfl (by omega) (by omega)) dX10_setWind_40 (fun H locs hP _ hS => ?_)
      rw [g_pt12 (Nat.le_of_ble_eq_true rfl) rfl] at hP
      obtain ⟨ar_7, ear_7⟩ : ∃ z : gAr, z = va_up ar_5 2 (upd (ar_5 2) a.toNatClampNeg b) := ⟨_, rfl⟩
      rw [← ear_7] at hP
      refine lv_iload_n hx hb dX10_setWind_41 rfl (lv_at hl 0 rfl) ?_
      rw [hQ]
      exact W.iret (v := v_6) hx hb hr (fun t ht hW => ⟨⟨v_6, (iv_5, ar_7), rfl, fk_5, by show va_P _ _ _ _; rw [ht]; exact hP⟩, hS.F ht⟩) hS.2.2 dX10_setWind_42
    · skip
      have q_4 : r_3.toInt = (0 : Int) := i_eq2 (rfl : r_3.toInt = r_3.toInt) (show (0 : Int32).toInt = (0 : Int) from rfl) c_4
      refine lv_bipush (v := (-2)) hx hb dX10_setWind_14 (by decide) ?_
      rw [hQ]
      exact W.iret (v := (-2)) hx hb hr (fun t ht hW => ⟨⟨(-2), (iv, ar), rfl, fk0, by show va_P _ _ _ _; rw [ht]; exact hP⟩, hS.F ht⟩) hS.2.2 dX10_setWind_16
set_option maxHeartbeats 4000000 in
set_option maxRecDepth 100000 in
theorem c_X10_setObstacle (l : Launch) (D : va_G) (cy : Nat → ClassId) (ad : Nat → Nat) (hI : gInj ad) (sz : Nat) (iv : gIv) (ar : gAr) (a : Int32) (b : Int32) (hz : SZ iv) : Met l yX10_setObstacle wsX10_setObstacle ({ frames := 5, cells := 0, slots := 0, locals := 123 } : Room) (va_Pc [.ref (ad 0), .int a, .int b] (gPre D cy ad sz iv ar)) (va_Qi (fun (r : Int32) (u : gIv × gAr) => KP iv u.1) (gPost D cy ad) (gA ad sz)) 0 0 (gA ad sz) := by
  refine Met.ofW (cc := cX10_setObstacle) (maxL := 4) (ret := (some .int)) (by decide) rfl ?_
  intro p e s m args below meth c s₁ B hml hv
  obtain ⟨rfl, rfl, hP, hK, hSt, hNw⟩ := hv
  have hx := B.exec
  have hb := B.bytes
  have hr := B.returns
  have hts := atoms_spec (ws := wsX10_setObstacle) B.pre
  have hown : s.vm.findClass RX10 = some m.cls := findClass_of_methodNamed B.named
  have hlocks := B.notSynchronized
  have hS : va_S (gA ad s.heap.size) s.heap s.heap [] := va_S.rf
  have inX10 : ∀ w ∈ u_ws RX10 TX10 6, w ∈ wsX10_setObstacle := by decide +kernel
  have inX8 : ∀ w ∈ u_ws RX8 TX8 5, w ∈ wsX10_setObstacle := by decide +kernel
  have lk0 := hts (.fieldLink RX10 12 "FormationPlanner" "scene" "LFormationPlanner$Scene;") (by decide +kernel)
  have lk1 := hts (.fieldLink RX10 90 "FormationPlanner$Scene" "obstacles" "[I") (by decide +kernel)
  have lk2 := hts (.fieldLink RX10 77 "FormationPlanner$Scene" "drones" "LFormationPlanner$Places;") (by decide +kernel)
  have lk3 := hts (.fieldLink RX10 87 "FormationPlanner$Scene" "slots" "LFormationPlanner$Places;") (by decide +kernel)
  have hl := lv_entry ([.ref (ad 0), .int a, .int b]) (n := 4) (Nat.le_of_ble_eq_true rfl)
  rw [lg_entry_eq]
  generalize (lg_sl ([.ref (ad 0), .int a, .int b]) ++ List.replicate (4 - (lg_sl ([.ref (ad 0), .int a, .int b])).length) Slot.unset).toArray = ls at hl ⊢
  have hl : lv_has ls 4 [(0, .ref (ad 0)), (1, .int a), (2, .int b)] := hl
  obtain ⟨Q, hQ⟩ : ∃ Q, Q = MQ below (va_Qi (fun (r : Int32) (u : gIv × gAr) => KP iv u.1) (gPost D cy ad) (gA ad s.heap.size)) (([.ref (ad 0), .int a, .int b] : List Value).toArray) s 0 0 (gA ad s.heap.size) := ⟨_, rfl⟩
  rw [← hQ]
  have fk0 : KP iv iv := KP.rf hz
  refine lv_iload_n hx hb dX10_setObstacle_0 rfl (lv_at hl 1 rfl) ?_
  refine g_callSi (va_runS (As := [.int a]) (rest := []) ⟨hx, hb, hml, hown, hts⟩ (c_X10_isCell l a) (va_cwS 1 hts gX10_setObstacle_X10_isCell rfl rfl rfl (by decide +kernel) ⟨Nat.le_of_ble_eq_true rfl, Nat.le_of_ble_eq_true rfl⟩) (g_preT) rfl rfl hl.1 rfl (lv_room (Nat.le_of_ble_eq_true rfl)) dX10_setObstacle_1 ⟨Nat.zero_le _, Nat.zero_le _⟩) (fun r_1 w_1 => ?_)
  try dsimp only at w_1
  refine lv_if_eq (tgt := 16) hx hb dX10_setObstacle_4 (by decide) (fun c_2 => ?_) (fun c_2 => ?_)
  · skip
    have q_2 : r_1.toInt = (0 : Int) := i_eq2 (rfl : r_1.toInt = r_1.toInt) (show (0 : Int32).toInt = (0 : Int) from rfl) c_2
    refine lv_bipush (v := (-2)) hx hb dX10_setObstacle_16 (by decide) ?_
    rw [hQ]
    exact W.iret (v := (-2)) hx hb hr (fun t ht hW => ⟨⟨(-2), (iv, ar), rfl, fk0, by show va_P _ _ _ _; rw [ht]; exact hP⟩, hS.F ht⟩) hS.2.2 dX10_setObstacle_18
  · skip
    have q_2 : r_1.toInt ≠ (0 : Int) := i_ne2 (rfl : r_1.toInt = r_1.toInt) (show (0 : Int32).toInt = (0 : Int) from rfl) c_2
    refine lv_iload_n hx hb dX10_setObstacle_7 rfl (lv_at hl 2 rfl) ?_
    refine lv_if_lt (tgt := 16) hx hb dX10_setObstacle_8 (by decide) (fun c_3 => ?_) (fun c_3 => ?_)
    · skip
      have q_3 : b.toInt < (0 : Int) := i_lt2 (rfl : b.toInt = b.toInt) (show (0 : Int32).toInt = (0 : Int) from rfl) c_3
      refine lv_bipush (v := (-2)) hx hb dX10_setObstacle_16 (by decide) ?_
      rw [hQ]
      exact W.iret (v := (-2)) hx hb hr (fun t ht hW => ⟨⟨(-2), (iv, ar), rfl, fk0, by show va_P _ _ _ _; rw [ht]; exact hP⟩, hS.F ht⟩) hS.2.2 dX10_setObstacle_18
    · skip
      have q_3 : (0 : Int) ≤ b.toInt := i_nlt2 (rfl : b.toInt = b.toInt) (show (0 : Int32).toInt = (0 : Int) from rfl) c_3
      refine lv_iload_n hx hb dX10_setObstacle_11 rfl (lv_at hl 2 rfl) ?_
      refine lv_iconst (v := 1) hx hb dX10_setObstacle_12 (by decide) ?_
      refine lv_icmp_le (tgt := 19) hx hb dX10_setObstacle_13 (by decide) (fun c_4 => ?_) (fun c_4 => ?_)
      · skip
        have q_4 : b.toInt ≤ (1 : Int) := i_le2 (rfl : b.toInt = b.toInt) (show (1 : Int32).toInt = (1 : Int) from rfl) c_4
        refine lv_iload_n hx hb dX10_setObstacle_19 rfl (lv_at hl 2 rfl) ?_
        refine lv_iconst (v := 1) hx hb dX10_setObstacle_20 (by decide) ?_
        refine lv_icmp_ne (tgt := 57) hx hb dX10_setObstacle_21 (by decide) (fun c_5 => ?_) (fun c_5 => ?_)
        · skip
          have q_5 : b.toInt ≠ (1 : Int) := i_ne2 (rfl : b.toInt = b.toInt) (show (1 : Int32).toInt = (1 : Int) from rfl) c_5
          refine lv_aload_n hx hb dX10_setObstacle_57 rfl (lv_at hl 0 rfl) ?_
          refine g_callv (va_runV (As := []) (rest := []) ⟨hx, hb, hml, hown, hts⟩ (c_X10_beginChange l D cy ad hI _ iv ar fk0.1) (cwV 0 hts gX10_setObstacle_X10_beginChange rfl rfl rfl (by decide +kernel) ⟨Nat.le_of_ble_eq_true rfl, Nat.le_of_ble_eq_true rfl⟩) (g_preV hP hK hSt hNw hS (g_at10 (Nat.le_of_ble_eq_true rfl) rfl) rfl) rfl rfl hl.1 rfl (lv_room (Nat.le_of_ble_eq_true rfl)) dX10_setObstacle_58 ⟨Nat.zero_le _, Nat.zero_le _⟩) hS (fun iv_6 ar_6 H locs w_6 hP hS => ?_)
          try dsimp only at w_6
          have fk_6 : KP iv iv_6 := ⟨w_6.2.2, (w_6.1 66 2 (by omega) (by omega)).trans fk0.2⟩
          refine lv_aload_n hx hb dX10_setObstacle_61 rfl (lv_at hl 0 rfl) ?_
          refine va_get (D := D) (ci := 10) (v := .ref (ad 1)) (C := RX10) (T := TX10) (N := 6) hx hb hts inX10 hown hK hP 0 (g_at10 (Nat.le_of_ble_eq_true rfl) rfl) rfl 0 (by decide) lk0 (fun _ h9 => h9) rfl dX10_setObstacle_62 ?_
          refine va_get (D := D) (ci := 8) (v := .ref (ad 3)) (C := RX8) (T := TX8) (N := 5) hx hb hts inX8 hown hK hP 1 (g_at8 (Nat.le_of_ble_eq_true rfl) rfl) rfl 1 (by decide) lk1 (fun _ h9 => h9) rfl dX10_setObstacle_65 ?_
          refine lv_iload_n hx hb dX10_setObstacle_68 rfl (lv_at hl 1 rfl) ?_
          refine va_iald hx hb hK hP 3 0 (g_at12 (Nat.le_of_ble_eq_true rfl) rfl) rfl (g_in (N := 108) (rfl : a.toInt = a.toInt) rfl (by omega) (by omega)) dX10_setObstacle_69 ?_
          refine lv_topi (fun v_7 ev_7 => ?_)
          refine lv_istore_n (lv' := [(3, .int v_7), (0, .ref (ad 0)), (1, .int a), (2, .int b)]) hx hb dX10_setObstacle_70 rfl hl (by decide) rfl (fun ls hl => ?_)
          refine lv_aload_n hx hb dX10_setObstacle_71 rfl (lv_at hl 1 rfl) ?_
          refine va_get (D := D) (ci := 10) (v := .ref (ad 1)) (C := RX10) (T := TX10) (N := 6) hx hb hts inX10 hown hK hP 0 (g_at10 (Nat.le_of_ble_eq_true rfl) rfl) rfl 0 (by decide) lk0 (fun _ h9 => h9) rfl dX10_setObstacle_72 ?_
          refine va_get (D := D) (ci := 8) (v := .ref (ad 3)) (C := RX8) (T := TX8) (N := 5) hx hb hts inX8 hown hK hP 1 (g_at8 (Nat.le_of_ble_eq_true rfl) rfl) rfl 1 (by decide) lk1 (fun _ h9 => h9) rfl dX10_setObstacle_75 ?_
          refine lv_iload_n hx hb dX10_setObstacle_78 rfl (lv_at hl 2 rfl) ?_
          refine lv_iload_n hx hb dX10_setObstacle_79 rfl (lv_at hl 3 rfl) ?_
          refine va_iast hx hb hK hP (gD hI) hS 3 0 (g_at12 (Nat.le_of_ble_eq_true rfl) rfl) rfl (g_in (N := 108) (rfl : a.toInt = a.toInt) rfl (by omega) (by omega)) dX10_setObstacle_80 (fun H locs hP _ hS => ?_)
          rw [g_pt12 (Nat.le_of_ble_eq_true rfl) rfl] at hP
          obtain ⟨ar_8, ear_8⟩ : ∃ z : gAr, z = va_up ar_6 3 (upd (ar_6 3) a.toNatClampNeg b) := ⟨_, rfl⟩
          rw [← ear_8] at hP
          refine lv_iload_n hx hb dX10_setObstacle_81 rfl (lv_at hl 0 rfl) ?_
          rw [hQ]
          exact W.iret (v := v_7) hx hb hr (fun t ht hW => ⟨⟨v_7, (iv_6, ar_8), rfl, fk_6, by show va_P _ _ _ _; rw [ht]; exact hP⟩, hS.F ht⟩) hS.2.2 dX10_setObstacle_82
        · skip
          have q_5 : b.toInt = (1 : Int) := i_eq2 (rfl : b.toInt = b.toInt) (show (1 : Int32).toInt = (1 : Int) from rfl) c_5
          refine lv_aload_n hx hb dX10_setObstacle_24 rfl (lv_at hl 0 rfl) ?_
          refine va_get (D := D) (ci := 10) (v := .ref (ad 1)) (C := RX10) (T := TX10) (N := 6) hx hb hts inX10 hown hK hP 0 (g_at10 (Nat.le_of_ble_eq_true rfl) rfl) rfl 0 (by decide) lk0 (fun _ h9 => h9) rfl dX10_setObstacle_25 ?_
          refine va_get (D := D) (ci := 8) (v := .ref (ad 4)) (C := RX8) (T := TX8) (N := 5) hx hb hts inX8 hown hK hP 1 (g_at8 (Nat.le_of_ble_eq_true rfl) rfl) rfl 2 (by decide) lk2 (fun _ h9 => h9) rfl dX10_setObstacle_28 ?_
          refine lv_iload_n hx hb dX10_setObstacle_31 rfl (lv_at hl 1 rfl) ?_
          refine g_callSi (va_runV (As := [.int a]) (rest := []) ⟨hx, hb, hml, hown, hts⟩ (c_X5_find l D cy ad hI _ iv ar 4 (Nat.le_of_ble_eq_true rfl) rfl a) (cwV 1 hts gX10_setObstacle_X5_find rfl rfl rfl (by decide +kernel) ⟨Nat.le_of_ble_eq_true rfl, Nat.le_of_ble_eq_true rfl⟩) (g_preV hP hK hSt hNw hS (g_at5 (Nat.le_of_ble_eq_true rfl) rfl) rfl) rfl rfl hl.1 rfl (lv_room (Nat.le_of_ble_eq_true rfl)) dX10_setObstacle_32 ⟨Nat.zero_le _, Nat.zero_le _⟩) (fun r_9 w_9 => ?_)
          try dsimp only at w_9
          refine lv_iconst (v := (-1)) hx hb dX10_setObstacle_35 (by decide) ?_
          refine lv_icmp_ne (tgt := 54) hx hb dX10_setObstacle_36 (by decide) (fun c_10 => ?_) (fun c_10 => ?_)
          · skip
            have q_10 : r_9.toInt ≠ (-1 : Int) := i_ne2 (rfl : r_9.toInt = r_9.toInt) (show ((-1) : Int32).toInt = (-1 : Int) from rfl) c_10
            refine lv_bipush (v := (-4)) hx hb dX10_setObstacle_54 (by decide) ?_
            rw [hQ]
            exact W.iret (v := (-4)) hx hb hr (fun t ht hW => ⟨⟨(-4), (iv, ar), rfl, fk0, by show va_P _ _ _ _; rw [ht]; exact hP⟩, hS.F ht⟩) hS.2.2 dX10_setObstacle_56
          · skip
            have q_10 : r_9.toInt = (-1 : Int) := i_eq2 (rfl : r_9.toInt = r_9.toInt) (show ((-1) : Int32).toInt = (-1 : Int) from rfl) c_10
            refine lv_aload_n hx hb dX10_setObstacle_39 rfl (lv_at hl 0 rfl) ?_
            refine va_get (D := D) (ci := 10) (v := .ref (ad 1)) (C := RX10) (T := TX10) (N := 6) hx hb hts inX10 hown hK hP 0 (g_at10 (Nat.le_of_ble_eq_true rfl) rfl) rfl 0 (by decide) lk0 (fun _ h9 => h9) rfl dX10_setObstacle_40 ?_
            refine va_get (D := D) (ci := 8) (v := .ref (ad 6)) (C := RX8) (T := TX8) (N := 5) hx hb hts inX8 hown hK hP 1 (g_at8 (Nat.le_of_ble_eq_true rfl) rfl) rfl 3 (by decide) lk3 (fun _ h9 => h9) rfl dX10_setObstacle_43 ?_
            refine lv_iload_n hx hb dX10_setObstacle_46 rfl (lv_at hl 1 rfl) ?_
            refine g_callSi (va_runV (As := [.int a]) (rest := []) ⟨hx, hb, hml, hown, hts⟩ (c_X5_find l D cy ad hI _ iv ar 6 (Nat.le_of_ble_eq_true rfl) rfl a) (cwV 1 hts gX10_setObstacle_X5_find rfl rfl rfl (by decide +kernel) ⟨Nat.le_of_ble_eq_true rfl, Nat.le_of_ble_eq_true rfl⟩) (g_preV hP hK hSt hNw hS (g_at5 (Nat.le_of_ble_eq_true rfl) rfl) rfl) rfl rfl hl.1 rfl (lv_room (Nat.le_of_ble_eq_true rfl)) dX10_setObstacle_47 ⟨Nat.zero_le _, Nat.zero_le _⟩) (fun r_11 w_11 => ?_)
            try dsimp only at w_11
            refine lv_iconst (v := (-1)) hx hb dX10_setObstacle_50 (by decide) ?_
            refine lv_icmp_eq (tgt := 57) hx hb dX10_setObstacle_51 (by decide) (fun c_12 => ?_) (fun c_12 => ?_)
            · skip
              have q_12 : r_11.toInt = (-1 : Int) := i_eq2 (rfl : r_11.toInt = r_11.toInt) (show ((-1) : Int32).toInt = (-1 : Int) from rfl) c_12
              refine lv_aload_n hx hb dX10_setObstacle_57 rfl (lv_at hl 0 rfl) ?_
              refine g_callv (va_runV (As := []) (rest := []) ⟨hx, hb, hml, hown, hts⟩ (c_X10_beginChange l D cy ad hI _ iv ar fk0.1) (cwV 0 hts gX10_setObstacle_X10_beginChange rfl rfl rfl (by decide +kernel) ⟨Nat.le_of_ble_eq_true rfl, Nat.le_of_ble_eq_true rfl⟩) (g_preV hP hK hSt hNw hS (g_at10 (Nat.le_of_ble_eq_true rfl) rfl) rfl) rfl rfl hl.1 rfl (lv_room (Nat.le_of_ble_eq_true rfl)) dX10_setObstacle_58 ⟨Nat.zero_le _, Nat.zero_le _⟩) hS (fun iv_13 ar_13 H locs w_13 hP hS => ?_)
              try dsimp only at w_13
              have fk_13 : KP iv iv_13 := ⟨w_13.2.2, (w_13.1 66 2 (by omega) (by omega)).trans fk0.2⟩
              refine lv_aload_n hx hb dX10_setObstacle_61 rfl (lv_at hl 0 rfl) ?_
              refine va_get (D := D) (ci := 10) (v := .ref (ad 1)) (C := RX10) (T := TX10) (N := 6) hx hb hts inX10 hown hK hP 0 (g_at10 (Nat.le_of_ble_eq_true rfl) rfl) rfl 0 (by decide) lk0 (fun _ h9 => h9) rfl dX10_setObstacle_62 ?_
              refine va_get (D := D) (ci := 8) (v := .ref (ad 3)) (C := RX8) (T := TX8) (N := 5) hx hb hts inX8 hown hK hP 1 (g_at8 (Nat.le_of_ble_eq_true rfl) rfl) rfl 1 (by decide) lk1 (fun _ h9 => h9) rfl dX10_setObstacle_65 ?_
              refine lv_iload_n hx hb dX10_setObstacle_68 rfl (lv_at hl 1 rfl) ?_
              refine va_iald hx hb hK hP 3 0 (g_at12 (Nat.le_of_ble_eq_true rfl) rfl) rfl (g_in (N := 108) (rfl : a.toInt = a.toInt) rfl (by omega) (by omega)) dX10_setObstacle_69 ?_
              refine lv_topi (fun v_14 ev_14 => ?_)
              refine lv_istore_n (lv' := [(3, .int v_14), (0, .ref (ad 0)), (1, .int a), (2, .int b)]) hx hb dX10_setObstacle_70 rfl hl (by decide) rfl (fun ls hl => ?_)
              refine lv_aload_n hx hb dX10_setObstacle_71 rfl (lv_at hl 1 rfl) ?_
              refine va_get (D := D) (ci := 10) (v := .ref (ad 1)) (C := RX10) (T := TX10) (N := 6) hx hb hts inX10 hown hK hP 0 (g_at10 (Nat.le_of_ble_eq_true rfl) rfl) rfl 0 (by decide) lk0 (fun _ h9 => h9) rfl dX10_setObstacle_72 ?_
              refine va_get (D := D) (ci := 8) (v := .ref (ad 3)) (C := RX8) (T := TX8) (N := 5) hx hb hts inX8 hown hK hP 1 (g_at8 (Nat.le_of_ble_eq_true rfl) rfl) rfl 1 (by decide) lk1 (fun _ h9 => h9) rfl dX10_setObstacle_75 ?_
              refine lv_iload_n hx hb dX10_setObstacle_78 rfl (lv_at hl 2 rfl) ?_
              refine lv_iload_n hx hb dX10_setObstacle_79 rfl (lv_at hl 3 rfl) ?_
              refine va_iast hx hb hK hP (gD hI) hS 3 0 (g_at12 (Nat.le_of_ble_eq_true rfl) rfl) rfl (g_in (N := 108) (rfl : a.toInt = a.toInt) rfl (by omega) (by omega)) dX10_setObstacle_80 (fun H locs hP _ hS => ?_)
              rw [g_pt12 (Nat.le_of_ble_eq_true rfl) rfl] at hP
              obtain ⟨ar_15, ear_15⟩ : ∃ z : gAr, z = va_up ar_13 3 (upd (ar_13 3) a.toNatClampNeg b) := ⟨_, rfl⟩
              rw [← ear_15] at hP
              refine lv_iload_n hx hb dX10_setObstacle_81 rfl (lv_at hl 0 rfl) ?_
              rw [hQ]
              exact W.iret (v := v_14) hx hb hr (fun t ht hW => ⟨⟨v_14, (iv_13, ar_15), rfl, fk_13, by show va_P _ _ _ _; rw [ht]; exact hP⟩, hS.F ht⟩) hS.2.2 dX10_setObstacle_82
            · skip
              have q_12 : r_11.toInt ≠ (-1 : Int) := i_ne2 (rfl : r_11.toInt = r_11.toInt) (show ((-1) : Int32).toInt = (-1 : Int) from rfl) c_12
              refine lv_bipush (v := (-4)) hx hb dX10_setObstacle_54 (by decide) ?_
              rw [hQ]
              exact W.iret (v := (-4)) hx hb hr (fun t ht hW => ⟨⟨(-4), (iv, ar), rfl, fk0, by show va_P _ _ _ _; rw [ht]; exact hP⟩, hS.F ht⟩) hS.2.2 dX10_setObstacle_56
      · skip
        have q_4 : (1 : Int) < b.toInt := i_nle2 (rfl : b.toInt = b.toInt) (show (1 : Int32).toInt = (1 : Int) from rfl) c_4
        refine lv_bipush (v := (-2)) hx hb dX10_setObstacle_16 (by decide) ?_
        rw [hQ]
        exact W.iret (v := (-2)) hx hb hr (fun t ht hW => ⟨⟨(-2), (iv, ar), rfl, fk0, by show va_P _ _ _ _; rw [ht]; exact hP⟩, hS.F ht⟩) hS.2.2 dX10_setObstacle_18
set_option maxHeartbeats 4000000 in
set_option maxRecDepth 100000 in
theorem c_X10_addDrone (l : Launch) (D : va_G) (cy : Nat → ClassId) (ad : Nat → Nat) (hI : gInj ad) (sz : Nat) (iv : gIv) (ar : gAr) (a : Int32) (hz : SZ iv) : Met l yX10_addDrone wsX10_addDrone ({ frames := 6, cells := 0, slots := 0, locals := 145 } : Room) (va_Pc [.ref (ad 0), .int a] (gPre D cy ad sz iv ar)) (va_Qi (fun (r : Int32) (u : gIv × gAr) => KP iv u.1) (gPost D cy ad) (gA ad sz)) 0 0 (gA ad sz) := by
  refine Met.ofW (cc := cX10_addDrone) (maxL := 2) (ret := (some .int)) (by decide) rfl ?_
  intro p e s m args below meth c s₁ B hml hv
  obtain ⟨rfl, rfl, hP, hK, hSt, hNw⟩ := hv
  have hx := B.exec
  have hb := B.bytes
  have hr := B.returns
  have hts := atoms_spec (ws := wsX10_addDrone) B.pre
  have hown : s.vm.findClass RX10 = some m.cls := findClass_of_methodNamed B.named
  have hlocks := B.notSynchronized
  have hS : va_S (gA ad s.heap.size) s.heap s.heap [] := va_S.rf
  have inX10 : ∀ w ∈ u_ws RX10 TX10 6, w ∈ wsX10_addDrone := by decide +kernel
  have inX8 : ∀ w ∈ u_ws RX8 TX8 5, w ∈ wsX10_addDrone := by decide +kernel
  have lk0 := hts (.fieldLink RX10 12 "FormationPlanner" "scene" "LFormationPlanner$Scene;") (by decide +kernel)
  have lk1 := hts (.fieldLink RX10 77 "FormationPlanner$Scene" "drones" "LFormationPlanner$Places;") (by decide +kernel)
  have hl := lv_entry ([.ref (ad 0), .int a]) (n := 2) (Nat.le_of_ble_eq_true rfl)
  rw [lg_entry_eq]
  generalize (lg_sl ([.ref (ad 0), .int a]) ++ List.replicate (2 - (lg_sl ([.ref (ad 0), .int a])).length) Slot.unset).toArray = ls at hl ⊢
  have hl : lv_has ls 2 [(0, .ref (ad 0)), (1, .int a)] := hl
  obtain ⟨Q, hQ⟩ : ∃ Q, Q = MQ below (va_Qi (fun (r : Int32) (u : gIv × gAr) => KP iv u.1) (gPost D cy ad) (gA ad s.heap.size)) (([.ref (ad 0), .int a] : List Value).toArray) s 0 0 (gA ad s.heap.size) := ⟨_, rfl⟩
  rw [← hQ]
  have fk0 : KP iv iv := KP.rf hz
  refine lv_aload_n hx hb dX10_addDrone_0 rfl (lv_at hl 0 rfl) ?_
  refine lv_aload_n hx hb dX10_addDrone_1 rfl (lv_at hl 0 rfl) ?_
  refine va_get (D := D) (ci := 10) (v := .ref (ad 1)) (C := RX10) (T := TX10) (N := 6) hx hb hts inX10 hown hK hP 0 (g_at10 (Nat.le_of_ble_eq_true rfl) rfl) rfl 0 (by decide) lk0 (fun _ h9 => h9) rfl dX10_addDrone_2 ?_
  refine va_get (D := D) (ci := 8) (v := .ref (ad 4)) (C := RX8) (T := TX8) (N := 5) hx hb hts inX8 hown hK hP 1 (g_at8 (Nat.le_of_ble_eq_true rfl) rfl) rfl 2 (by decide) lk1 (fun _ h9 => h9) rfl dX10_addDrone_5 ?_
  refine lv_iload_n hx hb dX10_addDrone_8 rfl (lv_at hl 1 rfl) ?_
  refine g_calli (va_runV (As := [.ref (ad 4), .int a]) (rest := []) ⟨hx, hb, hml, hown, hts⟩ (c_X10_addPlace l D cy ad hI _ iv ar 4 (Nat.le_of_ble_eq_true rfl) rfl a fk0.1) (cwV 2 hts gX10_addDrone_X10_addPlace rfl rfl rfl (by decide +kernel) ⟨Nat.le_of_ble_eq_true rfl, Nat.le_of_ble_eq_true rfl⟩) (g_preV hP hK hSt hNw hS (g_at10 (Nat.le_of_ble_eq_true rfl) rfl) rfl) rfl rfl hl.1 rfl (lv_room (Nat.le_of_ble_eq_true rfl)) dX10_addDrone_9 ⟨Nat.zero_le _, Nat.zero_le _⟩) hS (fun r_1 iv_1 ar_1 H locs w_1 hP hS => ?_)
  try dsimp only at w_1
  have fk_1 : KP iv iv_1 := fk0.tr (w_1)
  rw [hQ]
  exact W.iret (v := r_1) hx hb hr (fun t ht hW => ⟨⟨r_1, (iv_1, ar_1), rfl, fk_1, by show va_P _ _ _ _; rw [ht]; exact hP⟩, hS.F ht⟩) hS.2.2 dX10_addDrone_12
set_option maxHeartbeats 4000000 in
set_option maxRecDepth 100000 in
theorem c_X10_addSlot (l : Launch) (D : va_G) (cy : Nat → ClassId) (ad : Nat → Nat) (hI : gInj ad) (sz : Nat) (iv : gIv) (ar : gAr) (a : Int32) (hz : SZ iv) : Met l yX10_addSlot wsX10_addSlot ({ frames := 6, cells := 0, slots := 0, locals := 145 } : Room) (va_Pc [.ref (ad 0), .int a] (gPre D cy ad sz iv ar)) (va_Qi (fun (r : Int32) (u : gIv × gAr) => KP iv u.1) (gPost D cy ad) (gA ad sz)) 0 0 (gA ad sz) := by
  refine Met.ofW (cc := cX10_addSlot) (maxL := 2) (ret := (some .int)) (by decide) rfl ?_
  intro p e s m args below meth c s₁ B hml hv
  obtain ⟨rfl, rfl, hP, hK, hSt, hNw⟩ := hv
  have hx := B.exec
  have hb := B.bytes
  have hr := B.returns
  have hts := atoms_spec (ws := wsX10_addSlot) B.pre
  have hown : s.vm.findClass RX10 = some m.cls := findClass_of_methodNamed B.named
  have hlocks := B.notSynchronized
  have hS : va_S (gA ad s.heap.size) s.heap s.heap [] := va_S.rf
  have inX10 : ∀ w ∈ u_ws RX10 TX10 6, w ∈ wsX10_addSlot := by decide +kernel
  have inX8 : ∀ w ∈ u_ws RX8 TX8 5, w ∈ wsX10_addSlot := by decide +kernel
  have lk0 := hts (.fieldLink RX10 12 "FormationPlanner" "scene" "LFormationPlanner$Scene;") (by decide +kernel)
  have lk1 := hts (.fieldLink RX10 87 "FormationPlanner$Scene" "slots" "LFormationPlanner$Places;") (by decide +kernel)
  have hl := lv_entry ([.ref (ad 0), .int a]) (n := 2) (Nat.le_of_ble_eq_true rfl)
  rw [lg_entry_eq]
  generalize (lg_sl ([.ref (ad 0), .int a]) ++ List.replicate (2 - (lg_sl ([.ref (ad 0), .int a])).length) Slot.unset).toArray = ls at hl ⊢
  have hl : lv_has ls 2 [(0, .ref (ad 0)), (1, .int a)] := hl
  obtain ⟨Q, hQ⟩ : ∃ Q, Q = MQ below (va_Qi (fun (r : Int32) (u : gIv × gAr) => KP iv u.1) (gPost D cy ad) (gA ad s.heap.size)) (([.ref (ad 0), .int a] : List Value).toArray) s 0 0 (gA ad s.heap.size) := ⟨_, rfl⟩
  rw [← hQ]
  have fk0 : KP iv iv := KP.rf hz
  refine lv_aload_n hx hb dX10_addSlot_0 rfl (lv_at hl 0 rfl) ?_
  refine lv_aload_n hx hb dX10_addSlot_1 rfl (lv_at hl 0 rfl) ?_
  refine va_get (D := D) (ci := 10) (v := .ref (ad 1)) (C := RX10) (T := TX10) (N := 6) hx hb hts inX10 hown hK hP 0 (g_at10 (Nat.le_of_ble_eq_true rfl) rfl) rfl 0 (by decide) lk0 (fun _ h9 => h9) rfl dX10_addSlot_2 ?_
  refine va_get (D := D) (ci := 8) (v := .ref (ad 6)) (C := RX8) (T := TX8) (N := 5) hx hb hts inX8 hown hK hP 1 (g_at8 (Nat.le_of_ble_eq_true rfl) rfl) rfl 3 (by decide) lk1 (fun _ h9 => h9) rfl dX10_addSlot_5 ?_
  refine lv_iload_n hx hb dX10_addSlot_8 rfl (lv_at hl 1 rfl) ?_
  refine g_calli (va_runV (As := [.ref (ad 6), .int a]) (rest := []) ⟨hx, hb, hml, hown, hts⟩ (c_X10_addPlace l D cy ad hI _ iv ar 6 (Nat.le_of_ble_eq_true rfl) rfl a fk0.1) (cwV 2 hts gX10_addSlot_X10_addPlace rfl rfl rfl (by decide +kernel) ⟨Nat.le_of_ble_eq_true rfl, Nat.le_of_ble_eq_true rfl⟩) (g_preV hP hK hSt hNw hS (g_at10 (Nat.le_of_ble_eq_true rfl) rfl) rfl) rfl rfl hl.1 rfl (lv_room (Nat.le_of_ble_eq_true rfl)) dX10_addSlot_9 ⟨Nat.zero_le _, Nat.zero_le _⟩) hS (fun r_1 iv_1 ar_1 H locs w_1 hP hS => ?_)
  try dsimp only at w_1
  have fk_1 : KP iv iv_1 := fk0.tr (w_1)
  rw [hQ]
  exact W.iret (v := r_1) hx hb hr (fun t ht hW => ⟨⟨r_1, (iv_1, ar_1), rfl, fk_1, by show va_P _ _ _ _; rw [ht]; exact hP⟩, hS.F ht⟩) hS.2.2 dX10_addSlot_12
set_option maxHeartbeats 4000000 in
set_option maxRecDepth 100000 in
theorem c_X10_removeDrone (l : Launch) (D : va_G) (cy : Nat → ClassId) (ad : Nat → Nat) (hI : gInj ad) (sz : Nat) (iv : gIv) (ar : gAr) (a : Int32) (hz : SZ iv) : Met l yX10_removeDrone wsX10_removeDrone ({ frames := 5, cells := 0, slots := 0, locals := 123 } : Room) (va_Pc [.ref (ad 0), .int a] (gPre D cy ad sz iv ar)) (va_Qi (fun (r : Int32) (u : gIv × gAr) => KP iv u.1) (gPost D cy ad) (gA ad sz)) 0 0 (gA ad sz) := by
  refine Met.ofW (cc := cX10_removeDrone) (maxL := 2) (ret := (some .int)) (by decide) rfl ?_
  intro p e s m args below meth c s₁ B hml hv
  obtain ⟨rfl, rfl, hP, hK, hSt, hNw⟩ := hv
  have hx := B.exec
  have hb := B.bytes
  have hr := B.returns
  have hts := atoms_spec (ws := wsX10_removeDrone) B.pre
  have hown : s.vm.findClass RX10 = some m.cls := findClass_of_methodNamed B.named
  have hlocks := B.notSynchronized
  have hS : va_S (gA ad s.heap.size) s.heap s.heap [] := va_S.rf
  have inX10 : ∀ w ∈ u_ws RX10 TX10 6, w ∈ wsX10_removeDrone := by decide +kernel
  have inX5 : ∀ w ∈ u_ws RX5 TX5 2, w ∈ wsX10_removeDrone := by decide +kernel
  have inX8 : ∀ w ∈ u_ws RX8 TX8 5, w ∈ wsX10_removeDrone := by decide +kernel
  have lk0 := hts (.fieldLink RX10 12 "FormationPlanner" "scene" "LFormationPlanner$Scene;") (by decide +kernel)
  have lk1 := hts (.fieldLink RX10 77 "FormationPlanner$Scene" "drones" "LFormationPlanner$Places;") (by decide +kernel)
  have lk2 := hts (.fieldLink RX10 100 "FormationPlanner$Places" "size" "I") (by decide +kernel)
  have hl := lv_entry ([.ref (ad 0), .int a]) (n := 2) (Nat.le_of_ble_eq_true rfl)
  rw [lg_entry_eq]
  generalize (lg_sl ([.ref (ad 0), .int a]) ++ List.replicate (2 - (lg_sl ([.ref (ad 0), .int a])).length) Slot.unset).toArray = ls at hl ⊢
  have hl : lv_has ls 2 [(0, .ref (ad 0)), (1, .int a)] := hl
  obtain ⟨Q, hQ⟩ : ∃ Q, Q = MQ below (va_Qi (fun (r : Int32) (u : gIv × gAr) => KP iv u.1) (gPost D cy ad) (gA ad s.heap.size)) (([.ref (ad 0), .int a] : List Value).toArray) s 0 0 (gA ad s.heap.size) := ⟨_, rfl⟩
  rw [← hQ]
  have fk0 : KP iv iv := KP.rf hz
  refine lv_aload_n hx hb dX10_removeDrone_0 rfl (lv_at hl 0 rfl) ?_
  refine g_callv (va_runV (As := []) (rest := []) ⟨hx, hb, hml, hown, hts⟩ (c_X10_beginChange l D cy ad hI _ iv ar fk0.1) (cwV 0 hts gX10_removeDrone_X10_beginChange rfl rfl rfl (by decide +kernel) ⟨Nat.le_of_ble_eq_true rfl, Nat.le_of_ble_eq_true rfl⟩) (g_preV hP hK hSt hNw hS (g_at10 (Nat.le_of_ble_eq_true rfl) rfl) rfl) rfl rfl hl.1 rfl (lv_room (Nat.le_of_ble_eq_true rfl)) dX10_removeDrone_1 ⟨Nat.zero_le _, Nat.zero_le _⟩) hS (fun iv_1 ar_1 H locs w_1 hP hS => ?_)
  try dsimp only at w_1
  have fk_1 : KP iv iv_1 := ⟨w_1.2.2, (w_1.1 66 2 (by omega) (by omega)).trans fk0.2⟩
  refine lv_aload_n hx hb dX10_removeDrone_4 rfl (lv_at hl 0 rfl) ?_
  refine va_get (D := D) (ci := 10) (v := .ref (ad 1)) (C := RX10) (T := TX10) (N := 6) hx hb hts inX10 hown hK hP 0 (g_at10 (Nat.le_of_ble_eq_true rfl) rfl) rfl 0 (by decide) lk0 (fun _ h9 => h9) rfl dX10_removeDrone_5 ?_
  refine va_get (D := D) (ci := 8) (v := .ref (ad 4)) (C := RX8) (T := TX8) (N := 5) hx hb hts inX8 hown hK hP 1 (g_at8 (Nat.le_of_ble_eq_true rfl) rfl) rfl 2 (by decide) lk1 (fun _ h9 => h9) rfl dX10_removeDrone_8 ?_
  refine lv_iload_n hx hb dX10_removeDrone_11 rfl (lv_at hl 1 rfl) ?_
  refine g_calli (va_runV (As := [.int a]) (rest := []) ⟨hx, hb, hml, hown, hts⟩ (c_X5_remove l D cy ad hI _ iv_1 ar_1 4 (Nat.le_of_ble_eq_true rfl) rfl a fk_1.1) (cwV 1 hts gX10_removeDrone_X5_remove rfl rfl rfl (by decide +kernel) ⟨Nat.le_of_ble_eq_true rfl, Nat.le_of_ble_eq_true rfl⟩) (g_preV hP hK hSt hNw hS (g_at5 (Nat.le_of_ble_eq_true rfl) rfl) rfl) rfl rfl hl.1 rfl (lv_room (Nat.le_of_ble_eq_true rfl)) dX10_removeDrone_12 ⟨Nat.zero_le _, Nat.zero_le _⟩) hS (fun r_2 iv_2 ar_2 H locs w_2 hP hS => ?_)
  try dsimp only at w_2
  have fk_2 : KP iv iv_2 := fk_1.tr (w_2)
  refine lv_if_eq (tgt := 31) hx hb dX10_removeDrone_15 (by decide) (fun c_3 => ?_) (fun c_3 => ?_)
  · skip
    have q_3 : r_2.toInt = (0 : Int) := i_eq2 (rfl : r_2.toInt = r_2.toInt) (show (0 : Int32).toInt = (0 : Int) from rfl) c_3
    refine lv_iconst (v := (-1)) hx hb dX10_removeDrone_31 (by decide) ?_
    rw [hQ]
    exact W.iret (v := (-1)) hx hb hr (fun t ht hW => ⟨⟨(-1), (iv_2, ar_2), rfl, fk_2, by show va_P _ _ _ _; rw [ht]; exact hP⟩, hS.F ht⟩) hS.2.2 dX10_removeDrone_32
  · skip
    have q_3 : r_2.toInt ≠ (0 : Int) := i_ne2 (rfl : r_2.toInt = r_2.toInt) (show (0 : Int32).toInt = (0 : Int) from rfl) c_3
    refine lv_aload_n hx hb dX10_removeDrone_18 rfl (lv_at hl 0 rfl) ?_
    refine va_get (D := D) (ci := 10) (v := .ref (ad 1)) (C := RX10) (T := TX10) (N := 6) hx hb hts inX10 hown hK hP 0 (g_at10 (Nat.le_of_ble_eq_true rfl) rfl) rfl 0 (by decide) lk0 (fun _ h9 => h9) rfl dX10_removeDrone_19 ?_
    refine va_get (D := D) (ci := 8) (v := .ref (ad 4)) (C := RX8) (T := TX8) (N := 5) hx hb hts inX8 hown hK hP 1 (g_at8 (Nat.le_of_ble_eq_true rfl) rfl) rfl 2 (by decide) lk1 (fun _ h9 => h9) rfl dX10_removeDrone_22 ?_
    refine va_get (D := D) (ci := 5) (v := .int (iv_2 4 1)) (C := RX5) (T := TX5) (N := 2) hx hb hts inX5 hown hK hP 4 (g_at5 (Nat.le_of_ble_eq_true rfl) rfl) rfl 1 (by decide) lk2 (fun _ h9 => h9) rfl dX10_removeDrone_25 ?_
    refine lv_goto (tgt := 32) hx hb dX10_removeDrone_28 (by decide) ?_
    rw [hQ]
    exact W.iret (v := (iv_2 4 1)) hx hb hr (fun t ht hW => ⟨⟨(iv_2 4 1), (iv_2, ar_2), rfl, fk_2, by show va_P _ _ _ _; rw [ht]; exact hP⟩, hS.F ht⟩) hS.2.2 dX10_removeDrone_32
set_option maxHeartbeats 4000000 in
set_option maxRecDepth 100000 in
theorem c_X10_clearSlots (l : Launch) (D : va_G) (cy : Nat → ClassId) (ad : Nat → Nat) (hI : gInj ad) (sz : Nat) (iv : gIv) (ar : gAr)  (hz : SZ iv) : Met l yX10_clearSlots wsX10_clearSlots ({ frames := 5, cells := 0, slots := 0, locals := 123 } : Room) (va_Pc [.ref (ad 0)] (gPre D cy ad sz iv ar)) (va_Qi (fun (r : Int32) (u : gIv × gAr) => KP iv u.1) (gPost D cy ad) (gA ad sz)) 0 0 (gA ad sz) := by
  refine Met.ofW (cc := cX10_clearSlots) (maxL := 2) (ret := (some .int)) (by decide) rfl ?_
  intro p e s m args below meth c s₁ B hml hv
  obtain ⟨rfl, rfl, hP, hK, hSt, hNw⟩ := hv
  have hx := B.exec
  have hb := B.bytes
  have hr := B.returns
  have hts := atoms_spec (ws := wsX10_clearSlots) B.pre
  have hown : s.vm.findClass RX10 = some m.cls := findClass_of_methodNamed B.named
  have hlocks := B.notSynchronized
  have hS : va_S (gA ad s.heap.size) s.heap s.heap [] := va_S.rf
  have inX10 : ∀ w ∈ u_ws RX10 TX10 6, w ∈ wsX10_clearSlots := by decide +kernel
  have inX5 : ∀ w ∈ u_ws RX5 TX5 2, w ∈ wsX10_clearSlots := by decide +kernel
  have inX8 : ∀ w ∈ u_ws RX8 TX8 5, w ∈ wsX10_clearSlots := by decide +kernel
  have lk0 := hts (.fieldLink RX10 12 "FormationPlanner" "scene" "LFormationPlanner$Scene;") (by decide +kernel)
  have lk1 := hts (.fieldLink RX10 87 "FormationPlanner$Scene" "slots" "LFormationPlanner$Places;") (by decide +kernel)
  have lk2 := hts (.fieldLink RX10 100 "FormationPlanner$Places" "size" "I") (by decide +kernel)
  have hl := lv_entry ([.ref (ad 0)]) (n := 2) (Nat.le_of_ble_eq_true rfl)
  rw [lg_entry_eq]
  generalize (lg_sl ([.ref (ad 0)]) ++ List.replicate (2 - (lg_sl ([.ref (ad 0)])).length) Slot.unset).toArray = ls at hl ⊢
  have hl : lv_has ls 2 [(0, .ref (ad 0))] := hl
  obtain ⟨Q, hQ⟩ : ∃ Q, Q = MQ below (va_Qi (fun (r : Int32) (u : gIv × gAr) => KP iv u.1) (gPost D cy ad) (gA ad s.heap.size)) (([.ref (ad 0)] : List Value).toArray) s 0 0 (gA ad s.heap.size) := ⟨_, rfl⟩
  rw [← hQ]
  have fk0 : KP iv iv := KP.rf hz
  refine lv_aload_n hx hb dX10_clearSlots_0 rfl (lv_at hl 0 rfl) ?_
  refine g_callv (va_runV (As := []) (rest := []) ⟨hx, hb, hml, hown, hts⟩ (c_X10_beginChange l D cy ad hI _ iv ar fk0.1) (cwV 0 hts gX10_clearSlots_X10_beginChange rfl rfl rfl (by decide +kernel) ⟨Nat.le_of_ble_eq_true rfl, Nat.le_of_ble_eq_true rfl⟩) (g_preV hP hK hSt hNw hS (g_at10 (Nat.le_of_ble_eq_true rfl) rfl) rfl) rfl rfl hl.1 rfl (lv_room (Nat.le_of_ble_eq_true rfl)) dX10_clearSlots_1 ⟨Nat.zero_le _, Nat.zero_le _⟩) hS (fun iv_1 ar_1 H locs w_1 hP hS => ?_)
  try dsimp only at w_1
  have fk_1 : KP iv iv_1 := ⟨w_1.2.2, (w_1.1 66 2 (by omega) (by omega)).trans fk0.2⟩
  refine lv_aload_n hx hb dX10_clearSlots_4 rfl (lv_at hl 0 rfl) ?_
  refine va_get (D := D) (ci := 10) (v := .ref (ad 1)) (C := RX10) (T := TX10) (N := 6) hx hb hts inX10 hown hK hP 0 (g_at10 (Nat.le_of_ble_eq_true rfl) rfl) rfl 0 (by decide) lk0 (fun _ h9 => h9) rfl dX10_clearSlots_5 ?_
  refine va_get (D := D) (ci := 8) (v := .ref (ad 6)) (C := RX8) (T := TX8) (N := 5) hx hb hts inX8 hown hK hP 1 (g_at8 (Nat.le_of_ble_eq_true rfl) rfl) rfl 3 (by decide) lk1 (fun _ h9 => h9) rfl dX10_clearSlots_8 ?_
  refine va_get (D := D) (ci := 5) (v := .int (iv_1 6 1)) (C := RX5) (T := TX5) (N := 2) hx hb hts inX5 hown hK hP 6 (g_at5 (Nat.le_of_ble_eq_true rfl) rfl) rfl 1 (by decide) lk2 (fun _ h9 => h9) rfl dX10_clearSlots_11 ?_
  have f_2 : iv_1 6 1 = iv 6 1 := by rw [w_1.1 6 1 (by omega) (by omega)]
  refine lv_istore_n (lv' := [(1, .int (iv_1 6 1)), (0, .ref (ad 0))]) hx hb dX10_clearSlots_14 rfl hl (by decide) rfl (fun ls hl => ?_)
  refine lv_aload_n hx hb dX10_clearSlots_15 rfl (lv_at hl 1 rfl) ?_
  refine va_get (D := D) (ci := 10) (v := .ref (ad 1)) (C := RX10) (T := TX10) (N := 6) hx hb hts inX10 hown hK hP 0 (g_at10 (Nat.le_of_ble_eq_true rfl) rfl) rfl 0 (by decide) lk0 (fun _ h9 => h9) rfl dX10_clearSlots_16 ?_
  refine va_get (D := D) (ci := 8) (v := .ref (ad 6)) (C := RX8) (T := TX8) (N := 5) hx hb hts inX8 hown hK hP 1 (g_at8 (Nat.le_of_ble_eq_true rfl) rfl) rfl 3 (by decide) lk1 (fun _ h9 => h9) rfl dX10_clearSlots_19 ?_
  refine g_callv (va_runV (As := []) (rest := []) ⟨hx, hb, hml, hown, hts⟩ (c_X5_clear l D cy ad hI _ iv_1 ar_1 6 (Nat.le_of_ble_eq_true rfl) rfl) (cwV 0 hts gX10_clearSlots_X5_clear rfl rfl rfl (by decide +kernel) ⟨Nat.le_of_ble_eq_true rfl, Nat.le_of_ble_eq_true rfl⟩) (g_preV hP hK hSt hNw hS (g_at5 (Nat.le_of_ble_eq_true rfl) rfl) rfl) rfl rfl hl.1 rfl (lv_room (Nat.le_of_ble_eq_true rfl)) dX10_clearSlots_22 ⟨Nat.zero_le _, Nat.zero_le _⟩) hS (fun iv_3 ar_3 H locs w_3 hP hS => ?_)
  try dsimp only at w_3
  have fk_3 : KP iv iv_3 := (by rw [w_3.1]; exact fk_1.up5 (by decide) (by decide))
  refine lv_iload_n hx hb dX10_clearSlots_25 rfl (lv_at hl 0 rfl) ?_
  rw [hQ]
  exact W.iret (v := (iv_1 6 1)) hx hb hr (fun t ht hW => ⟨⟨(iv_1 6 1), (iv_3, ar_3), rfl, fk_3, by show va_P _ _ _ _; rw [ht]; exact hP⟩, hS.F ht⟩) hS.2.2 dX10_clearSlots_26
set_option maxHeartbeats 4000000 in
set_option maxRecDepth 100000 in
theorem c_X10_flightTime (l : Launch) (D : va_G) (cy : Nat → ClassId) (ad : Nat → Nat) (hI : gInj ad) (sz : Nat) (iv : gIv) (ar : gAr) (a : Int32) (b : Int32) (hz : SZ iv) : Met l yX10_flightTime wsX10_flightTime ({ frames := 4, cells := 0, slots := 0, locals := 93 } : Room) (va_Pc [.ref (ad 0), .int a, .int b] (gPre D cy ad sz iv ar)) (va_Qi (fun (r : Int32) (u : gIv × gAr) => KP iv u.1) (gPost D cy ad) (gA ad sz)) 0 0 (gA ad sz) := by
  refine Met.ofW (cc := cX10_flightTime) (maxL := 3) (ret := (some .int)) (by decide) rfl ?_
  intro p e s m args below meth c s₁ B hml hv
  obtain ⟨rfl, rfl, hP, hK, hSt, hNw⟩ := hv
  have hx := B.exec
  have hb := B.bytes
  have hr := B.returns
  have hts := atoms_spec (ws := wsX10_flightTime) B.pre
  have hown : s.vm.findClass RX10 = some m.cls := findClass_of_methodNamed B.named
  have hlocks := B.notSynchronized
  have hS : va_S (gA ad s.heap.size) s.heap s.heap [] := va_S.rf
  have inX10 : ∀ w ∈ u_ws RX10 TX10 6, w ∈ wsX10_flightTime := by decide +kernel
  have lk0 := hts (.fieldLink RX10 40 "FormationPlanner" "timesTo" "LFormationPlanner$TimesTo;") (by decide +kernel)
  have hl := lv_entry ([.ref (ad 0), .int a, .int b]) (n := 3) (Nat.le_of_ble_eq_true rfl)
  rw [lg_entry_eq]
  generalize (lg_sl ([.ref (ad 0), .int a, .int b]) ++ List.replicate (3 - (lg_sl ([.ref (ad 0), .int a, .int b])).length) Slot.unset).toArray = ls at hl ⊢
  have hl : lv_has ls 3 [(0, .ref (ad 0)), (1, .int a), (2, .int b)] := hl
  obtain ⟨Q, hQ⟩ : ∃ Q, Q = MQ below (va_Qi (fun (r : Int32) (u : gIv × gAr) => KP iv u.1) (gPost D cy ad) (gA ad s.heap.size)) (([.ref (ad 0), .int a, .int b] : List Value).toArray) s 0 0 (gA ad s.heap.size) := ⟨_, rfl⟩
  rw [← hQ]
  have fk0 : KP iv iv := KP.rf hz
  refine lv_iload_n hx hb dX10_flightTime_0 rfl (lv_at hl 1 rfl) ?_
  refine g_callSi (va_runS (As := [.int a]) (rest := []) ⟨hx, hb, hml, hown, hts⟩ (c_X10_isCell l a) (va_cwS 1 hts gX10_flightTime_X10_isCell rfl rfl rfl (by decide +kernel) ⟨Nat.le_of_ble_eq_true rfl, Nat.le_of_ble_eq_true rfl⟩) (g_preT) rfl rfl hl.1 rfl (lv_room (Nat.le_of_ble_eq_true rfl)) dX10_flightTime_1 ⟨Nat.zero_le _, Nat.zero_le _⟩) (fun r_1 w_1 => ?_)
  try dsimp only at w_1
  refine lv_if_eq (tgt := 14) hx hb dX10_flightTime_4 (by decide) (fun c_2 => ?_) (fun c_2 => ?_)
  · skip
    have q_2 : r_1.toInt = (0 : Int) := i_eq2 (rfl : r_1.toInt = r_1.toInt) (show (0 : Int32).toInt = (0 : Int) from rfl) c_2
    refine lv_bipush (v := (-2)) hx hb dX10_flightTime_14 (by decide) ?_
    rw [hQ]
    exact W.iret (v := (-2)) hx hb hr (fun t ht hW => ⟨⟨(-2), (iv, ar), rfl, fk0, by show va_P _ _ _ _; rw [ht]; exact hP⟩, hS.F ht⟩) hS.2.2 dX10_flightTime_16
  · skip
    have q_2 : r_1.toInt ≠ (0 : Int) := i_ne2 (rfl : r_1.toInt = r_1.toInt) (show (0 : Int32).toInt = (0 : Int) from rfl) c_2
    refine lv_iload_n hx hb dX10_flightTime_7 rfl (lv_at hl 2 rfl) ?_
    refine g_callSi (va_runS (As := [.int b]) (rest := []) ⟨hx, hb, hml, hown, hts⟩ (c_X10_isCell l b) (va_cwS 1 hts gX10_flightTime_X10_isCell rfl rfl rfl (by decide +kernel) ⟨Nat.le_of_ble_eq_true rfl, Nat.le_of_ble_eq_true rfl⟩) (g_preT) rfl rfl hl.1 rfl (lv_room (Nat.le_of_ble_eq_true rfl)) dX10_flightTime_8 ⟨Nat.zero_le _, Nat.zero_le _⟩) (fun r_3 w_3 => ?_)
    try dsimp only at w_3
    refine lv_if_ne (tgt := 17) hx hb dX10_flightTime_11 (by decide) (fun c_4 => ?_) (fun c_4 => ?_)
    · skip
      have q_4 : r_3.toInt ≠ (0 : Int) := i_ne2 (rfl : r_3.toInt = r_3.toInt) (show (0 : Int32).toInt = (0 : Int) from rfl) c_4
      refine lv_aload_n hx hb dX10_flightTime_17 rfl (lv_at hl 0 rfl) ?_
      refine va_get (D := D) (ci := 10) (v := .ref (ad 72)) (C := RX10) (T := TX10) (N := 6) hx hb hts inX10 hown hK hP 0 (g_at10 (Nat.le_of_ble_eq_true rfl) rfl) rfl 3 (by decide) lk0 (fun _ h9 => h9) rfl dX10_flightTime_18 ?_
      refine lv_iload_n hx hb dX10_flightTime_21 rfl (lv_at hl 2 rfl) ?_
      refine g_callv (va_runV (As := [.int b]) (rest := []) ⟨hx, hb, hml, hown, hts⟩ (c_X9_measure l D cy ad hI _ iv ar 72 (Nat.le_of_ble_eq_true rfl) rfl b) (cwV 1 hts gX10_flightTime_X9_measure rfl rfl rfl (by decide +kernel) ⟨Nat.le_of_ble_eq_true rfl, Nat.le_of_ble_eq_true rfl⟩) (g_preV hP hK hSt hNw hS (g_at9 (Nat.le_of_ble_eq_true rfl) rfl) rfl) rfl rfl hl.1 rfl (lv_room (Nat.le_of_ble_eq_true rfl)) dX10_flightTime_22 ⟨Nat.zero_le _, Nat.zero_le _⟩) hS (fun iv_5 ar_5 H locs w_5 hP hS => ?_)
      try dsimp only at w_5
      have wi_5 := (w_5).symm
      subst wi_5
      refine lv_aload_n hx hb dX10_flightTime_25 rfl (lv_at hl 0 rfl) ?_
      refine va_get (D := D) (ci := 10) (v := .ref (ad 72)) (C := RX10) (T := TX10) (N := 6) hx hb hts inX10 hown hK hP 0 (g_at10 (Nat.le_of_ble_eq_true rfl) rfl) rfl 3 (by decide) lk0 (fun _ h9 => h9) rfl dX10_flightTime_26 ?_
      refine lv_iload_n hx hb dX10_flightTime_29 rfl (lv_at hl 1 rfl) ?_
      refine g_callSi (va_runV (As := [.int a]) (rest := []) ⟨hx, hb, hml, hown, hts⟩ (c_X9_timeFrom l D cy ad hI _ iv ar_5 72 (Nat.le_of_ble_eq_true rfl) rfl a) (cwV 1 hts gX10_flightTime_X9_timeFrom rfl rfl rfl (by decide +kernel) ⟨Nat.le_of_ble_eq_true rfl, Nat.le_of_ble_eq_true rfl⟩) (g_preV hP hK hSt hNw hS (g_at9 (Nat.le_of_ble_eq_true rfl) rfl) rfl) rfl rfl hl.1 rfl (lv_room (Nat.le_of_ble_eq_true rfl)) dX10_flightTime_30 ⟨Nat.zero_le _, Nat.zero_le _⟩) (fun r_6 w_6 => ?_)
      try dsimp only at w_6
      rw [hQ]
      exact W.iret (v := r_6) hx hb hr (fun t ht hW => ⟨⟨r_6, (iv, ar_5), rfl, fk0, by show va_P _ _ _ _; rw [ht]; exact hP⟩, hS.F ht⟩) hS.2.2 dX10_flightTime_33
    · skip
      have q_4 : r_3.toInt = (0 : Int) := i_eq2 (rfl : r_3.toInt = r_3.toInt) (show (0 : Int32).toInt = (0 : Int) from rfl) c_4
      refine lv_bipush (v := (-2)) hx hb dX10_flightTime_14 (by decide) ?_
      rw [hQ]
      exact W.iret (v := (-2)) hx hb hr (fun t ht hW => ⟨⟨(-2), (iv, ar), rfl, fk0, by show va_P _ _ _ _; rw [ht]; exact hP⟩, hS.F ht⟩) hS.2.2 dX10_flightTime_16
set_option maxHeartbeats 4000000 in
set_option maxRecDepth 100000 in
theorem c_X10_assigned (l : Launch) (D : va_G) (cy : Nat → ClassId) (ad : Nat → Nat) (hI : gInj ad) (sz : Nat) (iv : gIv) (ar : gAr) (a : Int32) (hz : SZ iv) : Met l yX10_assigned wsX10_assigned ({ frames := 5, cells := 0, slots := 0, locals := 115 } : Room) (va_Pc [.ref (ad 0), .int a] (gPre D cy ad sz iv ar)) (va_Qi (fun (r : Int32) (u : gIv × gAr) => KP iv u.1) (gPost D cy ad) (gA ad sz)) 0 0 (gA ad sz) := by
  refine Met.ofW (cc := cX10_assigned) (maxL := 3) (ret := (some .int)) (by decide) rfl ?_
  intro p e s m args below meth c s₁ B hml hv
  obtain ⟨rfl, rfl, hP, hK, hSt, hNw⟩ := hv
  have hx := B.exec
  have hb := B.bytes
  have hr := B.returns
  have hts := atoms_spec (ws := wsX10_assigned) B.pre
  have hown : s.vm.findClass RX10 = some m.cls := findClass_of_methodNamed B.named
  have hlocks := B.notSynchronized
  have hS : va_S (gA ad s.heap.size) s.heap s.heap [] := va_S.rf
  have inX10 : ∀ w ∈ u_ws RX10 TX10 6, w ∈ wsX10_assigned := by decide +kernel
  have inX8 : ∀ w ∈ u_ws RX8 TX8 5, w ∈ wsX10_assigned := by decide +kernel
  have lk0 := hts (.fieldLink RX10 12 "FormationPlanner" "scene" "LFormationPlanner$Scene;") (by decide +kernel)
  have lk1 := hts (.fieldLink RX10 77 "FormationPlanner$Scene" "drones" "LFormationPlanner$Places;") (by decide +kernel)
  have lk2 := hts (.fieldLink RX10 49 "FormationPlanner" "assigner" "LFormationPlanner$Assigner;") (by decide +kernel)
  have hl := lv_entry ([.ref (ad 0), .int a]) (n := 3) (Nat.le_of_ble_eq_true rfl)
  rw [lg_entry_eq]
  generalize (lg_sl ([.ref (ad 0), .int a]) ++ List.replicate (3 - (lg_sl ([.ref (ad 0), .int a])).length) Slot.unset).toArray = ls at hl ⊢
  have hl : lv_has ls 3 [(0, .ref (ad 0)), (1, .int a)] := hl
  obtain ⟨Q, hQ⟩ : ∃ Q, Q = MQ below (va_Qi (fun (r : Int32) (u : gIv × gAr) => KP iv u.1) (gPost D cy ad) (gA ad s.heap.size)) (([.ref (ad 0), .int a] : List Value).toArray) s 0 0 (gA ad s.heap.size) := ⟨_, rfl⟩
  rw [← hQ]
  have fk0 : KP iv iv := KP.rf hz
  refine lv_aload_n hx hb dX10_assigned_0 rfl (lv_at hl 0 rfl) ?_
  refine va_get (D := D) (ci := 10) (v := .ref (ad 1)) (C := RX10) (T := TX10) (N := 6) hx hb hts inX10 hown hK hP 0 (g_at10 (Nat.le_of_ble_eq_true rfl) rfl) rfl 0 (by decide) lk0 (fun _ h9 => h9) rfl dX10_assigned_1 ?_
  refine va_get (D := D) (ci := 8) (v := .ref (ad 4)) (C := RX8) (T := TX8) (N := 5) hx hb hts inX8 hown hK hP 1 (g_at8 (Nat.le_of_ble_eq_true rfl) rfl) rfl 2 (by decide) lk1 (fun _ h9 => h9) rfl dX10_assigned_4 ?_
  refine lv_iload_n hx hb dX10_assigned_7 rfl (lv_at hl 1 rfl) ?_
  refine g_callSi (va_runV (As := [.int a]) (rest := []) ⟨hx, hb, hml, hown, hts⟩ (c_X5_has l D cy ad hI _ iv ar 4 (Nat.le_of_ble_eq_true rfl) rfl a) (cwV 1 hts gX10_assigned_X5_has rfl rfl rfl (by decide +kernel) ⟨Nat.le_of_ble_eq_true rfl, Nat.le_of_ble_eq_true rfl⟩) (g_preV hP hK hSt hNw hS (g_at5 (Nat.le_of_ble_eq_true rfl) rfl) rfl) rfl rfl hl.1 rfl (lv_room (Nat.le_of_ble_eq_true rfl)) dX10_assigned_8 ⟨Nat.zero_le _, Nat.zero_le _⟩) (fun r_1 w_1 => ?_)
  try dsimp only at w_1
  refine lv_if_ne (tgt := 16) hx hb dX10_assigned_11 (by decide) (fun c_2 => ?_) (fun c_2 => ?_)
  · skip
    have q_2 : r_1.toInt ≠ (0 : Int) := i_ne2 (rfl : r_1.toInt = r_1.toInt) (show (0 : Int32).toInt = (0 : Int) from rfl) c_2
    refine lv_aload_n hx hb dX10_assigned_16 rfl (lv_at hl 0 rfl) ?_
    refine va_get (D := D) (ci := 10) (v := .ref (ad 74)) (C := RX10) (T := TX10) (N := 6) hx hb hts inX10 hown hK hP 0 (g_at10 (Nat.le_of_ble_eq_true rfl) rfl) rfl 4 (by decide) lk2 (fun _ h9 => h9) rfl dX10_assigned_17 ?_
    refine g_calli (va_runV (As := []) (rest := []) ⟨hx, hb, hml, hown, hts⟩ (c_X0_assign l D cy ad hI _ iv ar (fk0.1 4 (by decide) (by decide)).1) (cwV 0 hts gX10_assigned_X0_assign rfl rfl rfl (by decide +kernel) ⟨Nat.le_of_ble_eq_true rfl, Nat.le_of_ble_eq_true rfl⟩) (g_preV hP hK hSt hNw hS (g_at0 (Nat.le_of_ble_eq_true rfl) rfl) rfl) rfl rfl hl.1 rfl (lv_room (Nat.le_of_ble_eq_true rfl)) dX10_assigned_20 ⟨Nat.zero_le _, Nat.zero_le _⟩) hS (fun r_3 iv_3 ar_3 H locs w_3 hP hS => ?_)
    try dsimp only at w_3
    have fk_3 : KP iv iv_3 := fk0.fk (w_3)
    refine lv_istore_n (lv' := [(2, .int r_3), (0, .ref (ad 0)), (1, .int a)]) hx hb dX10_assigned_23 rfl hl (by decide) rfl (fun ls hl => ?_)
    refine lv_iload_n hx hb dX10_assigned_24 rfl (lv_at hl 0 rfl) ?_
    refine lv_if_eq (tgt := 32) hx hb dX10_assigned_25 (by decide) (fun c_4 => ?_) (fun c_4 => ?_)
    · skip
      have q_4 : r_3.toInt = (0 : Int) := i_eq2 (rfl : r_3.toInt = r_3.toInt) (show (0 : Int32).toInt = (0 : Int) from rfl) c_4
      refine lv_aload_n hx hb dX10_assigned_32 rfl (lv_at hl 1 rfl) ?_
      refine va_get (D := D) (ci := 10) (v := .ref (ad 74)) (C := RX10) (T := TX10) (N := 6) hx hb hts inX10 hown hK hP 0 (g_at10 (Nat.le_of_ble_eq_true rfl) rfl) rfl 4 (by decide) lk2 (fun _ h9 => h9) rfl dX10_assigned_33 ?_
      refine lv_iload_n hx hb dX10_assigned_36 rfl (lv_at hl 2 rfl) ?_
      refine g_callSi (va_runV (As := [.int a]) (rest := []) ⟨hx, hb, hml, hown, hts⟩ (c_X0_slotOf l D cy ad hI _ iv_3 ar_3 a) (cwV 1 hts gX10_assigned_X0_slotOf rfl rfl rfl (by decide +kernel) ⟨Nat.le_of_ble_eq_true rfl, Nat.le_of_ble_eq_true rfl⟩) (g_preV hP hK hSt hNw hS (g_at0 (Nat.le_of_ble_eq_true rfl) rfl) rfl) rfl rfl hl.1 rfl (lv_room (Nat.le_of_ble_eq_true rfl)) dX10_assigned_37 ⟨Nat.zero_le _, Nat.zero_le _⟩) (fun r_5 w_5 => ?_)
      try dsimp only at w_5
      rw [hQ]
      exact W.iret (v := r_5) hx hb hr (fun t ht hW => ⟨⟨r_5, (iv_3, ar_3), rfl, fk_3, by show va_P _ _ _ _; rw [ht]; exact hP⟩, hS.F ht⟩) hS.2.2 dX10_assigned_40
    · skip
      have q_4 : r_3.toInt ≠ (0 : Int) := i_ne2 (rfl : r_3.toInt = r_3.toInt) (show (0 : Int32).toInt = (0 : Int) from rfl) c_4
      refine lv_iload_n hx hb dX10_assigned_28 rfl (lv_at hl 0 rfl) ?_
      refine lv_goto (tgt := 40) hx hb dX10_assigned_29 (by decide) ?_
      rw [hQ]
      exact W.iret (v := r_3) hx hb hr (fun t ht hW => ⟨⟨r_3, (iv_3, ar_3), rfl, fk_3, by show va_P _ _ _ _; rw [ht]; exact hP⟩, hS.F ht⟩) hS.2.2 dX10_assigned_40
  · skip
    have q_2 : r_1.toInt = (0 : Int) := i_eq2 (rfl : r_1.toInt = r_1.toInt) (show (0 : Int32).toInt = (0 : Int) from rfl) c_2
    refine lv_iconst (v := (-1)) hx hb dX10_assigned_14 (by decide) ?_
    rw [hQ]
    exact W.iret (v := (-1)) hx hb hr (fun t ht hW => ⟨⟨(-1), (iv, ar), rfl, fk0, by show va_P _ _ _ _; rw [ht]; exact hP⟩, hS.F ht⟩) hS.2.2 dX10_assigned_15
set_option maxHeartbeats 4000000 in
set_option maxRecDepth 100000 in
theorem c_X10_assignment (l : Launch) (D : va_G) (cy : Nat → ClassId) (ad : Nat → Nat) (hI : gInj ad) (sz : Nat) (iv : gIv) (ar : gAr) (a : Int32) (hz : SZ iv) : Met l yX10_assignment wsX10_assignment ({ frames := 5, cells := 0, slots := 0, locals := 115 } : Room) (va_Pc [.ref (ad 0), .int a] (gPre D cy ad sz iv ar)) (va_Qi (fun (r : Int32) (u : gIv × gAr) => KP iv u.1) (gPost D cy ad) (gA ad sz)) 0 0 (gA ad sz) := by
  refine Met.ofW (cc := cX10_assignment) (maxL := 3) (ret := (some .int)) (by decide) rfl ?_
  intro p e s m args below meth c s₁ B hml hv
  obtain ⟨rfl, rfl, hP, hK, hSt, hNw⟩ := hv
  have hx := B.exec
  have hb := B.bytes
  have hr := B.returns
  have hts := atoms_spec (ws := wsX10_assignment) B.pre
  have hown : s.vm.findClass RX10 = some m.cls := findClass_of_methodNamed B.named
  have hlocks := B.notSynchronized
  have hS : va_S (gA ad s.heap.size) s.heap s.heap [] := va_S.rf
  have inX0 : ∀ w ∈ u_ws RX0 TX0 9, w ∈ wsX10_assignment := by decide +kernel
  have inX10 : ∀ w ∈ u_ws RX10 TX10 6, w ∈ wsX10_assignment := by decide +kernel
  have lk0 := hts (.fieldLink RX10 49 "FormationPlanner" "assigner" "LFormationPlanner$Assigner;") (by decide +kernel)
  have lk1 := hts (.fieldLink RX10 149 "FormationPlanner$Assigner" "greatest" "I") (by decide +kernel)
  have lk2 := hts (.fieldLink RX10 152 "FormationPlanner$Assigner" "sum" "I") (by decide +kernel)
  have lk3 := hts (.fieldLink RX10 155 "FormationPlanner$Assigner" "alike" "I") (by decide +kernel)
  have lk4 := hts (.fieldLink RX10 158 "FormationPlanner$Assigner" "all" "I") (by decide +kernel)
  have hl := lv_entry ([.ref (ad 0), .int a]) (n := 3) (Nat.le_of_ble_eq_true rfl)
  rw [lg_entry_eq]
  generalize (lg_sl ([.ref (ad 0), .int a]) ++ List.replicate (3 - (lg_sl ([.ref (ad 0), .int a])).length) Slot.unset).toArray = ls at hl ⊢
  have hl : lv_has ls 3 [(0, .ref (ad 0)), (1, .int a)] := hl
  obtain ⟨Q, hQ⟩ : ∃ Q, Q = MQ below (va_Qi (fun (r : Int32) (u : gIv × gAr) => KP iv u.1) (gPost D cy ad) (gA ad s.heap.size)) (([.ref (ad 0), .int a] : List Value).toArray) s 0 0 (gA ad s.heap.size) := ⟨_, rfl⟩
  rw [← hQ]
  have fk0 : KP iv iv := KP.rf hz
  refine lv_iload_n hx hb dX10_assignment_0 rfl (lv_at hl 1 rfl) ?_
  refine lv_if_lt (tgt := 9) hx hb dX10_assignment_1 (by decide) (fun c_1 => ?_) (fun c_1 => ?_)
  · skip
    have q_1 : a.toInt < (0 : Int) := i_lt2 (rfl : a.toInt = a.toInt) (show (0 : Int32).toInt = (0 : Int) from rfl) c_1
    refine lv_bipush (v := (-2)) hx hb dX10_assignment_9 (by decide) ?_
    rw [hQ]
    exact W.iret (v := (-2)) hx hb hr (fun t ht hW => ⟨⟨(-2), (iv, ar), rfl, fk0, by show va_P _ _ _ _; rw [ht]; exact hP⟩, hS.F ht⟩) hS.2.2 dX10_assignment_11
  · skip
    have q_1 : (0 : Int) ≤ a.toInt := i_nlt2 (rfl : a.toInt = a.toInt) (show (0 : Int32).toInt = (0 : Int) from rfl) c_1
    refine lv_iload_n hx hb dX10_assignment_4 rfl (lv_at hl 1 rfl) ?_
    refine lv_iconst (v := 3) hx hb dX10_assignment_5 (by decide) ?_
    refine lv_icmp_le (tgt := 12) hx hb dX10_assignment_6 (by decide) (fun c_2 => ?_) (fun c_2 => ?_)
    · skip
      have q_2 : a.toInt ≤ (3 : Int) := i_le2 (rfl : a.toInt = a.toInt) (show (3 : Int32).toInt = (3 : Int) from rfl) c_2
      refine lv_aload_n hx hb dX10_assignment_12 rfl (lv_at hl 0 rfl) ?_
      refine va_get (D := D) (ci := 10) (v := .ref (ad 74)) (C := RX10) (T := TX10) (N := 6) hx hb hts inX10 hown hK hP 0 (g_at10 (Nat.le_of_ble_eq_true rfl) rfl) rfl 4 (by decide) lk0 (fun _ h9 => h9) rfl dX10_assignment_13 ?_
      refine g_calli (va_runV (As := []) (rest := []) ⟨hx, hb, hml, hown, hts⟩ (c_X0_assign l D cy ad hI _ iv ar (fk0.1 4 (by decide) (by decide)).1) (cwV 0 hts gX10_assignment_X0_assign rfl rfl rfl (by decide +kernel) ⟨Nat.le_of_ble_eq_true rfl, Nat.le_of_ble_eq_true rfl⟩) (g_preV hP hK hSt hNw hS (g_at0 (Nat.le_of_ble_eq_true rfl) rfl) rfl) rfl rfl hl.1 rfl (lv_room (Nat.le_of_ble_eq_true rfl)) dX10_assignment_16 ⟨Nat.zero_le _, Nat.zero_le _⟩) hS (fun r_3 iv_3 ar_3 H locs w_3 hP hS => ?_)
      try dsimp only at w_3
      have fk_3 : KP iv iv_3 := fk0.fk (w_3)
      refine lv_istore_n (lv' := [(2, .int r_3), (0, .ref (ad 0)), (1, .int a)]) hx hb dX10_assignment_19 rfl hl (by decide) rfl (fun ls hl => ?_)
      refine lv_iload_n hx hb dX10_assignment_20 rfl (lv_at hl 0 rfl) ?_
      refine lv_if_eq (tgt := 26) hx hb dX10_assignment_21 (by decide) (fun c_4 => ?_) (fun c_4 => ?_)
      · skip
        have q_4 : r_3.toInt = (0 : Int) := i_eq2 (rfl : r_3.toInt = r_3.toInt) (show (0 : Int32).toInt = (0 : Int) from rfl) c_4
        refine lv_iload_n hx hb dX10_assignment_26 rfl (lv_at hl 2 rfl) ?_
        by_cases z_5 : a.toInt = 0
        · skip
          refine lv_tableIn (off := 25) (tgt := 52) hx hb dX10_assignment_27 (by rw [(rfl : a.toInt = a.toInt), z_5]; decide) (by rw [(rfl : a.toInt = a.toInt), z_5]; decide) (by rw [(rfl : a.toInt = a.toInt), z_5]; rfl) (by decide) ?_
          refine lv_aload_n hx hb dX10_assignment_52 rfl (lv_at hl 1 rfl) ?_
          refine va_get (D := D) (ci := 10) (v := .ref (ad 74)) (C := RX10) (T := TX10) (N := 6) hx hb hts inX10 hown hK hP 0 (g_at10 (Nat.le_of_ble_eq_true rfl) rfl) rfl 4 (by decide) lk0 (fun _ h9 => h9) rfl dX10_assignment_53 ?_
          refine va_get (D := D) (ci := 0) (v := .int (iv_3 74 7)) (C := RX0) (T := TX0) (N := 9) hx hb hts inX0 hown hK hP 74 (g_at0 (Nat.le_of_ble_eq_true rfl) rfl) rfl 7 (by decide) lk1 (fun _ h9 => h9) rfl dX10_assignment_56 ?_
          rw [hQ]
          exact W.iret (v := (iv_3 74 7)) hx hb hr (fun t ht hW => ⟨⟨(iv_3 74 7), (iv_3, ar_3), rfl, fk_3, by show va_P _ _ _ _; rw [ht]; exact hP⟩, hS.F ht⟩) hS.2.2 dX10_assignment_59
        by_cases z_6 : a.toInt = 1
        · skip
          refine lv_tableIn (off := 33) (tgt := 60) hx hb dX10_assignment_27 (by rw [(rfl : a.toInt = a.toInt), z_6]; decide) (by rw [(rfl : a.toInt = a.toInt), z_6]; decide) (by rw [(rfl : a.toInt = a.toInt), z_6]; rfl) (by decide) ?_
          refine lv_aload_n hx hb dX10_assignment_60 rfl (lv_at hl 1 rfl) ?_
          refine va_get (D := D) (ci := 10) (v := .ref (ad 74)) (C := RX10) (T := TX10) (N := 6) hx hb hts inX10 hown hK hP 0 (g_at10 (Nat.le_of_ble_eq_true rfl) rfl) rfl 4 (by decide) lk0 (fun _ h9 => h9) rfl dX10_assignment_61 ?_
          refine va_get (D := D) (ci := 0) (v := .int (iv_3 74 8)) (C := RX0) (T := TX0) (N := 9) hx hb hts inX0 hown hK hP 74 (g_at0 (Nat.le_of_ble_eq_true rfl) rfl) rfl 8 (by decide) lk2 (fun _ h9 => h9) rfl dX10_assignment_64 ?_
          rw [hQ]
          exact W.iret (v := (iv_3 74 8)) hx hb hr (fun t ht hW => ⟨⟨(iv_3 74 8), (iv_3, ar_3), rfl, fk_3, by show va_P _ _ _ _; rw [ht]; exact hP⟩, hS.F ht⟩) hS.2.2 dX10_assignment_67
        by_cases z_7 : a.toInt = 2
        · skip
          refine lv_tableIn (off := 41) (tgt := 68) hx hb dX10_assignment_27 (by rw [(rfl : a.toInt = a.toInt), z_7]; decide) (by rw [(rfl : a.toInt = a.toInt), z_7]; decide) (by rw [(rfl : a.toInt = a.toInt), z_7]; rfl) (by decide) ?_
          refine lv_aload_n hx hb dX10_assignment_68 rfl (lv_at hl 1 rfl) ?_
          refine va_get (D := D) (ci := 10) (v := .ref (ad 74)) (C := RX10) (T := TX10) (N := 6) hx hb hts inX10 hown hK hP 0 (g_at10 (Nat.le_of_ble_eq_true rfl) rfl) rfl 4 (by decide) lk0 (fun _ h9 => h9) rfl dX10_assignment_69 ?_
          refine va_get (D := D) (ci := 0) (v := .int (iv_3 74 6)) (C := RX0) (T := TX0) (N := 9) hx hb hts inX0 hown hK hP 74 (g_at0 (Nat.le_of_ble_eq_true rfl) rfl) rfl 6 (by decide) lk3 (fun _ h9 => h9) rfl dX10_assignment_72 ?_
          rw [hQ]
          exact W.iret (v := (iv_3 74 6)) hx hb hr (fun t ht hW => ⟨⟨(iv_3 74 6), (iv_3, ar_3), rfl, fk_3, by show va_P _ _ _ _; rw [ht]; exact hP⟩, hS.F ht⟩) hS.2.2 dX10_assignment_75
        refine lv_tableOut (tgt := 76) hx hb dX10_assignment_27 (by rw [(rfl : a.toInt = a.toInt)]; omega) (by decide) ?_
        refine lv_aload_n hx hb dX10_assignment_76 rfl (lv_at hl 1 rfl) ?_
        refine va_get (D := D) (ci := 10) (v := .ref (ad 74)) (C := RX10) (T := TX10) (N := 6) hx hb hts inX10 hown hK hP 0 (g_at10 (Nat.le_of_ble_eq_true rfl) rfl) rfl 4 (by decide) lk0 (fun _ h9 => h9) rfl dX10_assignment_77 ?_
        refine va_get (D := D) (ci := 0) (v := .int (iv_3 74 5)) (C := RX0) (T := TX0) (N := 9) hx hb hts inX0 hown hK hP 74 (g_at0 (Nat.le_of_ble_eq_true rfl) rfl) rfl 5 (by decide) lk4 (fun _ h9 => h9) rfl dX10_assignment_80 ?_
        rw [hQ]
        exact W.iret (v := (iv_3 74 5)) hx hb hr (fun t ht hW => ⟨⟨(iv_3 74 5), (iv_3, ar_3), rfl, fk_3, by show va_P _ _ _ _; rw [ht]; exact hP⟩, hS.F ht⟩) hS.2.2 dX10_assignment_83
      · skip
        have q_4 : r_3.toInt ≠ (0 : Int) := i_ne2 (rfl : r_3.toInt = r_3.toInt) (show (0 : Int32).toInt = (0 : Int) from rfl) c_4
        refine lv_iload_n hx hb dX10_assignment_24 rfl (lv_at hl 0 rfl) ?_
        rw [hQ]
        exact W.iret (v := r_3) hx hb hr (fun t ht hW => ⟨⟨r_3, (iv_3, ar_3), rfl, fk_3, by show va_P _ _ _ _; rw [ht]; exact hP⟩, hS.F ht⟩) hS.2.2 dX10_assignment_25
    · skip
      have q_2 : (3 : Int) < a.toInt := i_nle2 (rfl : a.toInt = a.toInt) (show (3 : Int32).toInt = (3 : Int) from rfl) c_2
      refine lv_bipush (v := (-2)) hx hb dX10_assignment_9 (by decide) ?_
      rw [hQ]
      exact W.iret (v := (-2)) hx hb hr (fun t ht hW => ⟨⟨(-2), (iv, ar), rfl, fk0, by show va_P _ _ _ _; rw [ht]; exact hP⟩, hS.F ht⟩) hS.2.2 dX10_assignment_11
set_option maxHeartbeats 4000000 in
set_option maxRecDepth 100000 in
theorem c_X10_plan (l : Launch) (D : va_G) (cy : Nat → ClassId) (ad : Nat → Nat) (hI : gInj ad) (sz : Nat) (iv : gIv) (ar : gAr)  (hz : SZ iv) : Met l yX10_plan wsX10_plan ({ frames := 6, cells := 0, slots := 0, locals := 147 } : Room) (va_Pc [.ref (ad 0)] (gPre D cy ad sz iv ar)) (va_Qi (fun (r : Int32) (u : gIv × gAr) => KP iv u.1) (gPost D cy ad) (gA ad sz)) 0 0 (gA ad sz) := by
  refine Met.ofW (cc := cX10_plan) (maxL := 2) (ret := (some .int)) (by decide) rfl ?_
  intro p e s m args below meth c s₁ B hml hv
  obtain ⟨rfl, rfl, hP, hK, hSt, hNw⟩ := hv
  have hx := B.exec
  have hb := B.bytes
  have hr := B.returns
  have hts := atoms_spec (ws := wsX10_plan) B.pre
  have hown : s.vm.findClass RX10 = some m.cls := findClass_of_methodNamed B.named
  have hlocks := B.notSynchronized
  have hS : va_S (gA ad s.heap.size) s.heap s.heap [] := va_S.rf
  have inX10 : ∀ w ∈ u_ws RX10 TX10 6, w ∈ wsX10_plan := by decide +kernel
  have lk0 := hts (.fieldLink RX10 49 "FormationPlanner" "assigner" "LFormationPlanner$Assigner;") (by decide +kernel)
  have lk1 := hts (.fieldLink RX10 56 "FormationPlanner" "plan" "LFormationPlanner$Plan;") (by decide +kernel)
  have hl := lv_entry ([.ref (ad 0)]) (n := 2) (Nat.le_of_ble_eq_true rfl)
  rw [lg_entry_eq]
  generalize (lg_sl ([.ref (ad 0)]) ++ List.replicate (2 - (lg_sl ([.ref (ad 0)])).length) Slot.unset).toArray = ls at hl ⊢
  have hl : lv_has ls 2 [(0, .ref (ad 0))] := hl
  obtain ⟨Q, hQ⟩ : ∃ Q, Q = MQ below (va_Qi (fun (r : Int32) (u : gIv × gAr) => KP iv u.1) (gPost D cy ad) (gA ad s.heap.size)) (([.ref (ad 0)] : List Value).toArray) s 0 0 (gA ad s.heap.size) := ⟨_, rfl⟩
  rw [← hQ]
  have fk0 : KP iv iv := KP.rf hz
  refine lv_aload_n hx hb dX10_plan_0 rfl (lv_at hl 0 rfl) ?_
  refine va_get (D := D) (ci := 10) (v := .ref (ad 74)) (C := RX10) (T := TX10) (N := 6) hx hb hts inX10 hown hK hP 0 (g_at10 (Nat.le_of_ble_eq_true rfl) rfl) rfl 4 (by decide) lk0 (fun _ h9 => h9) rfl dX10_plan_1 ?_
  refine g_calli (va_runV (As := []) (rest := []) ⟨hx, hb, hml, hown, hts⟩ (c_X0_assign l D cy ad hI _ iv ar (fk0.1 4 (by decide) (by decide)).1) (cwV 0 hts gX10_plan_X0_assign rfl rfl rfl (by decide +kernel) ⟨Nat.le_of_ble_eq_true rfl, Nat.le_of_ble_eq_true rfl⟩) (g_preV hP hK hSt hNw hS (g_at0 (Nat.le_of_ble_eq_true rfl) rfl) rfl) rfl rfl hl.1 rfl (lv_room (Nat.le_of_ble_eq_true rfl)) dX10_plan_4 ⟨Nat.zero_le _, Nat.zero_le _⟩) hS (fun r_1 iv_1 ar_1 H locs w_1 hP hS => ?_)
  try dsimp only at w_1
  have fk_1 : KP iv iv_1 := fk0.fk (w_1)
  refine lv_istore_n (lv' := [(1, .int r_1), (0, .ref (ad 0))]) hx hb dX10_plan_7 rfl hl (by decide) rfl (fun ls hl => ?_)
  refine lv_iload_n hx hb dX10_plan_8 rfl (lv_at hl 0 rfl) ?_
  refine lv_if_eq (tgt := 16) hx hb dX10_plan_9 (by decide) (fun c_2 => ?_) (fun c_2 => ?_)
  · skip
    have q_2 : r_1.toInt = (0 : Int) := i_eq2 (rfl : r_1.toInt = r_1.toInt) (show (0 : Int32).toInt = (0 : Int) from rfl) c_2
    refine lv_aload_n hx hb dX10_plan_16 rfl (lv_at hl 1 rfl) ?_
    refine va_get (D := D) (ci := 10) (v := .ref (ad 90)) (C := RX10) (T := TX10) (N := 6) hx hb hts inX10 hown hK hP 0 (g_at10 (Nat.le_of_ble_eq_true rfl) rfl) rfl 5 (by decide) lk1 (fun _ h9 => h9) rfl dX10_plan_17 ?_
    refine lv_aload_n hx hb dX10_plan_20 rfl (lv_at hl 1 rfl) ?_
    refine va_get (D := D) (ci := 10) (v := .ref (ad 74)) (C := RX10) (T := TX10) (N := 6) hx hb hts inX10 hown hK hP 0 (g_at10 (Nat.le_of_ble_eq_true rfl) rfl) rfl 4 (by decide) lk0 (fun _ h9 => h9) rfl dX10_plan_21 ?_
    refine g_calli (va_runV (As := [.ref (ad 74)]) (rest := []) ⟨hx, hb, hml, hown, hts⟩ (c_X6_make l D cy ad hI _ iv_1 ar_1) (cwV 1 hts gX10_plan_X6_make rfl rfl rfl (by decide +kernel) ⟨Nat.le_of_ble_eq_true rfl, Nat.le_of_ble_eq_true rfl⟩) (g_preV hP hK hSt hNw hS (g_at6 (Nat.le_of_ble_eq_true rfl) rfl) rfl) rfl rfl hl.1 rfl (lv_room (Nat.le_of_ble_eq_true rfl)) dX10_plan_24 ⟨Nat.zero_le _, Nat.zero_le _⟩) hS (fun r_3 iv_3 ar_3 H locs w_3 hP hS => ?_)
    try dsimp only at w_3
    have fk_3 : KP iv iv_3 := fk_1.fk (w_3)
    rw [hQ]
    exact W.iret (v := r_3) hx hb hr (fun t ht hW => ⟨⟨r_3, (iv_3, ar_3), rfl, fk_3, by show va_P _ _ _ _; rw [ht]; exact hP⟩, hS.F ht⟩) hS.2.2 dX10_plan_27
  · skip
    have q_2 : r_1.toInt ≠ (0 : Int) := i_ne2 (rfl : r_1.toInt = r_1.toInt) (show (0 : Int32).toInt = (0 : Int) from rfl) c_2
    refine lv_iload_n hx hb dX10_plan_12 rfl (lv_at hl 0 rfl) ?_
    refine lv_goto (tgt := 27) hx hb dX10_plan_13 (by decide) ?_
    rw [hQ]
    exact W.iret (v := r_1) hx hb hr (fun t ht hW => ⟨⟨r_1, (iv_1, ar_1), rfl, fk_1, by show va_P _ _ _ _; rw [ht]; exact hP⟩, hS.F ht⟩) hS.2.2 dX10_plan_27
set_option maxHeartbeats 4000000 in
set_option maxRecDepth 100000 in
theorem c_X10_stuck (l : Launch) (D : va_G) (cy : Nat → ClassId) (ad : Nat → Nat) (hI : gInj ad) (sz : Nat) (iv : gIv) (ar : gAr)   : Met l yX10_stuck wsX10_stuck ({ frames := 0, cells := 0, slots := 0, locals := 0 } : Room) (va_Pc [.ref (ad 0)] (gPre D cy ad sz iv ar)) (vp_Si (fun r => True)) 0 0 (fun _ => False) := by
  refine Met.ofW (cc := cX10_stuck) (maxL := 1) (ret := (some .int)) (by decide) rfl ?_
  intro p e s m args below meth c s₁ B hml hv
  obtain ⟨rfl, rfl, hP, hK, hSt, hNw⟩ := hv
  have hx := B.exec
  have hb := B.bytes
  have hr := B.returns
  have hts := atoms_spec (ws := wsX10_stuck) B.pre
  have hown : s.vm.findClass RX10 = some m.cls := findClass_of_methodNamed B.named
  have hlocks := B.notSynchronized
  have hS : va_S (gA ad s.heap.size) s.heap s.heap [] := va_S.rf
  have inX10 : ∀ w ∈ u_ws RX10 TX10 6, w ∈ wsX10_stuck := by decide +kernel
  have inX6 : ∀ w ∈ u_ws RX6 TX6 11, w ∈ wsX10_stuck := by decide +kernel
  have lk0 := hts (.fieldLink RX10 56 "FormationPlanner" "plan" "LFormationPlanner$Plan;") (by decide +kernel)
  have lk1 := hts (.fieldLink RX10 165 "FormationPlanner$Plan" "stuckDrone" "I") (by decide +kernel)
  have hl := lv_entry ([.ref (ad 0)]) (n := 1) (Nat.le_of_ble_eq_true rfl)
  rw [lg_entry_eq]
  generalize (lg_sl ([.ref (ad 0)]) ++ List.replicate (1 - (lg_sl ([.ref (ad 0)])).length) Slot.unset).toArray = ls at hl ⊢
  have hl : lv_has ls 1 [(0, .ref (ad 0))] := hl
  obtain ⟨Q, hQ⟩ : ∃ Q, Q = MQ below (vp_Si (fun r => True)) (([.ref (ad 0)] : List Value).toArray) s 0 0 (fun _ => False) := ⟨_, rfl⟩
  rw [← hQ]
  refine lv_aload_n hx hb dX10_stuck_0 rfl (lv_at hl 0 rfl) ?_
  refine va_get (D := D) (ci := 10) (v := .ref (ad 90)) (C := RX10) (T := TX10) (N := 6) hx hb hts inX10 hown hK hP 0 (g_at10 (Nat.le_of_ble_eq_true rfl) rfl) rfl 5 (by decide) lk0 (fun _ h9 => h9) rfl dX10_stuck_1 ?_
  refine va_get (D := D) (ci := 6) (v := .int (iv 90 8)) (C := RX6) (T := TX6) (N := 11) hx hb hts inX6 hown hK hP 90 (g_at6 (Nat.le_of_ble_eq_true rfl) rfl) rfl 8 (by decide) lk1 (fun _ h9 => h9) rfl dX10_stuck_4 ?_
  rw [hQ]
  exact W.iret (v := (iv 90 8)) hx hb hr (fun t ht hW => ⟨(iv 90 8), rfl, trivial, ht⟩) (fun q h => by cases h) dX10_stuck_7
set_option maxHeartbeats 4000000 in
set_option maxRecDepth 100000 in
theorem c_X10_at (l : Launch) (D : va_G) (cy : Nat → ClassId) (ad : Nat → Nat) (hI : gInj ad) (sz : Nat) (iv : gIv) (ar : gAr) (a : Int32) (b : Int32)  : Met l yX10_at wsX10_at ({ frames := 3, cells := 0, slots := 0, locals := 58 } : Room) (va_Pc [.ref (ad 0), .int a, .int b] (gPre D cy ad sz iv ar)) (vp_Si (fun r => True)) 0 0 (fun _ => False) := by
  refine Met.ofW (cc := cX10_at) (maxL := 4) (ret := (some .int)) (by decide) rfl ?_
  intro p e s m args below meth c s₁ B hml hv
  obtain ⟨rfl, rfl, hP, hK, hSt, hNw⟩ := hv
  have hx := B.exec
  have hb := B.bytes
  have hr := B.returns
  have hts := atoms_spec (ws := wsX10_at) B.pre
  have hown : s.vm.findClass RX10 = some m.cls := findClass_of_methodNamed B.named
  have hlocks := B.notSynchronized
  have hS : va_S (gA ad s.heap.size) s.heap s.heap [] := va_S.rf
  have inX10 : ∀ w ∈ u_ws RX10 TX10 6, w ∈ wsX10_at := by decide +kernel
  have lk0 := hts (.fieldLink RX10 56 "FormationPlanner" "plan" "LFormationPlanner$Plan;") (by decide +kernel)
  have hl := lv_entry ([.ref (ad 0), .int a, .int b]) (n := 4) (Nat.le_of_ble_eq_true rfl)
  rw [lg_entry_eq]
  generalize (lg_sl ([.ref (ad 0), .int a, .int b]) ++ List.replicate (4 - (lg_sl ([.ref (ad 0), .int a, .int b])).length) Slot.unset).toArray = ls at hl ⊢
  have hl : lv_has ls 4 [(0, .ref (ad 0)), (1, .int a), (2, .int b)] := hl
  obtain ⟨Q, hQ⟩ : ∃ Q, Q = MQ below (vp_Si (fun r => True)) (([.ref (ad 0), .int a, .int b] : List Value).toArray) s 0 0 (fun _ => False) := ⟨_, rfl⟩
  rw [← hQ]
  refine lv_aload_n hx hb dX10_at_0 rfl (lv_at hl 0 rfl) ?_
  refine lv_iload_n hx hb dX10_at_1 rfl (lv_at hl 1 rfl) ?_
  refine lv_iload_n hx hb dX10_at_2 rfl (lv_at hl 2 rfl) ?_
  refine lv_if_lt (tgt := 16) hx hb dX10_at_3 (by decide) (fun c_1 => ?_) (fun c_1 => ?_)
  · skip
    have q_1 : b.toInt < (0 : Int) := i_lt2 (rfl : b.toInt = b.toInt) (show (0 : Int32).toInt = (0 : Int) from rfl) c_1
    refine lv_iconst (v := 0) hx hb dX10_at_16 (by decide) ?_
    have zl_2 : (0 : Int32).toInt = (0 : Int) := rfl
    refine g_callSi (va_runV (As := [.int a, .int 0]) (rest := []) ⟨hx, hb, hml, hown, hts⟩ (c_X10_planError l D cy ad hI _ iv ar a 0) (cwV 2 hts gX10_at_X10_planError rfl rfl rfl (by decide +kernel) ⟨Nat.le_of_ble_eq_true rfl, Nat.le_of_ble_eq_true rfl⟩) (g_preV hP hK hSt hNw hS (g_at10 (Nat.le_of_ble_eq_true rfl) rfl) rfl) rfl rfl hl.1 rfl (lv_room (Nat.le_of_ble_eq_true rfl)) dX10_at_17 ⟨Nat.zero_le _, Nat.zero_le _⟩) (fun r_3 w_3 => ?_)
    try dsimp only at w_3
    refine lv_istore_n (lv' := [(3, .int r_3), (0, .ref (ad 0)), (1, .int a), (2, .int b)]) hx hb dX10_at_20 rfl hl (by decide) rfl (fun ls hl => ?_)
    refine lv_iload_n hx hb dX10_at_21 rfl (lv_at hl 0 rfl) ?_
    refine lv_if_eq (tgt := 29) hx hb dX10_at_22 (by decide) (fun c_4 => ?_) (fun c_4 => ?_)
    · skip
      have q_4 : r_3.toInt = (0 : Int) := i_eq2 (rfl : r_3.toInt = r_3.toInt) (show (0 : Int32).toInt = (0 : Int) from rfl) c_4
      refine lv_aload_n hx hb dX10_at_29 rfl (lv_at hl 1 rfl) ?_
      refine va_get (D := D) (ci := 10) (v := .ref (ad 90)) (C := RX10) (T := TX10) (N := 6) hx hb hts inX10 hown hK hP 0 (g_at10 (Nat.le_of_ble_eq_true rfl) rfl) rfl 5 (by decide) lk0 (fun _ h9 => h9) rfl dX10_at_30 ?_
      refine lv_iload_n hx hb dX10_at_33 rfl (lv_at hl 2 rfl) ?_
      refine lv_iload_n hx hb dX10_at_34 rfl (lv_at hl 3 rfl) ?_
      refine g_callSi (va_runV (As := [.int a, .int b]) (rest := []) ⟨hx, hb, hml, hown, hts⟩ (c_X6_cellOfDrone l D cy ad hI _ iv ar a b) (cwV 2 hts gX10_at_X6_cellOfDrone rfl rfl rfl (by decide +kernel) ⟨Nat.le_of_ble_eq_true rfl, Nat.le_of_ble_eq_true rfl⟩) (g_preV hP hK hSt hNw hS (g_at6 (Nat.le_of_ble_eq_true rfl) rfl) rfl) rfl rfl hl.1 rfl (lv_room (Nat.le_of_ble_eq_true rfl)) dX10_at_35 ⟨Nat.zero_le _, Nat.zero_le _⟩) (fun r_5 w_5 => ?_)
      try dsimp only at w_5
      rw [hQ]
      exact W.iret (v := r_5) hx hb hr (fun t ht hW => ⟨r_5, rfl, trivial, ht⟩) (fun q h => by cases h) dX10_at_38
    · skip
      have q_4 : r_3.toInt ≠ (0 : Int) := i_ne2 (rfl : r_3.toInt = r_3.toInt) (show (0 : Int32).toInt = (0 : Int) from rfl) c_4
      refine lv_iload_n hx hb dX10_at_25 rfl (lv_at hl 0 rfl) ?_
      refine lv_goto (tgt := 38) hx hb dX10_at_26 (by decide) ?_
      rw [hQ]
      exact W.iret (v := r_3) hx hb hr (fun t ht hW => ⟨r_3, rfl, trivial, ht⟩) (fun q h => by cases h) dX10_at_38
  · skip
    have q_1 : (0 : Int) ≤ b.toInt := i_nlt2 (rfl : b.toInt = b.toInt) (show (0 : Int32).toInt = (0 : Int) from rfl) c_1
    refine lv_iload_n hx hb dX10_at_6 rfl (lv_at hl 2 rfl) ?_
    refine lv_bipush (v := 60) hx hb dX10_at_7 (by decide) ?_
    refine lv_icmp_gt (tgt := 16) hx hb dX10_at_9 (by decide) (fun c_6 => ?_) (fun c_6 => ?_)
    · skip
      have q_6 : (60 : Int) < b.toInt := i_lt2 (show (60 : Int32).toInt = (60 : Int) from rfl) (rfl : b.toInt = b.toInt) c_6
      refine lv_iconst (v := 0) hx hb dX10_at_16 (by decide) ?_
      have zl_7 : (0 : Int32).toInt = (0 : Int) := rfl
      refine g_callSi (va_runV (As := [.int a, .int 0]) (rest := []) ⟨hx, hb, hml, hown, hts⟩ (c_X10_planError l D cy ad hI _ iv ar a 0) (cwV 2 hts gX10_at_X10_planError rfl rfl rfl (by decide +kernel) ⟨Nat.le_of_ble_eq_true rfl, Nat.le_of_ble_eq_true rfl⟩) (g_preV hP hK hSt hNw hS (g_at10 (Nat.le_of_ble_eq_true rfl) rfl) rfl) rfl rfl hl.1 rfl (lv_room (Nat.le_of_ble_eq_true rfl)) dX10_at_17 ⟨Nat.zero_le _, Nat.zero_le _⟩) (fun r_8 w_8 => ?_)
      try dsimp only at w_8
      refine lv_istore_n (lv' := [(3, .int r_8), (0, .ref (ad 0)), (1, .int a), (2, .int b)]) hx hb dX10_at_20 rfl hl (by decide) rfl (fun ls hl => ?_)
      refine lv_iload_n hx hb dX10_at_21 rfl (lv_at hl 0 rfl) ?_
      refine lv_if_eq (tgt := 29) hx hb dX10_at_22 (by decide) (fun c_9 => ?_) (fun c_9 => ?_)
      · skip
        have q_9 : r_8.toInt = (0 : Int) := i_eq2 (rfl : r_8.toInt = r_8.toInt) (show (0 : Int32).toInt = (0 : Int) from rfl) c_9
        refine lv_aload_n hx hb dX10_at_29 rfl (lv_at hl 1 rfl) ?_
        refine va_get (D := D) (ci := 10) (v := .ref (ad 90)) (C := RX10) (T := TX10) (N := 6) hx hb hts inX10 hown hK hP 0 (g_at10 (Nat.le_of_ble_eq_true rfl) rfl) rfl 5 (by decide) lk0 (fun _ h9 => h9) rfl dX10_at_30 ?_
        refine lv_iload_n hx hb dX10_at_33 rfl (lv_at hl 2 rfl) ?_
        refine lv_iload_n hx hb dX10_at_34 rfl (lv_at hl 3 rfl) ?_
        refine g_callSi (va_runV (As := [.int a, .int b]) (rest := []) ⟨hx, hb, hml, hown, hts⟩ (c_X6_cellOfDrone l D cy ad hI _ iv ar a b) (cwV 2 hts gX10_at_X6_cellOfDrone rfl rfl rfl (by decide +kernel) ⟨Nat.le_of_ble_eq_true rfl, Nat.le_of_ble_eq_true rfl⟩) (g_preV hP hK hSt hNw hS (g_at6 (Nat.le_of_ble_eq_true rfl) rfl) rfl) rfl rfl hl.1 rfl (lv_room (Nat.le_of_ble_eq_true rfl)) dX10_at_35 ⟨Nat.zero_le _, Nat.zero_le _⟩) (fun r_10 w_10 => ?_)
        try dsimp only at w_10
        rw [hQ]
        exact W.iret (v := r_10) hx hb hr (fun t ht hW => ⟨r_10, rfl, trivial, ht⟩) (fun q h => by cases h) dX10_at_38
      · skip
        have q_9 : r_8.toInt ≠ (0 : Int) := i_ne2 (rfl : r_8.toInt = r_8.toInt) (show (0 : Int32).toInt = (0 : Int) from rfl) c_9
        refine lv_iload_n hx hb dX10_at_25 rfl (lv_at hl 0 rfl) ?_
        refine lv_goto (tgt := 38) hx hb dX10_at_26 (by decide) ?_
        rw [hQ]
        exact W.iret (v := r_8) hx hb hr (fun t ht hW => ⟨r_8, rfl, trivial, ht⟩) (fun q h => by cases h) dX10_at_38
    · skip
      have q_6 : b.toInt ≤ (60 : Int) := i_nlt2 (show (60 : Int32).toInt = (60 : Int) from rfl) (rfl : b.toInt = b.toInt) c_6
      refine lv_iconst (v := 1) hx hb dX10_at_12 (by decide) ?_
      refine lv_goto (tgt := 17) hx hb dX10_at_13 (by decide) ?_
      have zl_11 : (1 : Int32).toInt = (1 : Int) := rfl
      refine g_callSi (va_runV (As := [.int a, .int 1]) (rest := []) ⟨hx, hb, hml, hown, hts⟩ (c_X10_planError l D cy ad hI _ iv ar a 1) (cwV 2 hts gX10_at_X10_planError rfl rfl rfl (by decide +kernel) ⟨Nat.le_of_ble_eq_true rfl, Nat.le_of_ble_eq_true rfl⟩) (g_preV hP hK hSt hNw hS (g_at10 (Nat.le_of_ble_eq_true rfl) rfl) rfl) rfl rfl hl.1 rfl (lv_room (Nat.le_of_ble_eq_true rfl)) dX10_at_17 ⟨Nat.zero_le _, Nat.zero_le _⟩) (fun r_12 w_12 => ?_)
      try dsimp only at w_12
      refine lv_istore_n (lv' := [(3, .int r_12), (0, .ref (ad 0)), (1, .int a), (2, .int b)]) hx hb dX10_at_20 rfl hl (by decide) rfl (fun ls hl => ?_)
      refine lv_iload_n hx hb dX10_at_21 rfl (lv_at hl 0 rfl) ?_
      refine lv_if_eq (tgt := 29) hx hb dX10_at_22 (by decide) (fun c_13 => ?_) (fun c_13 => ?_)
      · skip
        have q_13 : r_12.toInt = (0 : Int) := i_eq2 (rfl : r_12.toInt = r_12.toInt) (show (0 : Int32).toInt = (0 : Int) from rfl) c_13
        refine lv_aload_n hx hb dX10_at_29 rfl (lv_at hl 1 rfl) ?_
        refine va_get (D := D) (ci := 10) (v := .ref (ad 90)) (C := RX10) (T := TX10) (N := 6) hx hb hts inX10 hown hK hP 0 (g_at10 (Nat.le_of_ble_eq_true rfl) rfl) rfl 5 (by decide) lk0 (fun _ h9 => h9) rfl dX10_at_30 ?_
        refine lv_iload_n hx hb dX10_at_33 rfl (lv_at hl 2 rfl) ?_
        refine lv_iload_n hx hb dX10_at_34 rfl (lv_at hl 3 rfl) ?_
        refine g_callSi (va_runV (As := [.int a, .int b]) (rest := []) ⟨hx, hb, hml, hown, hts⟩ (c_X6_cellOfDrone l D cy ad hI _ iv ar a b) (cwV 2 hts gX10_at_X6_cellOfDrone rfl rfl rfl (by decide +kernel) ⟨Nat.le_of_ble_eq_true rfl, Nat.le_of_ble_eq_true rfl⟩) (g_preV hP hK hSt hNw hS (g_at6 (Nat.le_of_ble_eq_true rfl) rfl) rfl) rfl rfl hl.1 rfl (lv_room (Nat.le_of_ble_eq_true rfl)) dX10_at_35 ⟨Nat.zero_le _, Nat.zero_le _⟩) (fun r_14 w_14 => ?_)
        try dsimp only at w_14
        rw [hQ]
        exact W.iret (v := r_14) hx hb hr (fun t ht hW => ⟨r_14, rfl, trivial, ht⟩) (fun q h => by cases h) dX10_at_38
      · skip
        have q_13 : r_12.toInt ≠ (0 : Int) := i_ne2 (rfl : r_12.toInt = r_12.toInt) (show (0 : Int32).toInt = (0 : Int) from rfl) c_13
        refine lv_iload_n hx hb dX10_at_25 rfl (lv_at hl 0 rfl) ?_
        refine lv_goto (tgt := 38) hx hb dX10_at_26 (by decide) ?_
        rw [hQ]
        exact W.iret (v := r_12) hx hb hr (fun t ht hW => ⟨r_12, rfl, trivial, ht⟩) (fun q h => by cases h) dX10_at_38
set_option maxHeartbeats 4000000 in
set_option maxRecDepth 100000 in
theorem c_X10_action (l : Launch) (D : va_G) (cy : Nat → ClassId) (ad : Nat → Nat) (hI : gInj ad) (sz : Nat) (iv : gIv) (ar : gAr) (a : Int32) (b : Int32)  : Met l yX10_action wsX10_action ({ frames := 3, cells := 0, slots := 0, locals := 58 } : Room) (va_Pc [.ref (ad 0), .int a, .int b] (gPre D cy ad sz iv ar)) (vp_Si (fun r => True)) 0 0 (fun _ => False) := by
  refine Met.ofW (cc := cX10_action) (maxL := 4) (ret := (some .int)) (by decide) rfl ?_
  intro p e s m args below meth c s₁ B hml hv
  obtain ⟨rfl, rfl, hP, hK, hSt, hNw⟩ := hv
  have hx := B.exec
  have hb := B.bytes
  have hr := B.returns
  have hts := atoms_spec (ws := wsX10_action) B.pre
  have hown : s.vm.findClass RX10 = some m.cls := findClass_of_methodNamed B.named
  have hlocks := B.notSynchronized
  have hS : va_S (gA ad s.heap.size) s.heap s.heap [] := va_S.rf
  have inX10 : ∀ w ∈ u_ws RX10 TX10 6, w ∈ wsX10_action := by decide +kernel
  have lk0 := hts (.fieldLink RX10 56 "FormationPlanner" "plan" "LFormationPlanner$Plan;") (by decide +kernel)
  have hl := lv_entry ([.ref (ad 0), .int a, .int b]) (n := 4) (Nat.le_of_ble_eq_true rfl)
  rw [lg_entry_eq]
  generalize (lg_sl ([.ref (ad 0), .int a, .int b]) ++ List.replicate (4 - (lg_sl ([.ref (ad 0), .int a, .int b])).length) Slot.unset).toArray = ls at hl ⊢
  have hl : lv_has ls 4 [(0, .ref (ad 0)), (1, .int a), (2, .int b)] := hl
  obtain ⟨Q, hQ⟩ : ∃ Q, Q = MQ below (vp_Si (fun r => True)) (([.ref (ad 0), .int a, .int b] : List Value).toArray) s 0 0 (fun _ => False) := ⟨_, rfl⟩
  rw [← hQ]
  refine lv_aload_n hx hb dX10_action_0 rfl (lv_at hl 0 rfl) ?_
  refine lv_iload_n hx hb dX10_action_1 rfl (lv_at hl 1 rfl) ?_
  refine lv_iload_n hx hb dX10_action_2 rfl (lv_at hl 2 rfl) ?_
  refine lv_if_lt (tgt := 16) hx hb dX10_action_3 (by decide) (fun c_1 => ?_) (fun c_1 => ?_)
  · skip
    have q_1 : b.toInt < (0 : Int) := i_lt2 (rfl : b.toInt = b.toInt) (show (0 : Int32).toInt = (0 : Int) from rfl) c_1
    refine lv_iconst (v := 0) hx hb dX10_action_16 (by decide) ?_
    have zl_2 : (0 : Int32).toInt = (0 : Int) := rfl
    refine g_callSi (va_runV (As := [.int a, .int 0]) (rest := []) ⟨hx, hb, hml, hown, hts⟩ (c_X10_planError l D cy ad hI _ iv ar a 0) (cwV 2 hts gX10_action_X10_planError rfl rfl rfl (by decide +kernel) ⟨Nat.le_of_ble_eq_true rfl, Nat.le_of_ble_eq_true rfl⟩) (g_preV hP hK hSt hNw hS (g_at10 (Nat.le_of_ble_eq_true rfl) rfl) rfl) rfl rfl hl.1 rfl (lv_room (Nat.le_of_ble_eq_true rfl)) dX10_action_17 ⟨Nat.zero_le _, Nat.zero_le _⟩) (fun r_3 w_3 => ?_)
    try dsimp only at w_3
    refine lv_istore_n (lv' := [(3, .int r_3), (0, .ref (ad 0)), (1, .int a), (2, .int b)]) hx hb dX10_action_20 rfl hl (by decide) rfl (fun ls hl => ?_)
    refine lv_iload_n hx hb dX10_action_21 rfl (lv_at hl 0 rfl) ?_
    refine lv_if_eq (tgt := 29) hx hb dX10_action_22 (by decide) (fun c_4 => ?_) (fun c_4 => ?_)
    · skip
      have q_4 : r_3.toInt = (0 : Int) := i_eq2 (rfl : r_3.toInt = r_3.toInt) (show (0 : Int32).toInt = (0 : Int) from rfl) c_4
      refine lv_aload_n hx hb dX10_action_29 rfl (lv_at hl 1 rfl) ?_
      refine va_get (D := D) (ci := 10) (v := .ref (ad 90)) (C := RX10) (T := TX10) (N := 6) hx hb hts inX10 hown hK hP 0 (g_at10 (Nat.le_of_ble_eq_true rfl) rfl) rfl 5 (by decide) lk0 (fun _ h9 => h9) rfl dX10_action_30 ?_
      refine lv_iload_n hx hb dX10_action_33 rfl (lv_at hl 2 rfl) ?_
      refine lv_iload_n hx hb dX10_action_34 rfl (lv_at hl 3 rfl) ?_
      refine g_callSi (va_runV (As := [.int a, .int b]) (rest := []) ⟨hx, hb, hml, hown, hts⟩ (c_X6_actionOfDrone l D cy ad hI _ iv ar a b) (cwV 2 hts gX10_action_X6_actionOfDrone rfl rfl rfl (by decide +kernel) ⟨Nat.le_of_ble_eq_true rfl, Nat.le_of_ble_eq_true rfl⟩) (g_preV hP hK hSt hNw hS (g_at6 (Nat.le_of_ble_eq_true rfl) rfl) rfl) rfl rfl hl.1 rfl (lv_room (Nat.le_of_ble_eq_true rfl)) dX10_action_35 ⟨Nat.zero_le _, Nat.zero_le _⟩) (fun r_5 w_5 => ?_)
      try dsimp only at w_5
      rw [hQ]
      exact W.iret (v := r_5) hx hb hr (fun t ht hW => ⟨r_5, rfl, trivial, ht⟩) (fun q h => by cases h) dX10_action_38
    · skip
      have q_4 : r_3.toInt ≠ (0 : Int) := i_ne2 (rfl : r_3.toInt = r_3.toInt) (show (0 : Int32).toInt = (0 : Int) from rfl) c_4
      refine lv_iload_n hx hb dX10_action_25 rfl (lv_at hl 0 rfl) ?_
      refine lv_goto (tgt := 38) hx hb dX10_action_26 (by decide) ?_
      rw [hQ]
      exact W.iret (v := r_3) hx hb hr (fun t ht hW => ⟨r_3, rfl, trivial, ht⟩) (fun q h => by cases h) dX10_action_38
  · skip
    have q_1 : (0 : Int) ≤ b.toInt := i_nlt2 (rfl : b.toInt = b.toInt) (show (0 : Int32).toInt = (0 : Int) from rfl) c_1
    refine lv_iload_n hx hb dX10_action_6 rfl (lv_at hl 2 rfl) ?_
    refine lv_bipush (v := 60) hx hb dX10_action_7 (by decide) ?_
    refine lv_icmp_ge (tgt := 16) hx hb dX10_action_9 (by decide) (fun c_6 => ?_) (fun c_6 => ?_)
    · skip
      have q_6 : (60 : Int) ≤ b.toInt := i_le2 (show (60 : Int32).toInt = (60 : Int) from rfl) (rfl : b.toInt = b.toInt) c_6
      refine lv_iconst (v := 0) hx hb dX10_action_16 (by decide) ?_
      have zl_7 : (0 : Int32).toInt = (0 : Int) := rfl
      refine g_callSi (va_runV (As := [.int a, .int 0]) (rest := []) ⟨hx, hb, hml, hown, hts⟩ (c_X10_planError l D cy ad hI _ iv ar a 0) (cwV 2 hts gX10_action_X10_planError rfl rfl rfl (by decide +kernel) ⟨Nat.le_of_ble_eq_true rfl, Nat.le_of_ble_eq_true rfl⟩) (g_preV hP hK hSt hNw hS (g_at10 (Nat.le_of_ble_eq_true rfl) rfl) rfl) rfl rfl hl.1 rfl (lv_room (Nat.le_of_ble_eq_true rfl)) dX10_action_17 ⟨Nat.zero_le _, Nat.zero_le _⟩) (fun r_8 w_8 => ?_)
      try dsimp only at w_8
      refine lv_istore_n (lv' := [(3, .int r_8), (0, .ref (ad 0)), (1, .int a), (2, .int b)]) hx hb dX10_action_20 rfl hl (by decide) rfl (fun ls hl => ?_)
      refine lv_iload_n hx hb dX10_action_21 rfl (lv_at hl 0 rfl) ?_
      refine lv_if_eq (tgt := 29) hx hb dX10_action_22 (by decide) (fun c_9 => ?_) (fun c_9 => ?_)
      · skip
        have q_9 : r_8.toInt = (0 : Int) := i_eq2 (rfl : r_8.toInt = r_8.toInt) (show (0 : Int32).toInt = (0 : Int) from rfl) c_9
        refine lv_aload_n hx hb dX10_action_29 rfl (lv_at hl 1 rfl) ?_
        refine va_get (D := D) (ci := 10) (v := .ref (ad 90)) (C := RX10) (T := TX10) (N := 6) hx hb hts inX10 hown hK hP 0 (g_at10 (Nat.le_of_ble_eq_true rfl) rfl) rfl 5 (by decide) lk0 (fun _ h9 => h9) rfl dX10_action_30 ?_
        refine lv_iload_n hx hb dX10_action_33 rfl (lv_at hl 2 rfl) ?_
        refine lv_iload_n hx hb dX10_action_34 rfl (lv_at hl 3 rfl) ?_
        refine g_callSi (va_runV (As := [.int a, .int b]) (rest := []) ⟨hx, hb, hml, hown, hts⟩ (c_X6_actionOfDrone l D cy ad hI _ iv ar a b) (cwV 2 hts gX10_action_X6_actionOfDrone rfl rfl rfl (by decide +kernel) ⟨Nat.le_of_ble_eq_true rfl, Nat.le_of_ble_eq_true rfl⟩) (g_preV hP hK hSt hNw hS (g_at6 (Nat.le_of_ble_eq_true rfl) rfl) rfl) rfl rfl hl.1 rfl (lv_room (Nat.le_of_ble_eq_true rfl)) dX10_action_35 ⟨Nat.zero_le _, Nat.zero_le _⟩) (fun r_10 w_10 => ?_)
        try dsimp only at w_10
        rw [hQ]
        exact W.iret (v := r_10) hx hb hr (fun t ht hW => ⟨r_10, rfl, trivial, ht⟩) (fun q h => by cases h) dX10_action_38
      · skip
        have q_9 : r_8.toInt ≠ (0 : Int) := i_ne2 (rfl : r_8.toInt = r_8.toInt) (show (0 : Int32).toInt = (0 : Int) from rfl) c_9
        refine lv_iload_n hx hb dX10_action_25 rfl (lv_at hl 0 rfl) ?_
        refine lv_goto (tgt := 38) hx hb dX10_action_26 (by decide) ?_
        rw [hQ]
        exact W.iret (v := r_8) hx hb hr (fun t ht hW => ⟨r_8, rfl, trivial, ht⟩) (fun q h => by cases h) dX10_action_38
    · skip
      have q_6 : b.toInt < (60 : Int) := i_nle2 (show (60 : Int32).toInt = (60 : Int) from rfl) (rfl : b.toInt = b.toInt) c_6
      refine lv_iconst (v := 1) hx hb dX10_action_12 (by decide) ?_
      refine lv_goto (tgt := 17) hx hb dX10_action_13 (by decide) ?_
      have zl_11 : (1 : Int32).toInt = (1 : Int) := rfl
      refine g_callSi (va_runV (As := [.int a, .int 1]) (rest := []) ⟨hx, hb, hml, hown, hts⟩ (c_X10_planError l D cy ad hI _ iv ar a 1) (cwV 2 hts gX10_action_X10_planError rfl rfl rfl (by decide +kernel) ⟨Nat.le_of_ble_eq_true rfl, Nat.le_of_ble_eq_true rfl⟩) (g_preV hP hK hSt hNw hS (g_at10 (Nat.le_of_ble_eq_true rfl) rfl) rfl) rfl rfl hl.1 rfl (lv_room (Nat.le_of_ble_eq_true rfl)) dX10_action_17 ⟨Nat.zero_le _, Nat.zero_le _⟩) (fun r_12 w_12 => ?_)
      try dsimp only at w_12
      refine lv_istore_n (lv' := [(3, .int r_12), (0, .ref (ad 0)), (1, .int a), (2, .int b)]) hx hb dX10_action_20 rfl hl (by decide) rfl (fun ls hl => ?_)
      refine lv_iload_n hx hb dX10_action_21 rfl (lv_at hl 0 rfl) ?_
      refine lv_if_eq (tgt := 29) hx hb dX10_action_22 (by decide) (fun c_13 => ?_) (fun c_13 => ?_)
      · skip
        have q_13 : r_12.toInt = (0 : Int) := i_eq2 (rfl : r_12.toInt = r_12.toInt) (show (0 : Int32).toInt = (0 : Int) from rfl) c_13
        refine lv_aload_n hx hb dX10_action_29 rfl (lv_at hl 1 rfl) ?_
        refine va_get (D := D) (ci := 10) (v := .ref (ad 90)) (C := RX10) (T := TX10) (N := 6) hx hb hts inX10 hown hK hP 0 (g_at10 (Nat.le_of_ble_eq_true rfl) rfl) rfl 5 (by decide) lk0 (fun _ h9 => h9) rfl dX10_action_30 ?_
        refine lv_iload_n hx hb dX10_action_33 rfl (lv_at hl 2 rfl) ?_
        refine lv_iload_n hx hb dX10_action_34 rfl (lv_at hl 3 rfl) ?_
        refine g_callSi (va_runV (As := [.int a, .int b]) (rest := []) ⟨hx, hb, hml, hown, hts⟩ (c_X6_actionOfDrone l D cy ad hI _ iv ar a b) (cwV 2 hts gX10_action_X6_actionOfDrone rfl rfl rfl (by decide +kernel) ⟨Nat.le_of_ble_eq_true rfl, Nat.le_of_ble_eq_true rfl⟩) (g_preV hP hK hSt hNw hS (g_at6 (Nat.le_of_ble_eq_true rfl) rfl) rfl) rfl rfl hl.1 rfl (lv_room (Nat.le_of_ble_eq_true rfl)) dX10_action_35 ⟨Nat.zero_le _, Nat.zero_le _⟩) (fun r_14 w_14 => ?_)
        try dsimp only at w_14
        rw [hQ]
        exact W.iret (v := r_14) hx hb hr (fun t ht hW => ⟨r_14, rfl, trivial, ht⟩) (fun q h => by cases h) dX10_action_38
      · skip
        have q_13 : r_12.toInt ≠ (0 : Int) := i_ne2 (rfl : r_12.toInt = r_12.toInt) (show (0 : Int32).toInt = (0 : Int) from rfl) c_13
        refine lv_iload_n hx hb dX10_action_25 rfl (lv_at hl 0 rfl) ?_
        refine lv_goto (tgt := 38) hx hb dX10_action_26 (by decide) ?_
        rw [hQ]
        exact W.iret (v := r_12) hx hb hr (fun t ht hW => ⟨r_12, rfl, trivial, ht⟩) (fun q h => by cases h) dX10_action_38
set_option maxHeartbeats 4000000 in
set_option maxRecDepth 100000 in
theorem c_X10_flight (l : Launch) (D : va_G) (cy : Nat → ClassId) (ad : Nat → Nat) (hI : gInj ad) (sz : Nat) (iv : gIv) (ar : gAr) (a : Int32) (b : Int32) (hz : SZ iv) : Met l yX10_flight wsX10_flight ({ frames := 5, cells := 0, slots := 0, locals := 114 } : Room) (va_Pc [.ref (ad 0), .int a, .int b] (gPre D cy ad sz iv ar)) (va_Qi (fun (r : Int32) (u : gIv × gAr) => KP iv u.1) (gPost D cy ad) (gA ad sz)) 0 0 (gA ad sz) := by
  refine Met.ofW (cc := cX10_flight) (maxL := 4) (ret := (some .int)) (by decide) rfl ?_
  intro p e s m args below meth c s₁ B hml hv
  obtain ⟨rfl, rfl, hP, hK, hSt, hNw⟩ := hv
  have hx := B.exec
  have hb := B.bytes
  have hr := B.returns
  have hts := atoms_spec (ws := wsX10_flight) B.pre
  have hown : s.vm.findClass RX10 = some m.cls := findClass_of_methodNamed B.named
  have hlocks := B.notSynchronized
  have hS : va_S (gA ad s.heap.size) s.heap s.heap [] := va_S.rf
  have inX10 : ∀ w ∈ u_ws RX10 TX10 6, w ∈ wsX10_flight := by decide +kernel
  have lk0 := hts (.fieldLink RX10 56 "FormationPlanner" "plan" "LFormationPlanner$Plan;") (by decide +kernel)
  have hl := lv_entry ([.ref (ad 0), .int a, .int b]) (n := 4) (Nat.le_of_ble_eq_true rfl)
  rw [lg_entry_eq]
  generalize (lg_sl ([.ref (ad 0), .int a, .int b]) ++ List.replicate (4 - (lg_sl ([.ref (ad 0), .int a, .int b])).length) Slot.unset).toArray = ls at hl ⊢
  have hl : lv_has ls 4 [(0, .ref (ad 0)), (1, .int a), (2, .int b)] := hl
  obtain ⟨Q, hQ⟩ : ∃ Q, Q = MQ below (va_Qi (fun (r : Int32) (u : gIv × gAr) => KP iv u.1) (gPost D cy ad) (gA ad s.heap.size)) (([.ref (ad 0), .int a, .int b] : List Value).toArray) s 0 0 (gA ad s.heap.size) := ⟨_, rfl⟩
  rw [← hQ]
  have fk0 : KP iv iv := KP.rf hz
  refine lv_aload_n hx hb dX10_flight_0 rfl (lv_at hl 0 rfl) ?_
  refine lv_iload_n hx hb dX10_flight_1 rfl (lv_at hl 1 rfl) ?_
  refine lv_iload_n hx hb dX10_flight_2 rfl (lv_at hl 2 rfl) ?_
  refine lv_if_lt (tgt := 15) hx hb dX10_flight_3 (by decide) (fun c_1 => ?_) (fun c_1 => ?_)
  · skip
    have q_1 : b.toInt < (0 : Int) := i_lt2 (rfl : b.toInt = b.toInt) (show (0 : Int32).toInt = (0 : Int) from rfl) c_1
    refine lv_iconst (v := 0) hx hb dX10_flight_15 (by decide) ?_
    have zl_2 : (0 : Int32).toInt = (0 : Int) := rfl
    refine g_callSi (va_runV (As := [.int a, .int 0]) (rest := []) ⟨hx, hb, hml, hown, hts⟩ (c_X10_planError l D cy ad hI _ iv ar a 0) (cwV 2 hts gX10_flight_X10_planError rfl rfl rfl (by decide +kernel) ⟨Nat.le_of_ble_eq_true rfl, Nat.le_of_ble_eq_true rfl⟩) (g_preV hP hK hSt hNw hS (g_at10 (Nat.le_of_ble_eq_true rfl) rfl) rfl) rfl rfl hl.1 rfl (lv_room (Nat.le_of_ble_eq_true rfl)) dX10_flight_16 ⟨Nat.zero_le _, Nat.zero_le _⟩) (fun r_3 w_3 => ?_)
    try dsimp only at w_3
    refine lv_istore_n (lv' := [(3, .int r_3), (0, .ref (ad 0)), (1, .int a), (2, .int b)]) hx hb dX10_flight_19 rfl hl (by decide) rfl (fun ls hl => ?_)
    refine lv_iload_n hx hb dX10_flight_20 rfl (lv_at hl 0 rfl) ?_
    refine lv_if_eq (tgt := 26) hx hb dX10_flight_21 (by decide) (fun c_4 => ?_) (fun c_4 => ?_)
    · skip
      have q_4 : r_3.toInt = (0 : Int) := i_eq2 (rfl : r_3.toInt = r_3.toInt) (show (0 : Int32).toInt = (0 : Int) from rfl) c_4
      refine lv_iload_n hx hb dX10_flight_26 rfl (lv_at hl 3 rfl) ?_
      by_cases z_5 : b.toInt = 0
      · skip
        exfalso; omega
      by_cases z_6 : b.toInt = 1
      · skip
        exfalso; omega
      by_cases z_7 : b.toInt = 2
      · skip
        exfalso; omega
      by_cases z_8 : b.toInt = 3
      · skip
        exfalso; omega
      refine lv_tableOut (tgt := 92) hx hb dX10_flight_27 (by rw [(rfl : b.toInt = b.toInt)]; omega) (by decide) ?_
      refine lv_aload_n hx hb dX10_flight_92 rfl (lv_at hl 1 rfl) ?_
      refine va_get (D := D) (ci := 10) (v := .ref (ad 90)) (C := RX10) (T := TX10) (N := 6) hx hb hts inX10 hown hK hP 0 (g_at10 (Nat.le_of_ble_eq_true rfl) rfl) rfl 5 (by decide) lk0 (fun _ h9 => h9) rfl dX10_flight_93 ?_
      refine lv_iload_n hx hb dX10_flight_96 rfl (lv_at hl 2 rfl) ?_
      refine g_callSi (va_runV (As := [.int a]) (rest := []) ⟨hx, hb, hml, hown, hts⟩ (c_X6_slotOf l D cy ad hI _ iv ar a) (cwV 1 hts gX10_flight_X6_slotOf rfl rfl rfl (by decide +kernel) ⟨Nat.le_of_ble_eq_true rfl, Nat.le_of_ble_eq_true rfl⟩) (g_preV hP hK hSt hNw hS (g_at6 (Nat.le_of_ble_eq_true rfl) rfl) rfl) rfl rfl hl.1 rfl (lv_room (Nat.le_of_ble_eq_true rfl)) dX10_flight_97 ⟨Nat.zero_le _, Nat.zero_le _⟩) (fun r_9 w_9 => ?_)
      try dsimp only at w_9
      rw [hQ]
      exact W.iret (v := r_9) hx hb hr (fun t ht hW => ⟨⟨r_9, (iv, ar), rfl, fk0, by show va_P _ _ _ _; rw [ht]; exact hP⟩, hS.F ht⟩) hS.2.2 dX10_flight_100
    · skip
      have q_4 : r_3.toInt ≠ (0 : Int) := i_ne2 (rfl : r_3.toInt = r_3.toInt) (show (0 : Int32).toInt = (0 : Int) from rfl) c_4
      refine lv_iload_n hx hb dX10_flight_24 rfl (lv_at hl 0 rfl) ?_
      rw [hQ]
      exact W.iret (v := r_3) hx hb hr (fun t ht hW => ⟨⟨r_3, (iv, ar), rfl, fk0, by show va_P _ _ _ _; rw [ht]; exact hP⟩, hS.F ht⟩) hS.2.2 dX10_flight_25
  · skip
    have q_1 : (0 : Int) ≤ b.toInt := i_nlt2 (rfl : b.toInt = b.toInt) (show (0 : Int32).toInt = (0 : Int) from rfl) c_1
    refine lv_iload_n hx hb dX10_flight_6 rfl (lv_at hl 2 rfl) ?_
    refine lv_iconst (v := 4) hx hb dX10_flight_7 (by decide) ?_
    refine lv_icmp_gt (tgt := 15) hx hb dX10_flight_8 (by decide) (fun c_10 => ?_) (fun c_10 => ?_)
    · skip
      have q_10 : (4 : Int) < b.toInt := i_lt2 (show (4 : Int32).toInt = (4 : Int) from rfl) (rfl : b.toInt = b.toInt) c_10
      refine lv_iconst (v := 0) hx hb dX10_flight_15 (by decide) ?_
      have zl_11 : (0 : Int32).toInt = (0 : Int) := rfl
      refine g_callSi (va_runV (As := [.int a, .int 0]) (rest := []) ⟨hx, hb, hml, hown, hts⟩ (c_X10_planError l D cy ad hI _ iv ar a 0) (cwV 2 hts gX10_flight_X10_planError rfl rfl rfl (by decide +kernel) ⟨Nat.le_of_ble_eq_true rfl, Nat.le_of_ble_eq_true rfl⟩) (g_preV hP hK hSt hNw hS (g_at10 (Nat.le_of_ble_eq_true rfl) rfl) rfl) rfl rfl hl.1 rfl (lv_room (Nat.le_of_ble_eq_true rfl)) dX10_flight_16 ⟨Nat.zero_le _, Nat.zero_le _⟩) (fun r_12 w_12 => ?_)
      try dsimp only at w_12
      refine lv_istore_n (lv' := [(3, .int r_12), (0, .ref (ad 0)), (1, .int a), (2, .int b)]) hx hb dX10_flight_19 rfl hl (by decide) rfl (fun ls hl => ?_)
      refine lv_iload_n hx hb dX10_flight_20 rfl (lv_at hl 0 rfl) ?_
      refine lv_if_eq (tgt := 26) hx hb dX10_flight_21 (by decide) (fun c_13 => ?_) (fun c_13 => ?_)
      · skip
        have q_13 : r_12.toInt = (0 : Int) := i_eq2 (rfl : r_12.toInt = r_12.toInt) (show (0 : Int32).toInt = (0 : Int) from rfl) c_13
        refine lv_iload_n hx hb dX10_flight_26 rfl (lv_at hl 3 rfl) ?_
        by_cases z_14 : b.toInt = 0
        · skip
          exfalso; omega
        by_cases z_15 : b.toInt = 1
        · skip
          exfalso; omega
        by_cases z_16 : b.toInt = 2
        · skip
          exfalso; omega
        by_cases z_17 : b.toInt = 3
        · skip
          exfalso; omega
        refine lv_tableOut (tgt := 92) hx hb dX10_flight_27 (by rw [(rfl : b.toInt = b.toInt)]; omega) (by decide) ?_
        refine lv_aload_n hx hb dX10_flight_92 rfl (lv_at hl 1 rfl) ?_
        refine va_get (D := D) (ci := 10) (v := .ref (ad 90)) (C := RX10) (T := TX10) (N := 6) hx hb hts inX10 hown hK hP 0 (g_at10 (Nat.le_of_ble_eq_true rfl) rfl) rfl 5 (by decide) lk0 (fun _ h9 => h9) rfl dX10_flight_93 ?_
        refine lv_iload_n hx hb dX10_flight_96 rfl (lv_at hl 2 rfl) ?_
        refine g_callSi (va_runV (As := [.int a]) (rest := []) ⟨hx, hb, hml, hown, hts⟩ (c_X6_slotOf l D cy ad hI _ iv ar a) (cwV 1 hts gX10_flight_X6_slotOf rfl rfl rfl (by decide +kernel) ⟨Nat.le_of_ble_eq_true rfl, Nat.le_of_ble_eq_true rfl⟩) (g_preV hP hK hSt hNw hS (g_at6 (Nat.le_of_ble_eq_true rfl) rfl) rfl) rfl rfl hl.1 rfl (lv_room (Nat.le_of_ble_eq_true rfl)) dX10_flight_97 ⟨Nat.zero_le _, Nat.zero_le _⟩) (fun r_18 w_18 => ?_)
        try dsimp only at w_18
        rw [hQ]
        exact W.iret (v := r_18) hx hb hr (fun t ht hW => ⟨⟨r_18, (iv, ar), rfl, fk0, by show va_P _ _ _ _; rw [ht]; exact hP⟩, hS.F ht⟩) hS.2.2 dX10_flight_100
      · skip
        have q_13 : r_12.toInt ≠ (0 : Int) := i_ne2 (rfl : r_12.toInt = r_12.toInt) (show (0 : Int32).toInt = (0 : Int) from rfl) c_13
        refine lv_iload_n hx hb dX10_flight_24 rfl (lv_at hl 0 rfl) ?_
        rw [hQ]
        exact W.iret (v := r_12) hx hb hr (fun t ht hW => ⟨⟨r_12, (iv, ar), rfl, fk0, by show va_P _ _ _ _; rw [ht]; exact hP⟩, hS.F ht⟩) hS.2.2 dX10_flight_25
    · skip
      have q_10 : b.toInt ≤ (4 : Int) := i_nlt2 (show (4 : Int32).toInt = (4 : Int) from rfl) (rfl : b.toInt = b.toInt) c_10
      refine lv_iconst (v := 1) hx hb dX10_flight_11 (by decide) ?_
      refine lv_goto (tgt := 16) hx hb dX10_flight_12 (by decide) ?_
      have zl_19 : (1 : Int32).toInt = (1 : Int) := rfl
      refine g_callSi (va_runV (As := [.int a, .int 1]) (rest := []) ⟨hx, hb, hml, hown, hts⟩ (c_X10_planError l D cy ad hI _ iv ar a 1) (cwV 2 hts gX10_flight_X10_planError rfl rfl rfl (by decide +kernel) ⟨Nat.le_of_ble_eq_true rfl, Nat.le_of_ble_eq_true rfl⟩) (g_preV hP hK hSt hNw hS (g_at10 (Nat.le_of_ble_eq_true rfl) rfl) rfl) rfl rfl hl.1 rfl (lv_room (Nat.le_of_ble_eq_true rfl)) dX10_flight_16 ⟨Nat.zero_le _, Nat.zero_le _⟩) (fun r_20 w_20 => ?_)
      try dsimp only at w_20
      refine lv_istore_n (lv' := [(3, .int r_20), (0, .ref (ad 0)), (1, .int a), (2, .int b)]) hx hb dX10_flight_19 rfl hl (by decide) rfl (fun ls hl => ?_)
      refine lv_iload_n hx hb dX10_flight_20 rfl (lv_at hl 0 rfl) ?_
      refine lv_if_eq (tgt := 26) hx hb dX10_flight_21 (by decide) (fun c_21 => ?_) (fun c_21 => ?_)
      · skip
        have q_21 : r_20.toInt = (0 : Int) := i_eq2 (rfl : r_20.toInt = r_20.toInt) (show (0 : Int32).toInt = (0 : Int) from rfl) c_21
        refine lv_iload_n hx hb dX10_flight_26 rfl (lv_at hl 3 rfl) ?_
        by_cases z_22 : b.toInt = 0
        · skip
          refine lv_tableIn (off := 29) (tgt := 56) hx hb dX10_flight_27 (by rw [(rfl : b.toInt = b.toInt), z_22]; decide) (by rw [(rfl : b.toInt = b.toInt), z_22]; decide) (by rw [(rfl : b.toInt = b.toInt), z_22]; rfl) (by decide) ?_
          refine lv_aload_n hx hb dX10_flight_56 rfl (lv_at hl 1 rfl) ?_
          refine va_get (D := D) (ci := 10) (v := .ref (ad 90)) (C := RX10) (T := TX10) (N := 6) hx hb hts inX10 hown hK hP 0 (g_at10 (Nat.le_of_ble_eq_true rfl) rfl) rfl 5 (by decide) lk0 (fun _ h9 => h9) rfl dX10_flight_57 ?_
          refine lv_iload_n hx hb dX10_flight_60 rfl (lv_at hl 2 rfl) ?_
          refine g_callSi (va_runV (As := [.int a]) (rest := []) ⟨hx, hb, hml, hown, hts⟩ (c_X6_ticksLeft l D cy ad hI _ iv ar a) (cwV 1 hts gX10_flight_X6_ticksLeft rfl rfl rfl (by decide +kernel) ⟨Nat.le_of_ble_eq_true rfl, Nat.le_of_ble_eq_true rfl⟩) (g_preV hP hK hSt hNw hS (g_at6 (Nat.le_of_ble_eq_true rfl) rfl) rfl) rfl rfl hl.1 rfl (lv_room (Nat.le_of_ble_eq_true rfl)) dX10_flight_61 ⟨Nat.zero_le _, Nat.zero_le _⟩) (fun r_23 w_23 => ?_)
          try dsimp only at w_23
          rw [hQ]
          exact W.iret (v := r_23) hx hb hr (fun t ht hW => ⟨⟨r_23, (iv, ar), rfl, fk0, by show va_P _ _ _ _; rw [ht]; exact hP⟩, hS.F ht⟩) hS.2.2 dX10_flight_64
        by_cases z_24 : b.toInt = 1
        · skip
          refine lv_tableIn (off := 38) (tgt := 65) hx hb dX10_flight_27 (by rw [(rfl : b.toInt = b.toInt), z_24]; decide) (by rw [(rfl : b.toInt = b.toInt), z_24]; decide) (by rw [(rfl : b.toInt = b.toInt), z_24]; rfl) (by decide) ?_
          refine lv_aload_n hx hb dX10_flight_65 rfl (lv_at hl 1 rfl) ?_
          refine va_get (D := D) (ci := 10) (v := .ref (ad 90)) (C := RX10) (T := TX10) (N := 6) hx hb hts inX10 hown hK hP 0 (g_at10 (Nat.le_of_ble_eq_true rfl) rfl) rfl 5 (by decide) lk0 (fun _ h9 => h9) rfl dX10_flight_66 ?_
          refine lv_iload_n hx hb dX10_flight_69 rfl (lv_at hl 2 rfl) ?_
          refine g_callSi (va_runV (As := [.int a]) (rest := []) ⟨hx, hb, hml, hown, hts⟩ (c_X6_waitsLeft l D cy ad hI _ iv ar a) (cwV 1 hts gX10_flight_X6_waitsLeft rfl rfl rfl (by decide +kernel) ⟨Nat.le_of_ble_eq_true rfl, Nat.le_of_ble_eq_true rfl⟩) (g_preV hP hK hSt hNw hS (g_at6 (Nat.le_of_ble_eq_true rfl) rfl) rfl) rfl rfl hl.1 rfl (lv_room (Nat.le_of_ble_eq_true rfl)) dX10_flight_70 ⟨Nat.zero_le _, Nat.zero_le _⟩) (fun r_25 w_25 => ?_)
          try dsimp only at w_25
          rw [hQ]
          exact W.iret (v := r_25) hx hb hr (fun t ht hW => ⟨⟨r_25, (iv, ar), rfl, fk0, by show va_P _ _ _ _; rw [ht]; exact hP⟩, hS.F ht⟩) hS.2.2 dX10_flight_73
        by_cases z_26 : b.toInt = 2
        · skip
          refine lv_tableIn (off := 47) (tgt := 74) hx hb dX10_flight_27 (by rw [(rfl : b.toInt = b.toInt), z_26]; decide) (by rw [(rfl : b.toInt = b.toInt), z_26]; decide) (by rw [(rfl : b.toInt = b.toInt), z_26]; rfl) (by decide) ?_
          refine lv_aload_n hx hb dX10_flight_74 rfl (lv_at hl 1 rfl) ?_
          refine va_get (D := D) (ci := 10) (v := .ref (ad 90)) (C := RX10) (T := TX10) (N := 6) hx hb hts inX10 hown hK hP 0 (g_at10 (Nat.le_of_ble_eq_true rfl) rfl) rfl 5 (by decide) lk0 (fun _ h9 => h9) rfl dX10_flight_75 ?_
          refine lv_iload_n hx hb dX10_flight_78 rfl (lv_at hl 2 rfl) ?_
          refine g_calli (va_runV (As := [.int a]) (rest := []) ⟨hx, hb, hml, hown, hts⟩ (c_X6_timeWithoutOthers l D cy ad hI _ iv ar a) (cwV 1 hts gX10_flight_X6_timeWithoutOthers rfl rfl rfl (by decide +kernel) ⟨Nat.le_of_ble_eq_true rfl, Nat.le_of_ble_eq_true rfl⟩) (g_preV hP hK hSt hNw hS (g_at6 (Nat.le_of_ble_eq_true rfl) rfl) rfl) rfl rfl hl.1 rfl (lv_room (Nat.le_of_ble_eq_true rfl)) dX10_flight_79 ⟨Nat.zero_le _, Nat.zero_le _⟩) hS (fun r_27 iv_27 ar_27 H locs w_27 hP hS => ?_)
          try dsimp only at w_27
          have wi_27 := (w_27).symm
          subst wi_27
          rw [hQ]
          exact W.iret (v := r_27) hx hb hr (fun t ht hW => ⟨⟨r_27, (iv, ar_27), rfl, fk0, by show va_P _ _ _ _; rw [ht]; exact hP⟩, hS.F ht⟩) hS.2.2 dX10_flight_82
        by_cases z_28 : b.toInt = 3
        · skip
          refine lv_tableIn (off := 56) (tgt := 83) hx hb dX10_flight_27 (by rw [(rfl : b.toInt = b.toInt), z_28]; decide) (by rw [(rfl : b.toInt = b.toInt), z_28]; decide) (by rw [(rfl : b.toInt = b.toInt), z_28]; rfl) (by decide) ?_
          refine lv_aload_n hx hb dX10_flight_83 rfl (lv_at hl 1 rfl) ?_
          refine va_get (D := D) (ci := 10) (v := .ref (ad 90)) (C := RX10) (T := TX10) (N := 6) hx hb hts inX10 hown hK hP 0 (g_at10 (Nat.le_of_ble_eq_true rfl) rfl) rfl 5 (by decide) lk0 (fun _ h9 => h9) rfl dX10_flight_84 ?_
          refine lv_iload_n hx hb dX10_flight_87 rfl (lv_at hl 2 rfl) ?_
          refine g_callSi (va_runV (As := [.int a]) (rest := []) ⟨hx, hb, hml, hown, hts⟩ (c_X6_positionOf l D cy ad hI _ iv ar a) (cwV 1 hts gX10_flight_X6_positionOf rfl rfl rfl (by decide +kernel) ⟨Nat.le_of_ble_eq_true rfl, Nat.le_of_ble_eq_true rfl⟩) (g_preV hP hK hSt hNw hS (g_at6 (Nat.le_of_ble_eq_true rfl) rfl) rfl) rfl rfl hl.1 rfl (lv_room (Nat.le_of_ble_eq_true rfl)) dX10_flight_88 ⟨Nat.zero_le _, Nat.zero_le _⟩) (fun r_29 w_29 => ?_)
          try dsimp only at w_29
          rw [hQ]
          exact W.iret (v := r_29) hx hb hr (fun t ht hW => ⟨⟨r_29, (iv, ar), rfl, fk0, by show va_P _ _ _ _; rw [ht]; exact hP⟩, hS.F ht⟩) hS.2.2 dX10_flight_91
        refine lv_tableOut (tgt := 92) hx hb dX10_flight_27 (by rw [(rfl : b.toInt = b.toInt)]; omega) (by decide) ?_
        refine lv_aload_n hx hb dX10_flight_92 rfl (lv_at hl 1 rfl) ?_
        refine va_get (D := D) (ci := 10) (v := .ref (ad 90)) (C := RX10) (T := TX10) (N := 6) hx hb hts inX10 hown hK hP 0 (g_at10 (Nat.le_of_ble_eq_true rfl) rfl) rfl 5 (by decide) lk0 (fun _ h9 => h9) rfl dX10_flight_93 ?_
        refine lv_iload_n hx hb dX10_flight_96 rfl (lv_at hl 2 rfl) ?_
        refine g_callSi (va_runV (As := [.int a]) (rest := []) ⟨hx, hb, hml, hown, hts⟩ (c_X6_slotOf l D cy ad hI _ iv ar a) (cwV 1 hts gX10_flight_X6_slotOf rfl rfl rfl (by decide +kernel) ⟨Nat.le_of_ble_eq_true rfl, Nat.le_of_ble_eq_true rfl⟩) (g_preV hP hK hSt hNw hS (g_at6 (Nat.le_of_ble_eq_true rfl) rfl) rfl) rfl rfl hl.1 rfl (lv_room (Nat.le_of_ble_eq_true rfl)) dX10_flight_97 ⟨Nat.zero_le _, Nat.zero_le _⟩) (fun r_30 w_30 => ?_)
        try dsimp only at w_30
        rw [hQ]
        exact W.iret (v := r_30) hx hb hr (fun t ht hW => ⟨⟨r_30, (iv, ar), rfl, fk0, by show va_P _ _ _ _; rw [ht]; exact hP⟩, hS.F ht⟩) hS.2.2 dX10_flight_100
      · skip
        have q_21 : r_20.toInt ≠ (0 : Int) := i_ne2 (rfl : r_20.toInt = r_20.toInt) (show (0 : Int32).toInt = (0 : Int) from rfl) c_21
        refine lv_iload_n hx hb dX10_flight_24 rfl (lv_at hl 0 rfl) ?_
        rw [hQ]
        exact W.iret (v := r_20) hx hb hr (fun t ht hW => ⟨⟨r_20, (iv, ar), rfl, fk0, by show va_P _ _ _ _; rw [ht]; exact hP⟩, hS.F ht⟩) hS.2.2 dX10_flight_25
set_option maxHeartbeats 4000000 in
set_option maxRecDepth 100000 in
theorem c_X10_explain (l : Launch) (D : va_G) (cy : Nat → ClassId) (ad : Nat → Nat) (hI : gInj ad) (sz : Nat) (iv : gIv) (ar : gAr) (a : Int32) (b : Int32) (hz : SZ iv) : Met l yX10_explain wsX10_explain ({ frames := 5, cells := 0, slots := 0, locals := 121 } : Room) (va_Pc [.ref (ad 0), .int a, .int b] (gPre D cy ad sz iv ar)) (va_Qi (fun (r : Int32) (u : gIv × gAr) => KP iv u.1) (gPost D cy ad) (gA ad sz)) 0 0 (gA ad sz) := by
  refine Met.ofW (cc := cX10_explain) (maxL := 4) (ret := (some .int)) (by decide) rfl ?_
  intro p e s m args below meth c s₁ B hml hv
  obtain ⟨rfl, rfl, hP, hK, hSt, hNw⟩ := hv
  have hx := B.exec
  have hb := B.bytes
  have hr := B.returns
  have hts := atoms_spec (ws := wsX10_explain) B.pre
  have hown : s.vm.findClass RX10 = some m.cls := findClass_of_methodNamed B.named
  have hlocks := B.notSynchronized
  have hS : va_S (gA ad s.heap.size) s.heap s.heap [] := va_S.rf
  have inX10 : ∀ w ∈ u_ws RX10 TX10 6, w ∈ wsX10_explain := by decide +kernel
  have lk0 := hts (.fieldLink RX10 56 "FormationPlanner" "plan" "LFormationPlanner$Plan;") (by decide +kernel)
  have hl := lv_entry ([.ref (ad 0), .int a, .int b]) (n := 4) (Nat.le_of_ble_eq_true rfl)
  rw [lg_entry_eq]
  generalize (lg_sl ([.ref (ad 0), .int a, .int b]) ++ List.replicate (4 - (lg_sl ([.ref (ad 0), .int a, .int b])).length) Slot.unset).toArray = ls at hl ⊢
  have hl : lv_has ls 4 [(0, .ref (ad 0)), (1, .int a), (2, .int b)] := hl
  obtain ⟨Q, hQ⟩ : ∃ Q, Q = MQ below (va_Qi (fun (r : Int32) (u : gIv × gAr) => KP iv u.1) (gPost D cy ad) (gA ad s.heap.size)) (([.ref (ad 0), .int a, .int b] : List Value).toArray) s 0 0 (gA ad s.heap.size) := ⟨_, rfl⟩
  rw [← hQ]
  have fk0 : KP iv iv := KP.rf hz
  refine lv_aload_n hx hb dX10_explain_0 rfl (lv_at hl 0 rfl) ?_
  refine lv_iload_n hx hb dX10_explain_1 rfl (lv_at hl 1 rfl) ?_
  refine lv_iload_n hx hb dX10_explain_2 rfl (lv_at hl 2 rfl) ?_
  refine lv_if_lt (tgt := 16) hx hb dX10_explain_3 (by decide) (fun c_1 => ?_) (fun c_1 => ?_)
  · skip
    have q_1 : b.toInt < (0 : Int) := i_lt2 (rfl : b.toInt = b.toInt) (show (0 : Int32).toInt = (0 : Int) from rfl) c_1
    refine lv_iconst (v := 0) hx hb dX10_explain_16 (by decide) ?_
    have zl_2 : (0 : Int32).toInt = (0 : Int) := rfl
    refine g_callSi (va_runV (As := [.int a, .int 0]) (rest := []) ⟨hx, hb, hml, hown, hts⟩ (c_X10_planError l D cy ad hI _ iv ar a 0) (cwV 2 hts gX10_explain_X10_planError rfl rfl rfl (by decide +kernel) ⟨Nat.le_of_ble_eq_true rfl, Nat.le_of_ble_eq_true rfl⟩) (g_preV hP hK hSt hNw hS (g_at10 (Nat.le_of_ble_eq_true rfl) rfl) rfl) rfl rfl hl.1 rfl (lv_room (Nat.le_of_ble_eq_true rfl)) dX10_explain_17 ⟨Nat.zero_le _, Nat.zero_le _⟩) (fun r_3 w_3 => ?_)
    try dsimp only at w_3
    refine lv_istore_n (lv' := [(3, .int r_3), (0, .ref (ad 0)), (1, .int a), (2, .int b)]) hx hb dX10_explain_20 rfl hl (by decide) rfl (fun ls hl => ?_)
    refine lv_iload_n hx hb dX10_explain_21 rfl (lv_at hl 0 rfl) ?_
    refine lv_if_eq (tgt := 29) hx hb dX10_explain_22 (by decide) (fun c_4 => ?_) (fun c_4 => ?_)
    · skip
      have q_4 : r_3.toInt = (0 : Int) := i_eq2 (rfl : r_3.toInt = r_3.toInt) (show (0 : Int32).toInt = (0 : Int) from rfl) c_4
      refine lv_aload_n hx hb dX10_explain_29 rfl (lv_at hl 1 rfl) ?_
      refine va_get (D := D) (ci := 10) (v := .ref (ad 90)) (C := RX10) (T := TX10) (N := 6) hx hb hts inX10 hown hK hP 0 (g_at10 (Nat.le_of_ble_eq_true rfl) rfl) rfl 5 (by decide) lk0 (fun _ h9 => h9) rfl dX10_explain_30 ?_
      refine lv_iload_n hx hb dX10_explain_33 rfl (lv_at hl 2 rfl) ?_
      refine lv_iload_n hx hb dX10_explain_34 rfl (lv_at hl 3 rfl) ?_
      refine g_calli (va_runV (As := [.int a, .int b]) (rest := []) ⟨hx, hb, hml, hown, hts⟩ (c_X6_hinderer l D cy ad hI _ iv ar a b) (cwV 2 hts gX10_explain_X6_hinderer rfl rfl rfl (by decide +kernel) ⟨Nat.le_of_ble_eq_true rfl, Nat.le_of_ble_eq_true rfl⟩) (g_preV hP hK hSt hNw hS (g_at6 (Nat.le_of_ble_eq_true rfl) rfl) rfl) rfl rfl hl.1 rfl (lv_room (Nat.le_of_ble_eq_true rfl)) dX10_explain_35 ⟨Nat.zero_le _, Nat.zero_le _⟩) hS (fun r_5 iv_5 ar_5 H locs w_5 hP hS => ?_)
      try dsimp only at w_5
      have wi_5 := (w_5).symm
      subst wi_5
      rw [hQ]
      exact W.iret (v := r_5) hx hb hr (fun t ht hW => ⟨⟨r_5, (iv, ar_5), rfl, fk0, by show va_P _ _ _ _; rw [ht]; exact hP⟩, hS.F ht⟩) hS.2.2 dX10_explain_38
    · skip
      have q_4 : r_3.toInt ≠ (0 : Int) := i_ne2 (rfl : r_3.toInt = r_3.toInt) (show (0 : Int32).toInt = (0 : Int) from rfl) c_4
      refine lv_iload_n hx hb dX10_explain_25 rfl (lv_at hl 0 rfl) ?_
      refine lv_goto (tgt := 38) hx hb dX10_explain_26 (by decide) ?_
      rw [hQ]
      exact W.iret (v := r_3) hx hb hr (fun t ht hW => ⟨⟨r_3, (iv, ar), rfl, fk0, by show va_P _ _ _ _; rw [ht]; exact hP⟩, hS.F ht⟩) hS.2.2 dX10_explain_38
  · skip
    have q_1 : (0 : Int) ≤ b.toInt := i_nlt2 (rfl : b.toInt = b.toInt) (show (0 : Int32).toInt = (0 : Int) from rfl) c_1
    refine lv_iload_n hx hb dX10_explain_6 rfl (lv_at hl 2 rfl) ?_
    refine lv_bipush (v := 60) hx hb dX10_explain_7 (by decide) ?_
    refine lv_icmp_ge (tgt := 16) hx hb dX10_explain_9 (by decide) (fun c_6 => ?_) (fun c_6 => ?_)
    · skip
      have q_6 : (60 : Int) ≤ b.toInt := i_le2 (show (60 : Int32).toInt = (60 : Int) from rfl) (rfl : b.toInt = b.toInt) c_6
      refine lv_iconst (v := 0) hx hb dX10_explain_16 (by decide) ?_
      have zl_7 : (0 : Int32).toInt = (0 : Int) := rfl
      refine g_callSi (va_runV (As := [.int a, .int 0]) (rest := []) ⟨hx, hb, hml, hown, hts⟩ (c_X10_planError l D cy ad hI _ iv ar a 0) (cwV 2 hts gX10_explain_X10_planError rfl rfl rfl (by decide +kernel) ⟨Nat.le_of_ble_eq_true rfl, Nat.le_of_ble_eq_true rfl⟩) (g_preV hP hK hSt hNw hS (g_at10 (Nat.le_of_ble_eq_true rfl) rfl) rfl) rfl rfl hl.1 rfl (lv_room (Nat.le_of_ble_eq_true rfl)) dX10_explain_17 ⟨Nat.zero_le _, Nat.zero_le _⟩) (fun r_8 w_8 => ?_)
      try dsimp only at w_8
      refine lv_istore_n (lv' := [(3, .int r_8), (0, .ref (ad 0)), (1, .int a), (2, .int b)]) hx hb dX10_explain_20 rfl hl (by decide) rfl (fun ls hl => ?_)
      refine lv_iload_n hx hb dX10_explain_21 rfl (lv_at hl 0 rfl) ?_
      refine lv_if_eq (tgt := 29) hx hb dX10_explain_22 (by decide) (fun c_9 => ?_) (fun c_9 => ?_)
      · skip
        have q_9 : r_8.toInt = (0 : Int) := i_eq2 (rfl : r_8.toInt = r_8.toInt) (show (0 : Int32).toInt = (0 : Int) from rfl) c_9
        refine lv_aload_n hx hb dX10_explain_29 rfl (lv_at hl 1 rfl) ?_
        refine va_get (D := D) (ci := 10) (v := .ref (ad 90)) (C := RX10) (T := TX10) (N := 6) hx hb hts inX10 hown hK hP 0 (g_at10 (Nat.le_of_ble_eq_true rfl) rfl) rfl 5 (by decide) lk0 (fun _ h9 => h9) rfl dX10_explain_30 ?_
        refine lv_iload_n hx hb dX10_explain_33 rfl (lv_at hl 2 rfl) ?_
        refine lv_iload_n hx hb dX10_explain_34 rfl (lv_at hl 3 rfl) ?_
        refine g_calli (va_runV (As := [.int a, .int b]) (rest := []) ⟨hx, hb, hml, hown, hts⟩ (c_X6_hinderer l D cy ad hI _ iv ar a b) (cwV 2 hts gX10_explain_X6_hinderer rfl rfl rfl (by decide +kernel) ⟨Nat.le_of_ble_eq_true rfl, Nat.le_of_ble_eq_true rfl⟩) (g_preV hP hK hSt hNw hS (g_at6 (Nat.le_of_ble_eq_true rfl) rfl) rfl) rfl rfl hl.1 rfl (lv_room (Nat.le_of_ble_eq_true rfl)) dX10_explain_35 ⟨Nat.zero_le _, Nat.zero_le _⟩) hS (fun r_10 iv_10 ar_10 H locs w_10 hP hS => ?_)
        try dsimp only at w_10
        have wi_10 := (w_10).symm
        subst wi_10
        rw [hQ]
        exact W.iret (v := r_10) hx hb hr (fun t ht hW => ⟨⟨r_10, (iv, ar_10), rfl, fk0, by show va_P _ _ _ _; rw [ht]; exact hP⟩, hS.F ht⟩) hS.2.2 dX10_explain_38
      · skip
        have q_9 : r_8.toInt ≠ (0 : Int) := i_ne2 (rfl : r_8.toInt = r_8.toInt) (show (0 : Int32).toInt = (0 : Int) from rfl) c_9
        refine lv_iload_n hx hb dX10_explain_25 rfl (lv_at hl 0 rfl) ?_
        refine lv_goto (tgt := 38) hx hb dX10_explain_26 (by decide) ?_
        rw [hQ]
        exact W.iret (v := r_8) hx hb hr (fun t ht hW => ⟨⟨r_8, (iv, ar), rfl, fk0, by show va_P _ _ _ _; rw [ht]; exact hP⟩, hS.F ht⟩) hS.2.2 dX10_explain_38
    · skip
      have q_6 : b.toInt < (60 : Int) := i_nle2 (show (60 : Int32).toInt = (60 : Int) from rfl) (rfl : b.toInt = b.toInt) c_6
      refine lv_iconst (v := 1) hx hb dX10_explain_12 (by decide) ?_
      refine lv_goto (tgt := 17) hx hb dX10_explain_13 (by decide) ?_
      have zl_11 : (1 : Int32).toInt = (1 : Int) := rfl
      refine g_callSi (va_runV (As := [.int a, .int 1]) (rest := []) ⟨hx, hb, hml, hown, hts⟩ (c_X10_planError l D cy ad hI _ iv ar a 1) (cwV 2 hts gX10_explain_X10_planError rfl rfl rfl (by decide +kernel) ⟨Nat.le_of_ble_eq_true rfl, Nat.le_of_ble_eq_true rfl⟩) (g_preV hP hK hSt hNw hS (g_at10 (Nat.le_of_ble_eq_true rfl) rfl) rfl) rfl rfl hl.1 rfl (lv_room (Nat.le_of_ble_eq_true rfl)) dX10_explain_17 ⟨Nat.zero_le _, Nat.zero_le _⟩) (fun r_12 w_12 => ?_)
      try dsimp only at w_12
      refine lv_istore_n (lv' := [(3, .int r_12), (0, .ref (ad 0)), (1, .int a), (2, .int b)]) hx hb dX10_explain_20 rfl hl (by decide) rfl (fun ls hl => ?_)
      refine lv_iload_n hx hb dX10_explain_21 rfl (lv_at hl 0 rfl) ?_
      refine lv_if_eq (tgt := 29) hx hb dX10_explain_22 (by decide) (fun c_13 => ?_) (fun c_13 => ?_)
      · skip
        have q_13 : r_12.toInt = (0 : Int) := i_eq2 (rfl : r_12.toInt = r_12.toInt) (show (0 : Int32).toInt = (0 : Int) from rfl) c_13
        refine lv_aload_n hx hb dX10_explain_29 rfl (lv_at hl 1 rfl) ?_
        refine va_get (D := D) (ci := 10) (v := .ref (ad 90)) (C := RX10) (T := TX10) (N := 6) hx hb hts inX10 hown hK hP 0 (g_at10 (Nat.le_of_ble_eq_true rfl) rfl) rfl 5 (by decide) lk0 (fun _ h9 => h9) rfl dX10_explain_30 ?_
        refine lv_iload_n hx hb dX10_explain_33 rfl (lv_at hl 2 rfl) ?_
        refine lv_iload_n hx hb dX10_explain_34 rfl (lv_at hl 3 rfl) ?_
        refine g_calli (va_runV (As := [.int a, .int b]) (rest := []) ⟨hx, hb, hml, hown, hts⟩ (c_X6_hinderer l D cy ad hI _ iv ar a b) (cwV 2 hts gX10_explain_X6_hinderer rfl rfl rfl (by decide +kernel) ⟨Nat.le_of_ble_eq_true rfl, Nat.le_of_ble_eq_true rfl⟩) (g_preV hP hK hSt hNw hS (g_at6 (Nat.le_of_ble_eq_true rfl) rfl) rfl) rfl rfl hl.1 rfl (lv_room (Nat.le_of_ble_eq_true rfl)) dX10_explain_35 ⟨Nat.zero_le _, Nat.zero_le _⟩) hS (fun r_14 iv_14 ar_14 H locs w_14 hP hS => ?_)
        try dsimp only at w_14
        have wi_14 := (w_14).symm
        subst wi_14
        rw [hQ]
        exact W.iret (v := r_14) hx hb hr (fun t ht hW => ⟨⟨r_14, (iv, ar_14), rfl, fk0, by show va_P _ _ _ _; rw [ht]; exact hP⟩, hS.F ht⟩) hS.2.2 dX10_explain_38
      · skip
        have q_13 : r_12.toInt ≠ (0 : Int) := i_ne2 (rfl : r_12.toInt = r_12.toInt) (show (0 : Int32).toInt = (0 : Int) from rfl) c_13
        refine lv_iload_n hx hb dX10_explain_25 rfl (lv_at hl 0 rfl) ?_
        refine lv_goto (tgt := 38) hx hb dX10_explain_26 (by decide) ?_
        rw [hQ]
        exact W.iret (v := r_12) hx hb hr (fun t ht hW => ⟨⟨r_12, (iv, ar), rfl, fk0, by show va_P _ _ _ _; rw [ht]; exact hP⟩, hS.F ht⟩) hS.2.2 dX10_explain_38
set_option maxHeartbeats 4000000 in
set_option maxRecDepth 100000 in
theorem c_X10_conflictsWithout (l : Launch) (D : va_G) (cy : Nat → ClassId) (ad : Nat → Nat) (hI : gInj ad) (sz : Nat) (iv : gIv) (ar : gAr)  (hz : SZ iv) : Met l yX10_conflictsWithout wsX10_conflictsWithout ({ frames := 6, cells := 0, slots := 0, locals := 141 } : Room) (va_Pc [.ref (ad 0)] (gPre D cy ad sz iv ar)) (va_Qi (fun (r : Int32) (u : gIv × gAr) => KP iv u.1) (gPost D cy ad) (gA ad sz)) 0 0 (gA ad sz) := by
  refine Met.ofW (cc := cX10_conflictsWithout) (maxL := 1) (ret := (some .int)) (by decide) rfl ?_
  intro p e s m args below meth c s₁ B hml hv
  obtain ⟨rfl, rfl, hP, hK, hSt, hNw⟩ := hv
  have hx := B.exec
  have hb := B.bytes
  have hr := B.returns
  have hts := atoms_spec (ws := wsX10_conflictsWithout) B.pre
  have hown : s.vm.findClass RX10 = some m.cls := findClass_of_methodNamed B.named
  have hlocks := B.notSynchronized
  have hS : va_S (gA ad s.heap.size) s.heap s.heap [] := va_S.rf
  have inX10 : ∀ w ∈ u_ws RX10 TX10 6, w ∈ wsX10_conflictsWithout := by decide +kernel
  have inX6 : ∀ w ∈ u_ws RX6 TX6 11, w ∈ wsX10_conflictsWithout := by decide +kernel
  have lk0 := hts (.fieldLink RX10 56 "FormationPlanner" "plan" "LFormationPlanner$Plan;") (by decide +kernel)
  have lk1 := hts (.fieldLink RX10 195 "FormationPlanner$Plan" "stands" "Z") (by decide +kernel)
  have hl := lv_entry ([.ref (ad 0)]) (n := 1) (Nat.le_of_ble_eq_true rfl)
  rw [lg_entry_eq]
  generalize (lg_sl ([.ref (ad 0)]) ++ List.replicate (1 - (lg_sl ([.ref (ad 0)])).length) Slot.unset).toArray = ls at hl ⊢
  have hl : lv_has ls 1 [(0, .ref (ad 0))] := hl
  obtain ⟨Q, hQ⟩ : ∃ Q, Q = MQ below (va_Qi (fun (r : Int32) (u : gIv × gAr) => KP iv u.1) (gPost D cy ad) (gA ad s.heap.size)) (([.ref (ad 0)] : List Value).toArray) s 0 0 (gA ad s.heap.size) := ⟨_, rfl⟩
  rw [← hQ]
  have fk0 : KP iv iv := KP.rf hz
  refine lv_aload_n hx hb dX10_conflictsWithout_0 rfl (lv_at hl 0 rfl) ?_
  refine va_get (D := D) (ci := 10) (v := .ref (ad 90)) (C := RX10) (T := TX10) (N := 6) hx hb hts inX10 hown hK hP 0 (g_at10 (Nat.le_of_ble_eq_true rfl) rfl) rfl 5 (by decide) lk0 (fun _ h9 => h9) rfl dX10_conflictsWithout_1 ?_
  refine va_get (D := D) (ci := 6) (v := .int (iv 90 7)) (C := RX6) (T := TX6) (N := 11) hx hb hts inX6 hown hK hP 90 (g_at6 (Nat.le_of_ble_eq_true rfl) rfl) rfl 7 (by decide) lk1 (fun _ h9 => h9) rfl dX10_conflictsWithout_4 ?_
  refine lv_if_eq (tgt := 20) hx hb dX10_conflictsWithout_7 (by decide) (fun c_1 => ?_) (fun c_1 => ?_)
  · skip
    have q_1 : (iv 90 7).toInt = (0 : Int) := i_eq2 (rfl : (iv 90 7).toInt = (iv 90 7).toInt) (show (0 : Int32).toInt = (0 : Int) from rfl) c_1
    refine lv_bipush (v := (-7)) hx hb dX10_conflictsWithout_20 (by decide) ?_
    rw [hQ]
    exact W.iret (v := (-7)) hx hb hr (fun t ht hW => ⟨⟨(-7), (iv, ar), rfl, fk0, by show va_P _ _ _ _; rw [ht]; exact hP⟩, hS.F ht⟩) hS.2.2 dX10_conflictsWithout_22
  · skip
    have q_1 : (iv 90 7).toInt ≠ (0 : Int) := i_ne2 (rfl : (iv 90 7).toInt = (iv 90 7).toInt) (show (0 : Int32).toInt = (0 : Int) from rfl) c_1
    refine lv_aload_n hx hb dX10_conflictsWithout_10 rfl (lv_at hl 0 rfl) ?_
    refine va_get (D := D) (ci := 10) (v := .ref (ad 90)) (C := RX10) (T := TX10) (N := 6) hx hb hts inX10 hown hK hP 0 (g_at10 (Nat.le_of_ble_eq_true rfl) rfl) rfl 5 (by decide) lk0 (fun _ h9 => h9) rfl dX10_conflictsWithout_11 ?_
    refine g_calli (va_runV (As := []) (rest := []) ⟨hx, hb, hml, hown, hts⟩ (c_X6_pairsInConflict l D cy ad hI _ iv ar) (cwV 0 hts gX10_conflictsWithout_X6_pairsInConflict rfl rfl rfl (by decide +kernel) ⟨Nat.le_of_ble_eq_true rfl, Nat.le_of_ble_eq_true rfl⟩) (g_preV hP hK hSt hNw hS (g_at6 (Nat.le_of_ble_eq_true rfl) rfl) rfl) rfl rfl hl.1 rfl (lv_room (Nat.le_of_ble_eq_true rfl)) dX10_conflictsWithout_14 ⟨Nat.zero_le _, Nat.zero_le _⟩) hS (fun r_2 iv_2 ar_2 H locs w_2 hP hS => ?_)
    try dsimp only at w_2
    have fk_2 : KP iv iv_2 := fk0.fk (w_2)
    refine lv_goto (tgt := 22) hx hb dX10_conflictsWithout_17 (by decide) ?_
    rw [hQ]
    exact W.iret (v := r_2) hx hb hr (fun t ht hW => ⟨⟨r_2, (iv_2, ar_2), rfl, fk_2, by show va_P _ _ _ _; rw [ht]; exact hP⟩, hS.F ht⟩) hS.2.2 dX10_conflictsWithout_22
set_option maxHeartbeats 4000000 in
set_option maxRecDepth 100000 in
theorem c_X10_fly (l : Launch) (D : va_G) (cy : Nat → ClassId) (ad : Nat → Nat) (hI : gInj ad) (sz : Nat) (iv : gIv) (ar : gAr) (a : Int32) (hz : SZ iv) : Met l yX10_fly wsX10_fly ({ frames := 4, cells := 0, slots := 0, locals := 103 } : Room) (va_Pc [.ref (ad 0), .int a] (gPre D cy ad sz iv ar)) (va_Qi (fun (r : Int32) (u : gIv × gAr) => KP iv u.1) (gPost D cy ad) (gA ad sz)) 0 0 (gA ad sz) := by
  refine Met.ofW (cc := cX10_fly) (maxL := 2) (ret := (some .int)) (by decide) rfl ?_
  intro p e s m args below meth c s₁ B hml hv
  obtain ⟨rfl, rfl, hP, hK, hSt, hNw⟩ := hv
  have hx := B.exec
  have hb := B.bytes
  have hr := B.returns
  have hts := atoms_spec (ws := wsX10_fly) B.pre
  have hown : s.vm.findClass RX10 = some m.cls := findClass_of_methodNamed B.named
  have hlocks := B.notSynchronized
  have hS : va_S (gA ad s.heap.size) s.heap s.heap [] := va_S.rf
  have inX10 : ∀ w ∈ u_ws RX10 TX10 6, w ∈ wsX10_fly := by decide +kernel
  have inX6 : ∀ w ∈ u_ws RX6 TX6 11, w ∈ wsX10_fly := by decide +kernel
  have inX8 : ∀ w ∈ u_ws RX8 TX8 5, w ∈ wsX10_fly := by decide +kernel
  have lk0 := hts (.fieldLink RX10 56 "FormationPlanner" "plan" "LFormationPlanner$Plan;") (by decide +kernel)
  have lk1 := hts (.fieldLink RX10 195 "FormationPlanner$Plan" "stands" "Z") (by decide +kernel)
  have lk2 := hts (.fieldLink RX10 19 "FormationPlanner" "history" "LFormationPlanner$History;") (by decide +kernel)
  have lk3 := hts (.fieldLink RX10 12 "FormationPlanner" "scene" "LFormationPlanner$Scene;") (by decide +kernel)
  have lk4 := hts (.fieldLink RX10 204 "FormationPlanner$Scene" "flown" "I") (by decide +kernel)
  have hl := lv_entry ([.ref (ad 0), .int a]) (n := 2) (Nat.le_of_ble_eq_true rfl)
  rw [lg_entry_eq]
  generalize (lg_sl ([.ref (ad 0), .int a]) ++ List.replicate (2 - (lg_sl ([.ref (ad 0), .int a])).length) Slot.unset).toArray = ls at hl ⊢
  have hl : lv_has ls 2 [(0, .ref (ad 0)), (1, .int a)] := hl
  obtain ⟨Q, hQ⟩ : ∃ Q, Q = MQ below (va_Qi (fun (r : Int32) (u : gIv × gAr) => KP iv u.1) (gPost D cy ad) (gA ad s.heap.size)) (([.ref (ad 0), .int a] : List Value).toArray) s 0 0 (gA ad s.heap.size) := ⟨_, rfl⟩
  rw [← hQ]
  have fk0 : KP iv iv := KP.rf hz
  refine lv_iload_n hx hb dX10_fly_0 rfl (lv_at hl 1 rfl) ?_
  refine lv_iconst (v := 1) hx hb dX10_fly_1 (by decide) ?_
  refine lv_icmp_lt (tgt := 11) hx hb dX10_fly_2 (by decide) (fun c_1 => ?_) (fun c_1 => ?_)
  · skip
    have q_1 : a.toInt < (1 : Int) := i_lt2 (rfl : a.toInt = a.toInt) (show (1 : Int32).toInt = (1 : Int) from rfl) c_1
    refine lv_bipush (v := (-2)) hx hb dX10_fly_11 (by decide) ?_
    rw [hQ]
    exact W.iret (v := (-2)) hx hb hr (fun t ht hW => ⟨⟨(-2), (iv, ar), rfl, fk0, by show va_P _ _ _ _; rw [ht]; exact hP⟩, hS.F ht⟩) hS.2.2 dX10_fly_13
  · skip
    have q_1 : (1 : Int) ≤ a.toInt := i_nlt2 (rfl : a.toInt = a.toInt) (show (1 : Int32).toInt = (1 : Int) from rfl) c_1
    refine lv_iload_n hx hb dX10_fly_5 rfl (lv_at hl 1 rfl) ?_
    refine lv_bipush (v := 60) hx hb dX10_fly_6 (by decide) ?_
    refine lv_icmp_le (tgt := 14) hx hb dX10_fly_8 (by decide) (fun c_2 => ?_) (fun c_2 => ?_)
    · skip
      have q_2 : a.toInt ≤ (60 : Int) := i_le2 (rfl : a.toInt = a.toInt) (show (60 : Int32).toInt = (60 : Int) from rfl) c_2
      refine lv_aload_n hx hb dX10_fly_14 rfl (lv_at hl 0 rfl) ?_
      refine va_get (D := D) (ci := 10) (v := .ref (ad 90)) (C := RX10) (T := TX10) (N := 6) hx hb hts inX10 hown hK hP 0 (g_at10 (Nat.le_of_ble_eq_true rfl) rfl) rfl 5 (by decide) lk0 (fun _ h9 => h9) rfl dX10_fly_15 ?_
      refine va_get (D := D) (ci := 6) (v := .int (iv 90 7)) (C := RX6) (T := TX6) (N := 11) hx hb hts inX6 hown hK hP 90 (g_at6 (Nat.le_of_ble_eq_true rfl) rfl) rfl 7 (by decide) lk1 (fun _ h9 => h9) rfl dX10_fly_18 ?_
      refine lv_if_ne (tgt := 27) hx hb dX10_fly_21 (by decide) (fun c_3 => ?_) (fun c_3 => ?_)
      · skip
        have q_3 : (iv 90 7).toInt ≠ (0 : Int) := i_ne2 (rfl : (iv 90 7).toInt = (iv 90 7).toInt) (show (0 : Int32).toInt = (0 : Int) from rfl) c_3
        refine lv_aload_n hx hb dX10_fly_27 rfl (lv_at hl 0 rfl) ?_
        refine va_get (D := D) (ci := 10) (v := .ref (ad 8)) (C := RX10) (T := TX10) (N := 6) hx hb hts inX10 hown hK hP 0 (g_at10 (Nat.le_of_ble_eq_true rfl) rfl) rfl 1 (by decide) lk2 (fun _ h9 => h9) rfl dX10_fly_28 ?_
        refine lv_aload_n hx hb dX10_fly_31 rfl (lv_at hl 0 rfl) ?_
        refine va_get (D := D) (ci := 10) (v := .ref (ad 1)) (C := RX10) (T := TX10) (N := 6) hx hb hts inX10 hown hK hP 0 (g_at10 (Nat.le_of_ble_eq_true rfl) rfl) rfl 0 (by decide) lk3 (fun _ h9 => h9) rfl dX10_fly_32 ?_
        refine g_callv (va_runV (As := [.ref (ad 1)]) (rest := []) ⟨hx, hb, hml, hown, hts⟩ (c_X3_keep l D cy ad hI _ iv ar fk0.1) (cwV 1 hts gX10_fly_X3_keep rfl rfl rfl (by decide +kernel) ⟨Nat.le_of_ble_eq_true rfl, Nat.le_of_ble_eq_true rfl⟩) (g_preV hP hK hSt hNw hS (g_at3 (Nat.le_of_ble_eq_true rfl) rfl) rfl) rfl rfl hl.1 rfl (lv_room (Nat.le_of_ble_eq_true rfl)) dX10_fly_35 ⟨Nat.zero_le _, Nat.zero_le _⟩) hS (fun iv_4 ar_4 H locs w_4 hP hS => ?_)
        try dsimp only at w_4
        have fk_4 : KP iv iv_4 := ⟨w_4.2.2, (w_4.1 66 2 (by omega)).trans fk0.2⟩
        refine lv_aload_n hx hb dX10_fly_38 rfl (lv_at hl 0 rfl) ?_
        refine va_get (D := D) (ci := 10) (v := .ref (ad 1)) (C := RX10) (T := TX10) (N := 6) hx hb hts inX10 hown hK hP 0 (g_at10 (Nat.le_of_ble_eq_true rfl) rfl) rfl 0 (by decide) lk3 (fun _ h9 => h9) rfl dX10_fly_39 ?_
        refine lv_dup hx hb dX10_fly_42 rfl ?_
        refine va_get (D := D) (ci := 8) (v := .int (iv_4 1 4)) (C := RX8) (T := TX8) (N := 5) hx hb hts inX8 hown hK hP 1 (g_at8 (Nat.le_of_ble_eq_true rfl) rfl) rfl 4 (by decide) lk4 (fun _ h9 => h9) rfl dX10_fly_43 ?_
        have f_5 : iv_4 1 4 = iv 1 4 := by rw [w_4.1 1 4 (by omega)]
        refine lv_iload_n hx hb dX10_fly_46 rfl (lv_at hl 1 rfl) ?_
        refine lv_iadd hx hb dX10_fly_47 ?_
        refine lv_topi (fun v_6 ev_6 => ?_)
        refine va_put (D := D) (ci := 8) (v := .int v_6) (ty := .int) (C := RX8) (T := TX8) (N := 5) hx hb hts inX8 tyX8 tyX8_ok nmX8 hown hK hP (gD hI) hS 1 (g_at8 (Nat.le_of_ble_eq_true rfl) rfl) rfl 4 (by decide) lk4 (fun _ h9 => h9) rfl (by decide +kernel) rfl rfl (Nat.le_of_ble_eq_true rfl) dX10_fly_48 (fun H locs hP _ hS => ?_)
        have hP : va_P D vwCl (GW cy ad (u2 iv_4 1 4 v_6) ar_4) H := by rw [← g_pt8_4 (Nat.le_of_ble_eq_true rfl) rfl]; exact hP
        obtain ⟨iv_7, eiv_7⟩ : ∃ z : gIv, z = u2 iv_4 1 4 v_6 := ⟨_, rfl⟩
        rw [← eiv_7] at hP
        have fk_7 : KP iv iv_7 := by rw [eiv_7]; exact fk_4.up (by decide) (by omega)
        refine lv_aload_n hx hb dX10_fly_51 rfl (lv_at hl 0 rfl) ?_
        refine va_get (D := D) (ci := 10) (v := .ref (ad 90)) (C := RX10) (T := TX10) (N := 6) hx hb hts inX10 hown hK hP 0 (g_at10 (Nat.le_of_ble_eq_true rfl) rfl) rfl 5 (by decide) lk0 (fun _ h9 => h9) rfl dX10_fly_52 ?_
        refine lv_iload_n hx hb dX10_fly_55 rfl (lv_at hl 1 rfl) ?_
        refine g_calli (va_runV (As := [.int a]) (rest := []) ⟨hx, hb, hml, hown, hts⟩ (c_X6_advance l D cy ad hI _ iv_7 ar_4 a) (cwV 1 hts gX10_fly_X6_advance rfl rfl rfl (by decide +kernel) ⟨Nat.le_of_ble_eq_true rfl, Nat.le_of_ble_eq_true rfl⟩) (g_preV hP hK hSt hNw hS (g_at6 (Nat.le_of_ble_eq_true rfl) rfl) rfl) rfl rfl hl.1 rfl (lv_room (Nat.le_of_ble_eq_true rfl)) dX10_fly_56 ⟨Nat.zero_le _, Nat.zero_le _⟩) hS (fun r_8 iv_8 ar_8 H locs w_8 hP hS => ?_)
        try dsimp only at w_8
        have fk_8 : KP iv iv_8 := fk_7.fk (w_8)
        rw [hQ]
        exact W.iret (v := r_8) hx hb hr (fun t ht hW => ⟨⟨r_8, (iv_8, ar_8), rfl, fk_8, by show va_P _ _ _ _; rw [ht]; exact hP⟩, hS.F ht⟩) hS.2.2 dX10_fly_59
      · skip
        have q_3 : (iv 90 7).toInt = (0 : Int) := i_eq2 (rfl : (iv 90 7).toInt = (iv 90 7).toInt) (show (0 : Int32).toInt = (0 : Int) from rfl) c_3
        refine lv_bipush (v := (-7)) hx hb dX10_fly_24 (by decide) ?_
        rw [hQ]
        exact W.iret (v := (-7)) hx hb hr (fun t ht hW => ⟨⟨(-7), (iv, ar), rfl, fk0, by show va_P _ _ _ _; rw [ht]; exact hP⟩, hS.F ht⟩) hS.2.2 dX10_fly_26
    · skip
      have q_2 : (60 : Int) < a.toInt := i_nle2 (rfl : a.toInt = a.toInt) (show (60 : Int32).toInt = (60 : Int) from rfl) c_2
      refine lv_bipush (v := (-2)) hx hb dX10_fly_11 (by decide) ?_
      rw [hQ]
      exact W.iret (v := (-2)) hx hb hr (fun t ht hW => ⟨⟨(-2), (iv, ar), rfl, fk0, by show va_P _ _ _ _; rw [ht]; exact hP⟩, hS.F ht⟩) hS.2.2 dX10_fly_13
set_option maxHeartbeats 4000000 in
set_option maxRecDepth 100000 in
theorem c_X10_greatestWith (l : Launch) (D : va_G) (cy : Nat → ClassId) (ad : Nat → Nat) (hI : gInj ad) (sz : Nat) (iv : gIv) (ar : gAr) (a : Int32) (b : Int32) (hz : SZ iv) : Met l yX10_greatestWith wsX10_greatestWith ({ frames := 5, cells := 0, slots := 0, locals := 115 } : Room) (va_Pc [.ref (ad 0), .int a, .int b] (gPre D cy ad sz iv ar)) (va_Qi (fun (r : Int32) (u : gIv × gAr) => KP iv u.1) (gPost D cy ad) (gA ad sz)) 0 0 (gA ad sz) := by
  refine Met.ofW (cc := cX10_greatestWith) (maxL := 5) (ret := (some .int)) (by decide) rfl ?_
  intro p e s m args below meth c s₁ B hml hv
  obtain ⟨rfl, rfl, hP, hK, hSt, hNw⟩ := hv
  have hx := B.exec
  have hb := B.bytes
  have hr := B.returns
  have hts := atoms_spec (ws := wsX10_greatestWith) B.pre
  have hown : s.vm.findClass RX10 = some m.cls := findClass_of_methodNamed B.named
  have hlocks := B.notSynchronized
  have hS : va_S (gA ad s.heap.size) s.heap s.heap [] := va_S.rf
  have inX0 : ∀ w ∈ u_ws RX0 TX0 9, w ∈ wsX10_greatestWith := by decide +kernel
  have inX10 : ∀ w ∈ u_ws RX10 TX10 6, w ∈ wsX10_greatestWith := by decide +kernel
  have inX8 : ∀ w ∈ u_ws RX8 TX8 5, w ∈ wsX10_greatestWith := by decide +kernel
  have lk0 := hts (.fieldLink RX10 12 "FormationPlanner" "scene" "LFormationPlanner$Scene;") (by decide +kernel)
  have lk1 := hts (.fieldLink RX10 70 "FormationPlanner$Scene" "winds" "[I") (by decide +kernel)
  have lk2 := hts (.fieldLink RX10 49 "FormationPlanner" "assigner" "LFormationPlanner$Assigner;") (by decide +kernel)
  have lk3 := hts (.fieldLink RX10 149 "FormationPlanner$Assigner" "greatest" "I") (by decide +kernel)
  have hl := lv_entry ([.ref (ad 0), .int a, .int b]) (n := 5) (Nat.le_of_ble_eq_true rfl)
  rw [lg_entry_eq]
  generalize (lg_sl ([.ref (ad 0), .int a, .int b]) ++ List.replicate (5 - (lg_sl ([.ref (ad 0), .int a, .int b])).length) Slot.unset).toArray = ls at hl ⊢
  have hl : lv_has ls 5 [(0, .ref (ad 0)), (1, .int a), (2, .int b)] := hl
  obtain ⟨Q, hQ⟩ : ∃ Q, Q = MQ below (va_Qi (fun (r : Int32) (u : gIv × gAr) => KP iv u.1) (gPost D cy ad) (gA ad s.heap.size)) (([.ref (ad 0), .int a, .int b] : List Value).toArray) s 0 0 (gA ad s.heap.size) := ⟨_, rfl⟩
  rw [← hQ]
  have fk0 : KP iv iv := KP.rf hz
  refine lv_iload_n hx hb dX10_greatestWith_0 rfl (lv_at hl 1 rfl) ?_
  refine g_callSi (va_runS (As := [.int a]) (rest := []) ⟨hx, hb, hml, hown, hts⟩ (c_X10_isLayer l a) (va_cwS 1 hts gX10_greatestWith_X10_isLayer rfl rfl rfl (by decide +kernel) ⟨Nat.le_of_ble_eq_true rfl, Nat.le_of_ble_eq_true rfl⟩) (g_preT) rfl rfl hl.1 rfl (lv_room (Nat.le_of_ble_eq_true rfl)) dX10_greatestWith_1 ⟨Nat.zero_le _, Nat.zero_le _⟩) (fun r_1 w_1 => ?_)
  try dsimp only at w_1
  refine lv_if_eq (tgt := 14) hx hb dX10_greatestWith_4 (by decide) (fun c_2 => ?_) (fun c_2 => ?_)
  · skip
    have q_2 : r_1.toInt = (0 : Int) := i_eq2 (rfl : r_1.toInt = r_1.toInt) (show (0 : Int32).toInt = (0 : Int) from rfl) c_2
    refine lv_bipush (v := (-2)) hx hb dX10_greatestWith_14 (by decide) ?_
    rw [hQ]
    exact W.iret (v := (-2)) hx hb hr (fun t ht hW => ⟨⟨(-2), (iv, ar), rfl, fk0, by show va_P _ _ _ _; rw [ht]; exact hP⟩, hS.F ht⟩) hS.2.2 dX10_greatestWith_16
  · skip
    have q_2 : r_1.toInt ≠ (0 : Int) := i_ne2 (rfl : r_1.toInt = r_1.toInt) (show (0 : Int32).toInt = (0 : Int) from rfl) c_2
    refine lv_iload_n hx hb dX10_greatestWith_7 rfl (lv_at hl 2 rfl) ?_
    refine g_callSi (va_runS (As := [.int b]) (rest := []) ⟨hx, hb, hml, hown, hts⟩ (c_X10_isWind l b) (va_cwS 1 hts gX10_greatestWith_X10_isWind rfl rfl rfl (by decide +kernel) ⟨Nat.le_of_ble_eq_true rfl, Nat.le_of_ble_eq_true rfl⟩) (g_preT) rfl rfl hl.1 rfl (lv_room (Nat.le_of_ble_eq_true rfl)) dX10_greatestWith_8 ⟨Nat.zero_le _, Nat.zero_le _⟩) (fun r_3 w_3 => ?_)
    try dsimp only at w_3
    refine lv_if_ne (tgt := 17) hx hb dX10_greatestWith_11 (by decide) (fun c_4 => ?_) (fun c_4 => ?_)
    · skip
      have q_4 : r_3.toInt ≠ (0 : Int) := i_ne2 (rfl : r_3.toInt = r_3.toInt) (show (0 : Int32).toInt = (0 : Int) from rfl) c_4
      refine lv_aload_n hx hb dX10_greatestWith_17 rfl (lv_at hl 0 rfl) ?_
      refine va_get (D := D) (ci := 10) (v := .ref (ad 1)) (C := RX10) (T := TX10) (N := 6) hx hb hts inX10 hown hK hP 0 (g_at10 (Nat.le_of_ble_eq_true rfl) rfl) rfl 0 (by decide) lk0 (fun _ h9 => h9) rfl dX10_greatestWith_18 ?_
      refine va_get (D := D) (ci := 8) (v := .ref (ad 2)) (C := RX8) (T := TX8) (N := 5) hx hb hts inX8 hown hK hP 1 (g_at8 (Nat.le_of_ble_eq_true rfl) rfl) rfl 0 (by decide) lk1 (fun _ h9 => h9) rfl dX10_greatestWith_21 ?_
      refine lv_iload_n hx hb dX10_greatestWith_24 rfl (lv_at hl 1 rfl) ?_
      refine va_iald hx hb hK hP 2 0 (g_at12 (Nat.le_of_ble_eq_true rfl) rfl) rfl (g_in (N := 3) (rfl : a.toInt = a.toInt) rfl (by omega) (by omega)) dX10_greatestWith_25 ?_
      refine lv_topi (fun v_5 ev_5 => ?_)
      refine lv_istore_n (lv' := [(3, .int v_5), (0, .ref (ad 0)), (1, .int a), (2, .int b)]) hx hb dX10_greatestWith_26 rfl hl (by decide) rfl (fun ls hl => ?_)
      refine lv_aload_n hx hb dX10_greatestWith_27 rfl (lv_at hl 1 rfl) ?_
      refine va_get (D := D) (ci := 10) (v := .ref (ad 1)) (C := RX10) (T := TX10) (N := 6) hx hb hts inX10 hown hK hP 0 (g_at10 (Nat.le_of_ble_eq_true rfl) rfl) rfl 0 (by decide) lk0 (fun _ h9 => h9) rfl dX10_greatestWith_28 ?_
      refine va_get (D := D) (ci := 8) (v := .ref (ad 2)) (C := RX8) (T := TX8) (N := 5) hx hb hts inX8 hown hK hP 1 (g_at8 (Nat.le_of_ble_eq_true rfl) rfl) rfl 0 (by decide) lk1 (fun _ h9 => h9) rfl dX10_greatestWith_31 ?_
      refine lv_iload_n hx hb dX10_greatestWith_34 rfl (lv_at hl 2 rfl) ?_
      refine lv_iload_n hx hb dX10_greatestWith_35 rfl (lv_at hl 3 rfl) ?_
      refine va_iast hx hb hK hP (gD hI) hS 2 0 (g_at12 (Nat.le_of_ble_eq_true rfl) rfl) rfl (g_in (N := 3) (rfl : a.toInt = a.toInt) rfl (by omega) (by omega)) dX10_greatestWith_36 (fun H locs hP _ hS => ?_)
      rw [g_pt12 (Nat.le_of_ble_eq_true rfl) rfl] at hP
      obtain ⟨ar_6, ear_6⟩ : ∃ z : gAr, z = va_up ar 2 (upd (ar 2) a.toNatClampNeg b) := ⟨_, rfl⟩
      rw [← ear_6] at hP
      refine lv_aload_n hx hb dX10_greatestWith_37 rfl (lv_at hl 1 rfl) ?_
      refine va_get (D := D) (ci := 10) (v := .ref (ad 74)) (C := RX10) (T := TX10) (N := 6) hx hb hts inX10 hown hK hP 0 (g_at10 (Nat.le_of_ble_eq_true rfl) rfl) rfl 4 (by decide) lk2 (fun _ h9 => h9) rfl dX10_greatestWith_38 ?_
      refine g_calli (va_runV (As := []) (rest := []) ⟨hx, hb, hml, hown, hts⟩ (c_X0_assign l D cy ad hI _ iv ar_6 (fk0.1 4 (by decide) (by decide)).1) (cwV 0 hts gX10_greatestWith_X0_assign rfl rfl rfl (by decide +kernel) ⟨Nat.le_of_ble_eq_true rfl, Nat.le_of_ble_eq_true rfl⟩) (g_preV hP hK hSt hNw hS (g_at0 (Nat.le_of_ble_eq_true rfl) rfl) rfl) rfl rfl hl.1 rfl (lv_room (Nat.le_of_ble_eq_true rfl)) dX10_greatestWith_41 ⟨Nat.zero_le _, Nat.zero_le _⟩) hS (fun r_7 iv_7 ar_7 H locs w_7 hP hS => ?_)
      try dsimp only at w_7
      have fk_7 : KP iv iv_7 := fk0.fk (w_7)
      refine lv_istore (lv' := [(4, .int r_7), (3, .int v_5), (0, .ref (ad 0)), (1, .int a), (2, .int b)]) hx hb dX10_greatestWith_44 hl (by decide) rfl (fun ls hl => ?_)
      refine lv_aload_n hx hb dX10_greatestWith_46 rfl (lv_at hl 2 rfl) ?_
      refine va_get (D := D) (ci := 10) (v := .ref (ad 1)) (C := RX10) (T := TX10) (N := 6) hx hb hts inX10 hown hK hP 0 (g_at10 (Nat.le_of_ble_eq_true rfl) rfl) rfl 0 (by decide) lk0 (fun _ h9 => h9) rfl dX10_greatestWith_47 ?_
      refine va_get (D := D) (ci := 8) (v := .ref (ad 2)) (C := RX8) (T := TX8) (N := 5) hx hb hts inX8 hown hK hP 1 (g_at8 (Nat.le_of_ble_eq_true rfl) rfl) rfl 0 (by decide) lk1 (fun _ h9 => h9) rfl dX10_greatestWith_50 ?_
      refine lv_iload_n hx hb dX10_greatestWith_53 rfl (lv_at hl 3 rfl) ?_
      refine lv_iload_n hx hb dX10_greatestWith_54 rfl (lv_at hl 1 rfl) ?_
      refine va_iast hx hb hK hP (gD hI) hS 2 0 (g_at12 (Nat.le_of_ble_eq_true rfl) rfl) rfl (g_in (N := 3) (rfl : a.toInt = a.toInt) rfl (by omega) (by omega)) dX10_greatestWith_55 (fun H locs hP _ hS => ?_)
      rw [g_pt12 (Nat.le_of_ble_eq_true rfl) rfl] at hP
      obtain ⟨ar_8, ear_8⟩ : ∃ z : gAr, z = va_up ar_7 2 (upd (ar_7 2) a.toNatClampNeg v_5) := ⟨_, rfl⟩
      rw [← ear_8] at hP
      refine lv_iload hx hb dX10_greatestWith_56 (lv_at hl 0 rfl) ?_
      refine lv_if_eq (tgt := 66) hx hb dX10_greatestWith_58 (by decide) (fun c_9 => ?_) (fun c_9 => ?_)
      · skip
        have q_9 : r_7.toInt = (0 : Int) := i_eq2 (rfl : r_7.toInt = r_7.toInt) (show (0 : Int32).toInt = (0 : Int) from rfl) c_9
        refine lv_aload_n hx hb dX10_greatestWith_66 rfl (lv_at hl 2 rfl) ?_
        refine va_get (D := D) (ci := 10) (v := .ref (ad 74)) (C := RX10) (T := TX10) (N := 6) hx hb hts inX10 hown hK hP 0 (g_at10 (Nat.le_of_ble_eq_true rfl) rfl) rfl 4 (by decide) lk2 (fun _ h9 => h9) rfl dX10_greatestWith_67 ?_
        refine va_get (D := D) (ci := 0) (v := .int (iv_7 74 7)) (C := RX0) (T := TX0) (N := 9) hx hb hts inX0 hown hK hP 74 (g_at0 (Nat.le_of_ble_eq_true rfl) rfl) rfl 7 (by decide) lk3 (fun _ h9 => h9) rfl dX10_greatestWith_70 ?_
        rw [hQ]
        exact W.iret (v := (iv_7 74 7)) hx hb hr (fun t ht hW => ⟨⟨(iv_7 74 7), (iv_7, ar_8), rfl, fk_7, by show va_P _ _ _ _; rw [ht]; exact hP⟩, hS.F ht⟩) hS.2.2 dX10_greatestWith_73
      · skip
        have q_9 : r_7.toInt ≠ (0 : Int) := i_ne2 (rfl : r_7.toInt = r_7.toInt) (show (0 : Int32).toInt = (0 : Int) from rfl) c_9
        refine lv_iload hx hb dX10_greatestWith_61 (lv_at hl 0 rfl) ?_
        refine lv_goto (tgt := 73) hx hb dX10_greatestWith_63 (by decide) ?_
        rw [hQ]
        exact W.iret (v := r_7) hx hb hr (fun t ht hW => ⟨⟨r_7, (iv_7, ar_8), rfl, fk_7, by show va_P _ _ _ _; rw [ht]; exact hP⟩, hS.F ht⟩) hS.2.2 dX10_greatestWith_73
    · skip
      have q_4 : r_3.toInt = (0 : Int) := i_eq2 (rfl : r_3.toInt = r_3.toInt) (show (0 : Int32).toInt = (0 : Int) from rfl) c_4
      refine lv_bipush (v := (-2)) hx hb dX10_greatestWith_14 (by decide) ?_
      rw [hQ]
      exact W.iret (v := (-2)) hx hb hr (fun t ht hW => ⟨⟨(-2), (iv, ar), rfl, fk0, by show va_P _ _ _ _; rw [ht]; exact hP⟩, hS.F ht⟩) hS.2.2 dX10_greatestWith_16
set_option maxHeartbeats 4000000 in
set_option maxRecDepth 100000 in
theorem c_X10_cellOf (l : Launch) (D : va_G) (cy : Nat → ClassId) (ad : Nat → Nat) (hI : gInj ad) (sz : Nat) (iv : gIv) (ar : gAr) (a : Int32) (b : Int32)  : Met l yX10_cellOf wsX10_cellOf ({ frames := 2, cells := 0, slots := 0, locals := 42 } : Room) (va_Pc [.ref (ad 0), .int a, .int b] (gPre D cy ad sz iv ar)) (vp_Si (fun r => True)) 0 0 (fun _ => False) := by
  refine Met.ofW (cc := cX10_cellOf) (maxL := 3) (ret := (some .int)) (by decide) rfl ?_
  intro p e s m args below meth c s₁ B hml hv
  obtain ⟨rfl, rfl, hP, hK, hSt, hNw⟩ := hv
  have hx := B.exec
  have hb := B.bytes
  have hr := B.returns
  have hts := atoms_spec (ws := wsX10_cellOf) B.pre
  have hown : s.vm.findClass RX10 = some m.cls := findClass_of_methodNamed B.named
  have hlocks := B.notSynchronized
  have hS : va_S (gA ad s.heap.size) s.heap s.heap [] := va_S.rf
  have inX10 : ∀ w ∈ u_ws RX10 TX10 6, w ∈ wsX10_cellOf := by decide +kernel
  have inX8 : ∀ w ∈ u_ws RX8 TX8 5, w ∈ wsX10_cellOf := by decide +kernel
  have lk0 := hts (.fieldLink RX10 12 "FormationPlanner" "scene" "LFormationPlanner$Scene;") (by decide +kernel)
  have lk1 := hts (.fieldLink RX10 87 "FormationPlanner$Scene" "slots" "LFormationPlanner$Places;") (by decide +kernel)
  have lk2 := hts (.fieldLink RX10 77 "FormationPlanner$Scene" "drones" "LFormationPlanner$Places;") (by decide +kernel)
  have hl := lv_entry ([.ref (ad 0), .int a, .int b]) (n := 3) (Nat.le_of_ble_eq_true rfl)
  rw [lg_entry_eq]
  generalize (lg_sl ([.ref (ad 0), .int a, .int b]) ++ List.replicate (3 - (lg_sl ([.ref (ad 0), .int a, .int b])).length) Slot.unset).toArray = ls at hl ⊢
  have hl : lv_has ls 3 [(0, .ref (ad 0)), (1, .int a), (2, .int b)] := hl
  obtain ⟨Q, hQ⟩ : ∃ Q, Q = MQ below (vp_Si (fun r => True)) (([.ref (ad 0), .int a, .int b] : List Value).toArray) s 0 0 (fun _ => False) := ⟨_, rfl⟩
  rw [← hQ]
  refine lv_iload_n hx hb dX10_cellOf_0 rfl (lv_at hl 1 rfl) ?_
  refine lv_if_lt (tgt := 9) hx hb dX10_cellOf_1 (by decide) (fun c_1 => ?_) (fun c_1 => ?_)
  · skip
    have q_1 : a.toInt < (0 : Int) := i_lt2 (rfl : a.toInt = a.toInt) (show (0 : Int32).toInt = (0 : Int) from rfl) c_1
    refine lv_bipush (v := (-2)) hx hb dX10_cellOf_9 (by decide) ?_
    rw [hQ]
    exact W.iret (v := (-2)) hx hb hr (fun t ht hW => ⟨(-2), rfl, trivial, ht⟩) (fun q h => by cases h) dX10_cellOf_11
  · skip
    have q_1 : (0 : Int) ≤ a.toInt := i_nlt2 (rfl : a.toInt = a.toInt) (show (0 : Int32).toInt = (0 : Int) from rfl) c_1
    refine lv_iload_n hx hb dX10_cellOf_4 rfl (lv_at hl 1 rfl) ?_
    refine lv_iconst (v := 1) hx hb dX10_cellOf_5 (by decide) ?_
    refine lv_icmp_le (tgt := 12) hx hb dX10_cellOf_6 (by decide) (fun c_2 => ?_) (fun c_2 => ?_)
    · skip
      have q_2 : a.toInt ≤ (1 : Int) := i_le2 (rfl : a.toInt = a.toInt) (show (1 : Int32).toInt = (1 : Int) from rfl) c_2
      refine lv_iload_n hx hb dX10_cellOf_12 rfl (lv_at hl 1 rfl) ?_
      refine lv_if_ne (tgt := 30) hx hb dX10_cellOf_13 (by decide) (fun c_3 => ?_) (fun c_3 => ?_)
      · skip
        have q_3 : a.toInt ≠ (0 : Int) := i_ne2 (rfl : a.toInt = a.toInt) (show (0 : Int32).toInt = (0 : Int) from rfl) c_3
        refine lv_aload_n hx hb dX10_cellOf_30 rfl (lv_at hl 0 rfl) ?_
        refine va_get (D := D) (ci := 10) (v := .ref (ad 1)) (C := RX10) (T := TX10) (N := 6) hx hb hts inX10 hown hK hP 0 (g_at10 (Nat.le_of_ble_eq_true rfl) rfl) rfl 0 (by decide) lk0 (fun _ h9 => h9) rfl dX10_cellOf_31 ?_
        refine va_get (D := D) (ci := 8) (v := .ref (ad 6)) (C := RX8) (T := TX8) (N := 5) hx hb hts inX8 hown hK hP 1 (g_at8 (Nat.le_of_ble_eq_true rfl) rfl) rfl 3 (by decide) lk1 (fun _ h9 => h9) rfl dX10_cellOf_34 ?_
        refine lv_iload_n hx hb dX10_cellOf_37 rfl (lv_at hl 2 rfl) ?_
        refine g_callSi (va_runV (As := [.int b]) (rest := []) ⟨hx, hb, hml, hown, hts⟩ (c_X5_cellAt l D cy ad hI _ iv ar 6 (Nat.le_of_ble_eq_true rfl) rfl b) (cwV 1 hts gX10_cellOf_X5_cellAt rfl rfl rfl (by decide +kernel) ⟨Nat.le_of_ble_eq_true rfl, Nat.le_of_ble_eq_true rfl⟩) (g_preV hP hK hSt hNw hS (g_at5 (Nat.le_of_ble_eq_true rfl) rfl) rfl) rfl rfl hl.1 rfl (lv_room (Nat.le_of_ble_eq_true rfl)) dX10_cellOf_38 ⟨Nat.zero_le _, Nat.zero_le _⟩) (fun r_4 w_4 => ?_)
        try dsimp only at w_4
        rw [hQ]
        exact W.iret (v := r_4) hx hb hr (fun t ht hW => ⟨r_4, rfl, trivial, ht⟩) (fun q h => by cases h) dX10_cellOf_41
      · skip
        have q_3 : a.toInt = (0 : Int) := i_eq2 (rfl : a.toInt = a.toInt) (show (0 : Int32).toInt = (0 : Int) from rfl) c_3
        refine lv_aload_n hx hb dX10_cellOf_16 rfl (lv_at hl 0 rfl) ?_
        refine va_get (D := D) (ci := 10) (v := .ref (ad 1)) (C := RX10) (T := TX10) (N := 6) hx hb hts inX10 hown hK hP 0 (g_at10 (Nat.le_of_ble_eq_true rfl) rfl) rfl 0 (by decide) lk0 (fun _ h9 => h9) rfl dX10_cellOf_17 ?_
        refine va_get (D := D) (ci := 8) (v := .ref (ad 4)) (C := RX8) (T := TX8) (N := 5) hx hb hts inX8 hown hK hP 1 (g_at8 (Nat.le_of_ble_eq_true rfl) rfl) rfl 2 (by decide) lk2 (fun _ h9 => h9) rfl dX10_cellOf_20 ?_
        refine lv_iload_n hx hb dX10_cellOf_23 rfl (lv_at hl 2 rfl) ?_
        refine g_callSi (va_runV (As := [.int b]) (rest := []) ⟨hx, hb, hml, hown, hts⟩ (c_X5_cellAt l D cy ad hI _ iv ar 4 (Nat.le_of_ble_eq_true rfl) rfl b) (cwV 1 hts gX10_cellOf_X5_cellAt rfl rfl rfl (by decide +kernel) ⟨Nat.le_of_ble_eq_true rfl, Nat.le_of_ble_eq_true rfl⟩) (g_preV hP hK hSt hNw hS (g_at5 (Nat.le_of_ble_eq_true rfl) rfl) rfl) rfl rfl hl.1 rfl (lv_room (Nat.le_of_ble_eq_true rfl)) dX10_cellOf_24 ⟨Nat.zero_le _, Nat.zero_le _⟩) (fun r_5 w_5 => ?_)
        try dsimp only at w_5
        refine lv_goto (tgt := 41) hx hb dX10_cellOf_27 (by decide) ?_
        rw [hQ]
        exact W.iret (v := r_5) hx hb hr (fun t ht hW => ⟨r_5, rfl, trivial, ht⟩) (fun q h => by cases h) dX10_cellOf_41
    · skip
      have q_2 : (1 : Int) < a.toInt := i_nle2 (rfl : a.toInt = a.toInt) (show (1 : Int32).toInt = (1 : Int) from rfl) c_2
      refine lv_bipush (v := (-2)) hx hb dX10_cellOf_9 (by decide) ?_
      rw [hQ]
      exact W.iret (v := (-2)) hx hb hr (fun t ht hW => ⟨(-2), rfl, trivial, ht⟩) (fun q h => by cases h) dX10_cellOf_11
set_option maxHeartbeats 4000000 in
set_option maxRecDepth 100000 in
theorem c_X10_look (l : Launch) (D : va_G) (cy : Nat → ClassId) (ad : Nat → Nat) (hI : gInj ad) (sz : Nat) (iv : gIv) (ar : gAr) (a : Int32)  : Met l yX10_look wsX10_look ({ frames := 1, cells := 0, slots := 0, locals := 22 } : Room) (va_Pc [.ref (ad 0), .int a] (gPre D cy ad sz iv ar)) (vp_Si (fun r => True)) 0 0 (fun _ => False) := by
  refine Met.ofW (cc := cX10_look) (maxL := 2) (ret := (some .int)) (by decide) rfl ?_
  intro p e s m args below meth c s₁ B hml hv
  obtain ⟨rfl, rfl, hP, hK, hSt, hNw⟩ := hv
  have hx := B.exec
  have hb := B.bytes
  have hr := B.returns
  have hts := atoms_spec (ws := wsX10_look) B.pre
  have hown : s.vm.findClass RX10 = some m.cls := findClass_of_methodNamed B.named
  have hlocks := B.notSynchronized
  have hS : va_S (gA ad s.heap.size) s.heap s.heap [] := va_S.rf
  have inX10 : ∀ w ∈ u_ws RX10 TX10 6, w ∈ wsX10_look := by decide +kernel
  have inX8 : ∀ w ∈ u_ws RX8 TX8 5, w ∈ wsX10_look := by decide +kernel
  have lk0 := hts (.fieldLink RX10 12 "FormationPlanner" "scene" "LFormationPlanner$Scene;") (by decide +kernel)
  have lk1 := hts (.fieldLink RX10 90 "FormationPlanner$Scene" "obstacles" "[I") (by decide +kernel)
  have lk2 := hts (.fieldLink RX10 77 "FormationPlanner$Scene" "drones" "LFormationPlanner$Places;") (by decide +kernel)
  have lk3 := hts (.fieldLink RX10 87 "FormationPlanner$Scene" "slots" "LFormationPlanner$Places;") (by decide +kernel)
  have hl := lv_entry ([.ref (ad 0), .int a]) (n := 2) (Nat.le_of_ble_eq_true rfl)
  rw [lg_entry_eq]
  generalize (lg_sl ([.ref (ad 0), .int a]) ++ List.replicate (2 - (lg_sl ([.ref (ad 0), .int a])).length) Slot.unset).toArray = ls at hl ⊢
  have hl : lv_has ls 2 [(0, .ref (ad 0)), (1, .int a)] := hl
  obtain ⟨Q, hQ⟩ : ∃ Q, Q = MQ below (vp_Si (fun r => True)) (([.ref (ad 0), .int a] : List Value).toArray) s 0 0 (fun _ => False) := ⟨_, rfl⟩
  rw [← hQ]
  refine lv_iload_n hx hb dX10_look_0 rfl (lv_at hl 1 rfl) ?_
  refine g_callSi (va_runS (As := [.int a]) (rest := []) ⟨hx, hb, hml, hown, hts⟩ (c_X10_isCell l a) (va_cwS 1 hts gX10_look_X10_isCell rfl rfl rfl (by decide +kernel) ⟨Nat.le_of_ble_eq_true rfl, Nat.le_of_ble_eq_true rfl⟩) (g_preT) rfl rfl hl.1 rfl (lv_room (Nat.le_of_ble_eq_true rfl)) dX10_look_1 ⟨Nat.zero_le _, Nat.zero_le _⟩) (fun r_1 w_1 => ?_)
  try dsimp only at w_1
  refine lv_if_ne (tgt := 10) hx hb dX10_look_4 (by decide) (fun c_2 => ?_) (fun c_2 => ?_)
  · skip
    have q_2 : r_1.toInt ≠ (0 : Int) := i_ne2 (rfl : r_1.toInt = r_1.toInt) (show (0 : Int32).toInt = (0 : Int) from rfl) c_2
    refine lv_aload_n hx hb dX10_look_10 rfl (lv_at hl 0 rfl) ?_
    refine va_get (D := D) (ci := 10) (v := .ref (ad 1)) (C := RX10) (T := TX10) (N := 6) hx hb hts inX10 hown hK hP 0 (g_at10 (Nat.le_of_ble_eq_true rfl) rfl) rfl 0 (by decide) lk0 (fun _ h9 => h9) rfl dX10_look_11 ?_
    refine va_get (D := D) (ci := 8) (v := .ref (ad 3)) (C := RX8) (T := TX8) (N := 5) hx hb hts inX8 hown hK hP 1 (g_at8 (Nat.le_of_ble_eq_true rfl) rfl) rfl 1 (by decide) lk1 (fun _ h9 => h9) rfl dX10_look_14 ?_
    refine lv_iload_n hx hb dX10_look_17 rfl (lv_at hl 1 rfl) ?_
    refine va_iald hx hb hK hP 3 0 (g_at12 (Nat.le_of_ble_eq_true rfl) rfl) rfl (g_in (N := 108) (rfl : a.toInt = a.toInt) rfl (by omega) (by omega)) dX10_look_18 ?_
    refine lv_topi (fun v_3 ev_3 => ?_)
    refine lv_if_eq (tgt := 24) hx hb dX10_look_19 (by decide) (fun c_4 => ?_) (fun c_4 => ?_)
    · skip
      have q_4 : v_3.toInt = (0 : Int) := i_eq2 (rfl : v_3.toInt = v_3.toInt) (show (0 : Int32).toInt = (0 : Int) from rfl) c_4
      refine lv_bipush (v := 10) hx hb dX10_look_24 (by decide) ?_
      refine lv_aload_n hx hb dX10_look_26 rfl (lv_at hl 0 rfl) ?_
      refine va_get (D := D) (ci := 10) (v := .ref (ad 1)) (C := RX10) (T := TX10) (N := 6) hx hb hts inX10 hown hK hP 0 (g_at10 (Nat.le_of_ble_eq_true rfl) rfl) rfl 0 (by decide) lk0 (fun _ h9 => h9) rfl dX10_look_27 ?_
      refine va_get (D := D) (ci := 8) (v := .ref (ad 4)) (C := RX8) (T := TX8) (N := 5) hx hb hts inX8 hown hK hP 1 (g_at8 (Nat.le_of_ble_eq_true rfl) rfl) rfl 2 (by decide) lk2 (fun _ h9 => h9) rfl dX10_look_30 ?_
      refine lv_iload_n hx hb dX10_look_33 rfl (lv_at hl 1 rfl) ?_
      refine g_callSi (va_runV (As := [.int a]) (rest := [.int 10]) ⟨hx, hb, hml, hown, hts⟩ (c_X5_find l D cy ad hI _ iv ar 4 (Nat.le_of_ble_eq_true rfl) rfl a) (cwV 1 hts gX10_look_X5_find rfl rfl rfl (by decide +kernel) ⟨Nat.le_of_ble_eq_true rfl, Nat.le_of_ble_eq_true rfl⟩) (g_preV hP hK hSt hNw hS (g_at5 (Nat.le_of_ble_eq_true rfl) rfl) rfl) rfl rfl hl.1 rfl (lv_room (Nat.le_of_ble_eq_true rfl)) dX10_look_34 ⟨Nat.zero_le _, Nat.zero_le _⟩) (fun r_5 w_5 => ?_)
      try dsimp only at w_5
      refine lv_iconst (v := 1) hx hb dX10_look_37 (by decide) ?_
      refine lv_iadd hx hb dX10_look_38 ?_
      refine lv_topi (fun v_6 ev_6 => ?_)
      refine lv_imul hx hb dX10_look_39 ?_
      refine lv_topi (fun v_7 ev_7 => ?_)
      refine lv_bipush (v := 100) hx hb dX10_look_40 (by decide) ?_
      refine lv_aload_n hx hb dX10_look_42 rfl (lv_at hl 0 rfl) ?_
      refine va_get (D := D) (ci := 10) (v := .ref (ad 1)) (C := RX10) (T := TX10) (N := 6) hx hb hts inX10 hown hK hP 0 (g_at10 (Nat.le_of_ble_eq_true rfl) rfl) rfl 0 (by decide) lk0 (fun _ h9 => h9) rfl dX10_look_43 ?_
      refine va_get (D := D) (ci := 8) (v := .ref (ad 6)) (C := RX8) (T := TX8) (N := 5) hx hb hts inX8 hown hK hP 1 (g_at8 (Nat.le_of_ble_eq_true rfl) rfl) rfl 3 (by decide) lk3 (fun _ h9 => h9) rfl dX10_look_46 ?_
      refine lv_iload_n hx hb dX10_look_49 rfl (lv_at hl 1 rfl) ?_
      refine g_callSi (va_runV (As := [.int a]) (rest := [.int 100, .int v_7]) ⟨hx, hb, hml, hown, hts⟩ (c_X5_find l D cy ad hI _ iv ar 6 (Nat.le_of_ble_eq_true rfl) rfl a) (cwV 1 hts gX10_look_X5_find rfl rfl rfl (by decide +kernel) ⟨Nat.le_of_ble_eq_true rfl, Nat.le_of_ble_eq_true rfl⟩) (g_preV hP hK hSt hNw hS (g_at5 (Nat.le_of_ble_eq_true rfl) rfl) rfl) rfl rfl hl.1 rfl (lv_room (Nat.le_of_ble_eq_true rfl)) dX10_look_50 ⟨Nat.zero_le _, Nat.zero_le _⟩) (fun r_8 w_8 => ?_)
      try dsimp only at w_8
      refine lv_iconst (v := 1) hx hb dX10_look_53 (by decide) ?_
      refine lv_iadd hx hb dX10_look_54 ?_
      refine lv_topi (fun v_9 ev_9 => ?_)
      refine lv_imul hx hb dX10_look_55 ?_
      refine lv_topi (fun v_10 ev_10 => ?_)
      refine lv_iadd hx hb dX10_look_56 ?_
      refine lv_topi (fun v_11 ev_11 => ?_)
      rw [hQ]
      exact W.iret (v := v_11) hx hb hr (fun t ht hW => ⟨v_11, rfl, trivial, ht⟩) (fun q h => by cases h) dX10_look_57
    · skip
      have q_4 : v_3.toInt ≠ (0 : Int) := i_ne2 (rfl : v_3.toInt = v_3.toInt) (show (0 : Int32).toInt = (0 : Int) from rfl) c_4
      refine lv_iconst (v := 1) hx hb dX10_look_22 (by decide) ?_
      rw [hQ]
      exact W.iret (v := 1) hx hb hr (fun t ht hW => ⟨1, rfl, trivial, ht⟩) (fun q h => by cases h) dX10_look_23
  · skip
    have q_2 : r_1.toInt = (0 : Int) := i_eq2 (rfl : r_1.toInt = r_1.toInt) (show (0 : Int32).toInt = (0 : Int) from rfl) c_2
    refine lv_bipush (v := (-2)) hx hb dX10_look_7 (by decide) ?_
    rw [hQ]
    exact W.iret (v := (-2)) hx hb hr (fun t ht hW => ⟨(-2), rfl, trivial, ht⟩) (fun q h => by cases h) dX10_look_9
set_option maxHeartbeats 4000000 in
set_option maxRecDepth 100000 in
theorem c_X10_count (l : Launch) (D : va_G) (cy : Nat → ClassId) (ad : Nat → Nat) (hI : gInj ad) (sz : Nat) (iv : gIv) (ar : gAr) (a : Int32)  : Met l yX10_count wsX10_count ({ frames := 3, cells := 0, slots := 0, locals := 64 } : Room) (va_Pc [.ref (ad 0), .int a] (gPre D cy ad sz iv ar)) (vp_Si (fun r => True)) 0 0 (fun _ => False) := by
  refine Met.ofW (cc := cX10_count) (maxL := 2) (ret := (some .int)) (by decide) rfl ?_
  intro p e s m args below meth c s₁ B hml hv
  obtain ⟨rfl, rfl, hP, hK, hSt, hNw⟩ := hv
  have hx := B.exec
  have hb := B.bytes
  have hr := B.returns
  have hts := atoms_spec (ws := wsX10_count) B.pre
  have hown : s.vm.findClass RX10 = some m.cls := findClass_of_methodNamed B.named
  have hlocks := B.notSynchronized
  have hS : va_S (gA ad s.heap.size) s.heap s.heap [] := va_S.rf
  have inX10 : ∀ w ∈ u_ws RX10 TX10 6, w ∈ wsX10_count := by decide +kernel
  have inX2 : ∀ w ∈ u_ws RX2 TX2 5, w ∈ wsX10_count := by decide +kernel
  have inX3 : ∀ w ∈ u_ws RX3 TX3 3, w ∈ wsX10_count := by decide +kernel
  have inX5 : ∀ w ∈ u_ws RX5 TX5 2, w ∈ wsX10_count := by decide +kernel
  have inX6 : ∀ w ∈ u_ws RX6 TX6 11, w ∈ wsX10_count := by decide +kernel
  have inX8 : ∀ w ∈ u_ws RX8 TX8 5, w ∈ wsX10_count := by decide +kernel
  have lk0 := hts (.fieldLink RX10 12 "FormationPlanner" "scene" "LFormationPlanner$Scene;") (by decide +kernel)
  have lk1 := hts (.fieldLink RX10 77 "FormationPlanner$Scene" "drones" "LFormationPlanner$Places;") (by decide +kernel)
  have lk2 := hts (.fieldLink RX10 100 "FormationPlanner$Places" "size" "I") (by decide +kernel)
  have lk3 := hts (.fieldLink RX10 87 "FormationPlanner$Scene" "slots" "LFormationPlanner$Places;") (by decide +kernel)
  have lk4 := hts (.fieldLink RX10 204 "FormationPlanner$Scene" "flown" "I") (by decide +kernel)
  have lk5 := hts (.fieldLink RX10 19 "FormationPlanner" "history" "LFormationPlanner$History;") (by decide +kernel)
  have lk6 := hts (.fieldLink RX10 219 "FormationPlanner$History" "size" "I") (by decide +kernel)
  have lk7 := hts (.fieldLink RX10 26 "FormationPlanner" "text" "LFormationPlanner$Formation;") (by decide +kernel)
  have lk8 := hts (.fieldLink RX10 111 "FormationPlanner$Formation" "length" "I") (by decide +kernel)
  have lk9 := hts (.fieldLink RX10 56 "FormationPlanner" "plan" "LFormationPlanner$Plan;") (by decide +kernel)
  have lk10 := hts (.fieldLink RX10 195 "FormationPlanner$Plan" "stands" "Z") (by decide +kernel)
  have hl := lv_entry ([.ref (ad 0), .int a]) (n := 2) (Nat.le_of_ble_eq_true rfl)
  rw [lg_entry_eq]
  generalize (lg_sl ([.ref (ad 0), .int a]) ++ List.replicate (2 - (lg_sl ([.ref (ad 0), .int a])).length) Slot.unset).toArray = ls at hl ⊢
  have hl : lv_has ls 2 [(0, .ref (ad 0)), (1, .int a)] := hl
  obtain ⟨Q, hQ⟩ : ∃ Q, Q = MQ below (vp_Si (fun r => True)) (([.ref (ad 0), .int a] : List Value).toArray) s 0 0 (fun _ => False) := ⟨_, rfl⟩
  rw [← hQ]
  refine lv_iload_n hx hb dX10_count_0 rfl (lv_at hl 1 rfl) ?_
  by_cases z_1 : a.toInt = 0
  · skip
    refine lv_tableIn (off := 47) (tgt := 48) hx hb dX10_count_1 (by rw [(rfl : a.toInt = a.toInt), z_1]; decide) (by rw [(rfl : a.toInt = a.toInt), z_1]; decide) (by rw [(rfl : a.toInt = a.toInt), z_1]; rfl) (by decide) ?_
    refine lv_aload_n hx hb dX10_count_48 rfl (lv_at hl 0 rfl) ?_
    refine va_get (D := D) (ci := 10) (v := .ref (ad 1)) (C := RX10) (T := TX10) (N := 6) hx hb hts inX10 hown hK hP 0 (g_at10 (Nat.le_of_ble_eq_true rfl) rfl) rfl 0 (by decide) lk0 (fun _ h9 => h9) rfl dX10_count_49 ?_
    refine va_get (D := D) (ci := 8) (v := .ref (ad 4)) (C := RX8) (T := TX8) (N := 5) hx hb hts inX8 hown hK hP 1 (g_at8 (Nat.le_of_ble_eq_true rfl) rfl) rfl 2 (by decide) lk1 (fun _ h9 => h9) rfl dX10_count_52 ?_
    refine va_get (D := D) (ci := 5) (v := .int (iv 4 1)) (C := RX5) (T := TX5) (N := 2) hx hb hts inX5 hown hK hP 4 (g_at5 (Nat.le_of_ble_eq_true rfl) rfl) rfl 1 (by decide) lk2 (fun _ h9 => h9) rfl dX10_count_55 ?_
    rw [hQ]
    exact W.iret (v := (iv 4 1)) hx hb hr (fun t ht hW => ⟨(iv 4 1), rfl, trivial, ht⟩) (fun q h => by cases h) dX10_count_58
  by_cases z_2 : a.toInt = 1
  · skip
    refine lv_tableIn (off := 58) (tgt := 59) hx hb dX10_count_1 (by rw [(rfl : a.toInt = a.toInt), z_2]; decide) (by rw [(rfl : a.toInt = a.toInt), z_2]; decide) (by rw [(rfl : a.toInt = a.toInt), z_2]; rfl) (by decide) ?_
    refine lv_aload_n hx hb dX10_count_59 rfl (lv_at hl 0 rfl) ?_
    refine va_get (D := D) (ci := 10) (v := .ref (ad 1)) (C := RX10) (T := TX10) (N := 6) hx hb hts inX10 hown hK hP 0 (g_at10 (Nat.le_of_ble_eq_true rfl) rfl) rfl 0 (by decide) lk0 (fun _ h9 => h9) rfl dX10_count_60 ?_
    refine va_get (D := D) (ci := 8) (v := .ref (ad 6)) (C := RX8) (T := TX8) (N := 5) hx hb hts inX8 hown hK hP 1 (g_at8 (Nat.le_of_ble_eq_true rfl) rfl) rfl 3 (by decide) lk3 (fun _ h9 => h9) rfl dX10_count_63 ?_
    refine va_get (D := D) (ci := 5) (v := .int (iv 6 1)) (C := RX5) (T := TX5) (N := 2) hx hb hts inX5 hown hK hP 6 (g_at5 (Nat.le_of_ble_eq_true rfl) rfl) rfl 1 (by decide) lk2 (fun _ h9 => h9) rfl dX10_count_66 ?_
    rw [hQ]
    exact W.iret (v := (iv 6 1)) hx hb hr (fun t ht hW => ⟨(iv 6 1), rfl, trivial, ht⟩) (fun q h => by cases h) dX10_count_69
  by_cases z_3 : a.toInt = 2
  · skip
    refine lv_tableIn (off := 69) (tgt := 70) hx hb dX10_count_1 (by rw [(rfl : a.toInt = a.toInt), z_3]; decide) (by rw [(rfl : a.toInt = a.toInt), z_3]; decide) (by rw [(rfl : a.toInt = a.toInt), z_3]; rfl) (by decide) ?_
    refine lv_aload_n hx hb dX10_count_70 rfl (lv_at hl 0 rfl) ?_
    refine va_get (D := D) (ci := 10) (v := .ref (ad 1)) (C := RX10) (T := TX10) (N := 6) hx hb hts inX10 hown hK hP 0 (g_at10 (Nat.le_of_ble_eq_true rfl) rfl) rfl 0 (by decide) lk0 (fun _ h9 => h9) rfl dX10_count_71 ?_
    refine g_callSi (va_runV (As := []) (rest := []) ⟨hx, hb, hml, hown, hts⟩ (c_X8_obstacleCount l D cy ad hI _ iv ar) (cwV 0 hts gX10_count_X8_obstacleCount rfl rfl rfl (by decide +kernel) ⟨Nat.le_of_ble_eq_true rfl, Nat.le_of_ble_eq_true rfl⟩) (g_preV hP hK hSt hNw hS (g_at8 (Nat.le_of_ble_eq_true rfl) rfl) rfl) rfl rfl hl.1 rfl (lv_room (Nat.le_of_ble_eq_true rfl)) dX10_count_74 ⟨Nat.zero_le _, Nat.zero_le _⟩) (fun r_4 w_4 => ?_)
    try dsimp only at w_4
    rw [hQ]
    exact W.iret (v := r_4) hx hb hr (fun t ht hW => ⟨r_4, rfl, trivial, ht⟩) (fun q h => by cases h) dX10_count_77
  by_cases z_5 : a.toInt = 3
  · skip
    refine lv_tableIn (off := 77) (tgt := 78) hx hb dX10_count_1 (by rw [(rfl : a.toInt = a.toInt), z_5]; decide) (by rw [(rfl : a.toInt = a.toInt), z_5]; decide) (by rw [(rfl : a.toInt = a.toInt), z_5]; rfl) (by decide) ?_
    refine lv_aload_n hx hb dX10_count_78 rfl (lv_at hl 0 rfl) ?_
    refine va_get (D := D) (ci := 10) (v := .ref (ad 1)) (C := RX10) (T := TX10) (N := 6) hx hb hts inX10 hown hK hP 0 (g_at10 (Nat.le_of_ble_eq_true rfl) rfl) rfl 0 (by decide) lk0 (fun _ h9 => h9) rfl dX10_count_79 ?_
    refine g_callSi (va_runV (As := []) (rest := []) ⟨hx, hb, hml, hown, hts⟩ (c_X8_dronesAtSlots l D cy ad hI _ iv ar) (cwV 0 hts gX10_count_X8_dronesAtSlots rfl rfl rfl (by decide +kernel) ⟨Nat.le_of_ble_eq_true rfl, Nat.le_of_ble_eq_true rfl⟩) (g_preV hP hK hSt hNw hS (g_at8 (Nat.le_of_ble_eq_true rfl) rfl) rfl) rfl rfl hl.1 rfl (lv_room (Nat.le_of_ble_eq_true rfl)) dX10_count_82 ⟨Nat.zero_le _, Nat.zero_le _⟩) (fun r_6 w_6 => ?_)
    try dsimp only at w_6
    rw [hQ]
    exact W.iret (v := r_6) hx hb hr (fun t ht hW => ⟨r_6, rfl, trivial, ht⟩) (fun q h => by cases h) dX10_count_85
  by_cases z_7 : a.toInt = 4
  · skip
    refine lv_tableIn (off := 85) (tgt := 86) hx hb dX10_count_1 (by rw [(rfl : a.toInt = a.toInt), z_7]; decide) (by rw [(rfl : a.toInt = a.toInt), z_7]; decide) (by rw [(rfl : a.toInt = a.toInt), z_7]; rfl) (by decide) ?_
    refine lv_aload_n hx hb dX10_count_86 rfl (lv_at hl 0 rfl) ?_
    refine va_get (D := D) (ci := 10) (v := .ref (ad 1)) (C := RX10) (T := TX10) (N := 6) hx hb hts inX10 hown hK hP 0 (g_at10 (Nat.le_of_ble_eq_true rfl) rfl) rfl 0 (by decide) lk0 (fun _ h9 => h9) rfl dX10_count_87 ?_
    refine va_get (D := D) (ci := 8) (v := .int (iv 1 4)) (C := RX8) (T := TX8) (N := 5) hx hb hts inX8 hown hK hP 1 (g_at8 (Nat.le_of_ble_eq_true rfl) rfl) rfl 4 (by decide) lk4 (fun _ h9 => h9) rfl dX10_count_90 ?_
    rw [hQ]
    exact W.iret (v := (iv 1 4)) hx hb hr (fun t ht hW => ⟨(iv 1 4), rfl, trivial, ht⟩) (fun q h => by cases h) dX10_count_93
  by_cases z_8 : a.toInt = 5
  · skip
    refine lv_tableIn (off := 93) (tgt := 94) hx hb dX10_count_1 (by rw [(rfl : a.toInt = a.toInt), z_8]; decide) (by rw [(rfl : a.toInt = a.toInt), z_8]; decide) (by rw [(rfl : a.toInt = a.toInt), z_8]; rfl) (by decide) ?_
    refine lv_aload_n hx hb dX10_count_94 rfl (lv_at hl 0 rfl) ?_
    refine va_get (D := D) (ci := 10) (v := .ref (ad 8)) (C := RX10) (T := TX10) (N := 6) hx hb hts inX10 hown hK hP 0 (g_at10 (Nat.le_of_ble_eq_true rfl) rfl) rfl 1 (by decide) lk5 (fun _ h9 => h9) rfl dX10_count_95 ?_
    refine va_get (D := D) (ci := 3) (v := .int (iv 8 2)) (C := RX3) (T := TX3) (N := 3) hx hb hts inX3 hown hK hP 8 (g_at3 (Nat.le_of_ble_eq_true rfl) rfl) rfl 2 (by decide) lk6 (fun _ h9 => h9) rfl dX10_count_98 ?_
    rw [hQ]
    exact W.iret (v := (iv 8 2)) hx hb hr (fun t ht hW => ⟨(iv 8 2), rfl, trivial, ht⟩) (fun q h => by cases h) dX10_count_101
  by_cases z_9 : a.toInt = 6
  · skip
    refine lv_tableIn (off := 101) (tgt := 102) hx hb dX10_count_1 (by rw [(rfl : a.toInt = a.toInt), z_9]; decide) (by rw [(rfl : a.toInt = a.toInt), z_9]; decide) (by rw [(rfl : a.toInt = a.toInt), z_9]; rfl) (by decide) ?_
    refine lv_aload_n hx hb dX10_count_102 rfl (lv_at hl 0 rfl) ?_
    refine va_get (D := D) (ci := 10) (v := .ref (ad 66)) (C := RX10) (T := TX10) (N := 6) hx hb hts inX10 hown hK hP 0 (g_at10 (Nat.le_of_ble_eq_true rfl) rfl) rfl 2 (by decide) lk7 (fun _ h9 => h9) rfl dX10_count_103 ?_
    refine va_get (D := D) (ci := 2) (v := .int (iv 66 2)) (C := RX2) (T := TX2) (N := 5) hx hb hts inX2 hown hK hP 66 (g_at2 (Nat.le_of_ble_eq_true rfl) rfl) rfl 2 (by decide) lk8 (fun _ h9 => h9) rfl dX10_count_106 ?_
    rw [hQ]
    exact W.iret (v := (iv 66 2)) hx hb hr (fun t ht hW => ⟨(iv 66 2), rfl, trivial, ht⟩) (fun q h => by cases h) dX10_count_109
  by_cases z_10 : a.toInt = 7
  · skip
    refine lv_tableIn (off := 109) (tgt := 110) hx hb dX10_count_1 (by rw [(rfl : a.toInt = a.toInt), z_10]; decide) (by rw [(rfl : a.toInt = a.toInt), z_10]; decide) (by rw [(rfl : a.toInt = a.toInt), z_10]; rfl) (by decide) ?_
    refine lv_aload_n hx hb dX10_count_110 rfl (lv_at hl 0 rfl) ?_
    refine va_get (D := D) (ci := 10) (v := .ref (ad 90)) (C := RX10) (T := TX10) (N := 6) hx hb hts inX10 hown hK hP 0 (g_at10 (Nat.le_of_ble_eq_true rfl) rfl) rfl 5 (by decide) lk9 (fun _ h9 => h9) rfl dX10_count_111 ?_
    refine va_get (D := D) (ci := 6) (v := .int (iv 90 7)) (C := RX6) (T := TX6) (N := 11) hx hb hts inX6 hown hK hP 90 (g_at6 (Nat.le_of_ble_eq_true rfl) rfl) rfl 7 (by decide) lk10 (fun _ h9 => h9) rfl dX10_count_114 ?_
    refine lv_if_eq (tgt := 124) hx hb dX10_count_117 (by decide) (fun c_11 => ?_) (fun c_11 => ?_)
    · skip
      have q_11 : (iv 90 7).toInt = (0 : Int) := i_eq2 (rfl : (iv 90 7).toInt = (iv 90 7).toInt) (show (0 : Int32).toInt = (0 : Int) from rfl) c_11
      refine lv_iconst (v := 0) hx hb dX10_count_124 (by decide) ?_
      rw [hQ]
      exact W.iret (v := 0) hx hb hr (fun t ht hW => ⟨0, rfl, trivial, ht⟩) (fun q h => by cases h) dX10_count_125
    · skip
      have q_11 : (iv 90 7).toInt ≠ (0 : Int) := i_ne2 (rfl : (iv 90 7).toInt = (iv 90 7).toInt) (show (0 : Int32).toInt = (0 : Int) from rfl) c_11
      refine lv_iconst (v := 1) hx hb dX10_count_120 (by decide) ?_
      refine lv_goto (tgt := 125) hx hb dX10_count_121 (by decide) ?_
      rw [hQ]
      exact W.iret (v := 1) hx hb hr (fun t ht hW => ⟨1, rfl, trivial, ht⟩) (fun q h => by cases h) dX10_count_125
  refine lv_tableOut (tgt := 126) hx hb dX10_count_1 (by rw [(rfl : a.toInt = a.toInt)]; omega) (by decide) ?_
  refine lv_bipush (v := (-2)) hx hb dX10_count_126 (by decide) ?_
  rw [hQ]
  exact W.iret (v := (-2)) hx hb hr (fun t ht hW => ⟨(-2), rfl, trivial, ht⟩) (fun q h => by cases h) dX10_count_128
set_option maxHeartbeats 4000000 in
set_option maxRecDepth 100000 in
theorem c_X10_undo (l : Launch) (D : va_G) (cy : Nat → ClassId) (ad : Nat → Nat) (hI : gInj ad) (sz : Nat) (iv : gIv) (ar : gAr)  (hz : SZ iv) : Met l yX10_undo wsX10_undo ({ frames := 4, cells := 0, slots := 0, locals := 103 } : Room) (va_Pc [.ref (ad 0)] (gPre D cy ad sz iv ar)) (va_Qi (fun (r : Int32) (u : gIv × gAr) => KP iv u.1) (gPost D cy ad) (gA ad sz)) 0 0 (gA ad sz) := by
  refine Met.ofW (cc := cX10_undo) (maxL := 1) (ret := (some .int)) (by decide) rfl ?_
  intro p e s m args below meth c s₁ B hml hv
  obtain ⟨rfl, rfl, hP, hK, hSt, hNw⟩ := hv
  have hx := B.exec
  have hb := B.bytes
  have hr := B.returns
  have hts := atoms_spec (ws := wsX10_undo) B.pre
  have hown : s.vm.findClass RX10 = some m.cls := findClass_of_methodNamed B.named
  have hlocks := B.notSynchronized
  have hS : va_S (gA ad s.heap.size) s.heap s.heap [] := va_S.rf
  have inX10 : ∀ w ∈ u_ws RX10 TX10 6, w ∈ wsX10_undo := by decide +kernel
  have inX3 : ∀ w ∈ u_ws RX3 TX3 3, w ∈ wsX10_undo := by decide +kernel
  have lk0 := hts (.fieldLink RX10 56 "FormationPlanner" "plan" "LFormationPlanner$Plan;") (by decide +kernel)
  have lk1 := hts (.fieldLink RX10 19 "FormationPlanner" "history" "LFormationPlanner$History;") (by decide +kernel)
  have lk2 := hts (.fieldLink RX10 12 "FormationPlanner" "scene" "LFormationPlanner$Scene;") (by decide +kernel)
  have lk3 := hts (.fieldLink RX10 219 "FormationPlanner$History" "size" "I") (by decide +kernel)
  have hl := lv_entry ([.ref (ad 0)]) (n := 1) (Nat.le_of_ble_eq_true rfl)
  rw [lg_entry_eq]
  generalize (lg_sl ([.ref (ad 0)]) ++ List.replicate (1 - (lg_sl ([.ref (ad 0)])).length) Slot.unset).toArray = ls at hl ⊢
  have hl : lv_has ls 1 [(0, .ref (ad 0))] := hl
  obtain ⟨Q, hQ⟩ : ∃ Q, Q = MQ below (va_Qi (fun (r : Int32) (u : gIv × gAr) => KP iv u.1) (gPost D cy ad) (gA ad s.heap.size)) (([.ref (ad 0)] : List Value).toArray) s 0 0 (gA ad s.heap.size) := ⟨_, rfl⟩
  rw [← hQ]
  have fk0 : KP iv iv := KP.rf hz
  refine lv_aload_n hx hb dX10_undo_0 rfl (lv_at hl 0 rfl) ?_
  refine va_get (D := D) (ci := 10) (v := .ref (ad 90)) (C := RX10) (T := TX10) (N := 6) hx hb hts inX10 hown hK hP 0 (g_at10 (Nat.le_of_ble_eq_true rfl) rfl) rfl 5 (by decide) lk0 (fun _ h9 => h9) rfl dX10_undo_1 ?_
  refine g_callv (va_runV (As := []) (rest := []) ⟨hx, hb, hml, hown, hts⟩ (c_X6_discard l D cy ad hI _ iv ar) (cwV 0 hts gX10_undo_X6_discard rfl rfl rfl (by decide +kernel) ⟨Nat.le_of_ble_eq_true rfl, Nat.le_of_ble_eq_true rfl⟩) (g_preV hP hK hSt hNw hS (g_at6 (Nat.le_of_ble_eq_true rfl) rfl) rfl) rfl rfl hl.1 rfl (lv_room (Nat.le_of_ble_eq_true rfl)) dX10_undo_4 ⟨Nat.zero_le _, Nat.zero_le _⟩) hS (fun iv_1 ar_1 H locs w_1 hP hS => ?_)
  try dsimp only at w_1
  obtain ⟨iv_2, eiv_2⟩ : ∃ z : gIv, z = u2 iv 90 7 0 := ⟨_, rfl⟩
  have eiv_1 : iv_1 = u2 iv_2 90 8 (-1) := by rw [eiv_2]; exact w_1.1
  have fk_1 : KP iv iv_1 := (by rw [w_1.1]; exact (fk0.up (by decide) (by decide)).up (by decide) (by decide))
  refine lv_aload_n hx hb dX10_undo_7 rfl (lv_at hl 0 rfl) ?_
  refine va_get (D := D) (ci := 10) (v := .ref (ad 8)) (C := RX10) (T := TX10) (N := 6) hx hb hts inX10 hown hK hP 0 (g_at10 (Nat.le_of_ble_eq_true rfl) rfl) rfl 1 (by decide) lk1 (fun _ h9 => h9) rfl dX10_undo_8 ?_
  refine lv_aload_n hx hb dX10_undo_11 rfl (lv_at hl 0 rfl) ?_
  refine va_get (D := D) (ci := 10) (v := .ref (ad 1)) (C := RX10) (T := TX10) (N := 6) hx hb hts inX10 hown hK hP 0 (g_at10 (Nat.le_of_ble_eq_true rfl) rfl) rfl 0 (by decide) lk2 (fun _ h9 => h9) rfl dX10_undo_12 ?_
  refine g_calli (va_runV (As := [.ref (ad 1)]) (rest := []) ⟨hx, hb, hml, hown, hts⟩ (c_X3_bringBack l D cy ad hI _ iv_1 ar_1 fk_1.1) (cwV 1 hts gX10_undo_X3_bringBack rfl rfl rfl (by decide +kernel) ⟨Nat.le_of_ble_eq_true rfl, Nat.le_of_ble_eq_true rfl⟩) (g_preV hP hK hSt hNw hS (g_at3 (Nat.le_of_ble_eq_true rfl) rfl) rfl) rfl rfl hl.1 rfl (lv_room (Nat.le_of_ble_eq_true rfl)) dX10_undo_15 ⟨Nat.zero_le _, Nat.zero_le _⟩) hS (fun r_3 iv_3 ar_3 H locs w_3 hP hS => ?_)
  try dsimp only at w_3
  have fk_3 : KP iv iv_3 := fk_1.tr (w_3)
  refine lv_if_eq (tgt := 31) hx hb dX10_undo_18 (by decide) (fun c_4 => ?_) (fun c_4 => ?_)
  · skip
    have q_4 : r_3.toInt = (0 : Int) := i_eq2 (rfl : r_3.toInt = r_3.toInt) (show (0 : Int32).toInt = (0 : Int) from rfl) c_4
    refine lv_iconst (v := (-1)) hx hb dX10_undo_31 (by decide) ?_
    rw [hQ]
    exact W.iret (v := (-1)) hx hb hr (fun t ht hW => ⟨⟨(-1), (iv_3, ar_3), rfl, fk_3, by show va_P _ _ _ _; rw [ht]; exact hP⟩, hS.F ht⟩) hS.2.2 dX10_undo_32
  · skip
    have q_4 : r_3.toInt ≠ (0 : Int) := i_ne2 (rfl : r_3.toInt = r_3.toInt) (show (0 : Int32).toInt = (0 : Int) from rfl) c_4
    refine lv_aload_n hx hb dX10_undo_21 rfl (lv_at hl 0 rfl) ?_
    refine va_get (D := D) (ci := 10) (v := .ref (ad 8)) (C := RX10) (T := TX10) (N := 6) hx hb hts inX10 hown hK hP 0 (g_at10 (Nat.le_of_ble_eq_true rfl) rfl) rfl 1 (by decide) lk1 (fun _ h9 => h9) rfl dX10_undo_22 ?_
    refine va_get (D := D) (ci := 3) (v := .int (iv_3 8 2)) (C := RX3) (T := TX3) (N := 3) hx hb hts inX3 hown hK hP 8 (g_at3 (Nat.le_of_ble_eq_true rfl) rfl) rfl 2 (by decide) lk3 (fun _ h9 => h9) rfl dX10_undo_25 ?_
    refine lv_goto (tgt := 32) hx hb dX10_undo_28 (by decide) ?_
    rw [hQ]
    exact W.iret (v := (iv_3 8 2)) hx hb hr (fun t ht hW => ⟨⟨(iv_3 8 2), (iv_3, ar_3), rfl, fk_3, by show va_P _ _ _ _; rw [ht]; exact hP⟩, hS.F ht⟩) hS.2.2 dX10_undo_32
set_option maxHeartbeats 4000000 in
set_option maxRecDepth 100000 in
theorem c_X10_append (l : Launch) (D : va_G) (cy : Nat → ClassId) (ad : Nat → Nat) (hI : gInj ad) (sz : Nat) (iv : gIv) (ar : gAr) (a : Int32) (b : Int32) (hz : SZ iv) (h0 : 0 ≤ (iv 66 2).toInt ∧ (iv 66 2).toInt ≤ 60) : Met l yX10_append wsX10_append ({ frames := 1, cells := 0, slots := 0, locals := 23 } : Room) (va_Pc [.ref (ad 0), .int a, .int b] (gPre D cy ad sz iv ar)) (va_Qi (fun (r : Int32) (u : gIv × gAr) => SZ u.1 ∧ ((0 ≤ a.toInt ∧ a.toInt < 128 ∧ 1 ≤ b.toInt ∧ b.toInt ≤ 60) ∧ (iv 66 2).toInt + b.toInt ≤ 60 ∧ r.toInt = (iv 66 2).toInt + b.toInt ∧ (u.1 66 2).toInt = (iv 66 2).toInt + b.toInt ∨ (0 ≤ a.toInt ∧ a.toInt < 128 ∧ 1 ≤ b.toInt ∧ b.toInt ≤ 60) ∧ 60 < (iv 66 2).toInt + b.toInt ∧ r.toInt = -3 ∧ (u.1 66 2).toInt = (iv 66 2).toInt ∨ ¬ (0 ≤ a.toInt ∧ a.toInt < 128 ∧ 1 ≤ b.toInt ∧ b.toInt ≤ 60) ∧ r.toInt = -2 ∧ (u.1 66 2).toInt = (iv 66 2).toInt)) (gPost D cy ad) (gA ad sz)) 0 0 (gA ad sz) := by
  refine Met.ofW (cc := cX10_append) (maxL := 3) (ret := (some .int)) (by decide) rfl ?_
  intro p e s m args below meth c s₁ B hml hv
  obtain ⟨rfl, rfl, hP, hK, hSt, hNw⟩ := hv
  have hx := B.exec
  have hb := B.bytes
  have hr := B.returns
  have hts := atoms_spec (ws := wsX10_append) B.pre
  have hown : s.vm.findClass RX10 = some m.cls := findClass_of_methodNamed B.named
  have hlocks := B.notSynchronized
  have hS : va_S (gA ad s.heap.size) s.heap s.heap [] := va_S.rf
  have inX10 : ∀ w ∈ u_ws RX10 TX10 6, w ∈ wsX10_append := by decide +kernel
  have inX2 : ∀ w ∈ u_ws RX2 TX2 5, w ∈ wsX10_append := by decide +kernel
  have lk0 := hts (.fieldLink RX10 26 "FormationPlanner" "text" "LFormationPlanner$Formation;") (by decide +kernel)
  have lk1 := hts (.fieldLink RX10 111 "FormationPlanner$Formation" "length" "I") (by decide +kernel)
  have hl := lv_entry ([.ref (ad 0), .int a, .int b]) (n := 3) (Nat.le_of_ble_eq_true rfl)
  rw [lg_entry_eq]
  generalize (lg_sl ([.ref (ad 0), .int a, .int b]) ++ List.replicate (3 - (lg_sl ([.ref (ad 0), .int a, .int b])).length) Slot.unset).toArray = ls at hl ⊢
  have hl : lv_has ls 3 [(0, .ref (ad 0)), (1, .int a), (2, .int b)] := hl
  obtain ⟨Q, hQ⟩ : ∃ Q, Q = MQ below (va_Qi (fun (r : Int32) (u : gIv × gAr) => SZ u.1 ∧ ((0 ≤ a.toInt ∧ a.toInt < 128 ∧ 1 ≤ b.toInt ∧ b.toInt ≤ 60) ∧ (iv 66 2).toInt + b.toInt ≤ 60 ∧ r.toInt = (iv 66 2).toInt + b.toInt ∧ (u.1 66 2).toInt = (iv 66 2).toInt + b.toInt ∨ (0 ≤ a.toInt ∧ a.toInt < 128 ∧ 1 ≤ b.toInt ∧ b.toInt ≤ 60) ∧ 60 < (iv 66 2).toInt + b.toInt ∧ r.toInt = -3 ∧ (u.1 66 2).toInt = (iv 66 2).toInt ∨ ¬ (0 ≤ a.toInt ∧ a.toInt < 128 ∧ 1 ≤ b.toInt ∧ b.toInt ≤ 60) ∧ r.toInt = -2 ∧ (u.1 66 2).toInt = (iv 66 2).toInt)) (gPost D cy ad) (gA ad s.heap.size)) (([.ref (ad 0), .int a, .int b] : List Value).toArray) s 0 0 (gA ad s.heap.size) := ⟨_, rfl⟩
  rw [← hQ]
  refine lv_iload_n hx hb dX10_append_0 rfl (lv_at hl 1 rfl) ?_
  refine lv_if_lt (tgt := 22) hx hb dX10_append_1 (by decide) (fun c_1 => ?_) (fun c_1 => ?_)
  · skip
    have q_1 : a.toInt < (0 : Int) := i_lt2 (rfl : a.toInt = a.toInt) (show (0 : Int32).toInt = (0 : Int) from rfl) c_1
    refine lv_bipush (v := (-2)) hx hb dX10_append_22 (by decide) ?_
    rw [hQ]
    exact W.iret (v := (-2)) hx hb hr (fun t ht hW => ⟨⟨(-2), (iv, ar), rfl, ⟨hz, by have z2 : (-2 : Int32).toInt = -2 := rfl; have z3 : (-3 : Int32).toInt = -3 := rfl; show _ ∧ _ ∧ _ ∧ (iv 66 2).toInt = _ ∨ _ ∧ _ ∧ _ ∧ (iv 66 2).toInt = _ ∨ _ ∧ _ ∧ (iv 66 2).toInt = _; omega⟩, by show va_P _ _ _ _; rw [ht]; exact hP⟩, hS.F ht⟩) hS.2.2 dX10_append_24
  · skip
    have q_1 : (0 : Int) ≤ a.toInt := i_nlt2 (rfl : a.toInt = a.toInt) (show (0 : Int32).toInt = (0 : Int) from rfl) c_1
    refine lv_iload_n hx hb dX10_append_4 rfl (lv_at hl 1 rfl) ?_
    refine lv_sipush (v := 128) hx hb dX10_append_5 (by decide) ?_
    refine lv_icmp_ge (tgt := 22) hx hb dX10_append_8 (by decide) (fun c_2 => ?_) (fun c_2 => ?_)
    · skip
      have q_2 : (128 : Int) ≤ a.toInt := i_le2 (show (128 : Int32).toInt = (128 : Int) from rfl) (rfl : a.toInt = a.toInt) c_2
      refine lv_bipush (v := (-2)) hx hb dX10_append_22 (by decide) ?_
      rw [hQ]
      exact W.iret (v := (-2)) hx hb hr (fun t ht hW => ⟨⟨(-2), (iv, ar), rfl, ⟨hz, by have z2 : (-2 : Int32).toInt = -2 := rfl; have z3 : (-3 : Int32).toInt = -3 := rfl; show _ ∧ _ ∧ _ ∧ (iv 66 2).toInt = _ ∨ _ ∧ _ ∧ _ ∧ (iv 66 2).toInt = _ ∨ _ ∧ _ ∧ (iv 66 2).toInt = _; omega⟩, by show va_P _ _ _ _; rw [ht]; exact hP⟩, hS.F ht⟩) hS.2.2 dX10_append_24
    · skip
      have q_2 : a.toInt < (128 : Int) := i_nle2 (show (128 : Int32).toInt = (128 : Int) from rfl) (rfl : a.toInt = a.toInt) c_2
      refine lv_iload_n hx hb dX10_append_11 rfl (lv_at hl 2 rfl) ?_
      refine lv_iconst (v := 1) hx hb dX10_append_12 (by decide) ?_
      refine lv_icmp_lt (tgt := 22) hx hb dX10_append_13 (by decide) (fun c_3 => ?_) (fun c_3 => ?_)
      · skip
        have q_3 : b.toInt < (1 : Int) := i_lt2 (rfl : b.toInt = b.toInt) (show (1 : Int32).toInt = (1 : Int) from rfl) c_3
        refine lv_bipush (v := (-2)) hx hb dX10_append_22 (by decide) ?_
        rw [hQ]
        exact W.iret (v := (-2)) hx hb hr (fun t ht hW => ⟨⟨(-2), (iv, ar), rfl, ⟨hz, by have z2 : (-2 : Int32).toInt = -2 := rfl; have z3 : (-3 : Int32).toInt = -3 := rfl; show _ ∧ _ ∧ _ ∧ (iv 66 2).toInt = _ ∨ _ ∧ _ ∧ _ ∧ (iv 66 2).toInt = _ ∨ _ ∧ _ ∧ (iv 66 2).toInt = _; omega⟩, by show va_P _ _ _ _; rw [ht]; exact hP⟩, hS.F ht⟩) hS.2.2 dX10_append_24
      · skip
        have q_3 : (1 : Int) ≤ b.toInt := i_nlt2 (rfl : b.toInt = b.toInt) (show (1 : Int32).toInt = (1 : Int) from rfl) c_3
        refine lv_iload_n hx hb dX10_append_16 rfl (lv_at hl 2 rfl) ?_
        refine lv_bipush (v := 60) hx hb dX10_append_17 (by decide) ?_
        refine lv_icmp_le (tgt := 25) hx hb dX10_append_19 (by decide) (fun c_4 => ?_) (fun c_4 => ?_)
        · skip
          have q_4 : b.toInt ≤ (60 : Int) := i_le2 (rfl : b.toInt = b.toInt) (show (60 : Int32).toInt = (60 : Int) from rfl) c_4
          refine lv_aload_n hx hb dX10_append_25 rfl (lv_at hl 0 rfl) ?_
          refine va_get (D := D) (ci := 10) (v := .ref (ad 66)) (C := RX10) (T := TX10) (N := 6) hx hb hts inX10 hown hK hP 0 (g_at10 (Nat.le_of_ble_eq_true rfl) rfl) rfl 2 (by decide) lk0 (fun _ h9 => h9) rfl dX10_append_26 ?_
          refine lv_iload_n hx hb dX10_append_29 rfl (lv_at hl 1 rfl) ?_
          refine lv_iload_n hx hb dX10_append_30 rfl (lv_at hl 2 rfl) ?_
          refine g_calli (va_runV (As := [.int a, .int b]) (rest := []) ⟨hx, hb, hml, hown, hts⟩ (c_X2_lengthen l D cy ad hI _ iv ar a b h0 (by omega)) (cwV 2 hts gX10_append_X2_lengthen rfl rfl rfl (by decide +kernel) ⟨Nat.le_of_ble_eq_true rfl, Nat.le_of_ble_eq_true rfl⟩) (g_preV hP hK hSt hNw hS (g_at2 (Nat.le_of_ble_eq_true rfl) rfl) rfl) rfl rfl hl.1 rfl (lv_room (Nat.le_of_ble_eq_true rfl)) dX10_append_31 ⟨Nat.zero_le _, Nat.zero_le _⟩) hS (fun r_5 iv_5 ar_5 H locs w_5 hP hS => ?_)
          try dsimp only at w_5
          have hw1 : SZ iv_5 ∧ (r_5.toInt = 1 ∧ (iv 66 2).toInt + b.toInt ≤ 60 ∧ (iv_5 66 2).toInt = (iv 66 2).toInt + b.toInt ∨ r_5.toInt = 0 ∧ 60 < (iv 66 2).toInt + b.toInt ∧ (iv_5 66 2).toInt = (iv 66 2).toInt) := by
            rcases w_5 with ⟨q1, q2, q3⟩ | ⟨q1, q2, q3, q4⟩
            · exact ⟨by rw [q3]; exact hz, Or.inr ⟨q1, q2, by rw [q3]⟩⟩
            · exact ⟨fun c hc z => by rw [q4 c 1 (by omega)]; exact hz c hc z, Or.inl ⟨q1, q2, q3⟩⟩
          obtain ⟨hw2, hw3⟩ := hw1
          refine lv_if_eq (tgt := 47) hx hb dX10_append_34 (by decide) (fun c_6 => ?_) (fun c_6 => ?_)
          · skip
            have q_6 : r_5.toInt = (0 : Int) := i_eq2 (rfl : r_5.toInt = r_5.toInt) (show (0 : Int32).toInt = (0 : Int) from rfl) c_6
            refine lv_bipush (v := (-3)) hx hb dX10_append_47 (by decide) ?_
            rw [hQ]
            exact W.iret (v := (-3)) hx hb hr (fun t ht hW => ⟨⟨(-3), (iv_5, ar_5), rfl, ⟨hw2, by have z2 : (-2 : Int32).toInt = -2 := rfl; have z3 : (-3 : Int32).toInt = -3 := rfl; show _ ∧ _ ∧ _ ∧ (iv_5 66 2).toInt = _ ∨ _ ∧ _ ∧ _ ∧ (iv_5 66 2).toInt = _ ∨ _ ∧ _ ∧ (iv_5 66 2).toInt = _; omega⟩, by show va_P _ _ _ _; rw [ht]; exact hP⟩, hS.F ht⟩) hS.2.2 dX10_append_49
          · skip
            have q_6 : r_5.toInt ≠ (0 : Int) := i_ne2 (rfl : r_5.toInt = r_5.toInt) (show (0 : Int32).toInt = (0 : Int) from rfl) c_6
            refine lv_aload_n hx hb dX10_append_37 rfl (lv_at hl 0 rfl) ?_
            refine va_get (D := D) (ci := 10) (v := .ref (ad 66)) (C := RX10) (T := TX10) (N := 6) hx hb hts inX10 hown hK hP 0 (g_at10 (Nat.le_of_ble_eq_true rfl) rfl) rfl 2 (by decide) lk0 (fun _ h9 => h9) rfl dX10_append_38 ?_
            refine va_get (D := D) (ci := 2) (v := .int (iv_5 66 2)) (C := RX2) (T := TX2) (N := 5) hx hb hts inX2 hown hK hP 66 (g_at2 (Nat.le_of_ble_eq_true rfl) rfl) rfl 2 (by decide) lk1 (fun _ h9 => h9) rfl dX10_append_41 ?_
            refine lv_goto (tgt := 49) hx hb dX10_append_44 (by decide) ?_
            rw [hQ]
            exact W.iret (v := (iv_5 66 2)) hx hb hr (fun t ht hW => ⟨⟨(iv_5 66 2), (iv_5, ar_5), rfl, ⟨hw2, by have z2 : (-2 : Int32).toInt = -2 := rfl; have z3 : (-3 : Int32).toInt = -3 := rfl; show _ ∧ _ ∧ _ ∧ (iv_5 66 2).toInt = _ ∨ _ ∧ _ ∧ _ ∧ (iv_5 66 2).toInt = _ ∨ _ ∧ _ ∧ (iv_5 66 2).toInt = _; omega⟩, by show va_P _ _ _ _; rw [ht]; exact hP⟩, hS.F ht⟩) hS.2.2 dX10_append_49
        · skip
          have q_4 : (60 : Int) < b.toInt := i_nle2 (rfl : b.toInt = b.toInt) (show (60 : Int32).toInt = (60 : Int) from rfl) c_4
          refine lv_bipush (v := (-2)) hx hb dX10_append_22 (by decide) ?_
          rw [hQ]
          exact W.iret (v := (-2)) hx hb hr (fun t ht hW => ⟨⟨(-2), (iv, ar), rfl, ⟨hz, by have z2 : (-2 : Int32).toInt = -2 := rfl; have z3 : (-3 : Int32).toInt = -3 := rfl; show _ ∧ _ ∧ _ ∧ (iv 66 2).toInt = _ ∨ _ ∧ _ ∧ _ ∧ (iv 66 2).toInt = _ ∨ _ ∧ _ ∧ (iv 66 2).toInt = _; omega⟩, by show va_P _ _ _ _; rw [ht]; exact hP⟩, hS.F ht⟩) hS.2.2 dX10_append_24
set_option maxHeartbeats 4000000 in
set_option maxRecDepth 100000 in
theorem c_X10_readSlots (l : Launch) (D : va_G) (cy : Nat → ClassId) (ad : Nat → Nat) (hI : gInj ad) (sz : Nat) (iv : gIv) (ar : gAr)  (hz : SZ iv) : Met l yX10_readSlots wsX10_readSlots ({ frames := 5, cells := 0, slots := 0, locals := 123 } : Room) (va_Pc [.ref (ad 0)] (gPre D cy ad sz iv ar)) (va_Qi (fun (r : Int32) (u : gIv × gAr) => SZ u.1 ∧ (u.1 66 2).toInt = 0) (gPost D cy ad) (gA ad sz)) 0 0 (gA ad sz) := by
  refine Met.ofW (cc := cX10_readSlots) (maxL := 2) (ret := (some .int)) (by decide) rfl ?_
  intro p e s m args below meth c s₁ B hml hv
  obtain ⟨rfl, rfl, hP, hK, hSt, hNw⟩ := hv
  have hx := B.exec
  have hb := B.bytes
  have hr := B.returns
  have hts := atoms_spec (ws := wsX10_readSlots) B.pre
  have hown : s.vm.findClass RX10 = some m.cls := findClass_of_methodNamed B.named
  have hlocks := B.notSynchronized
  have hS : va_S (gA ad s.heap.size) s.heap s.heap [] := va_S.rf
  have inX10 : ∀ w ∈ u_ws RX10 TX10 6, w ∈ wsX10_readSlots := by decide +kernel
  have inX2 : ∀ w ∈ u_ws RX2 TX2 5, w ∈ wsX10_readSlots := by decide +kernel
  have inX8 : ∀ w ∈ u_ws RX8 TX8 5, w ∈ wsX10_readSlots := by decide +kernel
  have lk0 := hts (.fieldLink RX10 26 "FormationPlanner" "text" "LFormationPlanner$Formation;") (by decide +kernel)
  have lk1 := hts (.fieldLink RX10 118 "FormationPlanner$Formation" "repeats" "Z") (by decide +kernel)
  have lk2 := hts (.fieldLink RX10 122 "FormationPlanner$Formation" "places" "LFormationPlanner$Places;") (by decide +kernel)
  have lk3 := hts (.fieldLink RX10 12 "FormationPlanner" "scene" "LFormationPlanner$Scene;") (by decide +kernel)
  have lk4 := hts (.fieldLink RX10 87 "FormationPlanner$Scene" "slots" "LFormationPlanner$Places;") (by decide +kernel)
  have hl := lv_entry ([.ref (ad 0)]) (n := 2) (Nat.le_of_ble_eq_true rfl)
  rw [lg_entry_eq]
  generalize (lg_sl ([.ref (ad 0)]) ++ List.replicate (2 - (lg_sl ([.ref (ad 0)])).length) Slot.unset).toArray = ls at hl ⊢
  have hl : lv_has ls 2 [(0, .ref (ad 0))] := hl
  obtain ⟨Q, hQ⟩ : ∃ Q, Q = MQ below (va_Qi (fun (r : Int32) (u : gIv × gAr) => SZ u.1 ∧ (u.1 66 2).toInt = 0) (gPost D cy ad) (gA ad s.heap.size)) (([.ref (ad 0)] : List Value).toArray) s 0 0 (gA ad s.heap.size) := ⟨_, rfl⟩
  rw [← hQ]
  refine lv_aload_n hx hb dX10_readSlots_0 rfl (lv_at hl 0 rfl) ?_
  refine va_get (D := D) (ci := 10) (v := .ref (ad 66)) (C := RX10) (T := TX10) (N := 6) hx hb hts inX10 hown hK hP 0 (g_at10 (Nat.le_of_ble_eq_true rfl) rfl) rfl 2 (by decide) lk0 (fun _ h9 => h9) rfl dX10_readSlots_1 ?_
  refine g_calli (va_runV (As := []) (rest := []) ⟨hx, hb, hml, hown, hts⟩ (c_X2_read l D cy ad hI _ iv ar hz) (cwV 0 hts gX10_readSlots_X2_read rfl rfl rfl (by decide +kernel) ⟨Nat.le_of_ble_eq_true rfl, Nat.le_of_ble_eq_true rfl⟩) (g_preV hP hK hSt hNw hS (g_at2 (Nat.le_of_ble_eq_true rfl) rfl) rfl) rfl rfl hl.1 rfl (lv_room (Nat.le_of_ble_eq_true rfl)) dX10_readSlots_4 ⟨Nat.zero_le _, Nat.zero_le _⟩) hS (fun r_1 iv_1 ar_1 H locs w_1 hP hS => ?_)
  try dsimp only at w_1
  have hs1 := w_1.1
  have hl1 := w_1.2
  refine lv_istore_n (lv' := [(1, .int r_1), (0, .ref (ad 0))]) hx hb dX10_readSlots_7 rfl hl (by decide) rfl (fun ls hl => ?_)
  refine lv_iload_n hx hb dX10_readSlots_8 rfl (lv_at hl 0 rfl) ?_
  refine lv_if_ge (tgt := 14) hx hb dX10_readSlots_9 (by decide) (fun c_2 => ?_) (fun c_2 => ?_)
  · skip
    have q_2 : (0 : Int) ≤ r_1.toInt := i_le2 (show (0 : Int32).toInt = (0 : Int) from rfl) (rfl : r_1.toInt = r_1.toInt) c_2
    refine lv_iload_n hx hb dX10_readSlots_14 rfl (lv_at hl 0 rfl) ?_
    refine lv_bipush (v := 6) hx hb dX10_readSlots_15 (by decide) ?_
    refine lv_icmp_le (tgt := 23) hx hb dX10_readSlots_17 (by decide) (fun c_3 => ?_) (fun c_3 => ?_)
    · skip
      have q_3 : r_1.toInt ≤ (6 : Int) := i_le2 (rfl : r_1.toInt = r_1.toInt) (show (6 : Int32).toInt = (6 : Int) from rfl) c_3
      refine lv_aload_n hx hb dX10_readSlots_23 rfl (lv_at hl 1 rfl) ?_
      refine va_get (D := D) (ci := 10) (v := .ref (ad 66)) (C := RX10) (T := TX10) (N := 6) hx hb hts inX10 hown hK hP 0 (g_at10 (Nat.le_of_ble_eq_true rfl) rfl) rfl 2 (by decide) lk0 (fun _ h9 => h9) rfl dX10_readSlots_24 ?_
      refine va_get (D := D) (ci := 2) (v := .int (iv_1 66 4)) (C := RX2) (T := TX2) (N := 5) hx hb hts inX2 hown hK hP 66 (g_at2 (Nat.le_of_ble_eq_true rfl) rfl) rfl 4 (by decide) lk1 (fun _ h9 => h9) rfl dX10_readSlots_27 ?_
      refine lv_if_ne (tgt := 47) hx hb dX10_readSlots_30 (by decide) (fun c_4 => ?_) (fun c_4 => ?_)
      · skip
        have q_4 : (iv_1 66 4).toInt ≠ (0 : Int) := i_ne2 (rfl : (iv_1 66 4).toInt = (iv_1 66 4).toInt) (show (0 : Int32).toInt = (0 : Int) from rfl) c_4
        refine lv_bipush (v := (-4)) hx hb dX10_readSlots_47 (by decide) ?_
        rw [hQ]
        exact W.iret (v := (-4)) hx hb hr (fun t ht hW => ⟨⟨(-4), (iv_1, ar_1), rfl, ⟨hs1, hl1⟩, by show va_P _ _ _ _; rw [ht]; exact hP⟩, hS.F ht⟩) hS.2.2 dX10_readSlots_49
      · skip
        have q_4 : (iv_1 66 4).toInt = (0 : Int) := i_eq2 (rfl : (iv_1 66 4).toInt = (iv_1 66 4).toInt) (show (0 : Int32).toInt = (0 : Int) from rfl) c_4
        refine lv_aload_n hx hb dX10_readSlots_33 rfl (lv_at hl 1 rfl) ?_
        refine lv_aload_n hx hb dX10_readSlots_34 rfl (lv_at hl 1 rfl) ?_
        refine va_get (D := D) (ci := 10) (v := .ref (ad 66)) (C := RX10) (T := TX10) (N := 6) hx hb hts inX10 hown hK hP 0 (g_at10 (Nat.le_of_ble_eq_true rfl) rfl) rfl 2 (by decide) lk0 (fun _ h9 => h9) rfl dX10_readSlots_35 ?_
        refine va_get (D := D) (ci := 2) (v := .ref (ad 68)) (C := RX2) (T := TX2) (N := 5) hx hb hts inX2 hown hK hP 66 (g_at2 (Nat.le_of_ble_eq_true rfl) rfl) rfl 1 (by decide) lk2 (fun _ h9 => h9) rfl dX10_readSlots_38 ?_
        refine g_callSi (va_runV (As := [.ref (ad 68)]) (rest := []) ⟨hx, hb, hml, hown, hts⟩ (c_X10_hasObstacle l D cy ad hI _ iv_1 ar_1 68 (Nat.le_of_ble_eq_true rfl) rfl) (cwV 1 hts gX10_readSlots_X10_hasObstacle rfl rfl rfl (by decide +kernel) ⟨Nat.le_of_ble_eq_true rfl, Nat.le_of_ble_eq_true rfl⟩) (g_preV hP hK hSt hNw hS (g_at10 (Nat.le_of_ble_eq_true rfl) rfl) rfl) rfl rfl hl.1 rfl (lv_room (Nat.le_of_ble_eq_true rfl)) dX10_readSlots_41 ⟨Nat.zero_le _, Nat.zero_le _⟩) (fun r_5 w_5 => ?_)
        try dsimp only at w_5
        refine lv_if_eq (tgt := 50) hx hb dX10_readSlots_44 (by decide) (fun c_6 => ?_) (fun c_6 => ?_)
        · skip
          have q_6 : r_5.toInt = (0 : Int) := i_eq2 (rfl : r_5.toInt = r_5.toInt) (show (0 : Int32).toInt = (0 : Int) from rfl) c_6
          refine lv_aload_n hx hb dX10_readSlots_50 rfl (lv_at hl 1 rfl) ?_
          refine g_callv (va_runV (As := []) (rest := []) ⟨hx, hb, hml, hown, hts⟩ (c_X10_beginChange l D cy ad hI _ iv_1 ar_1 hs1) (cwV 0 hts gX10_readSlots_X10_beginChange rfl rfl rfl (by decide +kernel) ⟨Nat.le_of_ble_eq_true rfl, Nat.le_of_ble_eq_true rfl⟩) (g_preV hP hK hSt hNw hS (g_at10 (Nat.le_of_ble_eq_true rfl) rfl) rfl) rfl rfl hl.1 rfl (lv_room (Nat.le_of_ble_eq_true rfl)) dX10_readSlots_51 ⟨Nat.zero_le _, Nat.zero_le _⟩) hS (fun iv_7 ar_7 H locs w_7 hP hS => ?_)
          try dsimp only at w_7
          have hs2 : SZ iv_7 := w_7.2.2
          have hl2 : (iv_7 66 2).toInt = 0 := by rw [w_7.1 66 2 (by omega) (by omega)]; exact hl1
          refine lv_aload_n hx hb dX10_readSlots_54 rfl (lv_at hl 1 rfl) ?_
          refine va_get (D := D) (ci := 10) (v := .ref (ad 1)) (C := RX10) (T := TX10) (N := 6) hx hb hts inX10 hown hK hP 0 (g_at10 (Nat.le_of_ble_eq_true rfl) rfl) rfl 0 (by decide) lk3 (fun _ h9 => h9) rfl dX10_readSlots_55 ?_
          refine va_get (D := D) (ci := 8) (v := .ref (ad 6)) (C := RX8) (T := TX8) (N := 5) hx hb hts inX8 hown hK hP 1 (g_at8 (Nat.le_of_ble_eq_true rfl) rfl) rfl 3 (by decide) lk4 (fun _ h9 => h9) rfl dX10_readSlots_58 ?_
          refine lv_aload_n hx hb dX10_readSlots_61 rfl (lv_at hl 1 rfl) ?_
          refine va_get (D := D) (ci := 10) (v := .ref (ad 66)) (C := RX10) (T := TX10) (N := 6) hx hb hts inX10 hown hK hP 0 (g_at10 (Nat.le_of_ble_eq_true rfl) rfl) rfl 2 (by decide) lk0 (fun _ h9 => h9) rfl dX10_readSlots_62 ?_
          refine va_get (D := D) (ci := 2) (v := .ref (ad 68)) (C := RX2) (T := TX2) (N := 5) hx hb hts inX2 hown hK hP 66 (g_at2 (Nat.le_of_ble_eq_true rfl) rfl) rfl 1 (by decide) lk2 (fun _ h9 => h9) rfl dX10_readSlots_65 ?_
          refine g_callv (va_runV (As := [.ref (ad 68)]) (rest := []) ⟨hx, hb, hml, hown, hts⟩ (c_X5_copyFrom l D cy ad hI _ iv_7 ar_7 6 (Nat.le_of_ble_eq_true rfl) rfl 68 (Nat.le_of_ble_eq_true rfl) rfl) (cwV 1 hts gX10_readSlots_X5_copyFrom rfl rfl rfl (by decide +kernel) ⟨Nat.le_of_ble_eq_true rfl, Nat.le_of_ble_eq_true rfl⟩) (g_preV hP hK hSt hNw hS (g_at5 (Nat.le_of_ble_eq_true rfl) rfl) rfl) rfl rfl hl.1 rfl (lv_room (Nat.le_of_ble_eq_true rfl)) dX10_readSlots_68 ⟨Nat.zero_le _, Nat.zero_le _⟩) hS (fun iv_8 ar_8 H locs w_8 hP hS => ?_)
          try dsimp only at w_8
          have hk3 : KP iv_7 iv_8 := by rw [w_8.1]; exact (KP.rf hs2).up5 (by decide) (hs2 68 (by decide) (by decide))
          have hs3 := hk3.1
          have hl3 : (iv_8 66 2).toInt = 0 := by rw [hk3.2]; exact hl2
          refine lv_iload_n hx hb dX10_readSlots_71 rfl (lv_at hl 0 rfl) ?_
          rw [hQ]
          exact W.iret (v := r_1) hx hb hr (fun t ht hW => ⟨⟨r_1, (iv_8, ar_8), rfl, ⟨hs3, hl3⟩, by show va_P _ _ _ _; rw [ht]; exact hP⟩, hS.F ht⟩) hS.2.2 dX10_readSlots_72
        · skip
          have q_6 : r_5.toInt ≠ (0 : Int) := i_ne2 (rfl : r_5.toInt = r_5.toInt) (show (0 : Int32).toInt = (0 : Int) from rfl) c_6
          refine lv_bipush (v := (-4)) hx hb dX10_readSlots_47 (by decide) ?_
          rw [hQ]
          exact W.iret (v := (-4)) hx hb hr (fun t ht hW => ⟨⟨(-4), (iv_1, ar_1), rfl, ⟨hs1, hl1⟩, by show va_P _ _ _ _; rw [ht]; exact hP⟩, hS.F ht⟩) hS.2.2 dX10_readSlots_49
    · skip
      have q_3 : (6 : Int) < r_1.toInt := i_nle2 (rfl : r_1.toInt = r_1.toInt) (show (6 : Int32).toInt = (6 : Int) from rfl) c_3
      refine lv_bipush (v := (-3)) hx hb dX10_readSlots_20 (by decide) ?_
      rw [hQ]
      exact W.iret (v := (-3)) hx hb hr (fun t ht hW => ⟨⟨(-3), (iv_1, ar_1), rfl, ⟨hs1, hl1⟩, by show va_P _ _ _ _; rw [ht]; exact hP⟩, hS.F ht⟩) hS.2.2 dX10_readSlots_22
  · skip
    have q_2 : r_1.toInt < (0 : Int) := i_nle2 (show (0 : Int32).toInt = (0 : Int) from rfl) (rfl : r_1.toInt = r_1.toInt) c_2
    refine lv_iload_n hx hb dX10_readSlots_12 rfl (lv_at hl 0 rfl) ?_
    rw [hQ]
    exact W.iret (v := r_1) hx hb hr (fun t ht hW => ⟨⟨r_1, (iv_1, ar_1), rfl, ⟨hs1, hl1⟩, by show va_P _ _ _ _; rw [ht]; exact hP⟩, hS.F ht⟩) hS.2.2 dX10_readSlots_13
