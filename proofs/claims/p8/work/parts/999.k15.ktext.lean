set_option maxHeartbeats 4000000 in
set_option maxRecDepth 100000 in
theorem c_X8_hasObstacleAt (l : Launch) (D : va_G) (cy : Nat → ClassId) (ad : Nat → Nat) (hI : gInj ad) (sz : Nat) (iv : gIv) (ar : gAr) (a : Int32)  : Met l yX8_hasObstacleAt wsX8_hasObstacleAt ({ frames := 1, cells := 0, slots := 0, locals := 20 } : Room) (va_Pc [.ref (ad 1), .int a] (gPre D cy ad sz iv ar)) (vp_Si (fun r => True)) 0 0 (fun _ => False) := by
  refine Met.ofW (cc := cX8_hasObstacleAt) (maxL := 2) (ret := (some .boolean)) (by decide) rfl ?_
  intro p e s m args below meth c s₁ B hml hv
  obtain ⟨rfl, rfl, hP, hK, hSt, hNw⟩ := hv
  have hx := B.exec
  have hb := B.bytes
  have hr := B.returns
  have hts := atoms_spec (ws := wsX8_hasObstacleAt) B.pre
  have hown : s.vm.findClass RX8 = some m.cls := findClass_of_methodNamed B.named
  have hlocks := B.notSynchronized
  have hS : va_S (gA ad s.heap.size) s.heap s.heap [] := va_S.rf
  have inX8 : ∀ w ∈ u_ws RX8 TX8 5, w ∈ wsX8_hasObstacleAt := by decide +kernel
  have lk0 := hts (.initialized RX10) (by decide +kernel)
  have lk1 := hts (.static yX10_isCell) (by decide +kernel)
  have lk2 := hts (.fieldLink RX8 15 "FormationPlanner$Scene" "obstacles" "[I") (by decide +kernel)
  have hl := lv_entry ([.ref (ad 1), .int a]) (n := 2) (Nat.le_of_ble_eq_true rfl)
  rw [lg_entry_eq]
  generalize (lg_sl ([.ref (ad 1), .int a]) ++ List.replicate (2 - (lg_sl ([.ref (ad 1), .int a])).length) Slot.unset).toArray = ls at hl ⊢
  have hl : lv_has ls 2 [(0, .ref (ad 1)), (1, .int a)] := hl
  obtain ⟨Q, hQ⟩ : ∃ Q, Q = MQ below (vp_Si (fun r => True)) (([.ref (ad 1), .int a] : List Value).toArray) s 0 0 (fun _ => False) := ⟨_, rfl⟩
  rw [← hQ]
  refine lv_iload_n hx hb dX8_hasObstacleAt_0 rfl (lv_at hl 1 rfl) ?_
  refine g_callSi (va_runSN (As := [.int a]) (rest := []) ⟨hx, hb, hml, hown, hts⟩ (c_X10_isCell l a) ⟨va_cnB 1 hts gX8_hasObstacleAt_X10_isCell_n28 rfl rfl rfl (hNw (.methodLinkNest RX8 28 yX10_isCell "FormationPlanner") (by decide +kernel)) lk0 (by decide +kernel) ⟨Nat.le_of_ble_eq_true rfl, Nat.le_of_ble_eq_true rfl⟩, lk1, trivial⟩ (g_preT) rfl rfl hl.1 rfl (lv_room (Nat.le_of_ble_eq_true rfl)) dX8_hasObstacleAt_1 ⟨Nat.zero_le _, Nat.zero_le _⟩) (fun r_1 w_1 => ?_)
  try dsimp only at w_1
  refine lv_if_eq (tgt := 20) hx hb dX8_hasObstacleAt_4 (by decide) (fun c_2 => ?_) (fun c_2 => ?_)
  · skip
    have q_2 : r_1.toInt = (0 : Int) := i_eq2 (rfl : r_1.toInt = r_1.toInt) (show (0 : Int32).toInt = (0 : Int) from rfl) c_2
    refine lv_iconst (v := 0) hx hb dX8_hasObstacleAt_20 (by decide) ?_
    rw [hQ]
    exact W.zret (v := 0) hx hb hr rfl (fun t ht hW => ⟨0, rfl, trivial, ht⟩) (fun q h => by cases h) dX8_hasObstacleAt_21
  · skip
    have q_2 : r_1.toInt ≠ (0 : Int) := i_ne2 (rfl : r_1.toInt = r_1.toInt) (show (0 : Int32).toInt = (0 : Int) from rfl) c_2
    refine lv_aload_n hx hb dX8_hasObstacleAt_7 rfl (lv_at hl 0 rfl) ?_
    refine va_get (D := D) (ci := 8) (v := .ref (ad 3)) (C := RX8) (T := TX8) (N := 5) hx hb hts inX8 hown hK hP 1 (g_at8 (Nat.le_of_ble_eq_true rfl) rfl) rfl 1 (by decide) lk2 (fun _ h9 => h9) rfl dX8_hasObstacleAt_8 ?_
    refine lv_iload_n hx hb dX8_hasObstacleAt_11 rfl (lv_at hl 1 rfl) ?_
    refine va_iald hx hb hK hP 3 0 (g_at12 (Nat.le_of_ble_eq_true rfl) rfl) rfl (g_in (N := 108) (rfl : a.toInt = a.toInt) rfl (by omega) (by omega)) dX8_hasObstacleAt_12 ?_
    refine lv_topi (fun v_3 ev_3 => ?_)
    refine lv_if_eq (tgt := 20) hx hb dX8_hasObstacleAt_13 (by decide) (fun c_4 => ?_) (fun c_4 => ?_)
    · skip
      have q_4 : v_3.toInt = (0 : Int) := i_eq2 (rfl : v_3.toInt = v_3.toInt) (show (0 : Int32).toInt = (0 : Int) from rfl) c_4
      refine lv_iconst (v := 0) hx hb dX8_hasObstacleAt_20 (by decide) ?_
      rw [hQ]
      exact W.zret (v := 0) hx hb hr rfl (fun t ht hW => ⟨0, rfl, trivial, ht⟩) (fun q h => by cases h) dX8_hasObstacleAt_21
    · skip
      have q_4 : v_3.toInt ≠ (0 : Int) := i_ne2 (rfl : v_3.toInt = v_3.toInt) (show (0 : Int32).toInt = (0 : Int) from rfl) c_4
      refine lv_iconst (v := 1) hx hb dX8_hasObstacleAt_16 (by decide) ?_
      refine lv_goto (tgt := 21) hx hb dX8_hasObstacleAt_17 (by decide) ?_
      rw [hQ]
      exact W.zret (v := 1) hx hb hr rfl (fun t ht hW => ⟨1, rfl, trivial, ht⟩) (fun q h => by cases h) dX8_hasObstacleAt_21
set_option maxHeartbeats 4000000 in
set_option maxRecDepth 100000 in
theorem c_X8_obstacleCount (l : Launch) (D : va_G) (cy : Nat → ClassId) (ad : Nat → Nat) (hI : gInj ad) (sz : Nat) (iv : gIv) (ar : gAr)   : Met l yX8_obstacleCount wsX8_obstacleCount ({ frames := 0, cells := 0, slots := 0, locals := 0 } : Room) (va_Pc [.ref (ad 1)] (gPre D cy ad sz iv ar)) (vp_Si (fun r => True)) 0 0 (fun _ => False) := by
  refine Met.ofW (cc := cX8_obstacleCount) (maxL := 3) (ret := (some .int)) (by decide) rfl ?_
  intro p e s m args below meth c s₁ B hml hv
  obtain ⟨rfl, rfl, hP, hK, hSt, hNw⟩ := hv
  have hx := B.exec
  have hb := B.bytes
  have hr := B.returns
  have hts := atoms_spec (ws := wsX8_obstacleCount) B.pre
  have hown : s.vm.findClass RX8 = some m.cls := findClass_of_methodNamed B.named
  have hlocks := B.notSynchronized
  have hS : va_S (gA ad s.heap.size) s.heap s.heap [] := va_S.rf
  have inX8 : ∀ w ∈ u_ws RX8 TX8 5, w ∈ wsX8_obstacleCount := by decide +kernel
  have lk0 := hts (.fieldLink RX8 15 "FormationPlanner$Scene" "obstacles" "[I") (by decide +kernel)
  have hl := lv_entry ([.ref (ad 1)]) (n := 3) (Nat.le_of_ble_eq_true rfl)
  rw [lg_entry_eq]
  generalize (lg_sl ([.ref (ad 1)]) ++ List.replicate (3 - (lg_sl ([.ref (ad 1)])).length) Slot.unset).toArray = ls at hl ⊢
  have hl : lv_has ls 3 [(0, .ref (ad 1))] := hl
  obtain ⟨Q, hQ⟩ : ∃ Q, Q = MQ below (vp_Si (fun r => True)) (([.ref (ad 1)] : List Value).toArray) s 0 0 (fun _ => False) := ⟨_, rfl⟩
  rw [← hQ]
  refine lv_iconst (v := 0) hx hb dX8_obstacleCount_0 (by decide) ?_
  refine lv_istore_n (lv' := [(1, .int 0), (0, .ref (ad 1))]) hx hb dX8_obstacleCount_1 rfl hl (by decide) rfl (fun ls hl => ?_)
  refine lv_iconst (v := 0) hx hb dX8_obstacleCount_2 (by decide) ?_
  refine lv_istore_n (lv' := [(2, .int 0), (1, .int 0), (0, .ref (ad 1))]) hx hb dX8_obstacleCount_3 rfl hl (by decide) rfl (fun ls hl => ?_)
  have loop3 : ∀ (n : Nat) (x2_1 : Int32) (x1_2 : Int32) (ls : Array Slot), ((108 - (x2_1.toInt)).toNat) < n → (0 ≤ (x2_1.toInt) ∧ (x2_1.toInt) ≤ 108) → lv_has ls 3 [(2, .int x2_1), (1, .int x1_2), (0, .ref (ad 1))] → W p l e (headSpec wsX8_obstacleCount (({ frames := 0, cells := 0, slots := 0, locals := 0 } : Room))).room s m (([.ref (ad 1)] : List Value).toArray) below meth c s.heap [] 0 0 Q (F0 m 4 ls []) := by
    intro n
    induction n with
    | zero => intro x2_1 x1_2 ls hm; omega
    | succ n ih3 =>
      intro x2_1 x1_2 ls hm hg0 hl
      refine lv_iload_n hx hb dX8_obstacleCount_4 rfl (lv_at hl 0 rfl) ?_
      refine lv_bipush (v := 108) hx hb dX8_obstacleCount_5 (by decide) ?_
      refine lv_icmp_ge (tgt := 25) hx hb dX8_obstacleCount_7 (by decide) (fun c_4 => ?_) (fun c_4 => ?_)
      · skip
        have q_4 : (108 : Int) ≤ x2_1.toInt := i_le2 (show (108 : Int32).toInt = (108 : Int) from rfl) (rfl : x2_1.toInt = x2_1.toInt) c_4
        refine lv_iload_n hx hb dX8_obstacleCount_25 rfl (lv_at hl 1 rfl) ?_
        rw [hQ]
        exact W.iret (v := x1_2) hx hb hr (fun t ht hW => ⟨x1_2, rfl, trivial, ht⟩) (fun q h => by cases h) dX8_obstacleCount_26
      · skip
        have q_4 : x2_1.toInt < (108 : Int) := i_nle2 (show (108 : Int32).toInt = (108 : Int) from rfl) (rfl : x2_1.toInt = x2_1.toInt) c_4
        refine lv_iload_n hx hb dX8_obstacleCount_10 rfl (lv_at hl 1 rfl) ?_
        refine lv_aload_n hx hb dX8_obstacleCount_11 rfl (lv_at hl 2 rfl) ?_
        refine va_get (D := D) (ci := 8) (v := .ref (ad 3)) (C := RX8) (T := TX8) (N := 5) hx hb hts inX8 hown hK hP 1 (g_at8 (Nat.le_of_ble_eq_true rfl) rfl) rfl 1 (by decide) lk0 (fun _ h9 => h9) rfl dX8_obstacleCount_12 ?_
        refine lv_iload_n hx hb dX8_obstacleCount_15 rfl (lv_at hl 0 rfl) ?_
        refine va_iald hx hb hK hP 3 0 (g_at12 (Nat.le_of_ble_eq_true rfl) rfl) rfl (g_in (N := 108) (rfl : x2_1.toInt = x2_1.toInt) rfl (by omega) (by omega)) dX8_obstacleCount_16 ?_
        refine lv_topi (fun v_5 ev_5 => ?_)
        refine lv_iadd hx hb dX8_obstacleCount_17 ?_
        refine lv_topi (fun v_6 ev_6 => ?_)
        refine lv_istore_n (lv' := [(1, .int v_6), (2, .int x2_1), (0, .ref (ad 1))]) hx hb dX8_obstacleCount_18 rfl hl (by decide) rfl (fun ls hl => ?_)
        obtain ⟨x2_7, ex2_7⟩ : ∃ y : Int32, y = x2_1 + 1 := ⟨_, rfl⟩
        have tx2_7 : x2_7.toInt = x2_1.toInt + (1 : Int) := i_add (rfl : x2_1.toInt = x2_1.toInt) (show (1 : Int32).toInt = (1 : Int) from rfl) (by omega) (by omega) ex2_7
        refine lv_iinc (v := x2_7) (lv' := [(2, .int x2_7), (1, .int v_6), (0, .ref (ad 1))]) hx hb dX8_obstacleCount_19 hl (k := 1) rfl (by rw [ex2_7]; rfl) (by decide) rfl (fun ls hl => ?_)
        refine lv_goto (tgt := 4) hx hb dX8_obstacleCount_22 (by decide) ?_
        exact ih3 x2_7 v_6 _ (by omega) (by omega) (lv_sub hl [0, 1, 2] rfl)
  have zl_8 : (0 : Int32).toInt = (0 : Int) := rfl
  have zl_9 : (0 : Int32).toInt = (0 : Int) := rfl
  exact loop3 (((108 - ((0 : Int))).toNat) + 1) 0 0 _ (by omega) (by omega) (lv_sub hl [0, 1, 2] rfl)
set_option maxHeartbeats 4000000 in
set_option maxRecDepth 100000 in
theorem c_X8_dronesAtSlots (l : Launch) (D : va_G) (cy : Nat → ClassId) (ad : Nat → Nat) (hI : gInj ad) (sz : Nat) (iv : gIv) (ar : gAr)   : Met l yX8_dronesAtSlots wsX8_dronesAtSlots ({ frames := 2, cells := 0, slots := 0, locals := 42 } : Room) (va_Pc [.ref (ad 1)] (gPre D cy ad sz iv ar)) (vp_Si (fun r => True)) 0 0 (fun _ => False) := by
  refine Met.ofW (cc := cX8_dronesAtSlots) (maxL := 3) (ret := (some .int)) (by decide) rfl ?_
  intro p e s m args below meth c s₁ B hml hv
  obtain ⟨rfl, rfl, hP, hK, hSt, hNw⟩ := hv
  have hx := B.exec
  have hb := B.bytes
  have hr := B.returns
  have hts := atoms_spec (ws := wsX8_dronesAtSlots) B.pre
  have hown : s.vm.findClass RX8 = some m.cls := findClass_of_methodNamed B.named
  have hlocks := B.notSynchronized
  have hS : va_S (gA ad s.heap.size) s.heap s.heap [] := va_S.rf
  have inX5 : ∀ w ∈ u_ws RX5 TX5 2, w ∈ wsX8_dronesAtSlots := by decide +kernel
  have inX8 : ∀ w ∈ u_ws RX8 TX8 5, w ∈ wsX8_dronesAtSlots := by decide +kernel
  have lk0 := hts (.fieldLink RX8 21 "FormationPlanner$Scene" "drones" "LFormationPlanner$Places;") (by decide +kernel)
  have lk1 := hts (.fieldLink RX8 32 "FormationPlanner$Places" "size" "I") (by decide +kernel)
  have lk2 := hts (.fieldLink RX8 25 "FormationPlanner$Scene" "slots" "LFormationPlanner$Places;") (by decide +kernel)
  have hl := lv_entry ([.ref (ad 1)]) (n := 3) (Nat.le_of_ble_eq_true rfl)
  rw [lg_entry_eq]
  generalize (lg_sl ([.ref (ad 1)]) ++ List.replicate (3 - (lg_sl ([.ref (ad 1)])).length) Slot.unset).toArray = ls at hl ⊢
  have hl : lv_has ls 3 [(0, .ref (ad 1))] := hl
  obtain ⟨Q, hQ⟩ : ∃ Q, Q = MQ below (vp_Si (fun r => True)) (([.ref (ad 1)] : List Value).toArray) s 0 0 (fun _ => False) := ⟨_, rfl⟩
  rw [← hQ]
  refine lv_iconst (v := 0) hx hb dX8_dronesAtSlots_0 (by decide) ?_
  refine lv_istore_n (lv' := [(1, .int 0), (0, .ref (ad 1))]) hx hb dX8_dronesAtSlots_1 rfl hl (by decide) rfl (fun ls hl => ?_)
  refine lv_iconst (v := 0) hx hb dX8_dronesAtSlots_2 (by decide) ?_
  refine lv_istore_n (lv' := [(2, .int 0), (1, .int 0), (0, .ref (ad 1))]) hx hb dX8_dronesAtSlots_3 rfl hl (by decide) rfl (fun ls hl => ?_)
  have loop3 : ∀ (n : Nat) (x2_1 : Int32) (x1_2 : Int32) (ls : Array Slot), (((iv 4 1).toInt - (x2_1.toInt)).toNat) < n → (0 ≤ (x2_1.toInt)) → lv_has ls 3 [(2, .int x2_1), (1, .int x1_2), (0, .ref (ad 1))] → W p l e (headSpec wsX8_dronesAtSlots (({ frames := 2, cells := 0, slots := 0, locals := 42 } : Room))).room s m (([.ref (ad 1)] : List Value).toArray) below meth c s.heap [] 0 0 Q (F0 m 4 ls []) := by
    intro n
    induction n with
    | zero => intro x2_1 x1_2 ls hm; omega
    | succ n ih3 =>
      intro x2_1 x1_2 ls hm hg0 hl
      refine lv_iload_n hx hb dX8_dronesAtSlots_4 rfl (lv_at hl 0 rfl) ?_
      refine lv_aload_n hx hb dX8_dronesAtSlots_5 rfl (lv_at hl 2 rfl) ?_
      refine va_get (D := D) (ci := 8) (v := .ref (ad 4)) (C := RX8) (T := TX8) (N := 5) hx hb hts inX8 hown hK hP 1 (g_at8 (Nat.le_of_ble_eq_true rfl) rfl) rfl 2 (by decide) lk0 (fun _ h9 => h9) rfl dX8_dronesAtSlots_6 ?_
      refine va_get (D := D) (ci := 5) (v := .int (iv 4 1)) (C := RX5) (T := TX5) (N := 2) hx hb hts inX5 hown hK hP 4 (g_at5 (Nat.le_of_ble_eq_true rfl) rfl) rfl 1 (by decide) lk1 (fun _ h9 => h9) rfl dX8_dronesAtSlots_9 ?_
      refine lv_icmp_ge (tgt := 43) hx hb dX8_dronesAtSlots_12 (by decide) (fun c_4 => ?_) (fun c_4 => ?_)
      · skip
        have q_4 : (iv 4 1).toInt ≤ x2_1.toInt := i_le2 (rfl : (iv 4 1).toInt = (iv 4 1).toInt) (rfl : x2_1.toInt = x2_1.toInt) c_4
        refine lv_iload_n hx hb dX8_dronesAtSlots_43 rfl (lv_at hl 1 rfl) ?_
        rw [hQ]
        exact W.iret (v := x1_2) hx hb hr (fun t ht hW => ⟨x1_2, rfl, trivial, ht⟩) (fun q h => by cases h) dX8_dronesAtSlots_44
      · skip
        have q_4 : x2_1.toInt < (iv 4 1).toInt := i_nle2 (rfl : (iv 4 1).toInt = (iv 4 1).toInt) (rfl : x2_1.toInt = x2_1.toInt) c_4
        have hrg := i_rng (iv 4 1)
        refine lv_aload_n hx hb dX8_dronesAtSlots_15 rfl (lv_at hl 2 rfl) ?_
        refine va_get (D := D) (ci := 8) (v := .ref (ad 6)) (C := RX8) (T := TX8) (N := 5) hx hb hts inX8 hown hK hP 1 (g_at8 (Nat.le_of_ble_eq_true rfl) rfl) rfl 3 (by decide) lk2 (fun _ h9 => h9) rfl dX8_dronesAtSlots_16 ?_
        refine lv_aload_n hx hb dX8_dronesAtSlots_19 rfl (lv_at hl 2 rfl) ?_
        refine va_get (D := D) (ci := 8) (v := .ref (ad 4)) (C := RX8) (T := TX8) (N := 5) hx hb hts inX8 hown hK hP 1 (g_at8 (Nat.le_of_ble_eq_true rfl) rfl) rfl 2 (by decide) lk0 (fun _ h9 => h9) rfl dX8_dronesAtSlots_20 ?_
        refine lv_iload_n hx hb dX8_dronesAtSlots_23 rfl (lv_at hl 0 rfl) ?_
        refine g_callSi (va_runV (As := [.int x2_1]) (rest := [.ref (ad 6)]) ⟨hx, hb, hml, hown, hts⟩ (c_X5_cellAt l D cy ad hI _ iv ar 4 (Nat.le_of_ble_eq_true rfl) rfl x2_1) (cwV 1 hts gX8_dronesAtSlots_X5_cellAt rfl rfl rfl (by decide +kernel) ⟨Nat.le_of_ble_eq_true rfl, Nat.le_of_ble_eq_true rfl⟩) (g_preV hP hK hSt hNw hS (g_at5 (Nat.le_of_ble_eq_true rfl) rfl) rfl) rfl rfl hl.1 rfl (lv_room (Nat.le_of_ble_eq_true rfl)) dX8_dronesAtSlots_24 ⟨Nat.zero_le _, Nat.zero_le _⟩) (fun r_5 w_5 => ?_)
        try dsimp only at w_5
        refine g_callSi (va_runV (As := [.int r_5]) (rest := []) ⟨hx, hb, hml, hown, hts⟩ (c_X5_find l D cy ad hI _ iv ar 6 (Nat.le_of_ble_eq_true rfl) rfl r_5) (cwV 1 hts gX8_dronesAtSlots_X5_find rfl rfl rfl (by decide +kernel) ⟨Nat.le_of_ble_eq_true rfl, Nat.le_of_ble_eq_true rfl⟩) (g_preV hP hK hSt hNw hS (g_at5 (Nat.le_of_ble_eq_true rfl) rfl) rfl) rfl rfl hl.1 rfl (lv_room (Nat.le_of_ble_eq_true rfl)) dX8_dronesAtSlots_27 ⟨Nat.zero_le _, Nat.zero_le _⟩) (fun r_6 w_6 => ?_)
        try dsimp only at w_6
        refine lv_iconst (v := (-1)) hx hb dX8_dronesAtSlots_30 (by decide) ?_
        refine lv_icmp_eq (tgt := 37) hx hb dX8_dronesAtSlots_31 (by decide) (fun c_7 => ?_) (fun c_7 => ?_)
        · skip
          have q_7 : r_6.toInt = (-1 : Int) := i_eq2 (rfl : r_6.toInt = r_6.toInt) (show ((-1) : Int32).toInt = (-1 : Int) from rfl) c_7
          obtain ⟨x2_8, ex2_8⟩ : ∃ y : Int32, y = x2_1 + 1 := ⟨_, rfl⟩
          have tx2_8 : x2_8.toInt = x2_1.toInt + (1 : Int) := i_add (rfl : x2_1.toInt = x2_1.toInt) (show (1 : Int32).toInt = (1 : Int) from rfl) (by omega) (by omega) ex2_8
          refine lv_iinc (v := x2_8) (lv' := [(2, .int x2_8), (1, .int x1_2), (0, .ref (ad 1))]) hx hb dX8_dronesAtSlots_37 hl (k := 0) rfl (by rw [ex2_8]; rfl) (by decide) rfl (fun ls hl => ?_)
          refine lv_goto (tgt := 4) hx hb dX8_dronesAtSlots_40 (by decide) ?_
          exact ih3 x2_8 x1_2 _ (by omega) (by omega) (lv_sub hl [0, 1, 2] rfl)
        · skip
          have q_7 : r_6.toInt ≠ (-1 : Int) := i_ne2 (rfl : r_6.toInt = r_6.toInt) (show ((-1) : Int32).toInt = (-1 : Int) from rfl) c_7
          obtain ⟨x1_9, ex1_9⟩ : ∃ y : Int32, y = x1_2 + 1 := ⟨_, rfl⟩
          refine lv_iinc (v := x1_9) (lv' := [(1, .int x1_9), (2, .int x2_1), (0, .ref (ad 1))]) hx hb dX8_dronesAtSlots_34 hl (k := 1) rfl (by rw [ex1_9]; rfl) (by decide) rfl (fun ls hl => ?_)
          obtain ⟨x2_10, ex2_10⟩ : ∃ y : Int32, y = x2_1 + 1 := ⟨_, rfl⟩
          have tx2_10 : x2_10.toInt = x2_1.toInt + (1 : Int) := i_add (rfl : x2_1.toInt = x2_1.toInt) (show (1 : Int32).toInt = (1 : Int) from rfl) (by omega) (by omega) ex2_10
          refine lv_iinc (v := x2_10) (lv' := [(2, .int x2_10), (1, .int x1_9), (0, .ref (ad 1))]) hx hb dX8_dronesAtSlots_37 hl (k := 1) rfl (by rw [ex2_10]; rfl) (by decide) rfl (fun ls hl => ?_)
          refine lv_goto (tgt := 4) hx hb dX8_dronesAtSlots_40 (by decide) ?_
          exact ih3 x2_10 x1_9 _ (by omega) (by omega) (lv_sub hl [0, 1, 2] rfl)
  have zl_11 : (0 : Int32).toInt = (0 : Int) := rfl
  have zl_12 : (0 : Int32).toInt = (0 : Int) := rfl
  exact loop3 ((((iv 4 1).toInt - ((0 : Int))).toNat) + 1) 0 0 _ (by omega) (by omega) (lv_sub hl [0, 1, 2] rfl)
set_option maxHeartbeats 4000000 in
set_option maxRecDepth 100000 in
theorem c_X3_bringBack (l : Launch) (D : va_G) (cy : Nat → ClassId) (ad : Nat → Nat) (hI : gInj ad) (sz : Nat) (iv : gIv) (ar : gAr)  (hz : SZ iv) : Met l yX3_bringBack wsX3_bringBack ({ frames := 3, cells := 0, slots := 0, locals := 82 } : Room) (va_Pc [.ref (ad 8), .ref (ad 1)] (gPre D cy ad sz iv ar)) (va_Qi (fun (r : Int32) (u : gIv × gAr) => KP iv u.1) (gPost D cy ad) (gA ad sz)) 0 0 (gA ad sz) := by
  refine Met.ofW (cc := cX3_bringBack) (maxL := 2) (ret := (some .boolean)) (by decide) rfl ?_
  intro p e s m args below meth c s₁ B hml hv
  obtain ⟨rfl, rfl, hP, hK, hSt, hNw⟩ := hv
  have hx := B.exec
  have hb := B.bytes
  have hr := B.returns
  have hts := atoms_spec (ws := wsX3_bringBack) B.pre
  have hown : s.vm.findClass RX3 = some m.cls := findClass_of_methodNamed B.named
  have hlocks := B.notSynchronized
  have hS : va_S (gA ad s.heap.size) s.heap s.heap [] := va_S.rf
  have inX3 : ∀ w ∈ u_ws RX3 TX3 3, w ∈ wsX3_bringBack := by decide +kernel
  have lk0 := hts (.fieldLink RX3 32 "FormationPlanner$History" "size" "I") (by decide +kernel)
  have lk1 := hts (.fieldLink RX3 18 "FormationPlanner$History" "next" "I") (by decide +kernel)
  have lk2 := hts (.fieldLink RX3 11 "FormationPlanner$History" "scenes" "[LFormationPlanner$Scene;") (by decide +kernel)
  have hl := lv_entry ([.ref (ad 8), .ref (ad 1)]) (n := 2) (Nat.le_of_ble_eq_true rfl)
  rw [lg_entry_eq]
  generalize (lg_sl ([.ref (ad 8), .ref (ad 1)]) ++ List.replicate (2 - (lg_sl ([.ref (ad 8), .ref (ad 1)])).length) Slot.unset).toArray = ls at hl ⊢
  have hl : lv_has ls 2 [(0, .ref (ad 8)), (1, .ref (ad 1))] := hl
  obtain ⟨Q, hQ⟩ : ∃ Q, Q = MQ below (va_Qi (fun (r : Int32) (u : gIv × gAr) => KP iv u.1) (gPost D cy ad) (gA ad s.heap.size)) (([.ref (ad 8), .ref (ad 1)] : List Value).toArray) s 0 0 (gA ad s.heap.size) := ⟨_, rfl⟩
  rw [← hQ]
  have fk0 : KP iv iv := KP.rf hz
  have h9 : ln 9 = 10 := rfl
  refine lv_aload_n hx hb dX3_bringBack_0 rfl (lv_at hl 0 rfl) ?_
  refine va_get (D := D) (ci := 3) (v := .int (iv 8 2)) (C := RX3) (T := TX3) (N := 3) hx hb hts inX3 hown hK hP 8 (g_at3 (Nat.le_of_ble_eq_true rfl) rfl) rfl 2 (by decide) lk0 (fun _ h9 => h9) rfl dX3_bringBack_1 ?_
  refine lv_if_ne (tgt := 9) hx hb dX3_bringBack_4 (by decide) (fun c_1 => ?_) (fun c_1 => ?_)
  · skip
    have q_1 : (iv 8 2).toInt ≠ (0 : Int) := i_ne2 (rfl : (iv 8 2).toInt = (iv 8 2).toInt) (show (0 : Int32).toInt = (0 : Int) from rfl) c_1
    refine lv_aload_n hx hb dX3_bringBack_9 rfl (lv_at hl 0 rfl) ?_
    refine lv_aload_n hx hb dX3_bringBack_10 rfl (lv_at hl 0 rfl) ?_
    refine va_get (D := D) (ci := 3) (v := .int (iv 8 1)) (C := RX3) (T := TX3) (N := 3) hx hb hts inX3 hown hK hP 8 (g_at3 (Nat.le_of_ble_eq_true rfl) rfl) rfl 1 (by decide) lk1 (fun _ h9 => h9) rfl dX3_bringBack_11 ?_
    refine lv_iconst (v := 1) hx hb dX3_bringBack_14 (by decide) ?_
    refine lv_isub hx hb dX3_bringBack_15 ?_
    refine lv_topi (fun v_2 ev_2 => ?_)
    refine lv_bipush (v := 8) hx hb dX3_bringBack_16 (by decide) ?_
    have zl_3 : (8 : Int32).toInt = (8 : Int) := rfl
    refine g_callSi (va_runS (As := [.int v_2, .int 8]) (rest := [.ref (ad 8)]) ⟨hx, hb, hml, hown, hts⟩ (c_J9_floorMod_7cf53 l v_2 8 rfl) (va_cwS 2 hts gX3_bringBack_J9_floorMod_7cf53 rfl rfl rfl (by decide +kernel) ⟨Nat.le_of_ble_eq_true rfl, Nat.le_of_ble_eq_true rfl⟩) (g_preT) rfl rfl hl.1 rfl (lv_room (Nat.le_of_ble_eq_true rfl)) dX3_bringBack_18 ⟨Nat.zero_le _, Nat.zero_le _⟩) (fun r_4 w_4 => ?_)
    try dsimp only at w_4
    refine va_put (D := D) (ci := 3) (v := .int r_4) (ty := .int) (C := RX3) (T := TX3) (N := 3) hx hb hts inX3 tyX3 tyX3_ok nmX3 hown hK hP (gD hI) hS 8 (g_at3 (Nat.le_of_ble_eq_true rfl) rfl) rfl 1 (by decide) lk1 (fun _ h9 => h9) rfl (by decide +kernel) rfl rfl (Nat.le_of_ble_eq_true rfl) dX3_bringBack_21 (fun H locs hP _ hS => ?_)
    have hP : va_P D vwCl (GW cy ad (u2 iv 8 1 r_4) ar) H := by rw [← g_pt3_1 (Nat.le_of_ble_eq_true rfl) rfl]; exact hP
    obtain ⟨iv_5, eiv_5⟩ : ∃ z : gIv, z = u2 iv 8 1 r_4 := ⟨_, rfl⟩
    rw [← eiv_5] at hP
    have fk_5 : KP iv iv_5 := by rw [eiv_5]; exact fk0.up (by decide) (by omega)
    refine lv_aload_n hx hb dX3_bringBack_24 rfl (lv_at hl 1 rfl) ?_
    refine lv_aload_n hx hb dX3_bringBack_25 rfl (lv_at hl 0 rfl) ?_
    refine va_get (D := D) (ci := 3) (v := .ref (ad 9)) (C := RX3) (T := TX3) (N := 3) hx hb hts inX3 hown hK hP 8 (g_at3 (Nat.le_of_ble_eq_true rfl) rfl) rfl 0 (by decide) lk2 (fun _ h9 => h9) rfl dX3_bringBack_26 ?_
    refine lv_aload_n hx hb dX3_bringBack_29 rfl (lv_at hl 0 rfl) ?_
    refine va_get (D := D) (ci := 3) (v := .int (iv_5 8 1)) (C := RX3) (T := TX3) (N := 3) hx hb hts inX3 hown hK hP 8 (g_at3 (Nat.le_of_ble_eq_true rfl) rfl) rfl 1 (by decide) lk1 (fun _ h9 => h9) rfl dX3_bringBack_30 ?_
    have f_6 : iv_5 8 1 = r_4 := by rw [eiv_5]; exact u2_s _ _ _ _
    refine lv_bipush (v := 8) hx hb dX3_bringBack_33 (by decide) ?_
    have zl_7 : (8 : Int32).toInt = (8 : Int) := rfl
    refine g_callSi (va_runS (As := [.int (iv_5 8 1), .int 8]) (rest := [.ref (ad 9), .ref (ad 1)]) ⟨hx, hb, hml, hown, hts⟩ (c_J9_floorMod_7cf53 l (iv_5 8 1) 8 rfl) (va_cwS 2 hts gX3_bringBack_J9_floorMod_7cf53 rfl rfl rfl (by decide +kernel) ⟨Nat.le_of_ble_eq_true rfl, Nat.le_of_ble_eq_true rfl⟩) (g_preT) rfl rfl hl.1 rfl (lv_room (Nat.le_of_ble_eq_true rfl)) dX3_bringBack_35 ⟨Nat.zero_le _, Nat.zero_le _⟩) (fun r_8 w_8 => ?_)
    try dsimp only at w_8
    refine va_aldq hx hb hK hP 9 2 (g_at15 (Nat.le_of_ble_eq_true rfl) rfl) rfl (g_in (N := 8) (rfl : r_8.toInt = r_8.toInt) rfl (by omega) (by omega)) dX3_bringBack_38 ?_
    obtain ⟨k_9, ek_9⟩ : ∃ z : Nat, z = ln 9 + 7 * r_8.toNatClampNeg := ⟨_, rfl⟩
    have hk_9 : k_9 < 135 ∧ kd k_9 = 8 := by rw [ek_9]; exact g_ch9 (g_cl (rfl : r_8.toInt = r_8.toInt) (by omega) (by omega))
    show W p l e _ s m _ below meth c _ _ _ _ Q (F0 m 39 _ (Value.ref (ad (ln 9 + 7 * r_8.toNatClampNeg)) :: .ref (ad 1) :: []))
    rw [← ek_9]
    have hck_9 := g_cN (rfl : r_8.toInt = r_8.toInt)
    refine g_callv (va_runV (As := [.ref (ad k_9)]) (rest := []) ⟨hx, hb, hml, hown, hts⟩ (c_X8_copyFrom l D cy ad hI _ iv_5 ar 1 (Nat.le_of_ble_eq_true rfl) rfl k_9 hk_9.1 hk_9.2 (Or.inl (by omega))) (cwV 1 hts gX3_bringBack_X8_copyFrom rfl rfl rfl (by decide +kernel) ⟨Nat.le_of_ble_eq_true rfl, Nat.le_of_ble_eq_true rfl⟩) (g_preV hP hK hSt hNw hS (g_at8 (Nat.le_of_ble_eq_true rfl) rfl) rfl) rfl rfl hl.1 rfl (lv_room (Nat.le_of_ble_eq_true rfl)) dX3_bringBack_39 ⟨Nat.zero_le _, Nat.zero_le _⟩) hS (fun iv_10 ar_10 H locs w_10 hP hS => ?_)
    try dsimp only at w_10
    have fk_10 : KP iv iv_10 := (fk_5.sc (Nat.le_of_ble_eq_true rfl) rfl hk_9.1 hk_9.2 w_10.1 w_10.2.2.1 w_10.2.2.2)
    refine lv_aload_n hx hb dX3_bringBack_42 rfl (lv_at hl 0 rfl) ?_
    refine lv_dup hx hb dX3_bringBack_43 rfl ?_
    refine va_get (D := D) (ci := 3) (v := .int (iv_10 8 2)) (C := RX3) (T := TX3) (N := 3) hx hb hts inX3 hown hK hP 8 (g_at3 (Nat.le_of_ble_eq_true rfl) rfl) rfl 2 (by decide) lk0 (fun _ h9 => h9) rfl dX3_bringBack_44 ?_
    refine lv_iconst (v := 1) hx hb dX3_bringBack_47 (by decide) ?_
    refine lv_isub hx hb dX3_bringBack_48 ?_
    refine lv_topi (fun v_11 ev_11 => ?_)
    refine va_put (D := D) (ci := 3) (v := .int v_11) (ty := .int) (C := RX3) (T := TX3) (N := 3) hx hb hts inX3 tyX3 tyX3_ok nmX3 hown hK hP (gD hI) hS 8 (g_at3 (Nat.le_of_ble_eq_true rfl) rfl) rfl 2 (by decide) lk0 (fun _ h9 => h9) rfl (by decide +kernel) rfl rfl (Nat.le_of_ble_eq_true rfl) dX3_bringBack_49 (fun H locs hP _ hS => ?_)
    have hP : va_P D vwCl (GW cy ad (u2 iv_10 8 2 v_11) ar_10) H := by rw [← g_pt3_2 (Nat.le_of_ble_eq_true rfl) rfl]; exact hP
    obtain ⟨iv_12, eiv_12⟩ : ∃ z : gIv, z = u2 iv_10 8 2 v_11 := ⟨_, rfl⟩
    rw [← eiv_12] at hP
    have fk_12 : KP iv iv_12 := by rw [eiv_12]; exact fk_10.up (by decide) (by omega)
    refine lv_iconst (v := 1) hx hb dX3_bringBack_52 (by decide) ?_
    rw [hQ]
    exact W.zret (v := 1) hx hb hr rfl (fun t ht hW => ⟨⟨1, (iv_12, ar_10), rfl, fk_12, by show va_P _ _ _ _; rw [ht]; exact hP⟩, hS.F ht⟩) hS.2.2 dX3_bringBack_53
  · skip
    have q_1 : (iv 8 2).toInt = (0 : Int) := i_eq2 (rfl : (iv 8 2).toInt = (iv 8 2).toInt) (show (0 : Int32).toInt = (0 : Int) from rfl) c_1
    refine lv_iconst (v := 0) hx hb dX3_bringBack_7 (by decide) ?_
    rw [hQ]
    exact W.zret (v := 0) hx hb hr rfl (fun t ht hW => ⟨⟨0, (iv, ar), rfl, fk0, by show va_P _ _ _ _; rw [ht]; exact hP⟩, hS.F ht⟩) hS.2.2 dX3_bringBack_8
set_option maxHeartbeats 4000000 in
set_option maxRecDepth 100000 in
theorem c_X2_signHere (l : Launch) (D : va_G) (cy : Nat → ClassId) (ad : Nat → Nat) (hI : gInj ad) (sz : Nat) (iv : gIv) (ar : gAr)   : Met l yX2_signHere wsX2_signHere ({ frames := 0, cells := 0, slots := 0, locals := 0 } : Room) (va_Pc [.ref (ad 66)] (gPre D cy ad sz iv ar)) (vp_Si (fun r => True)) 0 0 (fun _ => False) := by
  refine Met.ofW (cc := cX2_signHere) (maxL := 1) (ret := (some .int)) (by decide) rfl ?_
  intro p e s m args below meth c s₁ B hml hv
  obtain ⟨rfl, rfl, hP, hK, hSt, hNw⟩ := hv
  have hx := B.exec
  have hb := B.bytes
  have hr := B.returns
  have hts := atoms_spec (ws := wsX2_signHere) B.pre
  have hown : s.vm.findClass RX2 = some m.cls := findClass_of_methodNamed B.named
  have hlocks := B.notSynchronized
  have hS : va_S (gA ad s.heap.size) s.heap s.heap [] := va_S.rf
  have inX2 : ∀ w ∈ u_ws RX2 TX2 5, w ∈ wsX2_signHere := by decide +kernel
  have lk0 := hts (.fieldLink RX2 26 "FormationPlanner$Formation" "offset" "I") (by decide +kernel)
  have lk1 := hts (.fieldLink RX2 22 "FormationPlanner$Formation" "length" "I") (by decide +kernel)
  have lk2 := hts (.fieldLink RX2 9 "FormationPlanner$Formation" "signs" "[I") (by decide +kernel)
  have hl := lv_entry ([.ref (ad 66)]) (n := 1) (Nat.le_of_ble_eq_true rfl)
  rw [lg_entry_eq]
  generalize (lg_sl ([.ref (ad 66)]) ++ List.replicate (1 - (lg_sl ([.ref (ad 66)])).length) Slot.unset).toArray = ls at hl ⊢
  have hl : lv_has ls 1 [(0, .ref (ad 66))] := hl
  obtain ⟨Q, hQ⟩ : ∃ Q, Q = MQ below (vp_Si (fun r => True)) (([.ref (ad 66)] : List Value).toArray) s 0 0 (fun _ => False) := ⟨_, rfl⟩
  rw [← hQ]
  refine lv_aload_n hx hb dX2_signHere_0 rfl (lv_at hl 0 rfl) ?_
  refine va_get (D := D) (ci := 2) (v := .int (iv 66 3)) (C := RX2) (T := TX2) (N := 5) hx hb hts inX2 hown hK hP 66 (g_at2 (Nat.le_of_ble_eq_true rfl) rfl) rfl 3 (by decide) lk0 (fun _ h9 => h9) rfl dX2_signHere_1 ?_
  refine lv_if_lt (tgt := 39) hx hb dX2_signHere_4 (by decide) (fun c_1 => ?_) (fun c_1 => ?_)
  · skip
    have q_1 : (iv 66 3).toInt < (0 : Int) := i_lt2 (rfl : (iv 66 3).toInt = (iv 66 3).toInt) (show (0 : Int32).toInt = (0 : Int) from rfl) c_1
    refine lv_iconst (v := (-1)) hx hb dX2_signHere_39 (by decide) ?_
    rw [hQ]
    exact W.iret (v := (-1)) hx hb hr (fun t ht hW => ⟨(-1), rfl, trivial, ht⟩) (fun q h => by cases h) dX2_signHere_40
  · skip
    have q_1 : (0 : Int) ≤ (iv 66 3).toInt := i_nlt2 (rfl : (iv 66 3).toInt = (iv 66 3).toInt) (show (0 : Int32).toInt = (0 : Int) from rfl) c_1
    refine lv_aload_n hx hb dX2_signHere_7 rfl (lv_at hl 0 rfl) ?_
    refine va_get (D := D) (ci := 2) (v := .int (iv 66 3)) (C := RX2) (T := TX2) (N := 5) hx hb hts inX2 hown hK hP 66 (g_at2 (Nat.le_of_ble_eq_true rfl) rfl) rfl 3 (by decide) lk0 (fun _ h9 => h9) rfl dX2_signHere_8 ?_
    refine lv_aload_n hx hb dX2_signHere_11 rfl (lv_at hl 0 rfl) ?_
    refine va_get (D := D) (ci := 2) (v := .int (iv 66 2)) (C := RX2) (T := TX2) (N := 5) hx hb hts inX2 hown hK hP 66 (g_at2 (Nat.le_of_ble_eq_true rfl) rfl) rfl 2 (by decide) lk1 (fun _ h9 => h9) rfl dX2_signHere_12 ?_
    refine lv_icmp_ge (tgt := 39) hx hb dX2_signHere_15 (by decide) (fun c_2 => ?_) (fun c_2 => ?_)
    · skip
      have q_2 : (iv 66 2).toInt ≤ (iv 66 3).toInt := i_le2 (rfl : (iv 66 2).toInt = (iv 66 2).toInt) (rfl : (iv 66 3).toInt = (iv 66 3).toInt) c_2
      refine lv_iconst (v := (-1)) hx hb dX2_signHere_39 (by decide) ?_
      rw [hQ]
      exact W.iret (v := (-1)) hx hb hr (fun t ht hW => ⟨(-1), rfl, trivial, ht⟩) (fun q h => by cases h) dX2_signHere_40
    · skip
      have q_2 : (iv 66 3).toInt < (iv 66 2).toInt := i_nle2 (rfl : (iv 66 2).toInt = (iv 66 2).toInt) (rfl : (iv 66 3).toInt = (iv 66 3).toInt) c_2
      refine lv_aload_n hx hb dX2_signHere_18 rfl (lv_at hl 0 rfl) ?_
      refine va_get (D := D) (ci := 2) (v := .int (iv 66 3)) (C := RX2) (T := TX2) (N := 5) hx hb hts inX2 hown hK hP 66 (g_at2 (Nat.le_of_ble_eq_true rfl) rfl) rfl 3 (by decide) lk0 (fun _ h9 => h9) rfl dX2_signHere_19 ?_
      refine lv_bipush (v := 60) hx hb dX2_signHere_22 (by decide) ?_
      refine lv_icmp_ge (tgt := 39) hx hb dX2_signHere_24 (by decide) (fun c_3 => ?_) (fun c_3 => ?_)
      · skip
        have q_3 : (60 : Int) ≤ (iv 66 3).toInt := i_le2 (show (60 : Int32).toInt = (60 : Int) from rfl) (rfl : (iv 66 3).toInt = (iv 66 3).toInt) c_3
        refine lv_iconst (v := (-1)) hx hb dX2_signHere_39 (by decide) ?_
        rw [hQ]
        exact W.iret (v := (-1)) hx hb hr (fun t ht hW => ⟨(-1), rfl, trivial, ht⟩) (fun q h => by cases h) dX2_signHere_40
      · skip
        have q_3 : (iv 66 3).toInt < (60 : Int) := i_nle2 (show (60 : Int32).toInt = (60 : Int) from rfl) (rfl : (iv 66 3).toInt = (iv 66 3).toInt) c_3
        refine lv_aload_n hx hb dX2_signHere_27 rfl (lv_at hl 0 rfl) ?_
        refine va_get (D := D) (ci := 2) (v := .ref (ad 67)) (C := RX2) (T := TX2) (N := 5) hx hb hts inX2 hown hK hP 66 (g_at2 (Nat.le_of_ble_eq_true rfl) rfl) rfl 0 (by decide) lk2 (fun _ h9 => h9) rfl dX2_signHere_28 ?_
        refine lv_aload_n hx hb dX2_signHere_31 rfl (lv_at hl 0 rfl) ?_
        refine va_get (D := D) (ci := 2) (v := .int (iv 66 3)) (C := RX2) (T := TX2) (N := 5) hx hb hts inX2 hown hK hP 66 (g_at2 (Nat.le_of_ble_eq_true rfl) rfl) rfl 3 (by decide) lk0 (fun _ h9 => h9) rfl dX2_signHere_32 ?_
        refine va_iald hx hb hK hP 67 0 (g_at12 (Nat.le_of_ble_eq_true rfl) rfl) rfl (g_in (N := 60) (rfl : (iv 66 3).toInt = (iv 66 3).toInt) rfl (by omega) (by omega)) dX2_signHere_35 ?_
        refine lv_topi (fun v_4 ev_4 => ?_)
        refine lv_goto (tgt := 40) hx hb dX2_signHere_36 (by decide) ?_
        rw [hQ]
        exact W.iret (v := v_4) hx hb hr (fun t ht hW => ⟨v_4, rfl, trivial, ht⟩) (fun q h => by cases h) dX2_signHere_40
set_option maxHeartbeats 4000000 in
set_option maxRecDepth 100000 in
theorem c_X2_note (l : Launch) (D : va_G) (cy : Nat → ClassId) (ad : Nat → Nat) (hI : gInj ad) (sz : Nat) (iv : gIv) (ar : gAr) (a : Int32) (hz : SZ iv) : Met l yX2_note wsX2_note ({ frames := 1, cells := 0, slots := 0, locals := 22 } : Room) (va_Pc [.ref (ad 66), .int a] (gPre D cy ad sz iv ar)) (va_Qv (fun (u : gIv × gAr) => KP iv u.1) (gPost D cy ad) (gA ad sz)) 0 0 (gA ad sz) := by
  refine Met.ofW (cc := cX2_note) (maxL := 2) (ret := none) (by decide) rfl ?_
  intro p e s m args below meth c s₁ B hml hv
  obtain ⟨rfl, rfl, hP, hK, hSt, hNw⟩ := hv
  have hx := B.exec
  have hb := B.bytes
  have hr := B.returns
  have hts := atoms_spec (ws := wsX2_note) B.pre
  have hown : s.vm.findClass RX2 = some m.cls := findClass_of_methodNamed B.named
  have hlocks := B.notSynchronized
  have hS : va_S (gA ad s.heap.size) s.heap s.heap [] := va_S.rf
  have inX2 : ∀ w ∈ u_ws RX2 TX2 5, w ∈ wsX2_note := by decide +kernel
  have lk0 := hts (.fieldLink RX2 18 "FormationPlanner$Formation" "places" "LFormationPlanner$Places;") (by decide +kernel)
  have lk1 := hts (.fieldLink RX2 29 "FormationPlanner$Formation" "repeats" "Z") (by decide +kernel)
  have hl := lv_entry ([.ref (ad 66), .int a]) (n := 2) (Nat.le_of_ble_eq_true rfl)
  rw [lg_entry_eq]
  generalize (lg_sl ([.ref (ad 66), .int a]) ++ List.replicate (2 - (lg_sl ([.ref (ad 66), .int a])).length) Slot.unset).toArray = ls at hl ⊢
  have hl : lv_has ls 2 [(0, .ref (ad 66)), (1, .int a)] := hl
  obtain ⟨Q, hQ⟩ : ∃ Q, Q = MQ below (va_Qv (fun (u : gIv × gAr) => KP iv u.1) (gPost D cy ad) (gA ad s.heap.size)) (([.ref (ad 66), .int a] : List Value).toArray) s 0 0 (gA ad s.heap.size) := ⟨_, rfl⟩
  rw [← hQ]
  have fk0 : KP iv iv := KP.rf hz
  refine lv_aload_n hx hb dX2_note_0 rfl (lv_at hl 0 rfl) ?_
  refine va_get (D := D) (ci := 2) (v := .ref (ad 68)) (C := RX2) (T := TX2) (N := 5) hx hb hts inX2 hown hK hP 66 (g_at2 (Nat.le_of_ble_eq_true rfl) rfl) rfl 1 (by decide) lk0 (fun _ h9 => h9) rfl dX2_note_1 ?_
  refine lv_iload_n hx hb dX2_note_4 rfl (lv_at hl 1 rfl) ?_
  refine g_callSi (va_runV (As := [.int a]) (rest := []) ⟨hx, hb, hml, hown, hts⟩ (c_X5_find l D cy ad hI _ iv ar 68 (Nat.le_of_ble_eq_true rfl) rfl a) (cwV 1 hts gX2_note_X5_find rfl rfl rfl (by decide +kernel) ⟨Nat.le_of_ble_eq_true rfl, Nat.le_of_ble_eq_true rfl⟩) (g_preV hP hK hSt hNw hS (g_at5 (Nat.le_of_ble_eq_true rfl) rfl) rfl) rfl rfl hl.1 rfl (lv_room (Nat.le_of_ble_eq_true rfl)) dX2_note_5 ⟨Nat.zero_le _, Nat.zero_le _⟩) (fun r_1 w_1 => ?_)
  try dsimp only at w_1
  refine lv_iconst (v := (-1)) hx hb dX2_note_8 (by decide) ?_
  refine lv_icmp_eq (tgt := 17) hx hb dX2_note_9 (by decide) (fun c_2 => ?_) (fun c_2 => ?_)
  · skip
    have q_2 : r_1.toInt = (-1 : Int) := i_eq2 (rfl : r_1.toInt = r_1.toInt) (show ((-1) : Int32).toInt = (-1 : Int) from rfl) c_2
    refine lv_aload_n hx hb dX2_note_17 rfl (lv_at hl 0 rfl) ?_
    refine va_get (D := D) (ci := 2) (v := .ref (ad 68)) (C := RX2) (T := TX2) (N := 5) hx hb hts inX2 hown hK hP 66 (g_at2 (Nat.le_of_ble_eq_true rfl) rfl) rfl 1 (by decide) lk0 (fun _ h9 => h9) rfl dX2_note_18 ?_
    refine lv_iload_n hx hb dX2_note_21 rfl (lv_at hl 1 rfl) ?_
    refine g_callv (va_runV (As := [.int a]) (rest := []) ⟨hx, hb, hml, hown, hts⟩ (c_X5_add l D cy ad hI _ iv ar 68 (Nat.le_of_ble_eq_true rfl) rfl a) (cwV 1 hts gX2_note_X5_add rfl rfl rfl (by decide +kernel) ⟨Nat.le_of_ble_eq_true rfl, Nat.le_of_ble_eq_true rfl⟩) (g_preV hP hK hSt hNw hS (g_at5 (Nat.le_of_ble_eq_true rfl) rfl) rfl) rfl rfl hl.1 rfl (lv_room (Nat.le_of_ble_eq_true rfl)) dX2_note_22 ⟨Nat.zero_le _, Nat.zero_le _⟩) hS (fun iv_3 ar_3 H locs w_3 hP hS => ?_)
    try dsimp only at w_3
    have fk_3 : KP iv iv_3 := (by
      rcases w_3 with ⟨-, q⟩ | ⟨q1, q2, x, q3, q⟩
      · rw [show iv_3 = iv from congrArg Prod.fst q]; exact fk0
      · rw [show iv_3 = u2 iv _ 1 x from congrArg Prod.fst q]; exact fk0.up5 (by decide) (by omega))
    rw [hQ]
    exact W.vret hx hb hr (fun t ht hW => ⟨⟨(iv_3, ar_3), rfl, fk_3, by show va_P _ _ _ _; rw [ht]; exact hP⟩, hS.F ht⟩) hS.2.2 dX2_note_25
  · skip
    have q_2 : r_1.toInt ≠ (-1 : Int) := i_ne2 (rfl : r_1.toInt = r_1.toInt) (show ((-1) : Int32).toInt = (-1 : Int) from rfl) c_2
    refine lv_aload_n hx hb dX2_note_12 rfl (lv_at hl 0 rfl) ?_
    refine lv_iconst (v := 1) hx hb dX2_note_13 (by decide) ?_
    refine va_put (D := D) (ci := 2) (v := .int 1) (ty := .boolean) (C := RX2) (T := TX2) (N := 5) hx hb hts inX2 tyX2 tyX2_ok nmX2 hown hK hP (gD hI) hS 66 (g_at2 (Nat.le_of_ble_eq_true rfl) rfl) rfl 4 (by decide) lk1 (fun _ h9 => h9) rfl (by decide +kernel) rfl rfl (Nat.le_of_ble_eq_true rfl) dX2_note_14 (fun H locs hP _ hS => ?_)
    have hP : va_P D vwCl (GW cy ad (u2 iv 66 4 1) ar) H := by rw [← g_pt2_4 (Nat.le_of_ble_eq_true rfl) rfl]; exact hP
    obtain ⟨iv_4, eiv_4⟩ : ∃ z : gIv, z = u2 iv 66 4 1 := ⟨_, rfl⟩
    rw [← eiv_4] at hP
    have fk_4 : KP iv iv_4 := by rw [eiv_4]; exact fk0.up (by decide) (by omega)
    refine lv_aload_n hx hb dX2_note_17 rfl (lv_at hl 0 rfl) ?_
    refine va_get (D := D) (ci := 2) (v := .ref (ad 68)) (C := RX2) (T := TX2) (N := 5) hx hb hts inX2 hown hK hP 66 (g_at2 (Nat.le_of_ble_eq_true rfl) rfl) rfl 1 (by decide) lk0 (fun _ h9 => h9) rfl dX2_note_18 ?_
    refine lv_iload_n hx hb dX2_note_21 rfl (lv_at hl 1 rfl) ?_
    refine g_callv (va_runV (As := [.int a]) (rest := []) ⟨hx, hb, hml, hown, hts⟩ (c_X5_add l D cy ad hI _ iv_4 ar 68 (Nat.le_of_ble_eq_true rfl) rfl a) (cwV 1 hts gX2_note_X5_add rfl rfl rfl (by decide +kernel) ⟨Nat.le_of_ble_eq_true rfl, Nat.le_of_ble_eq_true rfl⟩) (g_preV hP hK hSt hNw hS (g_at5 (Nat.le_of_ble_eq_true rfl) rfl) rfl) rfl rfl hl.1 rfl (lv_room (Nat.le_of_ble_eq_true rfl)) dX2_note_22 ⟨Nat.zero_le _, Nat.zero_le _⟩) hS (fun iv_5 ar_5 H locs w_5 hP hS => ?_)
    try dsimp only at w_5
    have fk_5 : KP iv iv_5 := (by
      rcases w_5 with ⟨-, q⟩ | ⟨q1, q2, x, q3, q⟩
      · rw [show iv_5 = iv_4 from congrArg Prod.fst q]; exact fk_4
      · rw [show iv_5 = u2 iv_4 _ 1 x from congrArg Prod.fst q]; exact fk_4.up5 (by decide) (by omega))
    rw [hQ]
    exact W.vret hx hb hr (fun t ht hW => ⟨⟨(iv_5, ar_5), rfl, fk_5, by show va_P _ _ _ _; rw [ht]; exact hP⟩, hS.F ht⟩) hS.2.2 dX2_note_25
set_option maxHeartbeats 4000000 in
set_option maxRecDepth 100000 in
theorem c_X2_readPosition (l : Launch) (D : va_G) (cy : Nat → ClassId) (ad : Nat → Nat) (hI : gInj ad) (sz : Nat) (iv : gIv) (ar : gAr)  (hz : SZ iv) : Met l yX2_readPosition wsX2_readPosition ({ frames := 2, cells := 0, slots := 0, locals := 43 } : Room) (va_Pc [.ref (ad 66)] (gPre D cy ad sz iv ar)) (va_Qi (fun (r : Int32) (u : gIv × gAr) => KP iv u.1) (gPost D cy ad) (gA ad sz)) 0 0 (gA ad sz) := by
  refine Met.ofW (cc := cX2_readPosition) (maxL := 4) (ret := (some .boolean)) (by decide) rfl ?_
  intro p e s m args below meth c s₁ B hml hv
  obtain ⟨rfl, rfl, hP, hK, hSt, hNw⟩ := hv
  have hx := B.exec
  have hb := B.bytes
  have hr := B.returns
  have hts := atoms_spec (ws := wsX2_readPosition) B.pre
  have hown : s.vm.findClass RX2 = some m.cls := findClass_of_methodNamed B.named
  have hlocks := B.notSynchronized
  have hS : va_S (gA ad s.heap.size) s.heap s.heap [] := va_S.rf
  have inX2 : ∀ w ∈ u_ws RX2 TX2 5, w ∈ wsX2_readPosition := by decide +kernel
  have lk0 := hts (.fieldLink RX2 26 "FormationPlanner$Formation" "offset" "I") (by decide +kernel)
  have hl := lv_entry ([.ref (ad 66)]) (n := 4) (Nat.le_of_ble_eq_true rfl)
  rw [lg_entry_eq]
  generalize (lg_sl ([.ref (ad 66)]) ++ List.replicate (4 - (lg_sl ([.ref (ad 66)])).length) Slot.unset).toArray = ls at hl ⊢
  have hl : lv_has ls 4 [(0, .ref (ad 66))] := hl
  obtain ⟨Q, hQ⟩ : ∃ Q, Q = MQ below (va_Qi (fun (r : Int32) (u : gIv × gAr) => KP iv u.1) (gPost D cy ad) (gA ad s.heap.size)) (([.ref (ad 66)] : List Value).toArray) s 0 0 (gA ad s.heap.size) := ⟨_, rfl⟩
  rw [← hQ]
  have fk0 : KP iv iv := KP.rf hz
  refine lv_aload_n hx hb dX2_readPosition_0 rfl (lv_at hl 0 rfl) ?_
  refine g_callSi (va_runV (As := []) (rest := []) ⟨hx, hb, hml, hown, hts⟩ (c_X2_signHere l D cy ad hI _ iv ar) (cwV 0 hts gX2_readPosition_X2_signHere rfl rfl rfl (by decide +kernel) ⟨Nat.le_of_ble_eq_true rfl, Nat.le_of_ble_eq_true rfl⟩) (g_preV hP hK hSt hNw hS (g_at2 (Nat.le_of_ble_eq_true rfl) rfl) rfl) rfl rfl hl.1 rfl (lv_room (Nat.le_of_ble_eq_true rfl)) dX2_readPosition_1 ⟨Nat.zero_le _, Nat.zero_le _⟩) (fun r_1 w_1 => ?_)
  try dsimp only at w_1
  refine lv_bipush (v := 97) hx hb dX2_readPosition_4 (by decide) ?_
  refine lv_isub hx hb dX2_readPosition_6 ?_
  refine lv_topi (fun v_2 ev_2 => ?_)
  refine lv_istore_n (lv' := [(1, .int v_2), (0, .ref (ad 66))]) hx hb dX2_readPosition_7 rfl hl (by decide) rfl (fun ls hl => ?_)
  refine lv_iload_n hx hb dX2_readPosition_8 rfl (lv_at hl 0 rfl) ?_
  refine lv_if_lt (tgt := 18) hx hb dX2_readPosition_9 (by decide) (fun c_3 => ?_) (fun c_3 => ?_)
  · skip
    have q_3 : v_2.toInt < (0 : Int) := i_lt2 (rfl : v_2.toInt = v_2.toInt) (show (0 : Int32).toInt = (0 : Int) from rfl) c_3
    refine lv_iconst (v := 0) hx hb dX2_readPosition_18 (by decide) ?_
    rw [hQ]
    exact W.zret (v := 0) hx hb hr rfl (fun t ht hW => ⟨⟨0, (iv, ar), rfl, fk0, by show va_P _ _ _ _; rw [ht]; exact hP⟩, hS.F ht⟩) hS.2.2 dX2_readPosition_19
  · skip
    have q_3 : (0 : Int) ≤ v_2.toInt := i_nlt2 (rfl : v_2.toInt = v_2.toInt) (show (0 : Int32).toInt = (0 : Int) from rfl) c_3
    refine lv_iload_n hx hb dX2_readPosition_12 rfl (lv_at hl 0 rfl) ?_
    refine lv_bipush (v := 6) hx hb dX2_readPosition_13 (by decide) ?_
    refine lv_icmp_lt (tgt := 20) hx hb dX2_readPosition_15 (by decide) (fun c_4 => ?_) (fun c_4 => ?_)
    · skip
      have q_4 : v_2.toInt < (6 : Int) := i_lt2 (rfl : v_2.toInt = v_2.toInt) (show (6 : Int32).toInt = (6 : Int) from rfl) c_4
      refine lv_aload_n hx hb dX2_readPosition_20 rfl (lv_at hl 1 rfl) ?_
      refine lv_dup hx hb dX2_readPosition_21 rfl ?_
      refine va_get (D := D) (ci := 2) (v := .int (iv 66 3)) (C := RX2) (T := TX2) (N := 5) hx hb hts inX2 hown hK hP 66 (g_at2 (Nat.le_of_ble_eq_true rfl) rfl) rfl 3 (by decide) lk0 (fun _ h9 => h9) rfl dX2_readPosition_22 ?_
      refine lv_iconst (v := 1) hx hb dX2_readPosition_25 (by decide) ?_
      refine lv_iadd hx hb dX2_readPosition_26 ?_
      refine lv_topi (fun v_5 ev_5 => ?_)
      refine va_put (D := D) (ci := 2) (v := .int v_5) (ty := .int) (C := RX2) (T := TX2) (N := 5) hx hb hts inX2 tyX2 tyX2_ok nmX2 hown hK hP (gD hI) hS 66 (g_at2 (Nat.le_of_ble_eq_true rfl) rfl) rfl 3 (by decide) lk0 (fun _ h9 => h9) rfl (by decide +kernel) rfl rfl (Nat.le_of_ble_eq_true rfl) dX2_readPosition_27 (fun H locs hP _ hS => ?_)
      have hP : va_P D vwCl (GW cy ad (u2 iv 66 3 v_5) ar) H := by rw [← g_pt2_3 (Nat.le_of_ble_eq_true rfl) rfl]; exact hP
      obtain ⟨iv_6, eiv_6⟩ : ∃ z : gIv, z = u2 iv 66 3 v_5 := ⟨_, rfl⟩
      rw [← eiv_6] at hP
      have fk_6 : KP iv iv_6 := by rw [eiv_6]; exact fk0.up (by decide) (by omega)
      refine lv_aload_n hx hb dX2_readPosition_30 rfl (lv_at hl 1 rfl) ?_
      refine g_callSi (va_runV (As := []) (rest := []) ⟨hx, hb, hml, hown, hts⟩ (c_X2_signHere l D cy ad hI _ iv_6 ar) (cwV 0 hts gX2_readPosition_X2_signHere rfl rfl rfl (by decide +kernel) ⟨Nat.le_of_ble_eq_true rfl, Nat.le_of_ble_eq_true rfl⟩) (g_preV hP hK hSt hNw hS (g_at2 (Nat.le_of_ble_eq_true rfl) rfl) rfl) rfl rfl hl.1 rfl (lv_room (Nat.le_of_ble_eq_true rfl)) dX2_readPosition_31 ⟨Nat.zero_le _, Nat.zero_le _⟩) (fun r_7 w_7 => ?_)
      try dsimp only at w_7
      refine lv_bipush (v := 49) hx hb dX2_readPosition_34 (by decide) ?_
      refine lv_isub hx hb dX2_readPosition_36 ?_
      refine lv_topi (fun v_8 ev_8 => ?_)
      refine lv_istore_n (lv' := [(2, .int v_8), (1, .int v_2), (0, .ref (ad 66))]) hx hb dX2_readPosition_37 rfl hl (by decide) rfl (fun ls hl => ?_)
      refine lv_iload_n hx hb dX2_readPosition_38 rfl (lv_at hl 0 rfl) ?_
      refine lv_if_lt (tgt := 48) hx hb dX2_readPosition_39 (by decide) (fun c_9 => ?_) (fun c_9 => ?_)
      · skip
        have q_9 : v_8.toInt < (0 : Int) := i_lt2 (rfl : v_8.toInt = v_8.toInt) (show (0 : Int32).toInt = (0 : Int) from rfl) c_9
        refine lv_iconst (v := 0) hx hb dX2_readPosition_48 (by decide) ?_
        rw [hQ]
        exact W.zret (v := 0) hx hb hr rfl (fun t ht hW => ⟨⟨0, (iv_6, ar), rfl, fk_6, by show va_P _ _ _ _; rw [ht]; exact hP⟩, hS.F ht⟩) hS.2.2 dX2_readPosition_49
      · skip
        have q_9 : (0 : Int) ≤ v_8.toInt := i_nlt2 (rfl : v_8.toInt = v_8.toInt) (show (0 : Int32).toInt = (0 : Int) from rfl) c_9
        refine lv_iload_n hx hb dX2_readPosition_42 rfl (lv_at hl 0 rfl) ?_
        refine lv_bipush (v := 6) hx hb dX2_readPosition_43 (by decide) ?_
        refine lv_icmp_lt (tgt := 50) hx hb dX2_readPosition_45 (by decide) (fun c_10 => ?_) (fun c_10 => ?_)
        · skip
          have q_10 : v_8.toInt < (6 : Int) := i_lt2 (rfl : v_8.toInt = v_8.toInt) (show (6 : Int32).toInt = (6 : Int) from rfl) c_10
          refine lv_aload_n hx hb dX2_readPosition_50 rfl (lv_at hl 2 rfl) ?_
          refine lv_dup hx hb dX2_readPosition_51 rfl ?_
          refine va_get (D := D) (ci := 2) (v := .int (iv_6 66 3)) (C := RX2) (T := TX2) (N := 5) hx hb hts inX2 hown hK hP 66 (g_at2 (Nat.le_of_ble_eq_true rfl) rfl) rfl 3 (by decide) lk0 (fun _ h9 => h9) rfl dX2_readPosition_52 ?_
          have f_11 : iv_6 66 3 = v_5 := by rw [eiv_6]; exact u2_s _ _ _ _
          refine lv_iconst (v := 1) hx hb dX2_readPosition_55 (by decide) ?_
          refine lv_iadd hx hb dX2_readPosition_56 ?_
          refine lv_topi (fun v_12 ev_12 => ?_)
          refine va_put (D := D) (ci := 2) (v := .int v_12) (ty := .int) (C := RX2) (T := TX2) (N := 5) hx hb hts inX2 tyX2 tyX2_ok nmX2 hown hK hP (gD hI) hS 66 (g_at2 (Nat.le_of_ble_eq_true rfl) rfl) rfl 3 (by decide) lk0 (fun _ h9 => h9) rfl (by decide +kernel) rfl rfl (Nat.le_of_ble_eq_true rfl) dX2_readPosition_57 (fun H locs hP _ hS => ?_)
          have hP : va_P D vwCl (GW cy ad (u2 iv_6 66 3 v_12) ar) H := by rw [← g_pt2_3 (Nat.le_of_ble_eq_true rfl) rfl]; exact hP
          obtain ⟨iv_13, eiv_13⟩ : ∃ z : gIv, z = u2 iv_6 66 3 v_12 := ⟨_, rfl⟩
          rw [← eiv_13] at hP
          have fk_13 : KP iv iv_13 := by rw [eiv_13]; exact fk_6.up (by decide) (by omega)
          refine lv_iconst (v := 0) hx hb dX2_readPosition_60 (by decide) ?_
          refine lv_istore_n (lv' := [(3, .int 0), (2, .int v_8), (1, .int v_2), (0, .ref (ad 66))]) hx hb dX2_readPosition_61 rfl hl (by decide) rfl (fun ls hl => ?_)
          have loop16 : ∀ (n : Nat) (x3_14 : Int32) (iv_15 : gIv) (ar_15 : gAr) (H : Heap) (locs : List Loc) (ls : Array Slot), ((2 - (x3_14.toInt)).toNat) < n → (KP iv iv_15) → (0 ≤ (x3_14.toInt) ∧ (x3_14.toInt) ≤ 2) → va_P D vwCl (GW cy ad iv_15 ar_15) H → va_S (gA ad s.heap.size) s.heap H locs → lv_has ls 4 [(3, .int x3_14), (2, .int v_8), (1, .int v_2), (0, .ref (ad 66))] → W p l e (headSpec wsX2_readPosition (({ frames := 2, cells := 0, slots := 0, locals := 43 } : Room))).room s m (([.ref (ad 66)] : List Value).toArray) below meth c H locs 0 0 Q (F0 m 62 ls []) := by
            intro n
            induction n with
            | zero => intro x3_14 iv_15 ar_15 H locs ls hm; omega
            | succ n ih16 =>
              intro x3_14 iv_15 ar_15 H locs ls hm hfk hg0 hP hS hl
              refine lv_iload_n hx hb dX2_readPosition_62 rfl (lv_at hl 0 rfl) ?_
              refine lv_iconst (v := 2) hx hb dX2_readPosition_63 (by decide) ?_
              refine lv_icmp_ge (tgt := 92) hx hb dX2_readPosition_64 (by decide) (fun c_17 => ?_) (fun c_17 => ?_)
              · skip
                have q_17 : (2 : Int) ≤ x3_14.toInt := i_le2 (show (2 : Int32).toInt = (2 : Int) from rfl) (rfl : x3_14.toInt = x3_14.toInt) c_17
                refine lv_aload_n hx hb dX2_readPosition_92 rfl (lv_at hl 3 rfl) ?_
                refine lv_iload_n hx hb dX2_readPosition_93 rfl (lv_at hl 2 rfl) ?_
                refine lv_bipush (v := 6) hx hb dX2_readPosition_94 (by decide) ?_
                refine lv_iload_n hx hb dX2_readPosition_96 rfl (lv_at hl 1 rfl) ?_
                refine lv_imul hx hb dX2_readPosition_97 ?_
                refine lv_topi (fun v_18 ev_18 => ?_)
                have tv_18 : v_18.toInt = (6 : Int) * v_8.toInt := i_mul (show (6 : Int32).toInt = (6 : Int) from rfl) (rfl : v_8.toInt = v_8.toInt) (by omega) (by omega) ev_18
                refine lv_iadd hx hb dX2_readPosition_98 ?_
                refine lv_topi (fun v_19 ev_19 => ?_)
                have tv_19 : v_19.toInt = v_2.toInt + v_18.toInt := i_add (rfl : v_2.toInt = v_2.toInt) (rfl : v_18.toInt = v_18.toInt) (by omega) (by omega) ev_19
                refine lv_bipush (v := 36) hx hb dX2_readPosition_99 (by decide) ?_
                refine lv_iload_n hx hb dX2_readPosition_101 rfl (lv_at hl 0 rfl) ?_
                refine lv_imul hx hb dX2_readPosition_102 ?_
                refine lv_topi (fun v_20 ev_20 => ?_)
                have tv_20 : v_20.toInt = (36 : Int) * x3_14.toInt := i_mul (show (36 : Int32).toInt = (36 : Int) from rfl) (rfl : x3_14.toInt = x3_14.toInt) (by omega) (by omega) ev_20
                refine lv_iadd hx hb dX2_readPosition_103 ?_
                refine lv_topi (fun v_21 ev_21 => ?_)
                have tv_21 : v_21.toInt = v_19.toInt + v_20.toInt := i_add (rfl : v_19.toInt = v_19.toInt) (rfl : v_20.toInt = v_20.toInt) (by omega) (by omega) ev_21
                refine g_callv (va_runV (As := [.int v_21]) (rest := []) ⟨hx, hb, hml, hown, hts⟩ (c_X2_note l D cy ad hI _ iv_15 ar_15 v_21 hfk.1) (cwV 1 hts gX2_readPosition_X2_note rfl rfl rfl (by decide +kernel) ⟨Nat.le_of_ble_eq_true rfl, Nat.le_of_ble_eq_true rfl⟩) (g_preV hP hK hSt hNw hS (g_at2 (Nat.le_of_ble_eq_true rfl) rfl) rfl) rfl rfl hl.1 rfl (lv_room (Nat.le_of_ble_eq_true rfl)) dX2_readPosition_104 ⟨Nat.zero_le _, Nat.zero_le _⟩) hS (fun iv_22 ar_22 H locs w_22 hP hS => ?_)
                try dsimp only at w_22
                have fk_22 : KP iv iv_22 := hfk.tr (w_22)
                refine lv_iconst (v := 1) hx hb dX2_readPosition_107 (by decide) ?_
                rw [hQ]
                exact W.zret (v := 1) hx hb hr rfl (fun t ht hW => ⟨⟨1, (iv_22, ar_22), rfl, fk_22, by show va_P _ _ _ _; rw [ht]; exact hP⟩, hS.F ht⟩) hS.2.2 dX2_readPosition_108
              · skip
                have q_17 : x3_14.toInt < (2 : Int) := i_nle2 (show (2 : Int32).toInt = (2 : Int) from rfl) (rfl : x3_14.toInt = x3_14.toInt) c_17
                refine lv_aload_n hx hb dX2_readPosition_67 rfl (lv_at hl 3 rfl) ?_
                refine g_callSi (va_runV (As := []) (rest := []) ⟨hx, hb, hml, hown, hts⟩ (c_X2_signHere l D cy ad hI _ iv_15 ar_15) (cwV 0 hts gX2_readPosition_X2_signHere rfl rfl rfl (by decide +kernel) ⟨Nat.le_of_ble_eq_true rfl, Nat.le_of_ble_eq_true rfl⟩) (g_preV hP hK hSt hNw hS (g_at2 (Nat.le_of_ble_eq_true rfl) rfl) rfl) rfl rfl hl.1 rfl (lv_room (Nat.le_of_ble_eq_true rfl)) dX2_readPosition_68 ⟨Nat.zero_le _, Nat.zero_le _⟩) (fun r_23 w_23 => ?_)
                try dsimp only at w_23
                refine lv_bipush (v := 43) hx hb dX2_readPosition_71 (by decide) ?_
                refine lv_icmp_ne (tgt := 92) hx hb dX2_readPosition_73 (by decide) (fun c_24 => ?_) (fun c_24 => ?_)
                · skip
                  have q_24 : r_23.toInt ≠ (43 : Int) := i_ne2 (rfl : r_23.toInt = r_23.toInt) (show (43 : Int32).toInt = (43 : Int) from rfl) c_24
                  refine lv_aload_n hx hb dX2_readPosition_92 rfl (lv_at hl 3 rfl) ?_
                  refine lv_iload_n hx hb dX2_readPosition_93 rfl (lv_at hl 2 rfl) ?_
                  refine lv_bipush (v := 6) hx hb dX2_readPosition_94 (by decide) ?_
                  refine lv_iload_n hx hb dX2_readPosition_96 rfl (lv_at hl 1 rfl) ?_
                  refine lv_imul hx hb dX2_readPosition_97 ?_
                  refine lv_topi (fun v_25 ev_25 => ?_)
                  have tv_25 : v_25.toInt = (6 : Int) * v_8.toInt := i_mul (show (6 : Int32).toInt = (6 : Int) from rfl) (rfl : v_8.toInt = v_8.toInt) (by omega) (by omega) ev_25
                  refine lv_iadd hx hb dX2_readPosition_98 ?_
                  refine lv_topi (fun v_26 ev_26 => ?_)
                  have tv_26 : v_26.toInt = v_2.toInt + v_25.toInt := i_add (rfl : v_2.toInt = v_2.toInt) (rfl : v_25.toInt = v_25.toInt) (by omega) (by omega) ev_26
                  refine lv_bipush (v := 36) hx hb dX2_readPosition_99 (by decide) ?_
                  refine lv_iload_n hx hb dX2_readPosition_101 rfl (lv_at hl 0 rfl) ?_
                  refine lv_imul hx hb dX2_readPosition_102 ?_
                  refine lv_topi (fun v_27 ev_27 => ?_)
                  have tv_27 : v_27.toInt = (36 : Int) * x3_14.toInt := i_mul (show (36 : Int32).toInt = (36 : Int) from rfl) (rfl : x3_14.toInt = x3_14.toInt) (by omega) (by omega) ev_27
                  refine lv_iadd hx hb dX2_readPosition_103 ?_
                  refine lv_topi (fun v_28 ev_28 => ?_)
                  have tv_28 : v_28.toInt = v_26.toInt + v_27.toInt := i_add (rfl : v_26.toInt = v_26.toInt) (rfl : v_27.toInt = v_27.toInt) (by omega) (by omega) ev_28
                  refine g_callv (va_runV (As := [.int v_28]) (rest := []) ⟨hx, hb, hml, hown, hts⟩ (c_X2_note l D cy ad hI _ iv_15 ar_15 v_28 hfk.1) (cwV 1 hts gX2_readPosition_X2_note rfl rfl rfl (by decide +kernel) ⟨Nat.le_of_ble_eq_true rfl, Nat.le_of_ble_eq_true rfl⟩) (g_preV hP hK hSt hNw hS (g_at2 (Nat.le_of_ble_eq_true rfl) rfl) rfl) rfl rfl hl.1 rfl (lv_room (Nat.le_of_ble_eq_true rfl)) dX2_readPosition_104 ⟨Nat.zero_le _, Nat.zero_le _⟩) hS (fun iv_29 ar_29 H locs w_29 hP hS => ?_)
                  try dsimp only at w_29
                  have fk_29 : KP iv iv_29 := hfk.tr (w_29)
                  refine lv_iconst (v := 1) hx hb dX2_readPosition_107 (by decide) ?_
                  rw [hQ]
                  exact W.zret (v := 1) hx hb hr rfl (fun t ht hW => ⟨⟨1, (iv_29, ar_29), rfl, fk_29, by show va_P _ _ _ _; rw [ht]; exact hP⟩, hS.F ht⟩) hS.2.2 dX2_readPosition_108
                · skip
                  have q_24 : r_23.toInt = (43 : Int) := i_eq2 (rfl : r_23.toInt = r_23.toInt) (show (43 : Int32).toInt = (43 : Int) from rfl) c_24
                  obtain ⟨x3_30, ex3_30⟩ : ∃ y : Int32, y = x3_14 + 1 := ⟨_, rfl⟩
                  have tx3_30 : x3_30.toInt = x3_14.toInt + (1 : Int) := i_add (rfl : x3_14.toInt = x3_14.toInt) (show (1 : Int32).toInt = (1 : Int) from rfl) (by omega) (by omega) ex3_30
                  refine lv_iinc (v := x3_30) (lv' := [(3, .int x3_30), (2, .int v_8), (1, .int v_2), (0, .ref (ad 66))]) hx hb dX2_readPosition_76 hl (k := 0) rfl (by rw [ex3_30]; rfl) (by decide) rfl (fun ls hl => ?_)
                  refine lv_aload_n hx hb dX2_readPosition_79 rfl (lv_at hl 3 rfl) ?_
                  refine lv_dup hx hb dX2_readPosition_80 rfl ?_
                  refine va_get (D := D) (ci := 2) (v := .int (iv_15 66 3)) (C := RX2) (T := TX2) (N := 5) hx hb hts inX2 hown hK hP 66 (g_at2 (Nat.le_of_ble_eq_true rfl) rfl) rfl 3 (by decide) lk0 (fun _ h9 => h9) rfl dX2_readPosition_81 ?_
                  refine lv_iconst (v := 1) hx hb dX2_readPosition_84 (by decide) ?_
                  refine lv_iadd hx hb dX2_readPosition_85 ?_
                  refine lv_topi (fun v_31 ev_31 => ?_)
                  refine va_put (D := D) (ci := 2) (v := .int v_31) (ty := .int) (C := RX2) (T := TX2) (N := 5) hx hb hts inX2 tyX2 tyX2_ok nmX2 hown hK hP (gD hI) hS 66 (g_at2 (Nat.le_of_ble_eq_true rfl) rfl) rfl 3 (by decide) lk0 (fun _ h9 => h9) rfl (by decide +kernel) rfl rfl (Nat.le_of_ble_eq_true rfl) dX2_readPosition_86 (fun H locs hP _ hS => ?_)
                  have hP : va_P D vwCl (GW cy ad (u2 iv_15 66 3 v_31) ar_15) H := by rw [← g_pt2_3 (Nat.le_of_ble_eq_true rfl) rfl]; exact hP
                  obtain ⟨iv_32, eiv_32⟩ : ∃ z : gIv, z = u2 iv_15 66 3 v_31 := ⟨_, rfl⟩
                  rw [← eiv_32] at hP
                  have fk_32 : KP iv iv_32 := by rw [eiv_32]; exact hfk.up (by decide) (by omega)
                  refine lv_goto (tgt := 62) hx hb dX2_readPosition_89 (by decide) ?_
                  exact ih16 x3_30 iv_32 ar_15 _ _ _ (by omega) fk_32 (by omega) hP hS (lv_sub hl [0, 1, 2, 3] rfl)
          have zl_33 : (0 : Int32).toInt = (0 : Int) := rfl
          exact loop16 (((2 - ((0 : Int))).toNat) + 1) 0 iv_13 ar _ _ _ (by omega) fk_13 (by omega) hP hS (lv_sub hl [0, 1, 2, 3] rfl)
        · skip
          have q_10 : (6 : Int) ≤ v_8.toInt := i_nlt2 (rfl : v_8.toInt = v_8.toInt) (show (6 : Int32).toInt = (6 : Int) from rfl) c_10
          refine lv_iconst (v := 0) hx hb dX2_readPosition_48 (by decide) ?_
          rw [hQ]
          exact W.zret (v := 0) hx hb hr rfl (fun t ht hW => ⟨⟨0, (iv_6, ar), rfl, fk_6, by show va_P _ _ _ _; rw [ht]; exact hP⟩, hS.F ht⟩) hS.2.2 dX2_readPosition_49
    · skip
      have q_4 : (6 : Int) ≤ v_2.toInt := i_nlt2 (rfl : v_2.toInt = v_2.toInt) (show (6 : Int32).toInt = (6 : Int) from rfl) c_4
      refine lv_iconst (v := 0) hx hb dX2_readPosition_18 (by decide) ?_
      rw [hQ]
      exact W.zret (v := 0) hx hb hr rfl (fun t ht hW => ⟨⟨0, (iv, ar), rfl, fk0, by show va_P _ _ _ _; rw [ht]; exact hP⟩, hS.F ht⟩) hS.2.2 dX2_readPosition_19
set_option maxHeartbeats 4000000 in
set_option maxRecDepth 100000 in
theorem c_X2_readPositions (l : Launch) (D : va_G) (cy : Nat → ClassId) (ad : Nat → Nat) (hI : gInj ad) (sz : Nat) (iv : gIv) (ar : gAr)  (hz : SZ iv) : Met l yX2_readPositions wsX2_readPositions ({ frames := 3, cells := 0, slots := 0, locals := 66 } : Room) (va_Pc [.ref (ad 66)] (gPre D cy ad sz iv ar)) (va_Qi (fun (r : Int32) (u : gIv × gAr) => KP iv u.1) (gPost D cy ad) (gA ad sz)) 0 0 (gA ad sz) := by
  refine Met.ofW (cc := cX2_readPositions) (maxL := 2) (ret := (some .int)) (by decide) rfl ?_
  intro p e s m args below meth c s₁ B hml hv
  obtain ⟨rfl, rfl, hP, hK, hSt, hNw⟩ := hv
  have hx := B.exec
  have hb := B.bytes
  have hr := B.returns
  have hts := atoms_spec (ws := wsX2_readPositions) B.pre
  have hown : s.vm.findClass RX2 = some m.cls := findClass_of_methodNamed B.named
  have hlocks := B.notSynchronized
  have hS : va_S (gA ad s.heap.size) s.heap s.heap [] := va_S.rf
  have inX2 : ∀ w ∈ u_ws RX2 TX2 5, w ∈ wsX2_readPositions := by decide +kernel
  have lk0 := hts (.fieldLink RX2 26 "FormationPlanner$Formation" "offset" "I") (by decide +kernel)
  have lk1 := hts (.fieldLink RX2 22 "FormationPlanner$Formation" "length" "I") (by decide +kernel)
  have hl := lv_entry ([.ref (ad 66)]) (n := 2) (Nat.le_of_ble_eq_true rfl)
  rw [lg_entry_eq]
  generalize (lg_sl ([.ref (ad 66)]) ++ List.replicate (2 - (lg_sl ([.ref (ad 66)])).length) Slot.unset).toArray = ls at hl ⊢
  have hl : lv_has ls 2 [(0, .ref (ad 66))] := hl
  obtain ⟨Q, hQ⟩ : ∃ Q, Q = MQ below (va_Qi (fun (r : Int32) (u : gIv × gAr) => KP iv u.1) (gPost D cy ad) (gA ad s.heap.size)) (([.ref (ad 66)] : List Value).toArray) s 0 0 (gA ad s.heap.size) := ⟨_, rfl⟩
  rw [← hQ]
  have fk0 : KP iv iv := KP.rf hz
  refine lv_iconst (v := 1) hx hb dX2_readPositions_0 (by decide) ?_
  refine lv_istore_n (lv' := [(1, .int 1), (0, .ref (ad 66))]) hx hb dX2_readPositions_1 rfl hl (by decide) rfl (fun ls hl => ?_)
  have loop3 : ∀ (n : Nat) (x1_1 : Int32) (iv_2 : gIv) (ar_2 : gAr) (H : Heap) (locs : List Loc) (ls : Array Slot), ((61 - (x1_1.toInt)).toNat) < n → (KP iv iv_2) → (1 ≤ (x1_1.toInt) ∧ (x1_1.toInt) ≤ 61) → va_P D vwCl (GW cy ad iv_2 ar_2) H → va_S (gA ad s.heap.size) s.heap H locs → lv_has ls 2 [(1, .int x1_1), (0, .ref (ad 66))] → W p l e (headSpec wsX2_readPositions (({ frames := 3, cells := 0, slots := 0, locals := 66 } : Room))).room s m (([.ref (ad 66)] : List Value).toArray) below meth c H locs 0 0 Q (F0 m 2 ls []) := by
    intro n
    induction n with
    | zero => intro x1_1 iv_2 ar_2 H locs ls hm; omega
    | succ n ih3 =>
      intro x1_1 iv_2 ar_2 H locs ls hm hfk hg0 hP hS hl
      refine lv_iload_n hx hb dX2_readPositions_2 rfl (lv_at hl 0 rfl) ?_
      refine lv_bipush (v := 60) hx hb dX2_readPositions_3 (by decide) ?_
      refine lv_icmp_gt (tgt := 69) hx hb dX2_readPositions_5 (by decide) (fun c_4 => ?_) (fun c_4 => ?_)
      · skip
        have q_4 : (60 : Int) < x1_1.toInt := i_lt2 (show (60 : Int32).toInt = (60 : Int) from rfl) (rfl : x1_1.toInt = x1_1.toInt) c_4
        refine lv_bipush (v := (-100)) hx hb dX2_readPositions_69 (by decide) ?_
        refine lv_aload_n hx hb dX2_readPositions_71 rfl (lv_at hl 1 rfl) ?_
        refine va_get (D := D) (ci := 2) (v := .int (iv_2 66 3)) (C := RX2) (T := TX2) (N := 5) hx hb hts inX2 hown hK hP 66 (g_at2 (Nat.le_of_ble_eq_true rfl) rfl) rfl 3 (by decide) lk0 (fun _ h9 => h9) rfl dX2_readPositions_72 ?_
        refine lv_isub hx hb dX2_readPositions_75 ?_
        refine lv_topi (fun v_5 ev_5 => ?_)
        rw [hQ]
        exact W.iret (v := v_5) hx hb hr (fun t ht hW => ⟨⟨v_5, (iv_2, ar_2), rfl, hfk, by show va_P _ _ _ _; rw [ht]; exact hP⟩, hS.F ht⟩) hS.2.2 dX2_readPositions_76
      · skip
        have q_4 : x1_1.toInt ≤ (60 : Int) := i_nlt2 (show (60 : Int32).toInt = (60 : Int) from rfl) (rfl : x1_1.toInt = x1_1.toInt) c_4
        refine lv_aload_n hx hb dX2_readPositions_8 rfl (lv_at hl 1 rfl) ?_
        refine g_calli (va_runV (As := []) (rest := []) ⟨hx, hb, hml, hown, hts⟩ (c_X2_readPosition l D cy ad hI _ iv_2 ar_2 hfk.1) (cwV 0 hts gX2_readPositions_X2_readPosition rfl rfl rfl (by decide +kernel) ⟨Nat.le_of_ble_eq_true rfl, Nat.le_of_ble_eq_true rfl⟩) (g_preV hP hK hSt hNw hS (g_at2 (Nat.le_of_ble_eq_true rfl) rfl) rfl) rfl rfl hl.1 rfl (lv_room (Nat.le_of_ble_eq_true rfl)) dX2_readPositions_9 ⟨Nat.zero_le _, Nat.zero_le _⟩) hS (fun r_6 iv_6 ar_6 H locs w_6 hP hS => ?_)
        try dsimp only at w_6
        have fk_6 : KP iv iv_6 := hfk.tr (w_6)
        refine lv_if_ne (tgt := 23) hx hb dX2_readPositions_12 (by decide) (fun c_7 => ?_) (fun c_7 => ?_)
        · skip
          have q_7 : r_6.toInt ≠ (0 : Int) := i_ne2 (rfl : r_6.toInt = r_6.toInt) (show (0 : Int32).toInt = (0 : Int) from rfl) c_7
          refine lv_aload_n hx hb dX2_readPositions_23 rfl (lv_at hl 1 rfl) ?_
          refine va_get (D := D) (ci := 2) (v := .int (iv_6 66 3)) (C := RX2) (T := TX2) (N := 5) hx hb hts inX2 hown hK hP 66 (g_at2 (Nat.le_of_ble_eq_true rfl) rfl) rfl 3 (by decide) lk0 (fun _ h9 => h9) rfl dX2_readPositions_24 ?_
          refine lv_aload_n hx hb dX2_readPositions_27 rfl (lv_at hl 1 rfl) ?_
          refine va_get (D := D) (ci := 2) (v := .int (iv_6 66 2)) (C := RX2) (T := TX2) (N := 5) hx hb hts inX2 hown hK hP 66 (g_at2 (Nat.le_of_ble_eq_true rfl) rfl) rfl 2 (by decide) lk1 (fun _ h9 => h9) rfl dX2_readPositions_28 ?_
          refine lv_icmp_lt (tgt := 36) hx hb dX2_readPositions_31 (by decide) (fun c_8 => ?_) (fun c_8 => ?_)
          · skip
            have q_8 : (iv_6 66 3).toInt < (iv_6 66 2).toInt := i_lt2 (rfl : (iv_6 66 3).toInt = (iv_6 66 3).toInt) (rfl : (iv_6 66 2).toInt = (iv_6 66 2).toInt) c_8
            refine lv_aload_n hx hb dX2_readPositions_36 rfl (lv_at hl 1 rfl) ?_
            refine g_callSi (va_runV (As := []) (rest := []) ⟨hx, hb, hml, hown, hts⟩ (c_X2_signHere l D cy ad hI _ iv_6 ar_6) (cwV 0 hts gX2_readPositions_X2_signHere rfl rfl rfl (by decide +kernel) ⟨Nat.le_of_ble_eq_true rfl, Nat.le_of_ble_eq_true rfl⟩) (g_preV hP hK hSt hNw hS (g_at2 (Nat.le_of_ble_eq_true rfl) rfl) rfl) rfl rfl hl.1 rfl (lv_room (Nat.le_of_ble_eq_true rfl)) dX2_readPositions_37 ⟨Nat.zero_le _, Nat.zero_le _⟩) (fun r_9 w_9 => ?_)
            try dsimp only at w_9
            refine lv_bipush (v := 32) hx hb dX2_readPositions_40 (by decide) ?_
            refine lv_icmp_eq (tgt := 53) hx hb dX2_readPositions_42 (by decide) (fun c_10 => ?_) (fun c_10 => ?_)
            · skip
              have q_10 : r_9.toInt = (32 : Int) := i_eq2 (rfl : r_9.toInt = r_9.toInt) (show (32 : Int32).toInt = (32 : Int) from rfl) c_10
              refine lv_aload_n hx hb dX2_readPositions_53 rfl (lv_at hl 1 rfl) ?_
              refine lv_dup hx hb dX2_readPositions_54 rfl ?_
              refine va_get (D := D) (ci := 2) (v := .int (iv_6 66 3)) (C := RX2) (T := TX2) (N := 5) hx hb hts inX2 hown hK hP 66 (g_at2 (Nat.le_of_ble_eq_true rfl) rfl) rfl 3 (by decide) lk0 (fun _ h9 => h9) rfl dX2_readPositions_55 ?_
              refine lv_iconst (v := 1) hx hb dX2_readPositions_58 (by decide) ?_
              refine lv_iadd hx hb dX2_readPositions_59 ?_
              refine lv_topi (fun v_11 ev_11 => ?_)
              refine va_put (D := D) (ci := 2) (v := .int v_11) (ty := .int) (C := RX2) (T := TX2) (N := 5) hx hb hts inX2 tyX2 tyX2_ok nmX2 hown hK hP (gD hI) hS 66 (g_at2 (Nat.le_of_ble_eq_true rfl) rfl) rfl 3 (by decide) lk0 (fun _ h9 => h9) rfl (by decide +kernel) rfl rfl (Nat.le_of_ble_eq_true rfl) dX2_readPositions_60 (fun H locs hP _ hS => ?_)
              have hP : va_P D vwCl (GW cy ad (u2 iv_6 66 3 v_11) ar_6) H := by rw [← g_pt2_3 (Nat.le_of_ble_eq_true rfl) rfl]; exact hP
              obtain ⟨iv_12, eiv_12⟩ : ∃ z : gIv, z = u2 iv_6 66 3 v_11 := ⟨_, rfl⟩
              rw [← eiv_12] at hP
              have fk_12 : KP iv iv_12 := by rw [eiv_12]; exact fk_6.up (by decide) (by omega)
              obtain ⟨x1_13, ex1_13⟩ : ∃ y : Int32, y = x1_1 + 1 := ⟨_, rfl⟩
              have tx1_13 : x1_13.toInt = x1_1.toInt + (1 : Int) := i_add (rfl : x1_1.toInt = x1_1.toInt) (show (1 : Int32).toInt = (1 : Int) from rfl) (by omega) (by omega) ex1_13
              refine lv_iinc (v := x1_13) (lv' := [(1, .int x1_13), (0, .ref (ad 66))]) hx hb dX2_readPositions_63 hl (k := 0) rfl (by rw [ex1_13]; rfl) (by decide) rfl (fun ls hl => ?_)
              refine lv_goto (tgt := 2) hx hb dX2_readPositions_66 (by decide) ?_
              exact ih3 x1_13 iv_12 ar_6 _ _ _ (by omega) fk_12 (by omega) hP hS (lv_sub hl [0, 1] rfl)
            · skip
              have q_10 : r_9.toInt ≠ (32 : Int) := i_ne2 (rfl : r_9.toInt = r_9.toInt) (show (32 : Int32).toInt = (32 : Int) from rfl) c_10
              refine lv_bipush (v := (-100)) hx hb dX2_readPositions_45 (by decide) ?_
              refine lv_aload_n hx hb dX2_readPositions_47 rfl (lv_at hl 1 rfl) ?_
              refine va_get (D := D) (ci := 2) (v := .int (iv_6 66 3)) (C := RX2) (T := TX2) (N := 5) hx hb hts inX2 hown hK hP 66 (g_at2 (Nat.le_of_ble_eq_true rfl) rfl) rfl 3 (by decide) lk0 (fun _ h9 => h9) rfl dX2_readPositions_48 ?_
              refine lv_isub hx hb dX2_readPositions_51 ?_
              refine lv_topi (fun v_14 ev_14 => ?_)
              rw [hQ]
              exact W.iret (v := v_14) hx hb hr (fun t ht hW => ⟨⟨v_14, (iv_6, ar_6), rfl, fk_6, by show va_P _ _ _ _; rw [ht]; exact hP⟩, hS.F ht⟩) hS.2.2 dX2_readPositions_52
          · skip
            have q_8 : (iv_6 66 2).toInt ≤ (iv_6 66 3).toInt := i_nlt2 (rfl : (iv_6 66 3).toInt = (iv_6 66 3).toInt) (rfl : (iv_6 66 2).toInt = (iv_6 66 2).toInt) c_8
            refine lv_iload_n hx hb dX2_readPositions_34 rfl (lv_at hl 0 rfl) ?_
            rw [hQ]
            exact W.iret (v := x1_1) hx hb hr (fun t ht hW => ⟨⟨x1_1, (iv_6, ar_6), rfl, fk_6, by show va_P _ _ _ _; rw [ht]; exact hP⟩, hS.F ht⟩) hS.2.2 dX2_readPositions_35
        · skip
          have q_7 : r_6.toInt = (0 : Int) := i_eq2 (rfl : r_6.toInt = r_6.toInt) (show (0 : Int32).toInt = (0 : Int) from rfl) c_7
          refine lv_bipush (v := (-100)) hx hb dX2_readPositions_15 (by decide) ?_
          refine lv_aload_n hx hb dX2_readPositions_17 rfl (lv_at hl 1 rfl) ?_
          refine va_get (D := D) (ci := 2) (v := .int (iv_6 66 3)) (C := RX2) (T := TX2) (N := 5) hx hb hts inX2 hown hK hP 66 (g_at2 (Nat.le_of_ble_eq_true rfl) rfl) rfl 3 (by decide) lk0 (fun _ h9 => h9) rfl dX2_readPositions_18 ?_
          refine lv_isub hx hb dX2_readPositions_21 ?_
          refine lv_topi (fun v_15 ev_15 => ?_)
          rw [hQ]
          exact W.iret (v := v_15) hx hb hr (fun t ht hW => ⟨⟨v_15, (iv_6, ar_6), rfl, fk_6, by show va_P _ _ _ _; rw [ht]; exact hP⟩, hS.F ht⟩) hS.2.2 dX2_readPositions_22
  have zl_16 : (1 : Int32).toInt = (1 : Int) := rfl
  exact loop3 (((61 - ((1 : Int))).toNat) + 1) 1 iv ar _ _ _ (by omega) fk0 (by omega) hP hS (lv_sub hl [0, 1] rfl)
set_option maxHeartbeats 4000000 in
set_option maxRecDepth 100000 in
theorem c_X2_read (l : Launch) (D : va_G) (cy : Nat → ClassId) (ad : Nat → Nat) (hI : gInj ad) (sz : Nat) (iv : gIv) (ar : gAr)  (hz : SZ iv) : Met l yX2_read wsX2_read ({ frames := 4, cells := 0, slots := 0, locals := 87 } : Room) (va_Pc [.ref (ad 66)] (gPre D cy ad sz iv ar)) (va_Qi (fun (r : Int32) (u : gIv × gAr) => SZ u.1 ∧ (u.1 66 2).toInt = 0) (gPost D cy ad) (gA ad sz)) 0 0 (gA ad sz) := by
  refine Met.ofW (cc := cX2_read) (maxL := 2) (ret := (some .int)) (by decide) rfl ?_
  intro p e s m args below meth c s₁ B hml hv
  obtain ⟨rfl, rfl, hP, hK, hSt, hNw⟩ := hv
  have hx := B.exec
  have hb := B.bytes
  have hr := B.returns
  have hts := atoms_spec (ws := wsX2_read) B.pre
  have hown : s.vm.findClass RX2 = some m.cls := findClass_of_methodNamed B.named
  have hlocks := B.notSynchronized
  have hS : va_S (gA ad s.heap.size) s.heap s.heap [] := va_S.rf
  have inX2 : ∀ w ∈ u_ws RX2 TX2 5, w ∈ wsX2_read := by decide +kernel
  have lk0 := hts (.fieldLink RX2 26 "FormationPlanner$Formation" "offset" "I") (by decide +kernel)
  have lk1 := hts (.fieldLink RX2 29 "FormationPlanner$Formation" "repeats" "Z") (by decide +kernel)
  have lk2 := hts (.fieldLink RX2 18 "FormationPlanner$Formation" "places" "LFormationPlanner$Places;") (by decide +kernel)
  have lk3 := hts (.fieldLink RX2 22 "FormationPlanner$Formation" "length" "I") (by decide +kernel)
  have hl := lv_entry ([.ref (ad 66)]) (n := 2) (Nat.le_of_ble_eq_true rfl)
  rw [lg_entry_eq]
  generalize (lg_sl ([.ref (ad 66)]) ++ List.replicate (2 - (lg_sl ([.ref (ad 66)])).length) Slot.unset).toArray = ls at hl ⊢
  have hl : lv_has ls 2 [(0, .ref (ad 66))] := hl
  obtain ⟨Q, hQ⟩ : ∃ Q, Q = MQ below (va_Qi (fun (r : Int32) (u : gIv × gAr) => SZ u.1 ∧ (u.1 66 2).toInt = 0) (gPost D cy ad) (gA ad s.heap.size)) (([.ref (ad 66)] : List Value).toArray) s 0 0 (gA ad s.heap.size) := ⟨_, rfl⟩
  rw [← hQ]
  have fk0 : KP iv iv := KP.rf hz
  refine lv_aload_n hx hb dX2_read_0 rfl (lv_at hl 0 rfl) ?_
  refine lv_iconst (v := 0) hx hb dX2_read_1 (by decide) ?_
  refine va_put (D := D) (ci := 2) (v := .int 0) (ty := .int) (C := RX2) (T := TX2) (N := 5) hx hb hts inX2 tyX2 tyX2_ok nmX2 hown hK hP (gD hI) hS 66 (g_at2 (Nat.le_of_ble_eq_true rfl) rfl) rfl 3 (by decide) lk0 (fun _ h9 => h9) rfl (by decide +kernel) rfl rfl (Nat.le_of_ble_eq_true rfl) dX2_read_2 (fun H locs hP _ hS => ?_)
  have hP : va_P D vwCl (GW cy ad (u2 iv 66 3 0) ar) H := by rw [← g_pt2_3 (Nat.le_of_ble_eq_true rfl) rfl]; exact hP
  obtain ⟨iv_1, eiv_1⟩ : ∃ z : gIv, z = u2 iv 66 3 0 := ⟨_, rfl⟩
  rw [← eiv_1] at hP
  have fk_1 : KP iv iv_1 := by rw [eiv_1]; exact fk0.up (by decide) (by omega)
  refine lv_aload_n hx hb dX2_read_5 rfl (lv_at hl 0 rfl) ?_
  refine lv_iconst (v := 0) hx hb dX2_read_6 (by decide) ?_
  refine va_put (D := D) (ci := 2) (v := .int 0) (ty := .boolean) (C := RX2) (T := TX2) (N := 5) hx hb hts inX2 tyX2 tyX2_ok nmX2 hown hK hP (gD hI) hS 66 (g_at2 (Nat.le_of_ble_eq_true rfl) rfl) rfl 4 (by decide) lk1 (fun _ h9 => h9) rfl (by decide +kernel) rfl rfl (Nat.le_of_ble_eq_true rfl) dX2_read_7 (fun H locs hP _ hS => ?_)
  have hP : va_P D vwCl (GW cy ad (u2 iv_1 66 4 0) ar) H := by rw [← g_pt2_4 (Nat.le_of_ble_eq_true rfl) rfl]; exact hP
  obtain ⟨iv_2, eiv_2⟩ : ∃ z : gIv, z = u2 iv_1 66 4 0 := ⟨_, rfl⟩
  rw [← eiv_2] at hP
  have fk_2 : KP iv iv_2 := by rw [eiv_2]; exact fk_1.up (by decide) (by omega)
  refine lv_aload_n hx hb dX2_read_10 rfl (lv_at hl 0 rfl) ?_
  refine va_get (D := D) (ci := 2) (v := .ref (ad 68)) (C := RX2) (T := TX2) (N := 5) hx hb hts inX2 hown hK hP 66 (g_at2 (Nat.le_of_ble_eq_true rfl) rfl) rfl 1 (by decide) lk2 (fun _ h9 => h9) rfl dX2_read_11 ?_
  refine g_callv (va_runV (As := []) (rest := []) ⟨hx, hb, hml, hown, hts⟩ (c_X5_clear l D cy ad hI _ iv_2 ar 68 (Nat.le_of_ble_eq_true rfl) rfl) (cwV 0 hts gX2_read_X5_clear rfl rfl rfl (by decide +kernel) ⟨Nat.le_of_ble_eq_true rfl, Nat.le_of_ble_eq_true rfl⟩) (g_preV hP hK hSt hNw hS (g_at5 (Nat.le_of_ble_eq_true rfl) rfl) rfl) rfl rfl hl.1 rfl (lv_room (Nat.le_of_ble_eq_true rfl)) dX2_read_14 ⟨Nat.zero_le _, Nat.zero_le _⟩) hS (fun iv_3 ar_3 H locs w_3 hP hS => ?_)
  try dsimp only at w_3
  have fk_3 : KP iv iv_3 := (by rw [w_3.1]; exact fk_2.up5 (by decide) (by decide))
  refine lv_aload_n hx hb dX2_read_17 rfl (lv_at hl 0 rfl) ?_
  refine g_calli (va_runV (As := []) (rest := []) ⟨hx, hb, hml, hown, hts⟩ (c_X2_readPositions l D cy ad hI _ iv_3 ar_3 fk_3.1) (cwV 0 hts gX2_read_X2_readPositions rfl rfl rfl (by decide +kernel) ⟨Nat.le_of_ble_eq_true rfl, Nat.le_of_ble_eq_true rfl⟩) (g_preV hP hK hSt hNw hS (g_at2 (Nat.le_of_ble_eq_true rfl) rfl) rfl) rfl rfl hl.1 rfl (lv_room (Nat.le_of_ble_eq_true rfl)) dX2_read_18 ⟨Nat.zero_le _, Nat.zero_le _⟩) hS (fun r_4 iv_4 ar_4 H locs w_4 hP hS => ?_)
  try dsimp only at w_4
  have fk_4 : KP iv iv_4 := fk_3.tr (w_4)
  refine lv_istore_n (lv' := [(1, .int r_4), (0, .ref (ad 66))]) hx hb dX2_read_21 rfl hl (by decide) rfl (fun ls hl => ?_)
  refine lv_aload_n hx hb dX2_read_22 rfl (lv_at hl 1 rfl) ?_
  refine lv_iconst (v := 0) hx hb dX2_read_23 (by decide) ?_
  refine va_put (D := D) (ci := 2) (v := .int 0) (ty := .int) (C := RX2) (T := TX2) (N := 5) hx hb hts inX2 tyX2 tyX2_ok nmX2 hown hK hP (gD hI) hS 66 (g_at2 (Nat.le_of_ble_eq_true rfl) rfl) rfl 2 (by decide) lk3 (fun _ h9 => h9) rfl (by decide +kernel) rfl rfl (Nat.le_of_ble_eq_true rfl) dX2_read_24 (fun H locs hP _ hS => ?_)
  have hP : va_P D vwCl (GW cy ad (u2 iv_4 66 2 0) ar_4) H := by rw [← g_pt2_2 (Nat.le_of_ble_eq_true rfl) rfl]; exact hP
  obtain ⟨iv_5, eiv_5⟩ : ∃ z : gIv, z = u2 iv_4 66 2 0 := ⟨_, rfl⟩
  rw [← eiv_5] at hP
  refine lv_iload_n hx hb dX2_read_27 rfl (lv_at hl 0 rfl) ?_
  rw [hQ]
  exact W.iret (v := r_4) hx hb hr (fun t ht hW => ⟨⟨r_4, (iv_5, ar_4), rfl, ⟨fun c hc z => by show 0 ≤ (iv_5 c 1).toInt ∧ (iv_5 c 1).toInt ≤ 6; rw [eiv_5, u2_o (by omega)]; exact fk_4.1 c hc z, by show (iv_5 66 2).toInt = 0; rw [eiv_5, u2_s]; rfl⟩, by show va_P _ _ _ _; rw [ht]; exact hP⟩, hS.F ht⟩) hS.2.2 dX2_read_28
set_option maxHeartbeats 4000000 in
set_option maxRecDepth 100000 in
theorem c_X2_lengthen (l : Launch) (D : va_G) (cy : Nat → ClassId) (ad : Nat → Nat) (hI : gInj ad) (sz : Nat) (iv : gIv) (ar : gAr) (a : Int32) (b : Int32) (h0 : 0 ≤ (iv 66 2).toInt ∧ (iv 66 2).toInt ≤ 60) (hb : 1 ≤ b.toInt ∧ b.toInt ≤ 60) : Met l yX2_lengthen wsX2_lengthen ({ frames := 0, cells := 0, slots := 0, locals := 0 } : Room) (va_Pc [.ref (ad 66), .int a, .int b] (gPre D cy ad sz iv ar)) (va_Qi (fun (r : Int32) (u : gIv × gAr) => (r.toInt = 0 ∧ 60 < (iv 66 2).toInt + b.toInt ∧ u.1 = iv) ∨ (r.toInt = 1 ∧ (iv 66 2).toInt + b.toInt ≤ 60 ∧ (u.1 66 2).toInt = (iv 66 2).toInt + b.toInt ∧ (∀ a b, ¬ (a = 66 ∧ b = 2) → u.1 a b = iv a b))) (gPost D cy ad) (gA ad sz)) 0 0 (gA ad sz) := by
  refine Met.ofW (cc := cX2_lengthen) (maxL := 4) (ret := (some .boolean)) (by decide) rfl ?_
  intro p e s m args below meth c s₁ B hml hv
  obtain ⟨rfl, rfl, hP, hK, hSt, hNw⟩ := hv
  have hx := B.exec
  have hb := B.bytes
  have hr := B.returns
  have hts := atoms_spec (ws := wsX2_lengthen) B.pre
  have hown : s.vm.findClass RX2 = some m.cls := findClass_of_methodNamed B.named
  have hlocks := B.notSynchronized
  have hS : va_S (gA ad s.heap.size) s.heap s.heap [] := va_S.rf
  have inX2 : ∀ w ∈ u_ws RX2 TX2 5, w ∈ wsX2_lengthen := by decide +kernel
  have lk0 := hts (.fieldLink RX2 22 "FormationPlanner$Formation" "length" "I") (by decide +kernel)
  have lk1 := hts (.fieldLink RX2 9 "FormationPlanner$Formation" "signs" "[I") (by decide +kernel)
  have hl := lv_entry ([.ref (ad 66), .int a, .int b]) (n := 4) (Nat.le_of_ble_eq_true rfl)
  rw [lg_entry_eq]
  generalize (lg_sl ([.ref (ad 66), .int a, .int b]) ++ List.replicate (4 - (lg_sl ([.ref (ad 66), .int a, .int b])).length) Slot.unset).toArray = ls at hl ⊢
  have hl : lv_has ls 4 [(0, .ref (ad 66)), (1, .int a), (2, .int b)] := hl
  obtain ⟨Q, hQ⟩ : ∃ Q, Q = MQ below (va_Qi (fun (r : Int32) (u : gIv × gAr) => (r.toInt = 0 ∧ 60 < (iv 66 2).toInt + b.toInt ∧ u.1 = iv) ∨ (r.toInt = 1 ∧ (iv 66 2).toInt + b.toInt ≤ 60 ∧ (u.1 66 2).toInt = (iv 66 2).toInt + b.toInt ∧ (∀ a b, ¬ (a = 66 ∧ b = 2) → u.1 a b = iv a b))) (gPost D cy ad) (gA ad s.heap.size)) (([.ref (ad 66), .int a, .int b] : List Value).toArray) s 0 0 (gA ad s.heap.size) := ⟨_, rfl⟩
  rw [← hQ]
  refine lv_aload_n hx hb dX2_lengthen_0 rfl (lv_at hl 0 rfl) ?_
  refine va_get (D := D) (ci := 2) (v := .int (iv 66 2)) (C := RX2) (T := TX2) (N := 5) hx hb hts inX2 hown hK hP 66 (g_at2 (Nat.le_of_ble_eq_true rfl) rfl) rfl 2 (by decide) lk0 (fun _ h9 => h9) rfl dX2_lengthen_1 ?_
  refine lv_iload_n hx hb dX2_lengthen_4 rfl (lv_at hl 2 rfl) ?_
  refine lv_iadd hx hb dX2_lengthen_5 ?_
  refine lv_topi (fun v_1 ev_1 => ?_)
  have tv_1 : v_1.toInt = ((iv 66 2).toInt) + b.toInt := i_add (rfl : (iv 66 2).toInt = (iv 66 2).toInt) (rfl : b.toInt = b.toInt) (by omega) (by omega) ev_1
  refine lv_bipush (v := 60) hx hb dX2_lengthen_6 (by decide) ?_
  refine lv_icmp_le (tgt := 13) hx hb dX2_lengthen_8 (by decide) (fun c_2 => ?_) (fun c_2 => ?_)
  · skip
    have q_2 : v_1.toInt ≤ (60 : Int) := i_le2 (rfl : v_1.toInt = v_1.toInt) (show (60 : Int32).toInt = (60 : Int) from rfl) c_2
    refine lv_iconst (v := 0) hx hb dX2_lengthen_13 (by decide) ?_
    refine lv_istore_n (lv' := [(3, .int 0), (0, .ref (ad 66)), (1, .int a), (2, .int b)]) hx hb dX2_lengthen_14 rfl hl (by decide) rfl (fun ls hl => ?_)
    have loop5 : ∀ (n : Nat) (x3_3 : Int32) (iv_4 : gIv) (ar_4 : gAr) (H : Heap) (locs : List Loc) (ls : Array Slot), (((b.toInt) - (x3_3.toInt)).toNat) < n → (0 ≤ (x3_3.toInt) ∧ (x3_3.toInt) ≤ (b.toInt)) → ((iv_4 66 2).toInt = (iv 66 2).toInt + (x3_3.toInt)) → (∀ a b, ¬ (a = 66 ∧ b = 2) → iv_4 a b = iv a b) → va_P D vwCl (GW cy ad iv_4 ar_4) H → va_S (gA ad s.heap.size) s.heap H locs → lv_has ls 4 [(3, .int x3_3), (0, .ref (ad 66)), (1, .int a), (2, .int b)] → W p l e (headSpec wsX2_lengthen (({ frames := 0, cells := 0, slots := 0, locals := 0 } : Room))).room s m (([.ref (ad 66), .int a, .int b] : List Value).toArray) below meth c H locs 0 0 Q (F0 m 15 ls []) := by
      intro n
      induction n with
      | zero => intro x3_3 iv_4 ar_4 H locs ls hm; omega
      | succ n ih5 =>
        intro x3_3 iv_4 ar_4 H locs ls hm hg0 hgl hgi hP hS hl
        refine lv_iload_n hx hb dX2_lengthen_15 rfl (lv_at hl 0 rfl) ?_
        refine lv_iload_n hx hb dX2_lengthen_16 rfl (lv_at hl 3 rfl) ?_
        refine lv_icmp_ge (tgt := 62) hx hb dX2_lengthen_17 (by decide) (fun c_6 => ?_) (fun c_6 => ?_)
        · skip
          have q_6 : b.toInt ≤ x3_3.toInt := i_le2 (rfl : b.toInt = b.toInt) (rfl : x3_3.toInt = x3_3.toInt) c_6
          refine lv_iconst (v := 1) hx hb dX2_lengthen_62 (by decide) ?_
          rw [hQ]
          exact W.zret (v := 1) hx hb hr rfl (fun t ht hW => ⟨⟨1, (iv_4, ar_4), rfl, Or.inr ⟨rfl, by omega, by show (iv_4 66 2).toInt = _; omega, hgi⟩, by show va_P _ _ _ _; rw [ht]; exact hP⟩, hS.F ht⟩) hS.2.2 dX2_lengthen_63
        · skip
          have q_6 : x3_3.toInt < b.toInt := i_nle2 (rfl : b.toInt = b.toInt) (rfl : x3_3.toInt = x3_3.toInt) c_6
          refine lv_aload_n hx hb dX2_lengthen_20 rfl (lv_at hl 1 rfl) ?_
          refine va_get (D := D) (ci := 2) (v := .int (iv_4 66 2)) (C := RX2) (T := TX2) (N := 5) hx hb hts inX2 hown hK hP 66 (g_at2 (Nat.le_of_ble_eq_true rfl) rfl) rfl 2 (by decide) lk0 (fun _ h9 => h9) rfl dX2_lengthen_21 ?_
          refine lv_if_lt (tgt := 62) hx hb dX2_lengthen_24 (by decide) (fun c_7 => ?_) (fun c_7 => ?_)
          · skip
            have q_7 : (iv_4 66 2).toInt < (0 : Int) := i_lt2 (rfl : (iv_4 66 2).toInt = (iv_4 66 2).toInt) (show (0 : Int32).toInt = (0 : Int) from rfl) c_7
            exfalso; omega
          · skip
            have q_7 : (0 : Int) ≤ (iv_4 66 2).toInt := i_nlt2 (rfl : (iv_4 66 2).toInt = (iv_4 66 2).toInt) (show (0 : Int32).toInt = (0 : Int) from rfl) c_7
            refine lv_aload_n hx hb dX2_lengthen_27 rfl (lv_at hl 1 rfl) ?_
            refine va_get (D := D) (ci := 2) (v := .int (iv_4 66 2)) (C := RX2) (T := TX2) (N := 5) hx hb hts inX2 hown hK hP 66 (g_at2 (Nat.le_of_ble_eq_true rfl) rfl) rfl 2 (by decide) lk0 (fun _ h9 => h9) rfl dX2_lengthen_28 ?_
            refine lv_bipush (v := 60) hx hb dX2_lengthen_31 (by decide) ?_
            refine lv_icmp_ge (tgt := 62) hx hb dX2_lengthen_33 (by decide) (fun c_8 => ?_) (fun c_8 => ?_)
            · skip
              have q_8 : (60 : Int) ≤ (iv_4 66 2).toInt := i_le2 (show (60 : Int32).toInt = (60 : Int) from rfl) (rfl : (iv_4 66 2).toInt = (iv_4 66 2).toInt) c_8
              refine lv_iconst (v := 1) hx hb dX2_lengthen_62 (by decide) ?_
              rw [hQ]
              exact W.zret (v := 1) hx hb hr rfl (fun t ht hW => ⟨⟨1, (iv_4, ar_4), rfl, Or.inr ⟨rfl, by omega, by show (iv_4 66 2).toInt = _; omega, hgi⟩, by show va_P _ _ _ _; rw [ht]; exact hP⟩, hS.F ht⟩) hS.2.2 dX2_lengthen_63
            · skip
              have q_8 : (iv_4 66 2).toInt < (60 : Int) := i_nle2 (show (60 : Int32).toInt = (60 : Int) from rfl) (rfl : (iv_4 66 2).toInt = (iv_4 66 2).toInt) c_8
              refine lv_aload_n hx hb dX2_lengthen_36 rfl (lv_at hl 1 rfl) ?_
              refine va_get (D := D) (ci := 2) (v := .ref (ad 67)) (C := RX2) (T := TX2) (N := 5) hx hb hts inX2 hown hK hP 66 (g_at2 (Nat.le_of_ble_eq_true rfl) rfl) rfl 0 (by decide) lk1 (fun _ h9 => h9) rfl dX2_lengthen_37 ?_
              refine lv_aload_n hx hb dX2_lengthen_40 rfl (lv_at hl 1 rfl) ?_
              refine va_get (D := D) (ci := 2) (v := .int (iv_4 66 2)) (C := RX2) (T := TX2) (N := 5) hx hb hts inX2 hown hK hP 66 (g_at2 (Nat.le_of_ble_eq_true rfl) rfl) rfl 2 (by decide) lk0 (fun _ h9 => h9) rfl dX2_lengthen_41 ?_
              refine lv_iload_n hx hb dX2_lengthen_44 rfl (lv_at hl 2 rfl) ?_
              refine va_iast hx hb hK hP (gD hI) hS 67 0 (g_at12 (Nat.le_of_ble_eq_true rfl) rfl) rfl (g_in (N := 60) (rfl : (iv_4 66 2).toInt = (iv_4 66 2).toInt) rfl (by omega) (by omega)) dX2_lengthen_45 (fun H locs hP _ hS => ?_)
              rw [g_pt12 (Nat.le_of_ble_eq_true rfl) rfl] at hP
              obtain ⟨ar_9, ear_9⟩ : ∃ z : gAr, z = va_up ar_4 67 (upd (ar_4 67) (iv_4 66 2).toNatClampNeg a) := ⟨_, rfl⟩
              rw [← ear_9] at hP
              refine lv_aload_n hx hb dX2_lengthen_46 rfl (lv_at hl 1 rfl) ?_
              refine lv_dup hx hb dX2_lengthen_47 rfl ?_
              refine va_get (D := D) (ci := 2) (v := .int (iv_4 66 2)) (C := RX2) (T := TX2) (N := 5) hx hb hts inX2 hown hK hP 66 (g_at2 (Nat.le_of_ble_eq_true rfl) rfl) rfl 2 (by decide) lk0 (fun _ h9 => h9) rfl dX2_lengthen_48 ?_
              refine lv_iconst (v := 1) hx hb dX2_lengthen_51 (by decide) ?_
              refine lv_iadd hx hb dX2_lengthen_52 ?_
              refine lv_topi (fun v_10 ev_10 => ?_)
              have tv_10 : v_10.toInt = ((iv_4 66 2).toInt) + (1 : Int) := i_add (rfl : (iv_4 66 2).toInt = (iv_4 66 2).toInt) (show (1 : Int32).toInt = (1 : Int) from rfl) (by omega) (by omega) ev_10
              refine va_put (D := D) (ci := 2) (v := .int v_10) (ty := .int) (C := RX2) (T := TX2) (N := 5) hx hb hts inX2 tyX2 tyX2_ok nmX2 hown hK hP (gD hI) hS 66 (g_at2 (Nat.le_of_ble_eq_true rfl) rfl) rfl 2 (by decide) lk0 (fun _ h9 => h9) rfl (by decide +kernel) rfl rfl (Nat.le_of_ble_eq_true rfl) dX2_lengthen_53 (fun H locs hP _ hS => ?_)
              have hP : va_P D vwCl (GW cy ad (u2 iv_4 66 2 v_10) ar_9) H := by rw [← g_pt2_2 (Nat.le_of_ble_eq_true rfl) rfl]; exact hP
              obtain ⟨iv_11, eiv_11⟩ : ∃ z : gIv, z = u2 iv_4 66 2 v_10 := ⟨_, rfl⟩
              rw [← eiv_11] at hP
              obtain ⟨x3_12, ex3_12⟩ : ∃ y : Int32, y = x3_3 + 1 := ⟨_, rfl⟩
              have tx3_12 : x3_12.toInt = x3_3.toInt + (1 : Int) := i_add (rfl : x3_3.toInt = x3_3.toInt) (show (1 : Int32).toInt = (1 : Int) from rfl) (by omega) (by omega) ex3_12
              refine lv_iinc (v := x3_12) (lv' := [(3, .int x3_12), (0, .ref (ad 66)), (1, .int a), (2, .int b)]) hx hb dX2_lengthen_56 hl (k := 0) rfl (by rw [ex3_12]; rfl) (by decide) rfl (fun ls hl => ?_)
              refine lv_goto (tgt := 15) hx hb dX2_lengthen_59 (by decide) ?_
              have hnl : (iv_11 66 2).toInt = (iv 66 2).toInt + (x3_12.toInt) := by rw [eiv_11, u2_s]; omega
              exact ih5 x3_12 iv_11 ar_9 _ _ _ (by omega) (by omega) hnl (fun a b h => by rw [eiv_11, u2_o h]; exact hgi a b h) hP hS (lv_sub hl [0, 1, 2, 3] rfl)
    have zl_13 : (0 : Int32).toInt = (0 : Int) := rfl
    exact loop5 ((((b.toInt) - ((0 : Int))).toNat) + 1) 0 iv ar _ _ _ (by omega) (by omega) (by have z0 := i_l0; omega) (fun _ _ _ => rfl) hP hS (lv_sub hl [0, 1, 2, 3] rfl)
  · skip
    have q_2 : (60 : Int) < v_1.toInt := i_nle2 (rfl : v_1.toInt = v_1.toInt) (show (60 : Int32).toInt = (60 : Int) from rfl) c_2
    refine lv_iconst (v := 0) hx hb dX2_lengthen_11 (by decide) ?_
    rw [hQ]
    exact W.zret (v := 0) hx hb hr rfl (fun t ht hW => ⟨⟨0, (iv, ar), rfl, Or.inl ⟨rfl, by omega, rfl⟩, by show va_P _ _ _ _; rw [ht]; exact hP⟩, hS.F ht⟩) hS.2.2 dX2_lengthen_12
set_option maxHeartbeats 4000000 in
set_option maxRecDepth 100000 in
theorem c_X5_remove (l : Launch) (D : va_G) (cy : Nat → ClassId) (ad : Nat → Nat) (hI : gInj ad) (sz : Nat) (iv : gIv) (ar : gAr) (k : Nat) (hk : k < 135) (hd : kd k = 5) (a : Int32) (hz : SZ iv) : Met l yX5_remove wsX5_remove ({ frames := 1, cells := 0, slots := 0, locals := 21 } : Room) (va_Pc [.ref (ad k), .int a] (gPre D cy ad sz iv ar)) (va_Qi (fun (r : Int32) (u : gIv × gAr) => KP iv u.1) (gPost D cy ad) (gA ad sz)) 0 0 (gA ad sz) := by
  refine Met.ofW (cc := cX5_remove) (maxL := 3) (ret := (some .boolean)) (by decide) rfl ?_
  intro p e s m args below meth c s₁ B hml hv
  obtain ⟨rfl, rfl, hP, hK, hSt, hNw⟩ := hv
  have hx := B.exec
  have hb := B.bytes
  have hr := B.returns
  have hts := atoms_spec (ws := wsX5_remove) B.pre
  have hown : s.vm.findClass RX5 = some m.cls := findClass_of_methodNamed B.named
  have hlocks := B.notSynchronized
  have hS : va_S (gA ad s.heap.size) s.heap s.heap [] := va_S.rf
  have inX5 : ∀ w ∈ u_ws RX5 TX5 2, w ∈ wsX5_remove := by decide +kernel
  have lk0 := hts (.fieldLink RX5 15 "FormationPlanner$Places" "size" "I") (by decide +kernel)
  have lk1 := hts (.fieldLink RX5 9 "FormationPlanner$Places" "cells" "[I") (by decide +kernel)
  have hl := lv_entry ([.ref (ad k), .int a]) (n := 3) (Nat.le_of_ble_eq_true rfl)
  rw [lg_entry_eq]
  generalize (lg_sl ([.ref (ad k), .int a]) ++ List.replicate (3 - (lg_sl ([.ref (ad k), .int a])).length) Slot.unset).toArray = ls at hl ⊢
  have hl : lv_has ls 3 [(0, .ref (ad k)), (1, .int a)] := hl
  obtain ⟨Q, hQ⟩ : ∃ Q, Q = MQ below (va_Qi (fun (r : Int32) (u : gIv × gAr) => KP iv u.1) (gPost D cy ad) (gA ad s.heap.size)) (([.ref (ad k), .int a] : List Value).toArray) s 0 0 (gA ad s.heap.size) := ⟨_, rfl⟩
  rw [← hQ]
  have fk0 : KP iv iv := KP.rf hz
  have hzk := hz k hk hd
  refine lv_aload_n hx hb dX5_remove_0 rfl (lv_at hl 0 rfl) ?_
  refine lv_iload_n hx hb dX5_remove_1 rfl (lv_at hl 1 rfl) ?_
  refine g_callSi (va_runV (As := [.int a]) (rest := []) ⟨hx, hb, hml, hown, hts⟩ (c_X5_has l D cy ad hI _ iv ar k hk hd a) (cwV 1 hts gX5_remove_X5_has rfl rfl rfl (by decide +kernel) ⟨Nat.le_of_ble_eq_true rfl, Nat.le_of_ble_eq_true rfl⟩) (g_preV hP hK hSt hNw hS (g_at5 hk hd) rfl) rfl rfl hl.1 rfl (lv_room (Nat.le_of_ble_eq_true rfl)) dX5_remove_2 ⟨Nat.zero_le _, Nat.zero_le _⟩) (fun r_1 w_1 => ?_)
  try dsimp only at w_1
  refine lv_if_ne (tgt := 10) hx hb dX5_remove_5 (by decide) (fun c_2 => ?_) (fun c_2 => ?_)
  · skip
    have q_2 : r_1.toInt ≠ (0 : Int) := i_ne2 (rfl : r_1.toInt = r_1.toInt) (show (0 : Int32).toInt = (0 : Int) from rfl) c_2
    refine lv_iload_n hx hb dX5_remove_10 rfl (lv_at hl 1 rfl) ?_
    refine lv_iconst (v := 1) hx hb dX5_remove_11 (by decide) ?_
    refine lv_iadd hx hb dX5_remove_12 ?_
    refine lv_topi (fun v_3 ev_3 => ?_)
    have rg_4 := i_rng a
    have tv_3 : v_3.toInt = a.toInt + (1 : Int) := i_add (rfl : a.toInt = a.toInt) (show (1 : Int32).toInt = (1 : Int) from rfl) (by omega) (by omega) ev_3
    refine lv_istore_n (lv' := [(2, .int v_3), (0, .ref (ad k)), (1, .int a)]) hx hb dX5_remove_13 rfl hl (by decide) rfl (fun ls hl => ?_)
    have loop7 : ∀ (n : Nat) (x2_5 : Int32) (ar_6 : gAr) (H : Heap) (locs : List Loc) (ls : Array Slot), ((6 - (x2_5.toInt)).toNat) < n → (1 ≤ (x2_5.toInt) ∧ (x2_5.toInt) ≤ 6) → va_P D vwCl (GW cy ad iv ar_6) H → va_S (gA ad s.heap.size) s.heap H locs → lv_has ls 3 [(2, .int x2_5), (0, .ref (ad k)), (1, .int a)] → W p l e (headSpec wsX5_remove (({ frames := 1, cells := 0, slots := 0, locals := 21 } : Room))).room s m (([.ref (ad k), .int a] : List Value).toArray) below meth c H locs 0 0 Q (F0 m 14 ls []) := by
      intro n
      induction n with
      | zero => intro x2_5 ar_6 H locs ls hm; omega
      | succ n ih7 =>
        intro x2_5 ar_6 H locs ls hm hg0 hP hS hl
        refine lv_iload_n hx hb dX5_remove_14 rfl (lv_at hl 0 rfl) ?_
        refine lv_aload_n hx hb dX5_remove_15 rfl (lv_at hl 1 rfl) ?_
        refine va_get (D := D) (ci := 5) (v := .int (iv k 1)) (C := RX5) (T := TX5) (N := 2) hx hb hts inX5 hown hK hP k (g_at5 hk hd) rfl 1 (by decide) lk0 (fun _ h9 => h9) rfl dX5_remove_16 ?_
        refine lv_icmp_ge (tgt := 48) hx hb dX5_remove_19 (by decide) (fun c_8 => ?_) (fun c_8 => ?_)
        · skip
          have q_8 : (iv k 1).toInt ≤ x2_5.toInt := i_le2 (rfl : (iv k 1).toInt = (iv k 1).toInt) (rfl : x2_5.toInt = x2_5.toInt) c_8
          refine lv_aload_n hx hb dX5_remove_48 rfl (lv_at hl 1 rfl) ?_
          refine lv_dup hx hb dX5_remove_49 rfl ?_
          refine va_get (D := D) (ci := 5) (v := .int (iv k 1)) (C := RX5) (T := TX5) (N := 2) hx hb hts inX5 hown hK hP k (g_at5 hk hd) rfl 1 (by decide) lk0 (fun _ h9 => h9) rfl dX5_remove_50 ?_
          refine lv_iconst (v := 1) hx hb dX5_remove_53 (by decide) ?_
          refine lv_isub hx hb dX5_remove_54 ?_
          refine lv_topi (fun v_9 ev_9 => ?_)
          have tv_9 : v_9.toInt = ((iv k 1).toInt) - (1 : Int) := i_sub (rfl : (iv k 1).toInt = (iv k 1).toInt) (show (1 : Int32).toInt = (1 : Int) from rfl) (by omega) (by omega) ev_9
          refine va_put (D := D) (ci := 5) (v := .int v_9) (ty := .int) (C := RX5) (T := TX5) (N := 2) hx hb hts inX5 tyX5 tyX5_ok nmX5 hown hK hP (gD hI) hS k (g_at5 hk hd) rfl 1 (by decide) lk0 (fun _ h9 => h9) rfl (by decide +kernel) rfl rfl (Nat.le_of_ble_eq_true rfl) dX5_remove_55 (fun H locs hP _ hS => ?_)
          have hP : va_P D vwCl (GW cy ad (u2 iv k 1 v_9) ar_6) H := by rw [← g_pt5_1 hk hd]; exact hP
          obtain ⟨iv_10, eiv_10⟩ : ∃ z : gIv, z = u2 iv k 1 v_9 := ⟨_, rfl⟩
          rw [← eiv_10] at hP
          have fk_10 : KP iv iv_10 := by rw [eiv_10]; exact fk0.up5 hd (by have h9 := hz k hk hd; omega)
          refine lv_iconst (v := 1) hx hb dX5_remove_58 (by decide) ?_
          rw [hQ]
          exact W.zret (v := 1) hx hb hr rfl (fun t ht hW => ⟨⟨1, (iv_10, ar_6), rfl, fk_10, by show va_P _ _ _ _; rw [ht]; exact hP⟩, hS.F ht⟩) hS.2.2 dX5_remove_59
        · skip
          have q_8 : x2_5.toInt < (iv k 1).toInt := i_nle2 (rfl : (iv k 1).toInt = (iv k 1).toInt) (rfl : x2_5.toInt = x2_5.toInt) c_8
          refine lv_iload_n hx hb dX5_remove_22 rfl (lv_at hl 0 rfl) ?_
          refine lv_bipush (v := 6) hx hb dX5_remove_23 (by decide) ?_
          refine lv_icmp_ge (tgt := 48) hx hb dX5_remove_25 (by decide) (fun c_11 => ?_) (fun c_11 => ?_)
          · skip
            have q_11 : (6 : Int) ≤ x2_5.toInt := i_le2 (show (6 : Int32).toInt = (6 : Int) from rfl) (rfl : x2_5.toInt = x2_5.toInt) c_11
            exfalso; omega
          · skip
            have q_11 : x2_5.toInt < (6 : Int) := i_nle2 (show (6 : Int32).toInt = (6 : Int) from rfl) (rfl : x2_5.toInt = x2_5.toInt) c_11
            refine lv_aload_n hx hb dX5_remove_28 rfl (lv_at hl 1 rfl) ?_
            refine va_get (D := D) (ci := 5) (v := .ref (ad (k + 1))) (C := RX5) (T := TX5) (N := 2) hx hb hts inX5 hown hK hP k (g_at5 hk hd) rfl 0 (by decide) lk1 (fun _ h9 => h9) rfl dX5_remove_29 ?_
            refine lv_iload_n hx hb dX5_remove_32 rfl (lv_at hl 0 rfl) ?_
            refine lv_iconst (v := 1) hx hb dX5_remove_33 (by decide) ?_
            refine lv_isub hx hb dX5_remove_34 ?_
            refine lv_topi (fun v_12 ev_12 => ?_)
            have tv_12 : v_12.toInt = x2_5.toInt - (1 : Int) := i_sub (rfl : x2_5.toInt = x2_5.toInt) (show (1 : Int32).toInt = (1 : Int) from rfl) (by omega) (by omega) ev_12
            refine lv_aload_n hx hb dX5_remove_35 rfl (lv_at hl 1 rfl) ?_
            refine va_get (D := D) (ci := 5) (v := .ref (ad (k + 1))) (C := RX5) (T := TX5) (N := 2) hx hb hts inX5 hown hK hP k (g_at5 hk hd) rfl 0 (by decide) lk1 (fun _ h9 => h9) rfl dX5_remove_36 ?_
            refine lv_iload_n hx hb dX5_remove_39 rfl (lv_at hl 0 rfl) ?_
            refine va_iald hx hb hK hP (k + 1) 0 (g_at12 (g_k5_0 hk hd).1 (g_k5_0 hk hd).2) rfl (g_in (N := 6) (rfl : x2_5.toInt = x2_5.toInt) (g_l5_0 hk hd) (by omega) (by omega)) dX5_remove_40 ?_
            refine lv_topi (fun v_13 ev_13 => ?_)
            refine va_iast hx hb hK hP (gD hI) hS (k + 1) 0 (g_at12 (g_k5_0 hk hd).1 (g_k5_0 hk hd).2) rfl (g_in (N := 6) (rfl : v_12.toInt = v_12.toInt) (g_l5_0 hk hd) (by omega) (by omega)) dX5_remove_41 (fun H locs hP _ hS => ?_)
            rw [g_pt12 (g_k5_0 hk hd).1 (g_k5_0 hk hd).2] at hP
            obtain ⟨ar_14, ear_14⟩ : ∃ z : gAr, z = va_up ar_6 (k + 1) (upd (ar_6 (k + 1)) v_12.toNatClampNeg v_13) := ⟨_, rfl⟩
            rw [← ear_14] at hP
            obtain ⟨x2_15, ex2_15⟩ : ∃ y : Int32, y = x2_5 + 1 := ⟨_, rfl⟩
            have tx2_15 : x2_15.toInt = x2_5.toInt + (1 : Int) := i_add (rfl : x2_5.toInt = x2_5.toInt) (show (1 : Int32).toInt = (1 : Int) from rfl) (by omega) (by omega) ex2_15
            refine lv_iinc (v := x2_15) (lv' := [(2, .int x2_15), (0, .ref (ad k)), (1, .int a)]) hx hb dX5_remove_42 hl (k := 0) rfl (by rw [ex2_15]; rfl) (by decide) rfl (fun ls hl => ?_)
            refine lv_goto (tgt := 14) hx hb dX5_remove_45 (by decide) ?_
            exact ih7 x2_15 ar_14 _ _ _ (by omega) (by omega) hP hS (lv_sub hl [0, 1, 2] rfl)
    exact loop7 (((6 - (v_3.toInt)).toNat) + 1) v_3 ar _ _ _ (by omega) (by omega) hP hS (lv_sub hl [0, 1, 2] rfl)
  · skip
    have q_2 : r_1.toInt = (0 : Int) := i_eq2 (rfl : r_1.toInt = r_1.toInt) (show (0 : Int32).toInt = (0 : Int) from rfl) c_2
    refine lv_iconst (v := 0) hx hb dX5_remove_8 (by decide) ?_
    rw [hQ]
    exact W.zret (v := 0) hx hb hr rfl (fun t ht hW => ⟨⟨0, (iv, ar), rfl, fk0, by show va_P _ _ _ _; rw [ht]; exact hP⟩, hS.F ht⟩) hS.2.2 dX5_remove_9
