set_option maxHeartbeats 4000000 in
set_option maxRecDepth 100000 in
theorem c0_next (l : Launch) (D : va_G) (cy : Nat → ClassId) (ad : Nat → Nat) (hI : gInj ad) (sz : Nat) (iv : gIv) (ar : gAr) (a : Int32) (b : Int32) (yL : gLat ar) (yab : 0 ≤ a.toInt ∧ a.toInt < 108 ∧ 0 ≤ b.toInt ∧ b.toInt < 7) : Met l yX4_next wsX4_next ({ frames := 1, cells := 0, slots := 0, locals := 20 } : Room) (va_Pc [.ref (ad 70), .int a, .int b] (gPre D cy ad sz iv ar)) (vp_Si (fun r => r.toInt = nbN a.toInt.toNat b.toInt.toNat)) 0 0 (fun _ => False) := by
  refine Met.ofW (cc := cX4_next) (maxL := 4) (ret := (some .int)) (by decide) rfl ?_
  intro p e s m args below meth c s₁ B hml hv
  obtain ⟨rfl, rfl, hP, hK, hSt, hNw⟩ := hv
  have hx := B.exec
  have hb := B.bytes
  have hr := B.returns
  have hts := atoms_spec (ws := wsX4_next) B.pre
  have hown : s.vm.findClass RX4 = some m.cls := findClass_of_methodNamed B.named
  have hlocks := B.notSynchronized
  have hS : va_S (gA ad s.heap.size) s.heap s.heap [] := va_S.rf
  have inX4 : ∀ w ∈ u_ws RX4 TX4 2, w ∈ wsX4_next := by decide +kernel
  have inX8 : ∀ w ∈ u_ws RX8 TX8 5, w ∈ wsX4_next := by decide +kernel
  have lk0 := hts (.initialized RX10) (by decide +kernel)
  have lk1 := hts (.static yX10_isCell) (by decide +kernel)
  have lk2 := hts (.static yX10_isAction) (by decide +kernel)
  have lk3 := hts (.fieldLink RX4 9 "FormationPlanner$Lattice" "neighbours" "[I") (by decide +kernel)
  have lk4 := hts (.fieldLink RX4 15 "FormationPlanner$Lattice" "scene" "LFormationPlanner$Scene;") (by decide +kernel)
  have lk5 := hts (.fieldLink RX4 30 "FormationPlanner$Scene" "obstacles" "[I") (by decide +kernel)
  have hl := lv_entry ([.ref (ad 70), .int a, .int b]) (n := 4) (Nat.le_of_ble_eq_true rfl)
  rw [lg_entry_eq]
  generalize (lg_sl ([.ref (ad 70), .int a, .int b]) ++ List.replicate (4 - (lg_sl ([.ref (ad 70), .int a, .int b])).length) Slot.unset).toArray = ls at hl ⊢
  have hl : lv_has ls 4 [(0, .ref (ad 70)), (1, .int a), (2, .int b)] := hl
  obtain ⟨Q, hQ⟩ : ∃ Q, Q = MQ below (vp_Si (fun r => r.toInt = nbN a.toInt.toNat b.toInt.toNat)) (([.ref (ad 70), .int a, .int b] : List Value).toArray) s 0 0 (fun _ => False) := ⟨_, rfl⟩
  rw [← hQ]
  refine lv_iload_n hx hb dX4_next_0 rfl (lv_at hl 1 rfl) ?_
  refine g_callSi (va_runSN (As := [.int a]) (rest := []) ⟨hx, hb, hml, hown, hts⟩ (c_X10_isCell l a) ⟨va_cnB 1 hts gX4_next_X10_isCell_n23 rfl rfl rfl (hNw (.methodLinkNest RX4 23 yX10_isCell "FormationPlanner") (by decide +kernel)) lk0 (by decide +kernel) ⟨Nat.le_of_ble_eq_true rfl, Nat.le_of_ble_eq_true rfl⟩, lk1, trivial⟩ (g_preT) rfl rfl hl.1 rfl (lv_room (Nat.le_of_ble_eq_true rfl)) dX4_next_1 ⟨Nat.zero_le _, Nat.zero_le _⟩) (fun r_1 w_1 => ?_)
  try dsimp only at w_1
  have z_1 : r_1.toInt = 1 := by omega
  refine lv_if_eq (tgt := 14) hx hb dX4_next_4 (by decide) (fun c_2 => ?_) (fun c_2 => ?_)
  · skip
    have q_2 : (1 : Int) = (0 : Int) := i_eq2 z_1 (show (0 : Int32).toInt = (0 : Int) from rfl) c_2
    exfalso; omega
  · skip
    have q_2 : (1 : Int) ≠ (0 : Int) := i_ne2 z_1 (show (0 : Int32).toInt = (0 : Int) from rfl) c_2
    refine lv_iload_n hx hb dX4_next_7 rfl (lv_at hl 2 rfl) ?_
    refine g_callSi (va_runSN (As := [.int b]) (rest := []) ⟨hx, hb, hml, hown, hts⟩ (c_X10_isAction l b) ⟨va_cnB 1 hts gX4_next_X10_isAction_n27 rfl rfl rfl (hNw (.methodLinkNest RX4 27 yX10_isAction "FormationPlanner") (by decide +kernel)) lk0 (by decide +kernel) ⟨Nat.le_of_ble_eq_true rfl, Nat.le_of_ble_eq_true rfl⟩, lk2, trivial⟩ (g_preT) rfl rfl hl.1 rfl (lv_room (Nat.le_of_ble_eq_true rfl)) dX4_next_8 ⟨Nat.zero_le _, Nat.zero_le _⟩) (fun r_3 w_3 => ?_)
    try dsimp only at w_3
    have z_3 : r_3.toInt = 1 := by omega
    refine lv_if_ne (tgt := 16) hx hb dX4_next_11 (by decide) (fun c_4 => ?_) (fun c_4 => ?_)
    · skip
      have q_4 : (1 : Int) ≠ (0 : Int) := i_ne2 z_3 (show (0 : Int32).toInt = (0 : Int) from rfl) c_4
      refine lv_aload_n hx hb dX4_next_16 rfl (lv_at hl 0 rfl) ?_
      refine va_get (D := D) (ci := 4) (v := .ref (ad 71)) (C := RX4) (T := TX4) (N := 2) hx hb hts inX4 hown hK hP 70 (g_at4 (Nat.le_of_ble_eq_true rfl) rfl) rfl 1 (by decide) lk3 (fun _ h9 => h9) rfl dX4_next_17 ?_
      refine lv_iload_n hx hb dX4_next_20 rfl (lv_at hl 1 rfl) ?_
      refine lv_bipush (v := 7) hx hb dX4_next_21 (by decide) ?_
      refine lv_imul hx hb dX4_next_23 ?_
      refine lv_topi (fun v_5 ev_5 => ?_)
      have tv_5 : v_5.toInt = a.toInt * (7 : Int) := i_mul (rfl : a.toInt = a.toInt) (show (7 : Int32).toInt = (7 : Int) from rfl) (by omega) (by omega) ev_5
      refine lv_iload_n hx hb dX4_next_24 rfl (lv_at hl 2 rfl) ?_
      refine lv_iadd hx hb dX4_next_25 ?_
      refine lv_topi (fun v_6 ev_6 => ?_)
      have tv_6 : v_6.toInt = v_5.toInt + b.toInt := i_add (rfl : v_5.toInt = v_5.toInt) (rfl : b.toInt = b.toInt) (by omega) (by omega) ev_6
      refine va_iald hx hb hK hP 71 0 (g_at12 (Nat.le_of_ble_eq_true rfl) rfl) rfl (g_in (N := 756) (rfl : v_6.toInt = v_6.toInt) rfl (by omega) (by omega)) dX4_next_26 ?_
      refine lv_topi (fun v_7 ev_7 => ?_)
      have hnb : v_7.toInt = nbN a.toInt.toNat b.toInt.toNat := by
        rw [ev_7, show v_6.toNatClampNeg = a.toInt.toNat * 7 + b.toInt.toNat from by rw [g_cN (rfl : v_6.toInt = _)]; omega]
        exact yL.2.2 _ _ (by omega) (by omega)
      have hbb := nb_b (c := a.toInt.toNat) (q := b.toInt.toNat) (by omega) (by omega)
      refine lv_istore_n (lv' := [(3, .int v_7), (0, .ref (ad 70)), (1, .int a), (2, .int b)]) hx hb dX4_next_27 rfl hl (by decide) rfl (fun ls hl => ?_)
      refine lv_iload_n hx hb dX4_next_28 rfl (lv_at hl 0 rfl) ?_
      refine g_callSi (va_runSN (As := [.int v_7]) (rest := []) ⟨hx, hb, hml, hown, hts⟩ (c_X10_isCell l v_7) ⟨va_cnB 1 hts gX4_next_X10_isCell_n23 rfl rfl rfl (hNw (.methodLinkNest RX4 23 yX10_isCell "FormationPlanner") (by decide +kernel)) lk0 (by decide +kernel) ⟨Nat.le_of_ble_eq_true rfl, Nat.le_of_ble_eq_true rfl⟩, lk1, trivial⟩ (g_preT) rfl rfl hl.1 rfl (lv_room (Nat.le_of_ble_eq_true rfl)) dX4_next_29 ⟨Nat.zero_le _, Nat.zero_le _⟩) (fun r_8 w_8 => ?_)
      try dsimp only at w_8
      refine lv_if_eq (tgt := 51) hx hb dX4_next_32 (by decide) (fun c_9 => ?_) (fun c_9 => ?_)
      · skip
        have q_9 : r_8.toInt = (0 : Int) := i_eq2 (rfl : r_8.toInt = r_8.toInt) (show (0 : Int32).toInt = (0 : Int) from rfl) c_9
        refine lv_iconst (v := (-1)) hx hb dX4_next_51 (by decide) ?_
        rw [hQ]
        exact W.iret (v := (-1)) hx hb hr (fun t ht hW => ⟨(-1), rfl, by have zm := i_m1; omega, ht⟩) (fun q h => by cases h) dX4_next_52
      · skip
        have q_9 : r_8.toInt ≠ (0 : Int) := i_ne2 (rfl : r_8.toInt = r_8.toInt) (show (0 : Int32).toInt = (0 : Int) from rfl) c_9
        refine lv_aload_n hx hb dX4_next_35 rfl (lv_at hl 1 rfl) ?_
        refine va_get (D := D) (ci := 4) (v := .ref (ad 1)) (C := RX4) (T := TX4) (N := 2) hx hb hts inX4 hown hK hP 70 (g_at4 (Nat.le_of_ble_eq_true rfl) rfl) rfl 0 (by decide) lk4 (fun _ h9 => h9) rfl dX4_next_36 ?_
        refine va_get (D := D) (ci := 8) (v := .ref (ad 3)) (C := RX8) (T := TX8) (N := 5) hx hb hts inX8 hown hK hP 1 (g_at8 (Nat.le_of_ble_eq_true rfl) rfl) rfl 1 (by decide) lk5 (fun _ h9 => h9) rfl dX4_next_39 ?_
        refine lv_iload_n hx hb dX4_next_42 rfl (lv_at hl 0 rfl) ?_
        refine va_iald hx hb hK hP 3 0 (g_at12 (Nat.le_of_ble_eq_true rfl) rfl) rfl (g_in (N := 108) (rfl : v_7.toInt = v_7.toInt) rfl (by omega) (by omega)) dX4_next_43 ?_
        refine lv_topi (fun v_10 ev_10 => ?_)
        have z_11 : v_10.toInt = (0 : Int) := by rw [ev_10]; exact yL.2.1 _
        refine lv_if_ne (tgt := 51) hx hb dX4_next_44 (by decide) (fun c_12 => ?_) (fun c_12 => ?_)
        · skip
          have q_12 : (0 : Int) ≠ (0 : Int) := i_ne2 z_11 (show (0 : Int32).toInt = (0 : Int) from rfl) c_12
          exfalso; omega
        · skip
          have q_12 : (0 : Int) = (0 : Int) := i_eq2 z_11 (show (0 : Int32).toInt = (0 : Int) from rfl) c_12
          refine lv_iload_n hx hb dX4_next_47 rfl (lv_at hl 0 rfl) ?_
          refine lv_goto (tgt := 52) hx hb dX4_next_48 (by decide) ?_
          rw [hQ]
          exact W.iret (v := v_7) hx hb hr (fun t ht hW => ⟨v_7, rfl, by have zm := i_m1; omega, ht⟩) (fun q h => by cases h) dX4_next_52
    · skip
      have q_4 : (1 : Int) = (0 : Int) := i_eq2 z_3 (show (0 : Int32).toInt = (0 : Int) from rfl) c_4
      exfalso; omega
set_option maxHeartbeats 4000000 in
set_option maxRecDepth 100000 in
theorem c0_ticks (l : Launch) (D : va_G) (cy : Nat → ClassId) (ad : Nat → Nat) (hI : gInj ad) (sz : Nat) (iv : gIv) (ar : gAr) (a : Int32) (b : Int32) (yL : gLat ar) (yab : 0 ≤ a.toInt ∧ a.toInt < 108 ∧ 0 ≤ b.toInt ∧ b.toInt < 7) : Met l yX4_ticks wsX4_ticks ({ frames := 1, cells := 0, slots := 0, locals := 20 } : Room) (va_Pc [.ref (ad 70), .int a, .int b] (gPre D cy ad sz iv ar)) (vp_Si (fun r => r.toInt = 1)) 0 0 (fun _ => False) := by
  refine Met.ofW (cc := cX4_ticks) (maxL := 4) (ret := (some .int)) (by decide) rfl ?_
  intro p e s m args below meth c s₁ B hml hv
  obtain ⟨rfl, rfl, hP, hK, hSt, hNw⟩ := hv
  have hx := B.exec
  have hb := B.bytes
  have hr := B.returns
  have hts := atoms_spec (ws := wsX4_ticks) B.pre
  have hown : s.vm.findClass RX4 = some m.cls := findClass_of_methodNamed B.named
  have hlocks := B.notSynchronized
  have hS : va_S (gA ad s.heap.size) s.heap s.heap [] := va_S.rf
  have inX4 : ∀ w ∈ u_ws RX4 TX4 2, w ∈ wsX4_ticks := by decide +kernel
  have inX8 : ∀ w ∈ u_ws RX8 TX8 5, w ∈ wsX4_ticks := by decide +kernel
  have lk0 := hts (.initialized RX10) (by decide +kernel)
  have lk1 := hts (.static yX10_isCell) (by decide +kernel)
  have lk2 := hts (.static yX10_isAction) (by decide +kernel)
  have lk3 := hts (.fieldLink RX4 15 "FormationPlanner$Lattice" "scene" "LFormationPlanner$Scene;") (by decide +kernel)
  have lk4 := hts (.fieldLink RX4 35 "FormationPlanner$Scene" "winds" "[I") (by decide +kernel)
  have hl := lv_entry ([.ref (ad 70), .int a, .int b]) (n := 4) (Nat.le_of_ble_eq_true rfl)
  rw [lg_entry_eq]
  generalize (lg_sl ([.ref (ad 70), .int a, .int b]) ++ List.replicate (4 - (lg_sl ([.ref (ad 70), .int a, .int b])).length) Slot.unset).toArray = ls at hl ⊢
  have hl : lv_has ls 4 [(0, .ref (ad 70)), (1, .int a), (2, .int b)] := hl
  obtain ⟨Q, hQ⟩ : ∃ Q, Q = MQ below (vp_Si (fun r => r.toInt = 1)) (([.ref (ad 70), .int a, .int b] : List Value).toArray) s 0 0 (fun _ => False) := ⟨_, rfl⟩
  rw [← hQ]
  refine lv_iload_n hx hb dX4_ticks_0 rfl (lv_at hl 1 rfl) ?_
  refine g_callSi (va_runSN (As := [.int a]) (rest := []) ⟨hx, hb, hml, hown, hts⟩ (c_X10_isCell l a) ⟨va_cnB 1 hts gX4_ticks_X10_isCell_n23 rfl rfl rfl (hNw (.methodLinkNest RX4 23 yX10_isCell "FormationPlanner") (by decide +kernel)) lk0 (by decide +kernel) ⟨Nat.le_of_ble_eq_true rfl, Nat.le_of_ble_eq_true rfl⟩, lk1, trivial⟩ (g_preT) rfl rfl hl.1 rfl (lv_room (Nat.le_of_ble_eq_true rfl)) dX4_ticks_1 ⟨Nat.zero_le _, Nat.zero_le _⟩) (fun r_1 w_1 => ?_)
  try dsimp only at w_1
  have z_1 : r_1.toInt = 1 := by omega
  refine lv_if_eq (tgt := 14) hx hb dX4_ticks_4 (by decide) (fun c_2 => ?_) (fun c_2 => ?_)
  · skip
    have q_2 : (1 : Int) = (0 : Int) := i_eq2 z_1 (show (0 : Int32).toInt = (0 : Int) from rfl) c_2
    exfalso; omega
  · skip
    have q_2 : (1 : Int) ≠ (0 : Int) := i_ne2 z_1 (show (0 : Int32).toInt = (0 : Int) from rfl) c_2
    refine lv_iload_n hx hb dX4_ticks_7 rfl (lv_at hl 2 rfl) ?_
    refine g_callSi (va_runSN (As := [.int b]) (rest := []) ⟨hx, hb, hml, hown, hts⟩ (c_X10_isAction l b) ⟨va_cnB 1 hts gX4_ticks_X10_isAction_n27 rfl rfl rfl (hNw (.methodLinkNest RX4 27 yX10_isAction "FormationPlanner") (by decide +kernel)) lk0 (by decide +kernel) ⟨Nat.le_of_ble_eq_true rfl, Nat.le_of_ble_eq_true rfl⟩, lk2, trivial⟩ (g_preT) rfl rfl hl.1 rfl (lv_room (Nat.le_of_ble_eq_true rfl)) dX4_ticks_8 ⟨Nat.zero_le _, Nat.zero_le _⟩) (fun r_3 w_3 => ?_)
    try dsimp only at w_3
    have z_3 : r_3.toInt = 1 := by omega
    refine lv_if_ne (tgt := 16) hx hb dX4_ticks_11 (by decide) (fun c_4 => ?_) (fun c_4 => ?_)
    · skip
      have q_4 : (1 : Int) ≠ (0 : Int) := i_ne2 z_3 (show (0 : Int32).toInt = (0 : Int) from rfl) c_4
      refine lv_aload_n hx hb dX4_ticks_16 rfl (lv_at hl 0 rfl) ?_
      refine va_get (D := D) (ci := 4) (v := .ref (ad 1)) (C := RX4) (T := TX4) (N := 2) hx hb hts inX4 hown hK hP 70 (g_at4 (Nat.le_of_ble_eq_true rfl) rfl) rfl 0 (by decide) lk3 (fun _ h9 => h9) rfl dX4_ticks_17 ?_
      refine va_get (D := D) (ci := 8) (v := .ref (ad 2)) (C := RX8) (T := TX8) (N := 5) hx hb hts inX8 hown hK hP 1 (g_at8 (Nat.le_of_ble_eq_true rfl) rfl) rfl 0 (by decide) lk4 (fun _ h9 => h9) rfl dX4_ticks_20 ?_
      refine lv_iload_n hx hb dX4_ticks_23 rfl (lv_at hl 1 rfl) ?_
      refine lv_bipush (v := 36) hx hb dX4_ticks_24 (by decide) ?_
      refine lv_idiv hx hb dX4_ticks_26 (by decide) ?_
      refine lv_topi (fun v_5 ev_5 => ?_)
      have tv_5 : v_5.toInt = a.toInt / (36 : Int) := i_div (rfl : a.toInt = a.toInt) (show (36 : Int32).toInt = (36 : Int) from rfl) (by omega) (by omega) ev_5
      refine va_iald hx hb hK hP 2 0 (g_at12 (Nat.le_of_ble_eq_true rfl) rfl) rfl (g_in (N := 3) (rfl : v_5.toInt = v_5.toInt) rfl (by omega) (by omega)) dX4_ticks_27 ?_
      refine lv_topi (fun v_6 ev_6 => ?_)
      have z_7 : v_6.toInt = (0 : Int) := by rw [ev_6]; exact yL.1 _
      refine lv_istore_n (lv' := [(3, .int v_6), (0, .ref (ad 70)), (1, .int a), (2, .int b)]) hx hb dX4_ticks_28 rfl hl (by decide) rfl (fun ls hl => ?_)
      refine lv_iload_n hx hb dX4_ticks_29 rfl (lv_at hl 0 rfl) ?_
      refine lv_if_eq (tgt := 46) hx hb dX4_ticks_30 (by decide) (fun c_8 => ?_) (fun c_8 => ?_)
      · skip
        have q_8 : (0 : Int) = (0 : Int) := i_eq2 z_7 (show (0 : Int32).toInt = (0 : Int) from rfl) c_8
        refine lv_iconst (v := 1) hx hb dX4_ticks_46 (by decide) ?_
        rw [hQ]
        exact W.iret (v := 1) hx hb hr (fun t ht hW => ⟨1, rfl, by have z0 := i_l0; have z1 := i_l1; have zm := i_m1; have z2 := i_m2; omega, ht⟩) (fun q h => by cases h) dX4_ticks_47
      · skip
        have q_8 : (0 : Int) ≠ (0 : Int) := i_ne2 z_7 (show (0 : Int32).toInt = (0 : Int) from rfl) c_8
        exfalso; omega
    · skip
      have q_4 : (1 : Int) = (0 : Int) := i_eq2 z_3 (show (0 : Int32).toInt = (0 : Int) from rfl) c_4
      exfalso; omega
set_option maxHeartbeats 4000000 in
set_option maxRecDepth 100000 in
theorem c_X9_timeFrom (l : Launch) (D : va_G) (cy : Nat → ClassId) (ad : Nat → Nat) (hI : gInj ad) (sz : Nat) (iv : gIv) (ar : gAr) (k : Nat) (hk : k < 135) (hd : kd k = 9) (a : Int32)  : Met l yX9_timeFrom wsX9_timeFrom ({ frames := 1, cells := 0, slots := 0, locals := 20 } : Room) (va_Pc [.ref (ad k), .int a] (gPre D cy ad sz iv ar)) (vp_Si (fun r => (0 ≤ a.toInt ∧ a.toInt < 108) ∧ r = ar (k + 1) a.toNatClampNeg ∨ ¬ (0 ≤ a.toInt ∧ a.toInt < 108) ∧ r = -1)) 0 0 (fun _ => False) := by
  refine Met.ofW (cc := cX9_timeFrom) (maxL := 2) (ret := (some .int)) (by decide) rfl ?_
  intro p e s m args below meth c s₁ B hml hv
  obtain ⟨rfl, rfl, hP, hK, hSt, hNw⟩ := hv
  have hx := B.exec
  have hb := B.bytes
  have hr := B.returns
  have hts := atoms_spec (ws := wsX9_timeFrom) B.pre
  have hown : s.vm.findClass RX9 = some m.cls := findClass_of_methodNamed B.named
  have hlocks := B.notSynchronized
  have hS : va_S (gA ad s.heap.size) s.heap s.heap [] := va_S.rf
  have inX9 : ∀ w ∈ u_ws RX9 TX9 2, w ∈ wsX9_timeFrom := by decide +kernel
  have lk0 := hts (.initialized RX10) (by decide +kernel)
  have lk1 := hts (.static yX10_isCell) (by decide +kernel)
  have lk2 := hts (.fieldLink RX9 9 "FormationPlanner$TimesTo" "times" "[I") (by decide +kernel)
  have hl := lv_entry ([.ref (ad k), .int a]) (n := 2) (Nat.le_of_ble_eq_true rfl)
  rw [lg_entry_eq]
  generalize (lg_sl ([.ref (ad k), .int a]) ++ List.replicate (2 - (lg_sl ([.ref (ad k), .int a])).length) Slot.unset).toArray = ls at hl ⊢
  have hl : lv_has ls 2 [(0, .ref (ad k)), (1, .int a)] := hl
  obtain ⟨Q, hQ⟩ : ∃ Q, Q = MQ below (vp_Si (fun r => (0 ≤ a.toInt ∧ a.toInt < 108) ∧ r = ar (k + 1) a.toNatClampNeg ∨ ¬ (0 ≤ a.toInt ∧ a.toInt < 108) ∧ r = -1)) (([.ref (ad k), .int a] : List Value).toArray) s 0 0 (fun _ => False) := ⟨_, rfl⟩
  rw [← hQ]
  refine lv_iload_n hx hb dX9_timeFrom_0 rfl (lv_at hl 1 rfl) ?_
  refine g_callSi (va_runSN (As := [.int a]) (rest := []) ⟨hx, hb, hml, hown, hts⟩ (c_X10_isCell l a) ⟨va_cnB 1 hts gX9_timeFrom_X10_isCell_n25 rfl rfl rfl (hNw (.methodLinkNest RX9 25 yX10_isCell "FormationPlanner") (by decide +kernel)) lk0 (by decide +kernel) ⟨Nat.le_of_ble_eq_true rfl, Nat.le_of_ble_eq_true rfl⟩, lk1, trivial⟩ (g_preT) rfl rfl hl.1 rfl (lv_room (Nat.le_of_ble_eq_true rfl)) dX9_timeFrom_1 ⟨Nat.zero_le _, Nat.zero_le _⟩) (fun r_1 w_1 => ?_)
  try dsimp only at w_1
  refine lv_if_eq (tgt := 16) hx hb dX9_timeFrom_4 (by decide) (fun c_2 => ?_) (fun c_2 => ?_)
  · skip
    have q_2 : r_1.toInt = (0 : Int) := i_eq2 (rfl : r_1.toInt = r_1.toInt) (show (0 : Int32).toInt = (0 : Int) from rfl) c_2
    refine lv_iconst (v := (-1)) hx hb dX9_timeFrom_16 (by decide) ?_
    rw [hQ]
    exact W.iret (v := (-1)) hx hb hr (fun t ht hW => ⟨(-1), rfl, Or.inr ⟨by omega, rfl⟩, ht⟩) (fun q h => by cases h) dX9_timeFrom_17
  · skip
    have q_2 : r_1.toInt ≠ (0 : Int) := i_ne2 (rfl : r_1.toInt = r_1.toInt) (show (0 : Int32).toInt = (0 : Int) from rfl) c_2
    refine lv_aload_n hx hb dX9_timeFrom_7 rfl (lv_at hl 0 rfl) ?_
    refine va_get (D := D) (ci := 9) (v := .ref (ad (k + 1))) (C := RX9) (T := TX9) (N := 2) hx hb hts inX9 hown hK hP k (g_at9 hk hd) rfl 1 (by decide) lk2 (fun _ h9 => h9) rfl dX9_timeFrom_8 ?_
    refine lv_iload_n hx hb dX9_timeFrom_11 rfl (lv_at hl 1 rfl) ?_
    refine va_iald hx hb hK hP (k + 1) 0 (g_at12 (g_k9_1 hk hd).1 (g_k9_1 hk hd).2) rfl (g_in (N := 108) (rfl : a.toInt = a.toInt) (g_l9_1 hk hd) (by omega) (by omega)) dX9_timeFrom_12 ?_
    refine lv_topi (fun v_3 ev_3 => ?_)
    refine lv_goto (tgt := 17) hx hb dX9_timeFrom_13 (by decide) ?_
    rw [hQ]
    exact W.iret (v := v_3) hx hb hr (fun t ht hW => ⟨v_3, rfl, Or.inl ⟨by omega, ev_3⟩, ht⟩) (fun q h => by cases h) dX9_timeFrom_17
set_option maxHeartbeats 4000000 in
set_option maxRecDepth 100000 in
theorem c0_spreadBack (l : Launch) (D : va_G) (cy : Nat → ClassId) (ad : Nat → Nat) (hI : gInj ad) (sz : Nat) (iv : gIv) (ar : gAr) (k : Nat) (hk : k < 135) (hd : kd k = 9) (a : Int32) (b : Int32) (g : Nat) (yL : gLat ar) (yg : g < 108) (ya : 0 ≤ a.toInt ∧ a.toInt < 108) (yb : 0 ≤ b.toInt ∧ b.toInt ≤ 12) (yS : SBI g b.toInt (ar (k + 1))) (ym : man a.toInt.toNat g = b.toInt) : Met l yX9_spreadBack wsX9_spreadBack ({ frames := 2, cells := 0, slots := 0, locals := 43 } : Room) (va_Pc [.ref (ad k), .int a, .int b] (gPre D cy ad sz iv ar)) (va_Qi (fun (r : Int32) (u : gIv × gAr) => (∀ c, c ≠ k + 1 → u.2 c = ar c) ∧ u.1 = iv ∧ SBI g b.toInt (u.2 (k + 1)) ∧ (∀ q n : Nat, 1 ≤ q → q < 7 → nbN a.toInt.toNat q = (n : Int) → (u.2 (k + 1) n).toInt ≠ -1) ∧ (∀ c, c < 108 → (ar (k + 1) c).toInt ≠ -1 → u.2 (k + 1) c = ar (k + 1) c) ∧ (b.toInt ≤ r.toInt ∧ r.toInt ≤ b.toInt + 1 ∧ r.toInt ≤ 12) ∧ ∀ c, c < 108 → (u.2 (k + 1) c).toInt ≠ -1 → (ar (k + 1) c).toInt ≠ -1 ∨ man c g ≤ r.toInt) (gPost D cy ad) (gA ad sz)) 0 0 (gA ad sz) := by
  refine Met.ofW (cc := cX9_spreadBack) (maxL := 7) (ret := (some .int)) (by decide) rfl ?_
  intro p e s m args below meth c s₁ B hml hv
  obtain ⟨rfl, rfl, hP, hK, hSt, hNw⟩ := hv
  have hx := B.exec
  have hb := B.bytes
  have hr := B.returns
  have hts := atoms_spec (ws := wsX9_spreadBack) B.pre
  have hown : s.vm.findClass RX9 = some m.cls := findClass_of_methodNamed B.named
  have hlocks := B.notSynchronized
  have hS : va_S (gA ad s.heap.size) s.heap s.heap [] := va_S.rf
  have inX9 : ∀ w ∈ u_ws RX9 TX9 2, w ∈ wsX9_spreadBack := by decide +kernel
  have lk0 := hts (.fieldLink RX9 15 "FormationPlanner$TimesTo" "lattice" "LFormationPlanner$Lattice;") (by decide +kernel)
  have lk1 := hts (.initialized RX10) (by decide +kernel)
  have lk2 := hts (.static yX10_isCell) (by decide +kernel)
  have lk3 := hts (.fieldLink RX9 9 "FormationPlanner$TimesTo" "times" "[I") (by decide +kernel)
  have lk4 := hts (.methodLink RX9 44 Lib.Math.max.name) (by decide +kernel)
  have lk5 := hts (.static Lib.Math.max.name) (by decide +kernel)
  have lk6 := hts (.initialized "java/lang/Math") (by decide +kernel)
  have lk7 := hts (.code Lib.Math.max.name Lib.Math.max.code 2 (some .int)) (by decide +kernel)
  have hl := lv_entry ([.ref (ad k), .int a, .int b]) (n := 7) (Nat.le_of_ble_eq_true rfl)
  rw [lg_entry_eq]
  generalize (lg_sl ([.ref (ad k), .int a, .int b]) ++ List.replicate (7 - (lg_sl ([.ref (ad k), .int a, .int b])).length) Slot.unset).toArray = ls at hl ⊢
  have hl : lv_has ls 7 [(0, .ref (ad k)), (1, .int a), (2, .int b)] := hl
  obtain ⟨Q, hQ⟩ : ∃ Q, Q = MQ below (va_Qi (fun (r : Int32) (u : gIv × gAr) => (∀ c, c ≠ k + 1 → u.2 c = ar c) ∧ u.1 = iv ∧ SBI g b.toInt (u.2 (k + 1)) ∧ (∀ q n : Nat, 1 ≤ q → q < 7 → nbN a.toInt.toNat q = (n : Int) → (u.2 (k + 1) n).toInt ≠ -1) ∧ (∀ c, c < 108 → (ar (k + 1) c).toInt ≠ -1 → u.2 (k + 1) c = ar (k + 1) c) ∧ (b.toInt ≤ r.toInt ∧ r.toInt ≤ b.toInt + 1 ∧ r.toInt ≤ 12) ∧ ∀ c, c < 108 → (u.2 (k + 1) c).toInt ≠ -1 → (ar (k + 1) c).toInt ≠ -1 ∨ man c g ≤ r.toInt) (gPost D cy ad) (gA ad s.heap.size)) (([.ref (ad k), .int a, .int b] : List Value).toArray) s 0 0 (gA ad s.heap.size) := ⟨_, rfl⟩
  rw [← hQ]
  have hk72 := g_t9 hk hd
  refine lv_iload_n hx hb dX9_spreadBack_0 rfl (lv_at hl 2 rfl) ?_
  refine lv_istore_n (lv' := [(3, .int b), (0, .ref (ad k)), (1, .int a), (2, .int b)]) hx hb dX9_spreadBack_1 rfl hl (by decide) rfl (fun ls hl => ?_)
  refine lv_iconst (v := 1) hx hb dX9_spreadBack_2 (by decide) ?_
  refine lv_istore (lv' := [(4, .int 1), (3, .int b), (0, .ref (ad k)), (1, .int a), (2, .int b)]) hx hb dX9_spreadBack_3 hl (by decide) rfl (fun ls hl => ?_)
  have loop4 : ∀ (n : Nat) (x4_1 : Int32) (x3_2 : Int32) (ar_3 : gAr) (H : Heap) (locs : List Loc) (ls : Array Slot), ((7 - (x4_1.toInt)).toNat) < n → (1 ≤ (x4_1.toInt) ∧ (x4_1.toInt) ≤ 7) → (∀ c, c ≠ k + 1 → ar_3 c = ar c) → (SBI g b.toInt (ar_3 (k + 1))) → (∀ q n : Nat, 1 ≤ q → (q : Int) < (x4_1.toInt) → nbN a.toInt.toNat (tB q) = (n : Int) → (ar_3 (k + 1) n).toInt ≠ -1) → (∀ c, c < 108 → (ar (k + 1) c).toInt ≠ -1 → ar_3 (k + 1) c = ar (k + 1) c) → (b.toInt ≤ (x3_2.toInt) ∧ (x3_2.toInt) ≤ b.toInt + 1 ∧ (x3_2.toInt) ≤ 12) → (∀ c, c < 108 → (ar_3 (k + 1) c).toInt ≠ -1 → (ar (k + 1) c).toInt ≠ -1 ∨ man c g ≤ (x3_2.toInt)) → va_P D vwCl (GW cy ad iv ar_3) H → va_S (gA ad s.heap.size) s.heap H locs → lv_has ls 7 [(4, .int x4_1), (3, .int x3_2), (0, .ref (ad k)), (1, .int a), (2, .int b)] → W p l e (headSpec wsX9_spreadBack (({ frames := 2, cells := 0, slots := 0, locals := 43 } : Room))).room s m (([.ref (ad k), .int a, .int b] : List Value).toArray) below meth c H locs 0 0 Q (F0 m 5 ls []) := by
    intro n
    induction n with
    | zero => intro x4_1 x3_2 ar_3 H locs ls hm; omega
    | succ n ih4 =>
      intro x4_1 x3_2 ar_3 H locs ls hm hg0 hga hgs hgp hgk hgr hgm hP hS hl
      refine lv_iload hx hb dX9_spreadBack_5 (lv_at hl 0 rfl) ?_
      refine lv_bipush (v := 7) hx hb dX9_spreadBack_7 (by decide) ?_
      refine lv_icmp_ge (tgt := 96) hx hb dX9_spreadBack_9 (by decide) (fun c_5 => ?_) (fun c_5 => ?_)
      · skip
        have q_5 : (7 : Int) ≤ x4_1.toInt := i_le2 (show (7 : Int32).toInt = (7 : Int) from rfl) (rfl : x4_1.toInt = x4_1.toInt) c_5
        refine lv_iload_n hx hb dX9_spreadBack_96 rfl (lv_at hl 1 rfl) ?_
        rw [hQ]
        exact W.iret (v := x3_2) hx hb hr (fun t ht hW => ⟨⟨x3_2, (iv, ar_3), rfl, ⟨hga, rfl, hgs, fun q n h1 h7 h => by
          have ht := tB_in h1 h7
          exact hgp (tB q) n ht.1 (by omega) (by rw [ht.2.2]; exact h), hgk, hgr, hgm⟩, by show va_P _ _ _ _; rw [ht]; exact hP⟩, hS.F ht⟩) hS.2.2 dX9_spreadBack_97
      · skip
        have q_5 : x4_1.toInt < (7 : Int) := i_nle2 (show (7 : Int32).toInt = (7 : Int) from rfl) (rfl : x4_1.toInt = x4_1.toInt) c_5
        refine lv_aload_n hx hb dX9_spreadBack_12 rfl (lv_at hl 2 rfl) ?_
        refine va_get (D := D) (ci := 9) (v := .ref (ad 70)) (C := RX9) (T := TX9) (N := 2) hx hb hts inX9 hown hK hP k (g_at9 hk hd) rfl 0 (by decide) lk0 (fun _ h9 => h9) rfl dX9_spreadBack_13 ?_
        refine lv_iload_n hx hb dX9_spreadBack_16 rfl (lv_at hl 3 rfl) ?_
        obtain ⟨t_6, hz_6, ht_6⟩ := hSt.1
        refine va_getsN hx hb hz_6 hS hown (va_Nw.use (A := (([.ref (ad k), .int a, .int b] : List Value).toArray)) rfl (hNw (.fieldLinkNest RX9 59 "FormationPlanner" "BACK" "[I" "FormationPlanner") (by decide +kernel))) (fun _ h => h) dX9_spreadBack_17 ?_
        refine lv_iload hx hb dX9_spreadBack_20 (lv_at hl 0 rfl) ?_
        refine va_ti hx hb ht_6 hS (N := 7) (g_in (rfl : x4_1.toInt = x4_1.toInt) rfl (by omega) (by omega)) rfl dX9_spreadBack_22 ?_
        refine lv_topi (fun v_8 ev_8 => ?_)
        have hvb : v_8.toInt = (tB (x4_1.toInt).toNat : Int) := by rw [ev_8, g_cN (rfl : x4_1.toInt = _)]; exact tBACK_tB (by omega)
        have hti := tB_in (q := (x4_1.toInt).toNat) (by omega) (by omega)
        have hLc : gLat ar_3 := yL.of (hga 2 (by omega)) (hga 3 (by omega)) (hga 71 (by omega))
        refine g_callSi (va_runV (As := [.int a, .int v_8]) (rest := []) ⟨hx, hb, hml, hown, hts⟩ (c0_next l D cy ad hI _ iv ar_3 a v_8 hLc (by omega)) (cwV 2 hts gX9_spreadBack_X4_next rfl rfl rfl (by decide +kernel) ⟨Nat.le_of_ble_eq_true rfl, Nat.le_of_ble_eq_true rfl⟩) (g_preV hP hK hSt hNw hS (g_at4 (Nat.le_of_ble_eq_true rfl) rfl) rfl) rfl rfl hl.1 rfl (lv_room (Nat.le_of_ble_eq_true rfl)) dX9_spreadBack_23 ⟨Nat.zero_le _, Nat.zero_le _⟩) (fun r_9 w_9 => ?_)
        try dsimp only at w_9
        have hnx : r_9.toInt = nbN a.toInt.toNat (tB (x4_1.toInt).toNat) := by
          have h9 := w_9
          rw [hvb, Int.toNat_natCast] at h9
          exact h9
        have hbb := nb_b (c := a.toInt.toNat) (q := tB (x4_1.toInt).toNat) (by omega) (by omega)
        refine lv_istore (lv' := [(5, .int r_9), (4, .int x4_1), (3, .int x3_2), (0, .ref (ad k)), (1, .int a), (2, .int b)]) hx hb dX9_spreadBack_26 hl (by decide) rfl (fun ls hl => ?_)
        refine lv_iload hx hb dX9_spreadBack_28 (lv_at hl 0 rfl) ?_
        refine g_callSi (va_runSN (As := [.int r_9]) (rest := []) ⟨hx, hb, hml, hown, hts⟩ (c_X10_isCell l r_9) ⟨va_cnB 1 hts gX9_spreadBack_X10_isCell_n25 rfl rfl rfl (hNw (.methodLinkNest RX9 25 yX10_isCell "FormationPlanner") (by decide +kernel)) lk1 (by decide +kernel) ⟨Nat.le_of_ble_eq_true rfl, Nat.le_of_ble_eq_true rfl⟩, lk2, trivial⟩ (g_preT) rfl rfl hl.1 rfl (lv_room (Nat.le_of_ble_eq_true rfl)) dX9_spreadBack_30 ⟨Nat.zero_le _, Nat.zero_le _⟩) (fun r_10 w_10 => ?_)
        try dsimp only at w_10
        refine lv_if_eq (tgt := 90) hx hb dX9_spreadBack_33 (by decide) (fun c_11 => ?_) (fun c_11 => ?_)
        · skip
          have q_11 : r_10.toInt = (0 : Int) := i_eq2 (rfl : r_10.toInt = r_10.toInt) (show (0 : Int32).toInt = (0 : Int) from rfl) c_11
          have hx4 : ∀ q n : Nat, (q : Int) = (x4_1.toInt) → nbN a.toInt.toNat (tB q) = (n : Int) → (ar_3 (k + 1) n).toInt ≠ -1 := fun q n hq hn => by
            exfalso
            have e : q = (x4_1.toInt).toNat := by omega
            subst e
            omega
          have hgs2 := hgs
          have hgp2 := hgp
          have hgk2 := hgk
          have hgm2 : ∀ c, c < 108 → (ar_3 (k + 1) c).toInt ≠ -1 → (ar (k + 1) c).toInt ≠ -1 ∨ man c g ≤ (x3_2.toInt) ∨ man c g ≤ (x3_2.toInt) := fun c hc h => (hgm c hc h).imp id Or.inl
          obtain ⟨x4_12, ex4_12⟩ : ∃ y : Int32, y = x4_1 + 1 := ⟨_, rfl⟩
          have tx4_12 : x4_12.toInt = x4_1.toInt + (1 : Int) := i_add (rfl : x4_1.toInt = x4_1.toInt) (show (1 : Int32).toInt = (1 : Int) from rfl) (by omega) (by omega) ex4_12
          refine lv_iinc (v := x4_12) (lv' := [(4, .int x4_12), (5, .int r_9), (3, .int x3_2), (0, .ref (ad k)), (1, .int a), (2, .int b)]) hx hb dX9_spreadBack_90 hl (k := 1) rfl (by rw [ex4_12]; rfl) (by decide) rfl (fun ls hl => ?_)
          refine lv_goto (tgt := 5) hx hb dX9_spreadBack_93 (by decide) ?_
          exact ih4 x4_12 x3_2 ar_3 _ _ _ (by omega) (by omega) hga hgs2 (fun q n h1 h2 h3 => (Classical.em ((q : Int) = (x4_12.toInt) - 1)).elim (fun e => hx4 q n (by omega) h3) (fun e => hgp2 q n h1 (by omega) h3)) hgk2 (by omega) (fun c hc h => by
            rcases hgm2 c hc h with q9 | q9 | q9
            · exact Or.inl q9
            · right; omega
            · right; omega) hP hS (lv_sub hl [0, 2, 3, 4, 5] rfl)
        · skip
          have q_11 : r_10.toInt ≠ (0 : Int) := i_ne2 (rfl : r_10.toInt = r_10.toInt) (show (0 : Int32).toInt = (0 : Int) from rfl) c_11
          refine lv_iload_n hx hb dX9_spreadBack_36 rfl (lv_at hl 5 rfl) ?_
          refine lv_aload_n hx hb dX9_spreadBack_37 rfl (lv_at hl 3 rfl) ?_
          refine va_get (D := D) (ci := 9) (v := .ref (ad 70)) (C := RX9) (T := TX9) (N := 2) hx hb hts inX9 hown hK hP k (g_at9 hk hd) rfl 0 (by decide) lk0 (fun _ h9 => h9) rfl dX9_spreadBack_38 ?_
          refine lv_iload hx hb dX9_spreadBack_41 (lv_at hl 0 rfl) ?_
          refine lv_iload hx hb dX9_spreadBack_43 (lv_at hl 1 rfl) ?_
          refine g_callSi (va_runV (As := [.int r_9, .int x4_1]) (rest := [.int b]) ⟨hx, hb, hml, hown, hts⟩ (c0_ticks l D cy ad hI _ iv ar_3 r_9 x4_1 hLc (by omega)) (cwV 2 hts gX9_spreadBack_X4_ticks rfl rfl rfl (by decide +kernel) ⟨Nat.le_of_ble_eq_true rfl, Nat.le_of_ble_eq_true rfl⟩) (g_preV hP hK hSt hNw hS (g_at4 (Nat.le_of_ble_eq_true rfl) rfl) rfl) rfl rfl hl.1 rfl (lv_room (Nat.le_of_ble_eq_true rfl)) dX9_spreadBack_45 ⟨Nat.zero_le _, Nat.zero_le _⟩) (fun r_13 w_13 => ?_)
          try dsimp only at w_13
          refine lv_iadd hx hb dX9_spreadBack_48 ?_
          refine lv_topi (fun v_14 ev_14 => ?_)
          have tv_14 : v_14.toInt = b.toInt + (1 : Int) := i_add (rfl : b.toInt = b.toInt) w_13 (by omega) (by omega) ev_14
          refine lv_istore (lv' := [(6, .int v_14), (5, .int r_9), (4, .int x4_1), (3, .int x3_2), (0, .ref (ad k)), (1, .int a), (2, .int b)]) hx hb dX9_spreadBack_49 hl (by decide) rfl (fun ls hl => ?_)
          refine lv_aload_n hx hb dX9_spreadBack_51 rfl (lv_at hl 4 rfl) ?_
          refine va_get (D := D) (ci := 9) (v := .ref (ad (k + 1))) (C := RX9) (T := TX9) (N := 2) hx hb hts inX9 hown hK hP k (g_at9 hk hd) rfl 1 (by decide) lk3 (fun _ h9 => h9) rfl dX9_spreadBack_52 ?_
          refine lv_iload hx hb dX9_spreadBack_55 (lv_at hl 1 rfl) ?_
          refine va_iald hx hb hK hP (k + 1) 0 (g_at12 (g_k9_1 hk hd).1 (g_k9_1 hk hd).2) rfl (g_in (N := 108) (rfl : r_9.toInt = r_9.toInt) (g_l9_1 hk hd) (by omega) (by omega)) dX9_spreadBack_57 ?_
          refine lv_topi (fun v_15 ev_15 => ?_)
          have hv1 := ev_15
          refine lv_iconst (v := (-1)) hx hb dX9_spreadBack_58 (by decide) ?_
          refine lv_icmp_eq (tgt := 74) hx hb dX9_spreadBack_59 (by decide) (fun c_16 => ?_) (fun c_16 => ?_)
          · skip
            have q_16 : v_15.toInt = (-1 : Int) := i_eq2 (rfl : v_15.toInt = v_15.toInt) (show ((-1) : Int32).toInt = (-1 : Int) from rfl) c_16
            have hneg : (ar_3 (k + 1) (r_9.toInt).toNat).toInt = -1 := by rw [← g_cN (rfl : r_9.toInt = _), ← hv1]; exact q_16
            refine lv_aload_n hx hb dX9_spreadBack_74 rfl (lv_at hl 4 rfl) ?_
            refine va_get (D := D) (ci := 9) (v := .ref (ad (k + 1))) (C := RX9) (T := TX9) (N := 2) hx hb hts inX9 hown hK hP k (g_at9 hk hd) rfl 1 (by decide) lk3 (fun _ h9 => h9) rfl dX9_spreadBack_75 ?_
            refine lv_iload hx hb dX9_spreadBack_78 (lv_at hl 1 rfl) ?_
            refine lv_iload hx hb dX9_spreadBack_80 (lv_at hl 0 rfl) ?_
            refine va_iast hx hb hK hP (gD hI) hS (k + 1) 0 (g_at12 (g_k9_1 hk hd).1 (g_k9_1 hk hd).2) rfl (g_in (N := 108) (rfl : r_9.toInt = r_9.toInt) (g_l9_1 hk hd) (by omega) (by omega)) dX9_spreadBack_82 (fun H locs hP _ hS => ?_)
            rw [g_pt12 (g_k9_1 hk hd).1 (g_k9_1 hk hd).2] at hP
            obtain ⟨ar_17, ear_17⟩ : ∃ z : gAr, z = va_up ar_3 (k + 1) (upd (ar_3 (k + 1)) r_9.toNatClampNeg v_14) := ⟨_, rfl⟩
            rw [← ear_17] at hP
            have har : ar_17 (k + 1) = upd (ar_3 (k + 1)) (r_9.toInt).toNat v_14 := by rw [ear_17, ua_s, g_cN (rfl : r_9.toInt = _)]
            have hset := SBI.set yg hgs (c := a.toInt.toNat) (q := tB (x4_1.toInt).toNat) (n := (r_9.toInt).toNat) (by omega) ym (by omega) (by omega) (by omega) hneg (x := v_14) (by omega)
            have hgs2 : SBI g b.toInt (ar_17 (k + 1)) := by rw [har]; exact hset.1
            have h12 := (man_b (c := (r_9.toInt).toNat) (g := g) (by omega) yg).2
            have h13 := hset.2
            have hx4 : ∀ q n : Nat, (q : Int) = (x4_1.toInt) → nbN a.toInt.toNat (tB q) = (n : Int) → (ar_17 (k + 1) n).toInt ≠ -1 := fun q n hq hn => by
              have e : q = (x4_1.toInt).toNat := by omega
              subst e
              have hn2 : n = (r_9.toInt).toNat := by omega
              rw [har, hn2, pk_us]
              omega
            have hgp2 : ∀ q n : Nat, 1 ≤ q → (q : Int) < (x4_1.toInt) → nbN a.toInt.toNat (tB q) = (n : Int) → (ar_17 (k + 1) n).toInt ≠ -1 := fun q n h1 h2 h3 => by
              rw [har]
              by_cases e : n = (r_9.toInt).toNat
              · rw [e, pk_us]; omega
              · rw [pk_un e]; exact hgp q n h1 h2 h3
            have hgk2 : ∀ c, c < 108 → (ar (k + 1) c).toInt ≠ -1 → ar_17 (k + 1) c = ar (k + 1) c := fun c hc h => by
              have h8 := hgk c hc h
              rw [har, pk_un (fun e => by rw [e] at h8 h; rw [← h8] at h; exact h hneg)]
              exact h8
            have hgm2 : ∀ c, c < 108 → (ar_17 (k + 1) c).toInt ≠ -1 → (ar (k + 1) c).toInt ≠ -1 ∨ man c g ≤ (x3_2.toInt) ∨ man c g = b.toInt + 1 := fun c hc h => by
              by_cases e : c = (r_9.toInt).toNat
              · right; right; rw [e]; exact h13
              · rw [har, pk_un e] at h; exact (hgm c hc h).imp id Or.inl
            refine lv_iload_n hx hb dX9_spreadBack_83 rfl (lv_at hl 3 rfl) ?_
            refine lv_iload hx hb dX9_spreadBack_84 (lv_at hl 0 rfl) ?_
            refine va_mmax (rest := []) hx hb (hml.trans hl.1.symm) hown lk4 lk5 lk6 lk7 (Nat.le_of_ble_eq_true rfl) (Nat.le_of_ble_eq_true rfl) (Nat.zero_le _) (Nat.zero_le _) dX9_spreadBack_86 ?_
            refine lv_topi (fun v_18 ev_18 => ?_)
            have tv_18 : v_18.toInt = max x3_2.toInt v_14.toInt := i_max (rfl : x3_2.toInt = x3_2.toInt) (rfl : v_14.toInt = v_14.toInt) ev_18
            refine lv_istore_n (lv' := [(3, .int v_18), (6, .int v_14), (5, .int r_9), (4, .int x4_1), (0, .ref (ad k)), (1, .int a), (2, .int b)]) hx hb dX9_spreadBack_89 rfl hl (by decide) rfl (fun ls hl => ?_)
            obtain ⟨x4_19, ex4_19⟩ : ∃ y : Int32, y = x4_1 + 1 := ⟨_, rfl⟩
            have tx4_19 : x4_19.toInt = x4_1.toInt + (1 : Int) := i_add (rfl : x4_1.toInt = x4_1.toInt) (show (1 : Int32).toInt = (1 : Int) from rfl) (by omega) (by omega) ex4_19
            refine lv_iinc (v := x4_19) (lv' := [(4, .int x4_19), (3, .int v_18), (6, .int v_14), (5, .int r_9), (0, .ref (ad k)), (1, .int a), (2, .int b)]) hx hb dX9_spreadBack_90 hl (k := 3) rfl (by rw [ex4_19]; rfl) (by decide) rfl (fun ls hl => ?_)
            refine lv_goto (tgt := 5) hx hb dX9_spreadBack_93 (by decide) ?_
            exact ih4 x4_19 v_18 ar_17 _ _ _ (by omega) (by omega) (fun c h => by rw [ear_17, ua_o h]; exact hga c h) hgs2 (fun q n h1 h2 h3 => (Classical.em ((q : Int) = (x4_19.toInt) - 1)).elim (fun e => hx4 q n (by omega) h3) (fun e => hgp2 q n h1 (by omega) h3)) hgk2 (by omega) (fun c hc h => by
              rcases hgm2 c hc h with q9 | q9 | q9
              · exact Or.inl q9
              · right; omega
              · right; omega) hP hS (lv_sub hl [0, 1, 4, 5, 6] rfl)
          · skip
            have q_16 : v_15.toInt ≠ (-1 : Int) := i_ne2 (rfl : v_15.toInt = v_15.toInt) (show ((-1) : Int32).toInt = (-1 : Int) from rfl) c_16
            refine lv_iload hx hb dX9_spreadBack_62 (lv_at hl 0 rfl) ?_
            refine lv_aload_n hx hb dX9_spreadBack_64 rfl (lv_at hl 4 rfl) ?_
            refine va_get (D := D) (ci := 9) (v := .ref (ad (k + 1))) (C := RX9) (T := TX9) (N := 2) hx hb hts inX9 hown hK hP k (g_at9 hk hd) rfl 1 (by decide) lk3 (fun _ h9 => h9) rfl dX9_spreadBack_65 ?_
            refine lv_iload hx hb dX9_spreadBack_68 (lv_at hl 1 rfl) ?_
            refine va_iald hx hb hK hP (k + 1) 0 (g_at12 (g_k9_1 hk hd).1 (g_k9_1 hk hd).2) rfl (g_in (N := 108) (rfl : r_9.toInt = r_9.toInt) (g_l9_1 hk hd) (by omega) (by omega)) dX9_spreadBack_70 ?_
            refine lv_topi (fun v_20 ev_20 => ?_)
            have hv2 : v_20.toInt = (ar_3 (k + 1) (r_9.toInt).toNat).toInt := by rw [ev_20, g_cN (rfl : r_9.toInt = _)]
            refine lv_icmp_ge (tgt := 90) hx hb dX9_spreadBack_71 (by decide) (fun c_21 => ?_) (fun c_21 => ?_)
            · skip
              have q_21 : v_20.toInt ≤ v_14.toInt := i_le2 (rfl : v_20.toInt = v_20.toInt) (rfl : v_14.toInt = v_14.toInt) c_21
              have hx4 : ∀ q n : Nat, (q : Int) = (x4_1.toInt) → nbN a.toInt.toNat (tB q) = (n : Int) → (ar_3 (k + 1) n).toInt ≠ -1 := fun q n hq hn => by
                have e : q = (x4_1.toInt).toNat := by omega
                subst e
                have hn2 : n = r_9.toNatClampNeg := by rw [g_cN (rfl : r_9.toInt = _)]; omega
                rw [hn2, ← hv1]
                omega
              have hgs2 := hgs
              have hgp2 := hgp
              have hgk2 := hgk
              have hgm2 : ∀ c, c < 108 → (ar_3 (k + 1) c).toInt ≠ -1 → (ar (k + 1) c).toInt ≠ -1 ∨ man c g ≤ (x3_2.toInt) ∨ man c g ≤ (x3_2.toInt) := fun c hc h => (hgm c hc h).imp id Or.inl
              obtain ⟨x4_22, ex4_22⟩ : ∃ y : Int32, y = x4_1 + 1 := ⟨_, rfl⟩
              have tx4_22 : x4_22.toInt = x4_1.toInt + (1 : Int) := i_add (rfl : x4_1.toInt = x4_1.toInt) (show (1 : Int32).toInt = (1 : Int) from rfl) (by omega) (by omega) ex4_22
              refine lv_iinc (v := x4_22) (lv' := [(4, .int x4_22), (6, .int v_14), (5, .int r_9), (3, .int x3_2), (0, .ref (ad k)), (1, .int a), (2, .int b)]) hx hb dX9_spreadBack_90 hl (k := 2) rfl (by rw [ex4_22]; rfl) (by decide) rfl (fun ls hl => ?_)
              refine lv_goto (tgt := 5) hx hb dX9_spreadBack_93 (by decide) ?_
              exact ih4 x4_22 x3_2 ar_3 _ _ _ (by omega) (by omega) hga hgs2 (fun q n h1 h2 h3 => (Classical.em ((q : Int) = (x4_22.toInt) - 1)).elim (fun e => hx4 q n (by omega) h3) (fun e => hgp2 q n h1 (by omega) h3)) hgk2 (by omega) (fun c hc h => by
                rcases hgm2 c hc h with q9 | q9 | q9
                · exact Or.inl q9
                · right; omega
                · right; omega) hP hS (lv_sub hl [0, 3, 4, 5, 6] rfl)
            · skip
              have q_21 : v_14.toInt < v_20.toInt := i_nle2 (rfl : v_20.toInt = v_20.toInt) (rfl : v_14.toInt = v_14.toInt) c_21
              exfalso
              have hz := hgs (r_9.toInt).toNat (by omega)
              omega
  have zl_23 : (1 : Int32).toInt = (1 : Int) := rfl
  exact loop4 (((7 - ((1 : Int))).toNat) + 1) 1 b ar _ _ _ (by omega) (by omega) (fun _ _ => rfl) yS (fun q n h1 h2 => by exfalso; omega) (fun _ _ _ => rfl) (by omega) (fun _ _ h => Or.inl h) hP hS (lv_sub hl [0, 1, 2, 3, 4] rfl)
set_option maxHeartbeats 4000000 in
set_option maxRecDepth 100000 in
theorem c0_measure (l : Launch) (D : va_G) (cy : Nat → ClassId) (ad : Nat → Nat) (hI : gInj ad) (sz : Nat) (iv : gIv) (ar : gAr) (k : Nat) (hk : k < 135) (hd : kd k = 9) (a : Int32) (yL : gLat ar) (ya : 0 ≤ a.toInt ∧ a.toInt < 108) : Met l yX9_measure wsX9_measure ({ frames := 3, cells := 0, slots := 0, locals := 69 } : Room) (va_Pc [.ref (ad k), .int a] (gPre D cy ad sz iv ar)) (va_Qv (fun (u : gIv × gAr) => u.1 = iv ∧ (∀ c, c ≠ k + 1 → u.2 c = ar c) ∧ ∀ c, c < 108 → (u.2 (k + 1) c).toInt = man c a.toInt.toNat) (gPost D cy ad) (gA ad sz)) 0 0 (gA ad sz) := by
  refine Met.ofW (cc := cX9_measure) (maxL := 5) (ret := none) (by decide) rfl ?_
  intro p e s m args below meth c s₁ B hml hv
  obtain ⟨rfl, rfl, hP, hK, hSt, hNw⟩ := hv
  have hx := B.exec
  have hb := B.bytes
  have hr := B.returns
  have hts := atoms_spec (ws := wsX9_measure) B.pre
  have hown : s.vm.findClass RX9 = some m.cls := findClass_of_methodNamed B.named
  have hlocks := B.notSynchronized
  have hS : va_S (gA ad s.heap.size) s.heap s.heap [] := va_S.rf
  have inX4 : ∀ w ∈ u_ws RX4 TX4 2, w ∈ wsX9_measure := by decide +kernel
  have inX8 : ∀ w ∈ u_ws RX8 TX8 5, w ∈ wsX9_measure := by decide +kernel
  have inX9 : ∀ w ∈ u_ws RX9 TX9 2, w ∈ wsX9_measure := by decide +kernel
  have lk0 := hts (.fieldLink RX9 9 "FormationPlanner$TimesTo" "times" "[I") (by decide +kernel)
  have lk1 := hts (.initialized RX10) (by decide +kernel)
  have lk2 := hts (.static yX10_isCell) (by decide +kernel)
  have lk3 := hts (.fieldLink RX9 15 "FormationPlanner$TimesTo" "lattice" "LFormationPlanner$Lattice;") (by decide +kernel)
  have lk4 := hts (.fieldLink RX9 29 "FormationPlanner$Lattice" "scene" "LFormationPlanner$Scene;") (by decide +kernel)
  have lk5 := hts (.fieldLink RX9 35 "FormationPlanner$Scene" "obstacles" "[I") (by decide +kernel)
  have lk6 := hts (.methodLink RX9 44 Lib.Math.max.name) (by decide +kernel)
  have lk7 := hts (.static Lib.Math.max.name) (by decide +kernel)
  have lk8 := hts (.initialized "java/lang/Math") (by decide +kernel)
  have lk9 := hts (.code Lib.Math.max.name Lib.Math.max.code 2 (some .int)) (by decide +kernel)
  have hl := lv_entry ([.ref (ad k), .int a]) (n := 5) (Nat.le_of_ble_eq_true rfl)
  rw [lg_entry_eq]
  generalize (lg_sl ([.ref (ad k), .int a]) ++ List.replicate (5 - (lg_sl ([.ref (ad k), .int a])).length) Slot.unset).toArray = ls at hl ⊢
  have hl : lv_has ls 5 [(0, .ref (ad k)), (1, .int a)] := hl
  obtain ⟨Q, hQ⟩ : ∃ Q, Q = MQ below (va_Qv (fun (u : gIv × gAr) => u.1 = iv ∧ (∀ c, c ≠ k + 1 → u.2 c = ar c) ∧ ∀ c, c < 108 → (u.2 (k + 1) c).toInt = man c a.toInt.toNat) (gPost D cy ad) (gA ad s.heap.size)) (([.ref (ad k), .int a] : List Value).toArray) s 0 0 (gA ad s.heap.size) := ⟨_, rfl⟩
  rw [← hQ]
  have hk72 := g_t9 hk hd
  have hln := g_l9_1 hk hd
  refine lv_aload_n hx hb dX9_measure_0 rfl (lv_at hl 0 rfl) ?_
  refine va_get (D := D) (ci := 9) (v := .ref (ad (k + 1))) (C := RX9) (T := TX9) (N := 2) hx hb hts inX9 hown hK hP k (g_at9 hk hd) rfl 1 (by decide) lk0 (fun _ h9 => h9) rfl dX9_measure_1 ?_
  refine lv_iconst (v := (-1)) hx hb dX9_measure_4 (by decide) ?_
  have zl_1 : ((-1) : Int32).toInt = (-1 : Int) := rfl
  refine g_callv (va_runS (As := [.ref (ad (k + 1)), .int (-1)]) (rest := []) ⟨hx, hb, hml, hown, hts⟩ (c_J7_fill_53178 l D cy ad hI _ iv ar (k + 1) (g_k9_1 hk hd).1 (g_k9_1 hk hd).2 (-1)) (va_cwS 2 hts gX9_measure_J7_fill_53178 rfl rfl rfl (by decide +kernel) ⟨Nat.le_of_ble_eq_true rfl, Nat.le_of_ble_eq_true rfl⟩) (g_preS hP hK hSt hNw hS) rfl rfl hl.1 rfl (lv_room (Nat.le_of_ble_eq_true rfl)) dX9_measure_5 ⟨Nat.zero_le _, Nat.zero_le _⟩) hS (fun iv_2 ar_2 H locs w_2 hP hS => ?_)
  try dsimp only at w_2
  refine lv_iload_n hx hb dX9_measure_8 rfl (lv_at hl 1 rfl) ?_
  refine g_callSi (va_runSN (As := [.int a]) (rest := []) ⟨hx, hb, hml, hown, hts⟩ (c_X10_isCell l a) ⟨va_cnB 1 hts gX9_measure_X10_isCell_n25 rfl rfl rfl (hNw (.methodLinkNest RX9 25 yX10_isCell "FormationPlanner") (by decide +kernel)) lk1 (by decide +kernel) ⟨Nat.le_of_ble_eq_true rfl, Nat.le_of_ble_eq_true rfl⟩, lk2, trivial⟩ (g_preT) rfl rfl hl.1 rfl (lv_room (Nat.le_of_ble_eq_true rfl)) dX9_measure_9 ⟨Nat.zero_le _, Nat.zero_le _⟩) (fun r_3 w_3 => ?_)
  try dsimp only at w_3
  have z_3 : r_3.toInt = 1 := by omega
  refine lv_if_eq (tgt := 30) hx hb dX9_measure_12 (by decide) (fun c_4 => ?_) (fun c_4 => ?_)
  · skip
    have q_4 : (1 : Int) = (0 : Int) := i_eq2 z_3 (show (0 : Int32).toInt = (0 : Int) from rfl) c_4
    exfalso; omega
  · skip
    have q_4 : (1 : Int) ≠ (0 : Int) := i_ne2 z_3 (show (0 : Int32).toInt = (0 : Int) from rfl) c_4
    refine lv_aload_n hx hb dX9_measure_15 rfl (lv_at hl 0 rfl) ?_
    refine va_get (D := D) (ci := 9) (v := .ref (ad 70)) (C := RX9) (T := TX9) (N := 2) hx hb hts inX9 hown hK hP k (g_at9 hk hd) rfl 0 (by decide) lk3 (fun _ h9 => h9) rfl dX9_measure_16 ?_
    refine va_get (D := D) (ci := 4) (v := .ref (ad 1)) (C := RX4) (T := TX4) (N := 2) hx hb hts inX4 hown hK hP 70 (g_at4 (Nat.le_of_ble_eq_true rfl) rfl) rfl 0 (by decide) lk4 (fun _ h9 => h9) rfl dX9_measure_19 ?_
    refine va_get (D := D) (ci := 8) (v := .ref (ad 3)) (C := RX8) (T := TX8) (N := 5) hx hb hts inX8 hown hK hP 1 (g_at8 (Nat.le_of_ble_eq_true rfl) rfl) rfl 1 (by decide) lk5 (fun _ h9 => h9) rfl dX9_measure_22 ?_
    refine lv_iload_n hx hb dX9_measure_25 rfl (lv_at hl 1 rfl) ?_
    refine va_iald hx hb hK hP 3 0 (g_at12 (Nat.le_of_ble_eq_true rfl) rfl) rfl (g_in (N := 108) (rfl : a.toInt = a.toInt) rfl (by omega) (by omega)) dX9_measure_26 ?_
    refine lv_topi (fun v_5 ev_5 => ?_)
    have z_6 : v_5.toInt = (0 : Int) := by rw [ev_5, w_2.2.1 3 (by omega)]; exact yL.2.1 _
    refine lv_if_eq (tgt := 31) hx hb dX9_measure_27 (by decide) (fun c_7 => ?_) (fun c_7 => ?_)
    · skip
      have q_7 : (0 : Int) = (0 : Int) := i_eq2 z_6 (show (0 : Int32).toInt = (0 : Int) from rfl) c_7
      refine lv_aload_n hx hb dX9_measure_31 rfl (lv_at hl 0 rfl) ?_
      refine va_get (D := D) (ci := 9) (v := .ref (ad (k + 1))) (C := RX9) (T := TX9) (N := 2) hx hb hts inX9 hown hK hP k (g_at9 hk hd) rfl 1 (by decide) lk0 (fun _ h9 => h9) rfl dX9_measure_32 ?_
      refine lv_iload_n hx hb dX9_measure_35 rfl (lv_at hl 1 rfl) ?_
      refine lv_iconst (v := 0) hx hb dX9_measure_36 (by decide) ?_
      refine va_iast hx hb hK hP (gD hI) hS (k + 1) 0 (g_at12 (g_k9_1 hk hd).1 (g_k9_1 hk hd).2) rfl (g_in (N := 108) (rfl : a.toInt = a.toInt) (g_l9_1 hk hd) (by omega) (by omega)) dX9_measure_37 (fun H locs hP _ hS => ?_)
      rw [g_pt12 (g_k9_1 hk hd).1 (g_k9_1 hk hd).2] at hP
      obtain ⟨ar_8, ear_8⟩ : ∃ z : gAr, z = va_up ar_2 (k + 1) (upd (ar_2 (k + 1)) a.toNatClampNeg 0) := ⟨_, rfl⟩
      rw [← ear_8] at hP
      have hfa : ∀ c, c ≠ k + 1 → ar_8 c = ar c := fun c h => by rw [ear_8, ua_o h]; exact w_2.2.1 c h
      have hs0 : SBI a.toInt.toNat 0 (ar_8 (k + 1)) := fun c hc => by
        rw [ear_8, ua_s]
        by_cases e : c = a.toNatClampNeg
        · right
          have e2 : c = a.toInt.toNat := by rw [e, g_cN (rfl : a.toInt = _)]
          have e3 : man c a.toInt.toNat = 0 := by rw [e2]; exact man_s
          rw [e, pk_us, ← e]
          exact ⟨by rw [e3]; rfl, by omega⟩
        · left
          have e2 : c ≠ a.toInt.toNat := fun q => e (by rw [q, g_cN (rfl : a.toInt = _)])
          have e3 := (man_b (c := c) (g := a.toInt.toNat) hc (by omega)).1
          have e4 : man c a.toInt.toNat ≠ 0 := fun q => e2 (man_0 hc (by omega) q)
          rw [pk_un e, w_2.2.2 c (by omega)]
          exact ⟨rfl, by omega⟩
      have hg0 : ∀ c, c < 108 → (ar_8 (k + 1) c).toInt ≠ -1 → man c a.toInt.toNat ≤ 0 := fun c hc h => by
        rcases hs0 c hc with z | z
        · exact absurd z.1 h
        · by_cases e : c = a.toNatClampNeg
          · have e2 : c = a.toInt.toNat := by rw [e, g_cN (rfl : a.toInt = _)]
            rw [e2, man_s]; exact Int.le_refl 0
          · exfalso
            apply h
            rw [ear_8, ua_s, pk_un e, w_2.2.2 c (by omega)]
            rfl
      refine lv_iconst (v := 0) hx hb dX9_measure_38 (by decide) ?_
      refine lv_istore_n (lv' := [(2, .int 0), (0, .ref (ad k)), (1, .int a)]) hx hb dX9_measure_39 rfl hl (by decide) rfl (fun ls hl => ?_)
      refine lv_iconst (v := 0) hx hb dX9_measure_40 (by decide) ?_
      refine lv_istore_n (lv' := [(3, .int 0), (2, .int 0), (0, .ref (ad k)), (1, .int a)]) hx hb dX9_measure_41 rfl hl (by decide) rfl (fun ls hl => ?_)
      have loop12 : ∀ (n : Nat) (x3_9 : Int32) (x2_10 : Int32) (ar_11 : gAr) (H : Heap) (locs : List Loc) (ls : Array Slot), ((20 - (x3_9.toInt)).toNat) < n → (0 ≤ (x3_9.toInt) ∧ (x3_9.toInt) ≤ (x2_10.toInt) + 1 ∧ 0 ≤ (x2_10.toInt) ∧ (x2_10.toInt) ≤ 12) → (∀ c, c ≠ k + 1 → ar_11 c = ar c) → (SBI a.toInt.toNat (x3_9.toInt) (ar_11 (k + 1))) → (∀ c, c < 108 → (ar_11 (k + 1) c).toInt ≠ -1 → man c a.toInt.toNat ≤ (x2_10.toInt)) → va_P D vwCl (GW cy ad iv_2 ar_11) H → va_S (gA ad s.heap.size) s.heap H locs → lv_has ls 5 [(3, .int x3_9), (2, .int x2_10), (0, .ref (ad k)), (1, .int a)] → W p l e (headSpec wsX9_measure (({ frames := 3, cells := 0, slots := 0, locals := 69 } : Room))).room s m (([.ref (ad k), .int a] : List Value).toArray) below meth c H locs 0 0 Q (F0 m 42 ls []) := by
        intro n
        induction n with
        | zero => intro x3_9 x2_10 ar_11 H locs ls hm; omega
        | succ n ih12 =>
          intro x3_9 x2_10 ar_11 H locs ls hm hg0 hga hgs hgg hP hS hl
          refine lv_iload_n hx hb dX9_measure_42 rfl (lv_at hl 0 rfl) ?_
          refine lv_iload_n hx hb dX9_measure_43 rfl (lv_at hl 1 rfl) ?_
          refine lv_icmp_gt (tgt := 99) hx hb dX9_measure_44 (by decide) (fun c_13 => ?_) (fun c_13 => ?_)
          · skip
            have q_13 : x2_10.toInt < x3_9.toInt := i_lt2 (rfl : x2_10.toInt = x2_10.toInt) (rfl : x3_9.toInt = x3_9.toInt) c_13
            rw [hQ]
            exact W.vret hx hb hr (fun t ht hW => ⟨⟨(iv_2, ar_11), rfl, ⟨w_2.1, hga, SBI.all (g := a.toInt.toNat) (t := (x3_9.toInt)) (x := (x2_10.toInt)) (by omega) (by omega) hgs (by omega) hgg⟩, by show va_P _ _ _ _; rw [ht]; exact hP⟩, hS.F ht⟩) hS.2.2 dX9_measure_99
          · skip
            have q_13 : x3_9.toInt ≤ x2_10.toInt := i_nlt2 (rfl : x2_10.toInt = x2_10.toInt) (rfl : x3_9.toInt = x3_9.toInt) c_13
            refine lv_iload_n hx hb dX9_measure_47 rfl (lv_at hl 0 rfl) ?_
            refine lv_sipush (v := 216) hx hb dX9_measure_48 (by decide) ?_
            refine lv_icmp_gt (tgt := 99) hx hb dX9_measure_51 (by decide) (fun c_14 => ?_) (fun c_14 => ?_)
            · skip
              have q_14 : (216 : Int) < x3_9.toInt := i_lt2 (show (216 : Int32).toInt = (216 : Int) from rfl) (rfl : x3_9.toInt = x3_9.toInt) c_14
              exfalso; omega
            · skip
              have q_14 : x3_9.toInt ≤ (216 : Int) := i_nlt2 (show (216 : Int32).toInt = (216 : Int) from rfl) (rfl : x3_9.toInt = x3_9.toInt) c_14
              refine lv_iconst (v := 0) hx hb dX9_measure_54 (by decide) ?_
              refine lv_istore (lv' := [(4, .int 0), (3, .int x3_9), (2, .int x2_10), (0, .ref (ad k)), (1, .int a)]) hx hb dX9_measure_55 hl (by decide) rfl (fun ls hl => ?_)
              have loop18 : ∀ (n : Nat) (x4_15 : Int32) (x2_16 : Int32) (ar_17 : gAr) (H : Heap) (locs : List Loc) (ls : Array Slot), ((108 - (x4_15.toInt)).toNat) < n → (0 ≤ (x4_15.toInt) ∧ (x4_15.toInt) ≤ 108) → ((x3_9.toInt) ≤ (x2_16.toInt) ∧ (x2_16.toInt) ≤ 12) → (∀ c, c ≠ k + 1 → ar_17 c = ar c) → (SBI a.toInt.toNat (x3_9.toInt) (ar_17 (k + 1))) → (∀ c : Nat, c < 108 → (c : Int) < (x4_15.toInt) → man c a.toInt.toNat = (x3_9.toInt) → ∀ q n : Nat, 1 ≤ q → q < 7 → nbN c q = (n : Int) → (ar_17 (k + 1) n).toInt ≠ -1) → (∀ c, c < 108 → (ar_17 (k + 1) c).toInt ≠ -1 → man c a.toInt.toNat ≤ (x2_16.toInt)) → va_P D vwCl (GW cy ad iv_2 ar_17) H → va_S (gA ad s.heap.size) s.heap H locs → lv_has ls 5 [(4, .int x4_15), (3, .int x3_9), (2, .int x2_16), (0, .ref (ad k)), (1, .int a)] → W p l e (headSpec wsX9_measure (({ frames := 3, cells := 0, slots := 0, locals := 69 } : Room))).room s m (([.ref (ad k), .int a] : List Value).toArray) below meth c H locs 0 0 Q (F0 m 57 ls []) := by
                intro n
                induction n with
                | zero => intro x4_15 x2_16 ar_17 H locs ls hm; omega
                | succ n ih18 =>
                  intro x4_15 x2_16 ar_17 H locs ls hm hk0 hkr hka hks hkp hkg hP hS hl
                  refine lv_iload hx hb dX9_measure_57 (lv_at hl 0 rfl) ?_
                  refine lv_bipush (v := 108) hx hb dX9_measure_59 (by decide) ?_
                  refine lv_icmp_ge (tgt := 93) hx hb dX9_measure_61 (by decide) (fun c_19 => ?_) (fun c_19 => ?_)
                  · skip
                    have q_19 : (108 : Int) ≤ x4_15.toInt := i_le2 (show (108 : Int32).toInt = (108 : Int) from rfl) (rfl : x4_15.toInt = x4_15.toInt) c_19
                    obtain ⟨x3_20, ex3_20⟩ : ∃ y : Int32, y = x3_9 + 1 := ⟨_, rfl⟩
                    have tx3_20 : x3_20.toInt = x3_9.toInt + (1 : Int) := i_add (rfl : x3_9.toInt = x3_9.toInt) (show (1 : Int32).toInt = (1 : Int) from rfl) (by omega) (by omega) ex3_20
                    refine lv_iinc (v := x3_20) (lv' := [(3, .int x3_20), (4, .int x4_15), (2, .int x2_16), (0, .ref (ad k)), (1, .int a)]) hx hb dX9_measure_93 hl (k := 1) rfl (by rw [ex3_20]; rfl) (by decide) rfl (fun ls hl => ?_)
                    refine lv_goto (tgt := 42) hx hb dX9_measure_96 (by decide) ?_
                    exact ih12 x3_20 x2_16 ar_17 _ _ _ (by omega) (by omega) hka (by rw [tx3_20]; exact SBI.next (g := a.toInt.toNat) (by omega) (by omega) hks (fun c hc hm q n h1 h7 h => hkp c hc (by omega) hm q n h1 h7 h)) hkg hP hS (lv_sub hl [0, 2, 3, 4] rfl)
                  · skip
                    have q_19 : x4_15.toInt < (108 : Int) := i_nle2 (show (108 : Int32).toInt = (108 : Int) from rfl) (rfl : x4_15.toInt = x4_15.toInt) c_19
                    refine lv_aload_n hx hb dX9_measure_64 rfl (lv_at hl 3 rfl) ?_
                    refine va_get (D := D) (ci := 9) (v := .ref (ad (k + 1))) (C := RX9) (T := TX9) (N := 2) hx hb hts inX9 hown hK hP k (g_at9 hk hd) rfl 1 (by decide) lk0 (fun _ h9 => h9) rfl dX9_measure_65 ?_
                    refine lv_iload hx hb dX9_measure_68 (lv_at hl 0 rfl) ?_
                    refine va_iald hx hb hK hP (k + 1) 0 (g_at12 (g_k9_1 hk hd).1 (g_k9_1 hk hd).2) rfl (g_in (N := 108) (rfl : x4_15.toInt = x4_15.toInt) (g_l9_1 hk hd) (by omega) (by omega)) dX9_measure_70 ?_
                    refine lv_topi (fun v_21 ev_21 => ?_)
                    have hv : v_21.toInt = (ar_17 (k + 1) (x4_15.toInt).toNat).toInt := by rw [ev_21, g_cN (rfl : x4_15.toInt = _)]
                    have hz := hks (x4_15.toInt).toNat (by omega)
                    refine lv_iload_n hx hb dX9_measure_71 rfl (lv_at hl 1 rfl) ?_
                    refine lv_icmp_ne (tgt := 87) hx hb dX9_measure_72 (by decide) (fun c_22 => ?_) (fun c_22 => ?_)
                    · skip
                      have q_22 : v_21.toInt ≠ x3_9.toInt := i_ne2 (rfl : v_21.toInt = v_21.toInt) (rfl : x3_9.toInt = x3_9.toInt) c_22
                      have hmc : man (x4_15.toInt).toNat a.toInt.toNat ≠ (x3_9.toInt) := by omega
                      have hcur : ∀ c : Nat, c < 108 → (c : Int) = (x4_15.toInt) → man c a.toInt.toNat = (x3_9.toInt) → ∀ q n : Nat, 1 ≤ q → q < 7 → nbN c q = (n : Int) → (ar_17 (k + 1) n).toInt ≠ -1 := fun c hc hq hm => by
                        exfalso
                        have e : c = (x4_15.toInt).toNat := by omega
                        subst e
                        exact hmc hm
                      have hkp2 := hkp
                      have hks2 := hks
                      have hka2 := hka
                      have hkg2 := hkg
                      obtain ⟨x4_23, ex4_23⟩ : ∃ y : Int32, y = x4_15 + 1 := ⟨_, rfl⟩
                      have tx4_23 : x4_23.toInt = x4_15.toInt + (1 : Int) := i_add (rfl : x4_15.toInt = x4_15.toInt) (show (1 : Int32).toInt = (1 : Int) from rfl) (by omega) (by omega) ex4_23
                      refine lv_iinc (v := x4_23) (lv' := [(4, .int x4_23), (3, .int x3_9), (2, .int x2_16), (0, .ref (ad k)), (1, .int a)]) hx hb dX9_measure_87 hl (k := 0) rfl (by rw [ex4_23]; rfl) (by decide) rfl (fun ls hl => ?_)
                      refine lv_goto (tgt := 57) hx hb dX9_measure_90 (by decide) ?_
                      exact ih18 x4_23 x2_16 ar_17 _ _ _ (by omega) (by omega) (by omega) hka2 hks2 (fun c hc h hm => (Classical.em ((c : Int) = (x4_23.toInt) - 1)).elim (fun e => hcur c hc (by omega) hm) (fun e => hkp2 c hc (by omega) hm)) (fun c hc h => by have h9 := hkg2 c hc h; omega) hP hS (lv_sub hl [0, 1, 2, 3, 4] rfl)
                    · skip
                      have q_22 : v_21.toInt = x3_9.toInt := i_eq2 (rfl : v_21.toInt = v_21.toInt) (rfl : x3_9.toInt = x3_9.toInt) c_22
                      have hmc : man (x4_15.toInt).toNat a.toInt.toNat = (x3_9.toInt) := by omega
                      have hLc : gLat ar_17 := yL.of (hka 2 (by omega)) (hka 3 (by omega)) (hka 71 (by omega))
                      refine lv_iload_n hx hb dX9_measure_75 rfl (lv_at hl 2 rfl) ?_
                      refine lv_aload_n hx hb dX9_measure_76 rfl (lv_at hl 3 rfl) ?_
                      refine lv_iload hx hb dX9_measure_77 (lv_at hl 0 rfl) ?_
                      refine lv_iload_n hx hb dX9_measure_79 rfl (lv_at hl 1 rfl) ?_
                      refine g_calli (va_runV (As := [.int x4_15, .int x3_9]) (rest := [.int x2_16]) ⟨hx, hb, hml, hown, hts⟩ (c0_spreadBack l D cy ad hI _ iv_2 ar_17 k hk hd x4_15 x3_9 a.toInt.toNat hLc (by omega) (by omega) (by omega) hks hmc) (cwV 2 hts gX9_measure_X9_spreadBack rfl rfl rfl (by decide +kernel) ⟨Nat.le_of_ble_eq_true rfl, Nat.le_of_ble_eq_true rfl⟩) (g_preV hP hK hSt hNw hS (g_at9 hk hd) rfl) rfl rfl hl.1 rfl (lv_room (Nat.le_of_ble_eq_true rfl)) dX9_measure_80 ⟨Nat.zero_le _, Nat.zero_le _⟩) hS (fun r_24 iv_24 ar_24 H locs w_24 hP hS => ?_)
                      try dsimp only at w_24
                      have wi_24 := (w_24.2.1).symm
                      subst wi_24
                      obtain ⟨wf, _, ws2, wn, wk, wr, wm⟩ := w_24
                      have hcur : ∀ c : Nat, c < 108 → (c : Int) = (x4_15.toInt) → man c a.toInt.toNat = (x3_9.toInt) → ∀ q n : Nat, 1 ≤ q → q < 7 → nbN c q = (n : Int) → (ar_24 (k + 1) n).toInt ≠ -1 := fun c hc hq hm q n h1 h7 h => by
                        have e : c = (x4_15.toInt).toNat := by omega
                        subst e
                        exact wn q n h1 h7 h
                      have hkp2 : ∀ c : Nat, c < 108 → (c : Int) < (x4_15.toInt) → man c a.toInt.toNat = (x3_9.toInt) → ∀ q n : Nat, 1 ≤ q → q < 7 → nbN c q = (n : Int) → (ar_24 (k + 1) n).toInt ≠ -1 := fun c hc hq hm q n h1 h7 h => by
                        have h5 := hkp c hc hq hm q n h1 h7 h
                        have h6 := (man_nb hc (by omega : a.toInt.toNat < 108) h1 h7 h).1
                        rw [wk n h6 h5]; exact h5
                      have hks2 := ws2
                      have hka2 : ∀ c, c ≠ k + 1 → ar_24 c = ar c := fun c h => (wf c h).trans (hka c h)
                      have hkg2 : ∀ c, c < 108 → (ar_24 (k + 1) c).toInt ≠ -1 → man c a.toInt.toNat ≤ (x2_16.toInt) ∨ man c a.toInt.toNat ≤ r_24.toInt := fun c hc h => by
                        rcases wm c hc h with z | z
                        · exact Or.inl (hkg c hc z)
                        · exact Or.inr z
                      refine va_mmax (rest := []) hx hb (hml.trans hl.1.symm) hown lk6 lk7 lk8 lk9 (Nat.le_of_ble_eq_true rfl) (Nat.le_of_ble_eq_true rfl) (Nat.zero_le _) (Nat.zero_le _) dX9_measure_83 ?_
                      refine lv_topi (fun v_25 ev_25 => ?_)
                      have tv_25 : v_25.toInt = max x2_16.toInt r_24.toInt := i_max (rfl : x2_16.toInt = x2_16.toInt) (rfl : r_24.toInt = r_24.toInt) ev_25
                      refine lv_istore_n (lv' := [(2, .int v_25), (4, .int x4_15), (3, .int x3_9), (0, .ref (ad k)), (1, .int a)]) hx hb dX9_measure_86 rfl hl (by decide) rfl (fun ls hl => ?_)
                      obtain ⟨x4_26, ex4_26⟩ : ∃ y : Int32, y = x4_15 + 1 := ⟨_, rfl⟩
                      have tx4_26 : x4_26.toInt = x4_15.toInt + (1 : Int) := i_add (rfl : x4_15.toInt = x4_15.toInt) (show (1 : Int32).toInt = (1 : Int) from rfl) (by omega) (by omega) ex4_26
                      refine lv_iinc (v := x4_26) (lv' := [(4, .int x4_26), (2, .int v_25), (3, .int x3_9), (0, .ref (ad k)), (1, .int a)]) hx hb dX9_measure_87 hl (k := 1) rfl (by rw [ex4_26]; rfl) (by decide) rfl (fun ls hl => ?_)
                      refine lv_goto (tgt := 57) hx hb dX9_measure_90 (by decide) ?_
                      exact ih18 x4_26 v_25 ar_24 _ _ _ (by omega) (by omega) (by omega) hka2 hks2 (fun c hc h hm => (Classical.em ((c : Int) = (x4_26.toInt) - 1)).elim (fun e => hcur c hc (by omega) hm) (fun e => hkp2 c hc (by omega) hm)) (fun c hc h => by have h9 := hkg2 c hc h; omega) hP hS (lv_sub hl [0, 2, 1, 3, 4] rfl)
              have zl_27 : (0 : Int32).toInt = (0 : Int) := rfl
              exact loop18 (((108 - ((0 : Int))).toNat) + 1) 0 x2_10 ar_11 _ _ _ (by omega) (by omega) (by omega) hga hgs (fun c hc h => by exfalso; omega) hgg hP hS (lv_sub hl [0, 1, 2, 3, 4] rfl)
      have zl_28 : (0 : Int32).toInt = (0 : Int) := rfl
      have zl_29 : (0 : Int32).toInt = (0 : Int) := rfl
      exact loop12 (((20 - ((0 : Int))).toNat) + 1) 0 0 ar_8 _ _ _ (by omega) (by omega) hfa hs0 hg0 hP hS (lv_sub hl [0, 1, 2, 3] rfl)
    · skip
      have q_7 : (0 : Int) ≠ (0 : Int) := i_ne2 z_6 (show (0 : Int32).toInt = (0 : Int) from rfl) c_7
      exfalso; omega
set_option maxHeartbeats 4000000 in
set_option maxRecDepth 100000 in
theorem f_X10_flightTime (l : Launch) (D : va_G) (cy : Nat → ClassId) (ad : Nat → Nat) (hI : gInj ad) (sz : Nat) (iv : gIv) (ar : gAr) (a : Int32) (b : Int32) (hF_iv : gFr iv ar) : Met l yX10_flightTime wsX10_flightTime ({ frames := 4, cells := 0, slots := 0, locals := 93 } : Room) (va_Pc [.ref (ad 0), .int a, .int b] (gPre D cy ad sz iv ar)) (va_Qi (fun (r : Int32) (u : gIv × gAr) => (0 ≤ a.toInt ∧ a.toInt < 108 ∧ 0 ≤ b.toInt ∧ b.toInt < 108) ∧ r.toInt = man a.toInt.toNat b.toInt.toNat ∨ ¬ (0 ≤ a.toInt ∧ a.toInt < 108 ∧ 0 ≤ b.toInt ∧ b.toInt < 108) ∧ r.toInt = -2) (gPost D cy ad) (gA ad sz)) 0 0 (gA ad sz) := by
  refine Met.ofW (cc := cX10_flightTime) (maxL := 3) (ret := (some .int)) (by decide) rfl ?_
  intro p e s m args below meth c s₁ B hml hv
  obtain ⟨rfl, rfl, hP, hK, hSt, hNw⟩ := hv
  have hx := B.exec
  have hb := B.bytes
  have hr := B.returns
  have hts := atoms_spec (ws := wsX10_flightTime) B.pre
  have hown : s.vm.findClass RX10 = some m.cls := findClass_of_methodNamed B.named
  have hlocks := B.notSynchronized
  have hS : va_S (gA ad s.heap.size) s.heap s.heap [] := va_S.rf
  have inX10 : ∀ w ∈ u_ws RX10 TX10 6, w ∈ wsX10_flightTime := by decide +kernel
  have lk0 := hts (.fieldLink RX10 40 "FormationPlanner" "timesTo" "LFormationPlanner$TimesTo;") (by decide +kernel)
  have hl := lv_entry ([.ref (ad 0), .int a, .int b]) (n := 3) (Nat.le_of_ble_eq_true rfl)
  rw [lg_entry_eq]
  generalize (lg_sl ([.ref (ad 0), .int a, .int b]) ++ List.replicate (3 - (lg_sl ([.ref (ad 0), .int a, .int b])).length) Slot.unset).toArray = ls at hl ⊢
  have hl : lv_has ls 3 [(0, .ref (ad 0)), (1, .int a), (2, .int b)] := hl
  obtain ⟨Q, hQ⟩ : ∃ Q, Q = MQ below (va_Qi (fun (r : Int32) (u : gIv × gAr) => (0 ≤ a.toInt ∧ a.toInt < 108 ∧ 0 ≤ b.toInt ∧ b.toInt < 108) ∧ r.toInt = man a.toInt.toNat b.toInt.toNat ∨ ¬ (0 ≤ a.toInt ∧ a.toInt < 108 ∧ 0 ≤ b.toInt ∧ b.toInt < 108) ∧ r.toInt = -2) (gPost D cy ad) (gA ad s.heap.size)) (([.ref (ad 0), .int a, .int b] : List Value).toArray) s 0 0 (gA ad s.heap.size) := ⟨_, rfl⟩
  rw [← hQ]
  refine lv_iload_n hx hb dX10_flightTime_0 rfl (lv_at hl 1 rfl) ?_
  refine g_callSi (va_runS (As := [.int a]) (rest := []) ⟨hx, hb, hml, hown, hts⟩ (c_X10_isCell l a) (va_cwS 1 hts gX10_flightTime_X10_isCell rfl rfl rfl (by decide +kernel) ⟨Nat.le_of_ble_eq_true rfl, Nat.le_of_ble_eq_true rfl⟩) (g_preT) rfl rfl hl.1 rfl (lv_room (Nat.le_of_ble_eq_true rfl)) dX10_flightTime_1 ⟨Nat.zero_le _, Nat.zero_le _⟩) (fun r_1 w_1 => ?_)
  try dsimp only at w_1
  refine lv_if_eq (tgt := 14) hx hb dX10_flightTime_4 (by decide) (fun c_2 => ?_) (fun c_2 => ?_)
  · skip
    have q_2 : r_1.toInt = (0 : Int) := i_eq2 (rfl : r_1.toInt = r_1.toInt) (show (0 : Int32).toInt = (0 : Int) from rfl) c_2
    refine lv_bipush (v := (-2)) hx hb dX10_flightTime_14 (by decide) ?_
    rw [hQ]
    exact W.iret (v := (-2)) hx hb hr (fun t ht hW => ⟨⟨(-2), (iv, ar), rfl, by have zr : ((-2) : Int32).toInt = (-2 : Int) := (show ((-2) : Int32).toInt = (-2 : Int) from rfl); have z0 := i_l0; have z1 := i_l1; omega, by show va_P _ _ _ _; rw [ht]; exact hP⟩, hS.F ht⟩) hS.2.2 dX10_flightTime_16
  · skip
    have q_2 : r_1.toInt ≠ (0 : Int) := i_ne2 (rfl : r_1.toInt = r_1.toInt) (show (0 : Int32).toInt = (0 : Int) from rfl) c_2
    refine lv_iload_n hx hb dX10_flightTime_7 rfl (lv_at hl 2 rfl) ?_
    refine g_callSi (va_runS (As := [.int b]) (rest := []) ⟨hx, hb, hml, hown, hts⟩ (c_X10_isCell l b) (va_cwS 1 hts gX10_flightTime_X10_isCell rfl rfl rfl (by decide +kernel) ⟨Nat.le_of_ble_eq_true rfl, Nat.le_of_ble_eq_true rfl⟩) (g_preT) rfl rfl hl.1 rfl (lv_room (Nat.le_of_ble_eq_true rfl)) dX10_flightTime_8 ⟨Nat.zero_le _, Nat.zero_le _⟩) (fun r_3 w_3 => ?_)
    try dsimp only at w_3
    refine lv_if_ne (tgt := 17) hx hb dX10_flightTime_11 (by decide) (fun c_4 => ?_) (fun c_4 => ?_)
    · skip
      have q_4 : r_3.toInt ≠ (0 : Int) := i_ne2 (rfl : r_3.toInt = r_3.toInt) (show (0 : Int32).toInt = (0 : Int) from rfl) c_4
      refine lv_aload_n hx hb dX10_flightTime_17 rfl (lv_at hl 0 rfl) ?_
      refine va_get (D := D) (ci := 10) (v := .ref (ad 72)) (C := RX10) (T := TX10) (N := 6) hx hb hts inX10 hown hK hP 0 (g_at10 (Nat.le_of_ble_eq_true rfl) rfl) rfl 3 (by decide) lk0 (fun _ h9 => h9) rfl dX10_flightTime_18 ?_
      refine lv_iload_n hx hb dX10_flightTime_21 rfl (lv_at hl 2 rfl) ?_
      refine g_callv (va_runV (As := [.int b]) (rest := []) ⟨hx, hb, hml, hown, hts⟩ (c0_measure l D cy ad hI _ iv ar 72 (Nat.le_of_ble_eq_true rfl) rfl b hF_iv.lat (by omega)) (cwV 1 hts gX10_flightTime_X9_measure rfl rfl rfl (by decide +kernel) ⟨Nat.le_of_ble_eq_true rfl, Nat.le_of_ble_eq_true rfl⟩) (g_preV hP hK hSt hNw hS (g_at9 (Nat.le_of_ble_eq_true rfl) rfl) rfl) rfl rfl hl.1 rfl (lv_room (Nat.le_of_ble_eq_true rfl)) dX10_flightTime_22 ⟨Nat.zero_le _, Nat.zero_le _⟩) hS (fun iv_5 ar_5 H locs w_5 hP hS => ?_)
      try dsimp only at w_5
      refine lv_aload_n hx hb dX10_flightTime_25 rfl (lv_at hl 0 rfl) ?_
      refine va_get (D := D) (ci := 10) (v := .ref (ad 72)) (C := RX10) (T := TX10) (N := 6) hx hb hts inX10 hown hK hP 0 (g_at10 (Nat.le_of_ble_eq_true rfl) rfl) rfl 3 (by decide) lk0 (fun _ h9 => h9) rfl dX10_flightTime_26 ?_
      refine lv_iload_n hx hb dX10_flightTime_29 rfl (lv_at hl 1 rfl) ?_
      refine g_callSi (va_runV (As := [.int a]) (rest := []) ⟨hx, hb, hml, hown, hts⟩ (c_X9_timeFrom l D cy ad hI _ iv_5 ar_5 72 (Nat.le_of_ble_eq_true rfl) rfl a) (cwV 1 hts gX10_flightTime_X9_timeFrom rfl rfl rfl (by decide +kernel) ⟨Nat.le_of_ble_eq_true rfl, Nat.le_of_ble_eq_true rfl⟩) (g_preV hP hK hSt hNw hS (g_at9 (Nat.le_of_ble_eq_true rfl) rfl) rfl) rfl rfl hl.1 rfl (lv_room (Nat.le_of_ble_eq_true rfl)) dX10_flightTime_30 ⟨Nat.zero_le _, Nat.zero_le _⟩) (fun r_6 w_6 => ?_)
      try dsimp only at w_6
      have hfin : r_6.toInt = man a.toInt.toNat b.toInt.toNat := by
        rcases w_6 with z | z
        · rw [z.2, g_cN (rfl : a.toInt = _)]; exact w_5.2.2 _ (by omega)
        · exfalso; omega
      rw [hQ]
      exact W.iret (v := r_6) hx hb hr (fun t ht hW => ⟨⟨r_6, (iv_5, ar_5), rfl, by have zr : r_6.toInt = r_6.toInt := (rfl : r_6.toInt = r_6.toInt); have z0 := i_l0; have z1 := i_l1; omega, by show va_P _ _ _ _; rw [ht]; exact hP⟩, hS.F ht⟩) hS.2.2 dX10_flightTime_33
    · skip
      have q_4 : r_3.toInt = (0 : Int) := i_eq2 (rfl : r_3.toInt = r_3.toInt) (show (0 : Int32).toInt = (0 : Int) from rfl) c_4
      refine lv_bipush (v := (-2)) hx hb dX10_flightTime_14 (by decide) ?_
      rw [hQ]
      exact W.iret (v := (-2)) hx hb hr (fun t ht hW => ⟨⟨(-2), (iv, ar), rfl, by have zr : ((-2) : Int32).toInt = (-2 : Int) := (show ((-2) : Int32).toInt = (-2 : Int) from rfl); have z0 := i_l0; have z1 := i_l1; omega, by show va_P _ _ _ _; rw [ht]; exact hP⟩, hS.F ht⟩) hS.2.2 dX10_flightTime_16
