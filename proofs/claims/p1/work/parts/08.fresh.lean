set_option maxHeartbeats 4000000 in
set_option maxRecDepth 100000 in
theorem f_X10_setWind (l : Launch) (D : va_G) (cy : Nat → ClassId) (ad : Nat → Nat) (hI : gInj ad) (sz : Nat) (iv : gIv) (ar : gAr) (a : Int32) (b : Int32) (hF_iv : gFr iv ar) : Met l yX10_setWind wsX10_setWind ({ frames := 5, cells := 0, slots := 0, locals := 123 } : Room) (va_Pc [.ref (ad 0), .int a, .int b] (gPre D cy ad sz iv ar)) (va_Qi (fun (r : Int32) (u : gIv × gAr) => (0 ≤ a.toInt ∧ a.toInt < 3 ∧ 0 ≤ b.toInt ∧ b.toInt < 5) ∧ r.toInt = 0 ∨ ¬ (0 ≤ a.toInt ∧ a.toInt < 3 ∧ 0 ≤ b.toInt ∧ b.toInt < 5) ∧ r.toInt = -2) (gPost D cy ad) (gA ad sz)) 0 0 (gA ad sz) := by
  refine Met.ofW (cc := cX10_setWind) (maxL := 4) (ret := (some .int)) (by decide) rfl ?_
  intro p e s m args below meth c s₁ B hml hv
  obtain ⟨rfl, rfl, hP, hK, hSt, hNw⟩ := hv
  have hx := B.exec
  have hb := B.bytes
  have hr := B.returns
  have hts := atoms_spec (ws := wsX10_setWind) B.pre
  have hown : s.vm.findClass RX10 = some m.cls := findClass_of_methodNamed B.named
  have hlocks := B.notSynchronized
  have hS : va_S (gA ad s.heap.size) s.heap s.heap [] := va_S.rf
  have inX10 : ∀ w ∈ u_ws RX10 TX10 6, w ∈ wsX10_setWind := by decide +kernel
  have inX8 : ∀ w ∈ u_ws RX8 TX8 5, w ∈ wsX10_setWind := by decide +kernel
  have lk0 := hts (.fieldLink RX10 12 "FormationPlanner" "scene" "LFormationPlanner$Scene;") (by decide +kernel)
  have lk1 := hts (.fieldLink RX10 70 "FormationPlanner$Scene" "winds" "[I") (by decide +kernel)
  have hl := lv_entry ([.ref (ad 0), .int a, .int b]) (n := 4) (Nat.le_of_ble_eq_true rfl)
  rw [lg_entry_eq]
  generalize (lg_sl ([.ref (ad 0), .int a, .int b]) ++ List.replicate (4 - (lg_sl ([.ref (ad 0), .int a, .int b])).length) Slot.unset).toArray = ls at hl ⊢
  have hl : lv_has ls 4 [(0, .ref (ad 0)), (1, .int a), (2, .int b)] := hl
  obtain ⟨Q, hQ⟩ : ∃ Q, Q = MQ below (va_Qi (fun (r : Int32) (u : gIv × gAr) => (0 ≤ a.toInt ∧ a.toInt < 3 ∧ 0 ≤ b.toInt ∧ b.toInt < 5) ∧ r.toInt = 0 ∨ ¬ (0 ≤ a.toInt ∧ a.toInt < 3 ∧ 0 ≤ b.toInt ∧ b.toInt < 5) ∧ r.toInt = -2) (gPost D cy ad) (gA ad s.heap.size)) (([.ref (ad 0), .int a, .int b] : List Value).toArray) s 0 0 (gA ad s.heap.size) := ⟨_, rfl⟩
  rw [← hQ]
  refine lv_iload_n hx hb dX10_setWind_0 rfl (lv_at hl 1 rfl) ?_
  refine g_callSi (va_runS (As := [.int a]) (rest := []) ⟨hx, hb, hml, hown, hts⟩ (c_X10_isLayer l a) (va_cwS 1 hts gX10_setWind_X10_isLayer rfl rfl rfl (by decide +kernel) ⟨Nat.le_of_ble_eq_true rfl, Nat.le_of_ble_eq_true rfl⟩) (g_preT) rfl rfl hl.1 rfl (lv_room (Nat.le_of_ble_eq_true rfl)) dX10_setWind_1 ⟨Nat.zero_le _, Nat.zero_le _⟩) (fun r_1 w_1 => ?_)
  try dsimp only at w_1
  refine lv_if_eq (tgt := 14) hx hb dX10_setWind_4 (by decide) (fun c_2 => ?_) (fun c_2 => ?_)
  · skip
    have q_2 : r_1.toInt = (0 : Int) := i_eq2 (rfl : r_1.toInt = r_1.toInt) (show (0 : Int32).toInt = (0 : Int) from rfl) c_2
    refine lv_bipush (v := (-2)) hx hb dX10_setWind_14 (by decide) ?_
    rw [hQ]
    exact W.iret (v := (-2)) hx hb hr (fun t ht hW => ⟨⟨(-2), (iv, ar), rfl, by have zr : ((-2) : Int32).toInt = (-2 : Int) := (show ((-2) : Int32).toInt = (-2 : Int) from rfl); have z0 := i_l0; have z1 := i_l1; omega, by show va_P _ _ _ _; rw [ht]; exact hP⟩, hS.F ht⟩) hS.2.2 dX10_setWind_16
  · skip
    have q_2 : r_1.toInt ≠ (0 : Int) := i_ne2 (rfl : r_1.toInt = r_1.toInt) (show (0 : Int32).toInt = (0 : Int) from rfl) c_2
    refine lv_iload_n hx hb dX10_setWind_7 rfl (lv_at hl 2 rfl) ?_
    refine g_callSi (va_runS (As := [.int b]) (rest := []) ⟨hx, hb, hml, hown, hts⟩ (c_X10_isWind l b) (va_cwS 1 hts gX10_setWind_X10_isWind rfl rfl rfl (by decide +kernel) ⟨Nat.le_of_ble_eq_true rfl, Nat.le_of_ble_eq_true rfl⟩) (g_preT) rfl rfl hl.1 rfl (lv_room (Nat.le_of_ble_eq_true rfl)) dX10_setWind_8 ⟨Nat.zero_le _, Nat.zero_le _⟩) (fun r_3 w_3 => ?_)
    try dsimp only at w_3
    refine lv_if_ne (tgt := 17) hx hb dX10_setWind_11 (by decide) (fun c_4 => ?_) (fun c_4 => ?_)
    · skip
      have q_4 : r_3.toInt ≠ (0 : Int) := i_ne2 (rfl : r_3.toInt = r_3.toInt) (show (0 : Int32).toInt = (0 : Int) from rfl) c_4
      refine lv_aload_n hx hb dX10_setWind_17 rfl (lv_at hl 0 rfl) ?_
      refine g_callv (va_runV (As := []) (rest := []) ⟨hx, hb, hml, hown, hts⟩ (c_X10_beginChange l D cy ad hI _ iv ar (fun c _ _ => by have := fr0 hF_iv c 1 (by omega); omega)) (cwV 0 hts gX10_setWind_X10_beginChange rfl rfl rfl (by decide +kernel) ⟨Nat.le_of_ble_eq_true rfl, Nat.le_of_ble_eq_true rfl⟩) (g_preV hP hK hSt hNw hS (g_at10 (Nat.le_of_ble_eq_true rfl) rfl) rfl) rfl rfl hl.1 rfl (lv_room (Nat.le_of_ble_eq_true rfl)) dX10_setWind_18 ⟨Nat.zero_le _, Nat.zero_le _⟩) hS (fun iv_5 ar_5 H locs w_5 hP hS => ?_)
      try dsimp only at w_5
      refine lv_aload_n hx hb dX10_setWind_21 rfl (lv_at hl 0 rfl) ?_
      refine va_get (D := D) (ci := 10) (v := .ref (ad 1)) (C := RX10) (T := TX10) (N := 6) hx hb hts inX10 hown hK hP 0 (g_at10 (Nat.le_of_ble_eq_true rfl) rfl) rfl 0 (by decide) lk0 (fun _ h9 => h9) rfl dX10_setWind_22 ?_
      refine va_get (D := D) (ci := 8) (v := .ref (ad 2)) (C := RX8) (T := TX8) (N := 5) hx hb hts inX8 hown hK hP 1 (g_at8 (Nat.le_of_ble_eq_true rfl) rfl) rfl 0 (by decide) lk1 (fun _ h9 => h9) rfl dX10_setWind_25 ?_
      refine lv_iload_n hx hb dX10_setWind_28 rfl (lv_at hl 1 rfl) ?_
      refine va_iald hx hb hK hP 2 0 (g_at12 (Nat.le_of_ble_eq_true rfl) rfl) rfl (g_in (N := 3) (rfl : a.toInt = a.toInt) rfl (by omega) (by omega)) dX10_setWind_29 ?_
      refine lv_topi (fun v_6 ev_6 => ?_)
      refine lv_istore_n (lv' := [(3, .int v_6), (0, .ref (ad 0)), (1, .int a), (2, .int b)]) hx hb dX10_setWind_30 rfl hl (by decide) rfl (fun ls hl => ?_)
      refine lv_aload_n hx hb dX10_setWind_31 rfl (lv_at hl 1 rfl) ?_
      refine va_get (D := D) (ci := 10) (v := .ref (ad 1)) (C := RX10) (T := TX10) (N := 6) hx hb hts inX10 hown hK hP 0 (g_at10 (Nat.le_of_ble_eq_true rfl) rfl) rfl 0 (by decide) lk0 (fun _ h9 => h9) rfl dX10_setWind_32 ?_
      refine va_get (D := D) (ci := 8) (v := .ref (ad 2)) (C := RX8) (T := TX8) (N := 5) hx hb hts inX8 hown hK hP 1 (g_at8 (Nat.le_of_ble_eq_true rfl) rfl) rfl 0 (by decide) lk1 (fun _ h9 => h9) rfl dX10_setWind_35 ?_
      refine lv_iload_n hx hb dX10_setWind_38 rfl (lv_at hl 2 rfl) ?_
      refine lv_iload_n hx hb dX10_setWind_39 rfl (lv_at hl 3 rfl) ?_
      refine va_iast hx hb hK hP (gD hI) hS 2 0 (g_at12 (Nat.le_of_ble_eq_true rfl) rfl) rfl (g_in (N := 3) (rfl : a.toInt = a.toInt) rfl (by omega) (by omega)) dX10_setWind_40 (fun H locs hP _ hS => ?_)
      rw [g_pt12 (Nat.le_of_ble_eq_true rfl) rfl] at hP
      obtain ⟨ar_7, ear_7⟩ : ∃ z : gAr, z = va_up ar_5 2 (upd (ar_5 2) a.toNatClampNeg b) := ⟨_, rfl⟩
      rw [← ear_7] at hP
      refine lv_iload_n hx hb dX10_setWind_41 rfl (lv_at hl 0 rfl) ?_
      rw [hQ]
      exact W.iret (v := v_6) hx hb hr (fun t ht hW => ⟨⟨v_6, (iv_5, ar_7), rfl, by have zr : v_6.toInt = (0 : Int) := (show v_6.toInt = (0 : Int) from by rw [ev_6]; rw [w_5.2.1 2 (by omega)]; exact fra hF_iv 2 _ (by decide)); have z0 := i_l0; have z1 := i_l1; omega, by show va_P _ _ _ _; rw [ht]; exact hP⟩, hS.F ht⟩) hS.2.2 dX10_setWind_42
    · skip
      have q_4 : r_3.toInt = (0 : Int) := i_eq2 (rfl : r_3.toInt = r_3.toInt) (show (0 : Int32).toInt = (0 : Int) from rfl) c_4
      refine lv_bipush (v := (-2)) hx hb dX10_setWind_14 (by decide) ?_
      rw [hQ]
      exact W.iret (v := (-2)) hx hb hr (fun t ht hW => ⟨⟨(-2), (iv, ar), rfl, by have zr : ((-2) : Int32).toInt = (-2 : Int) := (show ((-2) : Int32).toInt = (-2 : Int) from rfl); have z0 := i_l0; have z1 := i_l1; omega, by show va_P _ _ _ _; rw [ht]; exact hP⟩, hS.F ht⟩) hS.2.2 dX10_setWind_16
set_option maxHeartbeats 4000000 in
set_option maxRecDepth 100000 in
theorem f_X10_setObstacle (l : Launch) (D : va_G) (cy : Nat → ClassId) (ad : Nat → Nat) (hI : gInj ad) (sz : Nat) (iv : gIv) (ar : gAr) (a : Int32) (b : Int32) (hF_iv : gFr iv ar) : Met l yX10_setObstacle wsX10_setObstacle ({ frames := 5, cells := 0, slots := 0, locals := 123 } : Room) (va_Pc [.ref (ad 0), .int a, .int b] (gPre D cy ad sz iv ar)) (va_Qi (fun (r : Int32) (u : gIv × gAr) => (0 ≤ a.toInt ∧ a.toInt < 108 ∧ 0 ≤ b.toInt ∧ b.toInt ≤ 1) ∧ r.toInt = 0 ∨ ¬ (0 ≤ a.toInt ∧ a.toInt < 108 ∧ 0 ≤ b.toInt ∧ b.toInt ≤ 1) ∧ r.toInt = -2) (gPost D cy ad) (gA ad sz)) 0 0 (gA ad sz) := by
  refine Met.ofW (cc := cX10_setObstacle) (maxL := 4) (ret := (some .int)) (by decide) rfl ?_
  intro p e s m args below meth c s₁ B hml hv
  obtain ⟨rfl, rfl, hP, hK, hSt, hNw⟩ := hv
  have hx := B.exec
  have hb := B.bytes
  have hr := B.returns
  have hts := atoms_spec (ws := wsX10_setObstacle) B.pre
  have hown : s.vm.findClass RX10 = some m.cls := findClass_of_methodNamed B.named
  have hlocks := B.notSynchronized
  have hS : va_S (gA ad s.heap.size) s.heap s.heap [] := va_S.rf
  have inX10 : ∀ w ∈ u_ws RX10 TX10 6, w ∈ wsX10_setObstacle := by decide +kernel
  have inX8 : ∀ w ∈ u_ws RX8 TX8 5, w ∈ wsX10_setObstacle := by decide +kernel
  have lk0 := hts (.fieldLink RX10 12 "FormationPlanner" "scene" "LFormationPlanner$Scene;") (by decide +kernel)
  have lk1 := hts (.fieldLink RX10 90 "FormationPlanner$Scene" "obstacles" "[I") (by decide +kernel)
  have lk2 := hts (.fieldLink RX10 77 "FormationPlanner$Scene" "drones" "LFormationPlanner$Places;") (by decide +kernel)
  have lk3 := hts (.fieldLink RX10 87 "FormationPlanner$Scene" "slots" "LFormationPlanner$Places;") (by decide +kernel)
  have hl := lv_entry ([.ref (ad 0), .int a, .int b]) (n := 4) (Nat.le_of_ble_eq_true rfl)
  rw [lg_entry_eq]
  generalize (lg_sl ([.ref (ad 0), .int a, .int b]) ++ List.replicate (4 - (lg_sl ([.ref (ad 0), .int a, .int b])).length) Slot.unset).toArray = ls at hl ⊢
  have hl : lv_has ls 4 [(0, .ref (ad 0)), (1, .int a), (2, .int b)] := hl
  obtain ⟨Q, hQ⟩ : ∃ Q, Q = MQ below (va_Qi (fun (r : Int32) (u : gIv × gAr) => (0 ≤ a.toInt ∧ a.toInt < 108 ∧ 0 ≤ b.toInt ∧ b.toInt ≤ 1) ∧ r.toInt = 0 ∨ ¬ (0 ≤ a.toInt ∧ a.toInt < 108 ∧ 0 ≤ b.toInt ∧ b.toInt ≤ 1) ∧ r.toInt = -2) (gPost D cy ad) (gA ad s.heap.size)) (([.ref (ad 0), .int a, .int b] : List Value).toArray) s 0 0 (gA ad s.heap.size) := ⟨_, rfl⟩
  rw [← hQ]
  refine lv_iload_n hx hb dX10_setObstacle_0 rfl (lv_at hl 1 rfl) ?_
  refine g_callSi (va_runS (As := [.int a]) (rest := []) ⟨hx, hb, hml, hown, hts⟩ (c_X10_isCell l a) (va_cwS 1 hts gX10_setObstacle_X10_isCell rfl rfl rfl (by decide +kernel) ⟨Nat.le_of_ble_eq_true rfl, Nat.le_of_ble_eq_true rfl⟩) (g_preT) rfl rfl hl.1 rfl (lv_room (Nat.le_of_ble_eq_true rfl)) dX10_setObstacle_1 ⟨Nat.zero_le _, Nat.zero_le _⟩) (fun r_1 w_1 => ?_)
  try dsimp only at w_1
  refine lv_if_eq (tgt := 16) hx hb dX10_setObstacle_4 (by decide) (fun c_2 => ?_) (fun c_2 => ?_)
  · skip
    have q_2 : r_1.toInt = (0 : Int) := i_eq2 (rfl : r_1.toInt = r_1.toInt) (show (0 : Int32).toInt = (0 : Int) from rfl) c_2
    refine lv_bipush (v := (-2)) hx hb dX10_setObstacle_16 (by decide) ?_
    rw [hQ]
    exact W.iret (v := (-2)) hx hb hr (fun t ht hW => ⟨⟨(-2), (iv, ar), rfl, by have zr : ((-2) : Int32).toInt = (-2 : Int) := (show ((-2) : Int32).toInt = (-2 : Int) from rfl); have z0 := i_l0; have z1 := i_l1; omega, by show va_P _ _ _ _; rw [ht]; exact hP⟩, hS.F ht⟩) hS.2.2 dX10_setObstacle_18
  · skip
    have q_2 : r_1.toInt ≠ (0 : Int) := i_ne2 (rfl : r_1.toInt = r_1.toInt) (show (0 : Int32).toInt = (0 : Int) from rfl) c_2
    refine lv_iload_n hx hb dX10_setObstacle_7 rfl (lv_at hl 2 rfl) ?_
    refine lv_if_lt (tgt := 16) hx hb dX10_setObstacle_8 (by decide) (fun c_3 => ?_) (fun c_3 => ?_)
    · skip
      have q_3 : b.toInt < (0 : Int) := i_lt2 (rfl : b.toInt = b.toInt) (show (0 : Int32).toInt = (0 : Int) from rfl) c_3
      refine lv_bipush (v := (-2)) hx hb dX10_setObstacle_16 (by decide) ?_
      rw [hQ]
      exact W.iret (v := (-2)) hx hb hr (fun t ht hW => ⟨⟨(-2), (iv, ar), rfl, by have zr : ((-2) : Int32).toInt = (-2 : Int) := (show ((-2) : Int32).toInt = (-2 : Int) from rfl); have z0 := i_l0; have z1 := i_l1; omega, by show va_P _ _ _ _; rw [ht]; exact hP⟩, hS.F ht⟩) hS.2.2 dX10_setObstacle_18
    · skip
      have q_3 : (0 : Int) ≤ b.toInt := i_nlt2 (rfl : b.toInt = b.toInt) (show (0 : Int32).toInt = (0 : Int) from rfl) c_3
      refine lv_iload_n hx hb dX10_setObstacle_11 rfl (lv_at hl 2 rfl) ?_
      refine lv_iconst (v := 1) hx hb dX10_setObstacle_12 (by decide) ?_
      refine lv_icmp_le (tgt := 19) hx hb dX10_setObstacle_13 (by decide) (fun c_4 => ?_) (fun c_4 => ?_)
      · skip
        have q_4 : b.toInt ≤ (1 : Int) := i_le2 (rfl : b.toInt = b.toInt) (show (1 : Int32).toInt = (1 : Int) from rfl) c_4
        refine lv_iload_n hx hb dX10_setObstacle_19 rfl (lv_at hl 2 rfl) ?_
        refine lv_iconst (v := 1) hx hb dX10_setObstacle_20 (by decide) ?_
        refine lv_icmp_ne (tgt := 57) hx hb dX10_setObstacle_21 (by decide) (fun c_5 => ?_) (fun c_5 => ?_)
        · skip
          have q_5 : b.toInt ≠ (1 : Int) := i_ne2 (rfl : b.toInt = b.toInt) (show (1 : Int32).toInt = (1 : Int) from rfl) c_5
          refine lv_aload_n hx hb dX10_setObstacle_57 rfl (lv_at hl 0 rfl) ?_
          refine g_callv (va_runV (As := []) (rest := []) ⟨hx, hb, hml, hown, hts⟩ (c_X10_beginChange l D cy ad hI _ iv ar (fun c _ _ => by have := fr0 hF_iv c 1 (by omega); omega)) (cwV 0 hts gX10_setObstacle_X10_beginChange rfl rfl rfl (by decide +kernel) ⟨Nat.le_of_ble_eq_true rfl, Nat.le_of_ble_eq_true rfl⟩) (g_preV hP hK hSt hNw hS (g_at10 (Nat.le_of_ble_eq_true rfl) rfl) rfl) rfl rfl hl.1 rfl (lv_room (Nat.le_of_ble_eq_true rfl)) dX10_setObstacle_58 ⟨Nat.zero_le _, Nat.zero_le _⟩) hS (fun iv_6 ar_6 H locs w_6 hP hS => ?_)
          try dsimp only at w_6
          refine lv_aload_n hx hb dX10_setObstacle_61 rfl (lv_at hl 0 rfl) ?_
          refine va_get (D := D) (ci := 10) (v := .ref (ad 1)) (C := RX10) (T := TX10) (N := 6) hx hb hts inX10 hown hK hP 0 (g_at10 (Nat.le_of_ble_eq_true rfl) rfl) rfl 0 (by decide) lk0 (fun _ h9 => h9) rfl dX10_setObstacle_62 ?_
          refine va_get (D := D) (ci := 8) (v := .ref (ad 3)) (C := RX8) (T := TX8) (N := 5) hx hb hts inX8 hown hK hP 1 (g_at8 (Nat.le_of_ble_eq_true rfl) rfl) rfl 1 (by decide) lk1 (fun _ h9 => h9) rfl dX10_setObstacle_65 ?_
          refine lv_iload_n hx hb dX10_setObstacle_68 rfl (lv_at hl 1 rfl) ?_
          refine va_iald hx hb hK hP 3 0 (g_at12 (Nat.le_of_ble_eq_true rfl) rfl) rfl (g_in (N := 108) (rfl : a.toInt = a.toInt) rfl (by omega) (by omega)) dX10_setObstacle_69 ?_
          refine lv_topi (fun v_7 ev_7 => ?_)
          refine lv_istore_n (lv' := [(3, .int v_7), (0, .ref (ad 0)), (1, .int a), (2, .int b)]) hx hb dX10_setObstacle_70 rfl hl (by decide) rfl (fun ls hl => ?_)
          refine lv_aload_n hx hb dX10_setObstacle_71 rfl (lv_at hl 1 rfl) ?_
          refine va_get (D := D) (ci := 10) (v := .ref (ad 1)) (C := RX10) (T := TX10) (N := 6) hx hb hts inX10 hown hK hP 0 (g_at10 (Nat.le_of_ble_eq_true rfl) rfl) rfl 0 (by decide) lk0 (fun _ h9 => h9) rfl dX10_setObstacle_72 ?_
          refine va_get (D := D) (ci := 8) (v := .ref (ad 3)) (C := RX8) (T := TX8) (N := 5) hx hb hts inX8 hown hK hP 1 (g_at8 (Nat.le_of_ble_eq_true rfl) rfl) rfl 1 (by decide) lk1 (fun _ h9 => h9) rfl dX10_setObstacle_75 ?_
          refine lv_iload_n hx hb dX10_setObstacle_78 rfl (lv_at hl 2 rfl) ?_
          refine lv_iload_n hx hb dX10_setObstacle_79 rfl (lv_at hl 3 rfl) ?_
          refine va_iast hx hb hK hP (gD hI) hS 3 0 (g_at12 (Nat.le_of_ble_eq_true rfl) rfl) rfl (g_in (N := 108) (rfl : a.toInt = a.toInt) rfl (by omega) (by omega)) dX10_setObstacle_80 (fun H locs hP _ hS => ?_)
          rw [g_pt12 (Nat.le_of_ble_eq_true rfl) rfl] at hP
          obtain ⟨ar_8, ear_8⟩ : ∃ z : gAr, z = va_up ar_6 3 (upd (ar_6 3) a.toNatClampNeg b) := ⟨_, rfl⟩
          rw [← ear_8] at hP
          refine lv_iload_n hx hb dX10_setObstacle_81 rfl (lv_at hl 0 rfl) ?_
          rw [hQ]
          exact W.iret (v := v_7) hx hb hr (fun t ht hW => ⟨⟨v_7, (iv_6, ar_8), rfl, by have zr : v_7.toInt = (0 : Int) := (show v_7.toInt = (0 : Int) from by rw [ev_7]; rw [w_6.2.1 3 (by omega)]; exact fra hF_iv 3 _ (by decide)); have z0 := i_l0; have z1 := i_l1; omega, by show va_P _ _ _ _; rw [ht]; exact hP⟩, hS.F ht⟩) hS.2.2 dX10_setObstacle_82
        · skip
          have q_5 : b.toInt = (1 : Int) := i_eq2 (rfl : b.toInt = b.toInt) (show (1 : Int32).toInt = (1 : Int) from rfl) c_5
          refine lv_aload_n hx hb dX10_setObstacle_24 rfl (lv_at hl 0 rfl) ?_
          refine va_get (D := D) (ci := 10) (v := .ref (ad 1)) (C := RX10) (T := TX10) (N := 6) hx hb hts inX10 hown hK hP 0 (g_at10 (Nat.le_of_ble_eq_true rfl) rfl) rfl 0 (by decide) lk0 (fun _ h9 => h9) rfl dX10_setObstacle_25 ?_
          refine va_get (D := D) (ci := 8) (v := .ref (ad 4)) (C := RX8) (T := TX8) (N := 5) hx hb hts inX8 hown hK hP 1 (g_at8 (Nat.le_of_ble_eq_true rfl) rfl) rfl 2 (by decide) lk2 (fun _ h9 => h9) rfl dX10_setObstacle_28 ?_
          refine lv_iload_n hx hb dX10_setObstacle_31 rfl (lv_at hl 1 rfl) ?_
          refine g_callSi (va_runV (As := [.int a]) (rest := []) ⟨hx, hb, hml, hown, hts⟩ (c_X5_find l D cy ad hI _ iv ar 4 (Nat.le_of_ble_eq_true rfl) rfl a) (cwV 1 hts gX10_setObstacle_X5_find rfl rfl rfl (by decide +kernel) ⟨Nat.le_of_ble_eq_true rfl, Nat.le_of_ble_eq_true rfl⟩) (g_preV hP hK hSt hNw hS (g_at5 (Nat.le_of_ble_eq_true rfl) rfl) rfl) rfl rfl hl.1 rfl (lv_room (Nat.le_of_ble_eq_true rfl)) dX10_setObstacle_32 ⟨Nat.zero_le _, Nat.zero_le _⟩) (fun r_9 w_9 => ?_)
          try dsimp only at w_9
          have z_9 : r_9.toInt = (-1) := by
            have hq := fr0 hF_iv 4 1 (by decide)
            rcases w_9 with q | q
            · exact q.1
            · exfalso; omega
          refine lv_iconst (v := (-1)) hx hb dX10_setObstacle_35 (by decide) ?_
          refine lv_icmp_ne (tgt := 54) hx hb dX10_setObstacle_36 (by decide) (fun c_10 => ?_) (fun c_10 => ?_)
          · skip
            have q_10 : (-1 : Int) ≠ (-1 : Int) := i_ne2 z_9 (show ((-1) : Int32).toInt = (-1 : Int) from rfl) c_10
            exfalso; omega
          · skip
            have q_10 : (-1 : Int) = (-1 : Int) := i_eq2 z_9 (show ((-1) : Int32).toInt = (-1 : Int) from rfl) c_10
            refine lv_aload_n hx hb dX10_setObstacle_39 rfl (lv_at hl 0 rfl) ?_
            refine va_get (D := D) (ci := 10) (v := .ref (ad 1)) (C := RX10) (T := TX10) (N := 6) hx hb hts inX10 hown hK hP 0 (g_at10 (Nat.le_of_ble_eq_true rfl) rfl) rfl 0 (by decide) lk0 (fun _ h9 => h9) rfl dX10_setObstacle_40 ?_
            refine va_get (D := D) (ci := 8) (v := .ref (ad 6)) (C := RX8) (T := TX8) (N := 5) hx hb hts inX8 hown hK hP 1 (g_at8 (Nat.le_of_ble_eq_true rfl) rfl) rfl 3 (by decide) lk3 (fun _ h9 => h9) rfl dX10_setObstacle_43 ?_
            refine lv_iload_n hx hb dX10_setObstacle_46 rfl (lv_at hl 1 rfl) ?_
            refine g_callSi (va_runV (As := [.int a]) (rest := []) ⟨hx, hb, hml, hown, hts⟩ (c_X5_find l D cy ad hI _ iv ar 6 (Nat.le_of_ble_eq_true rfl) rfl a) (cwV 1 hts gX10_setObstacle_X5_find rfl rfl rfl (by decide +kernel) ⟨Nat.le_of_ble_eq_true rfl, Nat.le_of_ble_eq_true rfl⟩) (g_preV hP hK hSt hNw hS (g_at5 (Nat.le_of_ble_eq_true rfl) rfl) rfl) rfl rfl hl.1 rfl (lv_room (Nat.le_of_ble_eq_true rfl)) dX10_setObstacle_47 ⟨Nat.zero_le _, Nat.zero_le _⟩) (fun r_11 w_11 => ?_)
            try dsimp only at w_11
            have z_11 : r_11.toInt = (-1) := by
              have hq := fr0 hF_iv 6 1 (by decide)
              rcases w_11 with q | q
              · exact q.1
              · exfalso; omega
            refine lv_iconst (v := (-1)) hx hb dX10_setObstacle_50 (by decide) ?_
            refine lv_icmp_eq (tgt := 57) hx hb dX10_setObstacle_51 (by decide) (fun c_12 => ?_) (fun c_12 => ?_)
            · skip
              have q_12 : (-1 : Int) = (-1 : Int) := i_eq2 z_11 (show ((-1) : Int32).toInt = (-1 : Int) from rfl) c_12
              refine lv_aload_n hx hb dX10_setObstacle_57 rfl (lv_at hl 0 rfl) ?_
              refine g_callv (va_runV (As := []) (rest := []) ⟨hx, hb, hml, hown, hts⟩ (c_X10_beginChange l D cy ad hI _ iv ar (fun c _ _ => by have := fr0 hF_iv c 1 (by omega); omega)) (cwV 0 hts gX10_setObstacle_X10_beginChange rfl rfl rfl (by decide +kernel) ⟨Nat.le_of_ble_eq_true rfl, Nat.le_of_ble_eq_true rfl⟩) (g_preV hP hK hSt hNw hS (g_at10 (Nat.le_of_ble_eq_true rfl) rfl) rfl) rfl rfl hl.1 rfl (lv_room (Nat.le_of_ble_eq_true rfl)) dX10_setObstacle_58 ⟨Nat.zero_le _, Nat.zero_le _⟩) hS (fun iv_13 ar_13 H locs w_13 hP hS => ?_)
              try dsimp only at w_13
              refine lv_aload_n hx hb dX10_setObstacle_61 rfl (lv_at hl 0 rfl) ?_
              refine va_get (D := D) (ci := 10) (v := .ref (ad 1)) (C := RX10) (T := TX10) (N := 6) hx hb hts inX10 hown hK hP 0 (g_at10 (Nat.le_of_ble_eq_true rfl) rfl) rfl 0 (by decide) lk0 (fun _ h9 => h9) rfl dX10_setObstacle_62 ?_
              refine va_get (D := D) (ci := 8) (v := .ref (ad 3)) (C := RX8) (T := TX8) (N := 5) hx hb hts inX8 hown hK hP 1 (g_at8 (Nat.le_of_ble_eq_true rfl) rfl) rfl 1 (by decide) lk1 (fun _ h9 => h9) rfl dX10_setObstacle_65 ?_
              refine lv_iload_n hx hb dX10_setObstacle_68 rfl (lv_at hl 1 rfl) ?_
              refine va_iald hx hb hK hP 3 0 (g_at12 (Nat.le_of_ble_eq_true rfl) rfl) rfl (g_in (N := 108) (rfl : a.toInt = a.toInt) rfl (by omega) (by omega)) dX10_setObstacle_69 ?_
              refine lv_topi (fun v_14 ev_14 => ?_)
              refine lv_istore_n (lv' := [(3, .int v_14), (0, .ref (ad 0)), (1, .int a), (2, .int b)]) hx hb dX10_setObstacle_70 rfl hl (by decide) rfl (fun ls hl => ?_)
              refine lv_aload_n hx hb dX10_setObstacle_71 rfl (lv_at hl 1 rfl) ?_
              refine va_get (D := D) (ci := 10) (v := .ref (ad 1)) (C := RX10) (T := TX10) (N := 6) hx hb hts inX10 hown hK hP 0 (g_at10 (Nat.le_of_ble_eq_true rfl) rfl) rfl 0 (by decide) lk0 (fun _ h9 => h9) rfl dX10_setObstacle_72 ?_
              refine va_get (D := D) (ci := 8) (v := .ref (ad 3)) (C := RX8) (T := TX8) (N := 5) hx hb hts inX8 hown hK hP 1 (g_at8 (Nat.le_of_ble_eq_true rfl) rfl) rfl 1 (by decide) lk1 (fun _ h9 => h9) rfl dX10_setObstacle_75 ?_
              refine lv_iload_n hx hb dX10_setObstacle_78 rfl (lv_at hl 2 rfl) ?_
              refine lv_iload_n hx hb dX10_setObstacle_79 rfl (lv_at hl 3 rfl) ?_
              refine va_iast hx hb hK hP (gD hI) hS 3 0 (g_at12 (Nat.le_of_ble_eq_true rfl) rfl) rfl (g_in (N := 108) (rfl : a.toInt = a.toInt) rfl (by omega) (by omega)) dX10_setObstacle_80 (fun H locs hP _ hS => ?_)
              rw [g_pt12 (Nat.le_of_ble_eq_true rfl) rfl] at hP
              obtain ⟨ar_15, ear_15⟩ : ∃ z : gAr, z = va_up ar_13 3 (upd (ar_13 3) a.toNatClampNeg b) := ⟨_, rfl⟩
              rw [← ear_15] at hP
              refine lv_iload_n hx hb dX10_setObstacle_81 rfl (lv_at hl 0 rfl) ?_
              rw [hQ]
              exact W.iret (v := v_14) hx hb hr (fun t ht hW => ⟨⟨v_14, (iv_13, ar_15), rfl, by have zr : v_14.toInt = (0 : Int) := (show v_14.toInt = (0 : Int) from by rw [ev_14]; rw [w_13.2.1 3 (by omega)]; exact fra hF_iv 3 _ (by decide)); have z0 := i_l0; have z1 := i_l1; omega, by show va_P _ _ _ _; rw [ht]; exact hP⟩, hS.F ht⟩) hS.2.2 dX10_setObstacle_82
            · skip
              have q_12 : (-1 : Int) ≠ (-1 : Int) := i_ne2 z_11 (show ((-1) : Int32).toInt = (-1 : Int) from rfl) c_12
              exfalso; omega
      · skip
        have q_4 : (1 : Int) < b.toInt := i_nle2 (rfl : b.toInt = b.toInt) (show (1 : Int32).toInt = (1 : Int) from rfl) c_4
        refine lv_bipush (v := (-2)) hx hb dX10_setObstacle_16 (by decide) ?_
        rw [hQ]
        exact W.iret (v := (-2)) hx hb hr (fun t ht hW => ⟨⟨(-2), (iv, ar), rfl, by have zr : ((-2) : Int32).toInt = (-2 : Int) := (show ((-2) : Int32).toInt = (-2 : Int) from rfl); have z0 := i_l0; have z1 := i_l1; omega, by show va_P _ _ _ _; rw [ht]; exact hP⟩, hS.F ht⟩) hS.2.2 dX10_setObstacle_18
set_option maxHeartbeats 4000000 in
set_option maxRecDepth 100000 in
theorem f_X10_addPlace (l : Launch) (D : va_G) (cy : Nat → ClassId) (ad : Nat → Nat) (hI : gInj ad) (sz : Nat) (iv : gIv) (ar : gAr) (k1 : Nat) (hk_k1 : k1 < 135) (hd_k1 : kd k1 = 5) (b : Int32) (hF_iv : gFr iv ar) (hp : k1 = 4 ∨ k1 = 6) : Met l yX10_addPlace wsX10_addPlace ({ frames := 5, cells := 0, slots := 0, locals := 123 } : Room) (va_Pc [.ref (ad 0), .ref (ad k1), .int b] (gPre D cy ad sz iv ar)) (va_Qi (fun (r : Int32) (u : gIv × gAr) => (0 ≤ b.toInt ∧ b.toInt < 108) ∧ r.toInt = 0 ∨ ¬ (0 ≤ b.toInt ∧ b.toInt < 108) ∧ r.toInt = -2) (gPost D cy ad) (gA ad sz)) 0 0 (gA ad sz) := by
  refine Met.ofW (cc := cX10_addPlace) (maxL := 3) (ret := (some .int)) (by decide) rfl ?_
  intro p e s m args below meth c s₁ B hml hv
  obtain ⟨rfl, rfl, hP, hK, hSt, hNw⟩ := hv
  have hx := B.exec
  have hb := B.bytes
  have hr := B.returns
  have hts := atoms_spec (ws := wsX10_addPlace) B.pre
  have hown : s.vm.findClass RX10 = some m.cls := findClass_of_methodNamed B.named
  have hlocks := B.notSynchronized
  have hS : va_S (gA ad s.heap.size) s.heap s.heap [] := va_S.rf
  have inX10 : ∀ w ∈ u_ws RX10 TX10 6, w ∈ wsX10_addPlace := by decide +kernel
  have inX5 : ∀ w ∈ u_ws RX5 TX5 2, w ∈ wsX10_addPlace := by decide +kernel
  have inX8 : ∀ w ∈ u_ws RX8 TX8 5, w ∈ wsX10_addPlace := by decide +kernel
  have lk0 := hts (.fieldLink RX10 100 "FormationPlanner$Places" "size" "I") (by decide +kernel)
  have lk1 := hts (.fieldLink RX10 12 "FormationPlanner" "scene" "LFormationPlanner$Scene;") (by decide +kernel)
  have lk2 := hts (.fieldLink RX10 90 "FormationPlanner$Scene" "obstacles" "[I") (by decide +kernel)
  have hl := lv_entry ([.ref (ad 0), .ref (ad k1), .int b]) (n := 3) (Nat.le_of_ble_eq_true rfl)
  rw [lg_entry_eq]
  generalize (lg_sl ([.ref (ad 0), .ref (ad k1), .int b]) ++ List.replicate (3 - (lg_sl ([.ref (ad 0), .ref (ad k1), .int b])).length) Slot.unset).toArray = ls at hl ⊢
  have hl : lv_has ls 3 [(0, .ref (ad 0)), (1, .ref (ad k1)), (2, .int b)] := hl
  obtain ⟨Q, hQ⟩ : ∃ Q, Q = MQ below (va_Qi (fun (r : Int32) (u : gIv × gAr) => (0 ≤ b.toInt ∧ b.toInt < 108) ∧ r.toInt = 0 ∨ ¬ (0 ≤ b.toInt ∧ b.toInt < 108) ∧ r.toInt = -2) (gPost D cy ad) (gA ad s.heap.size)) (([.ref (ad 0), .ref (ad k1), .int b] : List Value).toArray) s 0 0 (gA ad s.heap.size) := ⟨_, rfl⟩
  rw [← hQ]
  refine lv_iload_n hx hb dX10_addPlace_0 rfl (lv_at hl 2 rfl) ?_
  refine g_callSi (va_runS (As := [.int b]) (rest := []) ⟨hx, hb, hml, hown, hts⟩ (c_X10_isCell l b) (va_cwS 1 hts gX10_addPlace_X10_isCell rfl rfl rfl (by decide +kernel) ⟨Nat.le_of_ble_eq_true rfl, Nat.le_of_ble_eq_true rfl⟩) (g_preT) rfl rfl hl.1 rfl (lv_room (Nat.le_of_ble_eq_true rfl)) dX10_addPlace_1 ⟨Nat.zero_le _, Nat.zero_le _⟩) (fun r_1 w_1 => ?_)
  try dsimp only at w_1
  refine lv_if_ne (tgt := 10) hx hb dX10_addPlace_4 (by decide) (fun c_2 => ?_) (fun c_2 => ?_)
  · skip
    have q_2 : r_1.toInt ≠ (0 : Int) := i_ne2 (rfl : r_1.toInt = r_1.toInt) (show (0 : Int32).toInt = (0 : Int) from rfl) c_2
    refine lv_aload_n hx hb dX10_addPlace_10 rfl (lv_at hl 1 rfl) ?_
    refine va_get (D := D) (ci := 5) (v := .int (iv k1 1)) (C := RX5) (T := TX5) (N := 2) hx hb hts inX5 hown hK hP k1 (g_at5 hk_k1 hd_k1) rfl 1 (by decide) lk0 (fun _ h9 => h9) rfl dX10_addPlace_11 ?_
    refine lv_bipush (v := 6) hx hb dX10_addPlace_14 (by decide) ?_
    refine lv_icmp_lt (tgt := 22) hx hb dX10_addPlace_16 (by decide) (fun c_3 => ?_) (fun c_3 => ?_)
    · skip
      have q_3 : (0 : Int) < (6 : Int) := i_lt2 (fr0 hF_iv k1 1 (by omega)) (show (6 : Int32).toInt = (6 : Int) from rfl) c_3
      refine lv_aload_n hx hb dX10_addPlace_22 rfl (lv_at hl 0 rfl) ?_
      refine va_get (D := D) (ci := 10) (v := .ref (ad 1)) (C := RX10) (T := TX10) (N := 6) hx hb hts inX10 hown hK hP 0 (g_at10 (Nat.le_of_ble_eq_true rfl) rfl) rfl 0 (by decide) lk1 (fun _ h9 => h9) rfl dX10_addPlace_23 ?_
      refine va_get (D := D) (ci := 8) (v := .ref (ad 3)) (C := RX8) (T := TX8) (N := 5) hx hb hts inX8 hown hK hP 1 (g_at8 (Nat.le_of_ble_eq_true rfl) rfl) rfl 1 (by decide) lk2 (fun _ h9 => h9) rfl dX10_addPlace_26 ?_
      refine lv_iload_n hx hb dX10_addPlace_29 rfl (lv_at hl 2 rfl) ?_
      refine va_iald hx hb hK hP 3 0 (g_at12 (Nat.le_of_ble_eq_true rfl) rfl) rfl (g_in (N := 108) (rfl : b.toInt = b.toInt) rfl (by omega) (by omega)) dX10_addPlace_30 ?_
      refine lv_topi (fun v_4 ev_4 => ?_)
      refine lv_if_ne (tgt := 43) hx hb dX10_addPlace_31 (by decide) (fun c_5 => ?_) (fun c_5 => ?_)
      · skip
        have q_5 : (0 : Int) ≠ (0 : Int) := i_ne2 (show v_4.toInt = (0 : Int) from by rw [ev_4]; exact fra hF_iv 3 _ (by decide)) (show (0 : Int32).toInt = (0 : Int) from rfl) c_5
        exfalso; omega
      · skip
        have q_5 : (0 : Int) = (0 : Int) := i_eq2 (show v_4.toInt = (0 : Int) from by rw [ev_4]; exact fra hF_iv 3 _ (by decide)) (show (0 : Int32).toInt = (0 : Int) from rfl) c_5
        refine lv_aload_n hx hb dX10_addPlace_34 rfl (lv_at hl 1 rfl) ?_
        refine lv_iload_n hx hb dX10_addPlace_35 rfl (lv_at hl 2 rfl) ?_
        refine g_callSi (va_runV (As := [.int b]) (rest := []) ⟨hx, hb, hml, hown, hts⟩ (c_X5_find l D cy ad hI _ iv ar k1 hk_k1 hd_k1 b) (cwV 1 hts gX10_addPlace_X5_find rfl rfl rfl (by decide +kernel) ⟨Nat.le_of_ble_eq_true rfl, Nat.le_of_ble_eq_true rfl⟩) (g_preV hP hK hSt hNw hS (g_at5 hk_k1 hd_k1) rfl) rfl rfl hl.1 rfl (lv_room (Nat.le_of_ble_eq_true rfl)) dX10_addPlace_36 ⟨Nat.zero_le _, Nat.zero_le _⟩) (fun r_6 w_6 => ?_)
        try dsimp only at w_6
        have z_6 : r_6.toInt = (-1) := by
          have hq := fr0 hF_iv k1 1 (by omega)
          rcases w_6 with q | q
          · exact q.1
          · exfalso; omega
        refine lv_iconst (v := (-1)) hx hb dX10_addPlace_39 (by decide) ?_
        refine lv_icmp_eq (tgt := 46) hx hb dX10_addPlace_40 (by decide) (fun c_7 => ?_) (fun c_7 => ?_)
        · skip
          have q_7 : (-1 : Int) = (-1 : Int) := i_eq2 z_6 (show ((-1) : Int32).toInt = (-1 : Int) from rfl) c_7
          refine lv_aload_n hx hb dX10_addPlace_46 rfl (lv_at hl 0 rfl) ?_
          refine g_callv (va_runV (As := []) (rest := []) ⟨hx, hb, hml, hown, hts⟩ (c_X10_beginChange l D cy ad hI _ iv ar (fun c _ _ => by have := fr0 hF_iv c 1 (by omega); omega)) (cwV 0 hts gX10_addPlace_X10_beginChange rfl rfl rfl (by decide +kernel) ⟨Nat.le_of_ble_eq_true rfl, Nat.le_of_ble_eq_true rfl⟩) (g_preV hP hK hSt hNw hS (g_at10 (Nat.le_of_ble_eq_true rfl) rfl) rfl) rfl rfl hl.1 rfl (lv_room (Nat.le_of_ble_eq_true rfl)) dX10_addPlace_47 ⟨Nat.zero_le _, Nat.zero_le _⟩) hS (fun iv_8 ar_8 H locs w_8 hP hS => ?_)
          try dsimp only at w_8
          have hps : (iv_8 k1 1).toInt = 0 := by rw [w_8.1 k1 1 (by omega) (by omega)]; exact fr0 hF_iv k1 1 (by omega)
          refine lv_aload_n hx hb dX10_addPlace_50 rfl (lv_at hl 1 rfl) ?_
          refine lv_iload_n hx hb dX10_addPlace_51 rfl (lv_at hl 2 rfl) ?_
          refine g_callv (va_runV (As := [.int b]) (rest := []) ⟨hx, hb, hml, hown, hts⟩ (c_X5_add l D cy ad hI _ iv_8 ar_8 k1 hk_k1 hd_k1 b) (cwV 1 hts gX10_addPlace_X5_add rfl rfl rfl (by decide +kernel) ⟨Nat.le_of_ble_eq_true rfl, Nat.le_of_ble_eq_true rfl⟩) (g_preV hP hK hSt hNw hS (g_at5 hk_k1 hd_k1) rfl) rfl rfl hl.1 rfl (lv_room (Nat.le_of_ble_eq_true rfl)) dX10_addPlace_52 ⟨Nat.zero_le _, Nat.zero_le _⟩) hS (fun iv_9 ar_9 H locs w_9 hP hS => ?_)
          try dsimp only at w_9
          have hpe : (iv_9 k1 1).toInt = 1 := by
            rcases w_9 with ⟨q, _⟩ | ⟨_, _, x, hx, q⟩
            · exfalso; omega
            · have hq : iv_9 = u2 iv_8 k1 1 x := congrArg Prod.fst q
              rw [hq, u2_s]; omega
          clear w_9
          refine lv_aload_n hx hb dX10_addPlace_55 rfl (lv_at hl 1 rfl) ?_
          refine va_get (D := D) (ci := 5) (v := .int (iv_9 k1 1)) (C := RX5) (T := TX5) (N := 2) hx hb hts inX5 hown hK hP k1 (g_at5 hk_k1 hd_k1) rfl 1 (by decide) lk0 (fun _ h9 => h9) rfl dX10_addPlace_56 ?_
          refine lv_iconst (v := 1) hx hb dX10_addPlace_59 (by decide) ?_
          refine lv_isub hx hb dX10_addPlace_60 ?_
          refine lv_topi (fun v_10 ev_10 => ?_)
          have rg_11 := i_rng (iv_9 k1 1)
          have tv_10 : v_10.toInt = ((iv_9 k1 1).toInt) - (1 : Int) := i_sub (rfl : (iv_9 k1 1).toInt = (iv_9 k1 1).toInt) (show (1 : Int32).toInt = (1 : Int) from rfl) (by omega) (by omega) ev_10
          rw [hQ]
          exact W.iret (v := v_10) hx hb hr (fun t ht hW => ⟨⟨v_10, (iv_9, ar_9), rfl, by have zr : v_10.toInt = v_10.toInt := (rfl : v_10.toInt = v_10.toInt); have z0 := i_l0; have z1 := i_l1; omega, by show va_P _ _ _ _; rw [ht]; exact hP⟩, hS.F ht⟩) hS.2.2 dX10_addPlace_61
        · skip
          have q_7 : (-1 : Int) ≠ (-1 : Int) := i_ne2 z_6 (show ((-1) : Int32).toInt = (-1 : Int) from rfl) c_7
          exfalso; omega
    · skip
      have q_3 : (6 : Int) ≤ (0 : Int) := i_nlt2 (fr0 hF_iv k1 1 (by omega)) (show (6 : Int32).toInt = (6 : Int) from rfl) c_3
      exfalso; omega
  · skip
    have q_2 : r_1.toInt = (0 : Int) := i_eq2 (rfl : r_1.toInt = r_1.toInt) (show (0 : Int32).toInt = (0 : Int) from rfl) c_2
    refine lv_bipush (v := (-2)) hx hb dX10_addPlace_7 (by decide) ?_
    rw [hQ]
    exact W.iret (v := (-2)) hx hb hr (fun t ht hW => ⟨⟨(-2), (iv, ar), rfl, by have zr : ((-2) : Int32).toInt = (-2 : Int) := (show ((-2) : Int32).toInt = (-2 : Int) from rfl); have z0 := i_l0; have z1 := i_l1; omega, by show va_P _ _ _ _; rw [ht]; exact hP⟩, hS.F ht⟩) hS.2.2 dX10_addPlace_9
set_option maxHeartbeats 4000000 in
set_option maxRecDepth 100000 in
theorem f_X10_addDrone (l : Launch) (D : va_G) (cy : Nat → ClassId) (ad : Nat → Nat) (hI : gInj ad) (sz : Nat) (iv : gIv) (ar : gAr) (a : Int32) (hF_iv : gFr iv ar) : Met l yX10_addDrone wsX10_addDrone ({ frames := 6, cells := 0, slots := 0, locals := 145 } : Room) (va_Pc [.ref (ad 0), .int a] (gPre D cy ad sz iv ar)) (va_Qi (fun (r : Int32) (u : gIv × gAr) => (0 ≤ a.toInt ∧ a.toInt < 108) ∧ r.toInt = 0 ∨ ¬ (0 ≤ a.toInt ∧ a.toInt < 108) ∧ r.toInt = -2) (gPost D cy ad) (gA ad sz)) 0 0 (gA ad sz) := by
  refine Met.ofW (cc := cX10_addDrone) (maxL := 2) (ret := (some .int)) (by decide) rfl ?_
  intro p e s m args below meth c s₁ B hml hv
  obtain ⟨rfl, rfl, hP, hK, hSt, hNw⟩ := hv
  have hx := B.exec
  have hb := B.bytes
  have hr := B.returns
  have hts := atoms_spec (ws := wsX10_addDrone) B.pre
  have hown : s.vm.findClass RX10 = some m.cls := findClass_of_methodNamed B.named
  have hlocks := B.notSynchronized
  have hS : va_S (gA ad s.heap.size) s.heap s.heap [] := va_S.rf
  have inX10 : ∀ w ∈ u_ws RX10 TX10 6, w ∈ wsX10_addDrone := by decide +kernel
  have inX8 : ∀ w ∈ u_ws RX8 TX8 5, w ∈ wsX10_addDrone := by decide +kernel
  have lk0 := hts (.fieldLink RX10 12 "FormationPlanner" "scene" "LFormationPlanner$Scene;") (by decide +kernel)
  have lk1 := hts (.fieldLink RX10 77 "FormationPlanner$Scene" "drones" "LFormationPlanner$Places;") (by decide +kernel)
  have hl := lv_entry ([.ref (ad 0), .int a]) (n := 2) (Nat.le_of_ble_eq_true rfl)
  rw [lg_entry_eq]
  generalize (lg_sl ([.ref (ad 0), .int a]) ++ List.replicate (2 - (lg_sl ([.ref (ad 0), .int a])).length) Slot.unset).toArray = ls at hl ⊢
  have hl : lv_has ls 2 [(0, .ref (ad 0)), (1, .int a)] := hl
  obtain ⟨Q, hQ⟩ : ∃ Q, Q = MQ below (va_Qi (fun (r : Int32) (u : gIv × gAr) => (0 ≤ a.toInt ∧ a.toInt < 108) ∧ r.toInt = 0 ∨ ¬ (0 ≤ a.toInt ∧ a.toInt < 108) ∧ r.toInt = -2) (gPost D cy ad) (gA ad s.heap.size)) (([.ref (ad 0), .int a] : List Value).toArray) s 0 0 (gA ad s.heap.size) := ⟨_, rfl⟩
  rw [← hQ]
  refine lv_aload_n hx hb dX10_addDrone_0 rfl (lv_at hl 0 rfl) ?_
  refine lv_aload_n hx hb dX10_addDrone_1 rfl (lv_at hl 0 rfl) ?_
  refine va_get (D := D) (ci := 10) (v := .ref (ad 1)) (C := RX10) (T := TX10) (N := 6) hx hb hts inX10 hown hK hP 0 (g_at10 (Nat.le_of_ble_eq_true rfl) rfl) rfl 0 (by decide) lk0 (fun _ h9 => h9) rfl dX10_addDrone_2 ?_
  refine va_get (D := D) (ci := 8) (v := .ref (ad 4)) (C := RX8) (T := TX8) (N := 5) hx hb hts inX8 hown hK hP 1 (g_at8 (Nat.le_of_ble_eq_true rfl) rfl) rfl 2 (by decide) lk1 (fun _ h9 => h9) rfl dX10_addDrone_5 ?_
  refine lv_iload_n hx hb dX10_addDrone_8 rfl (lv_at hl 1 rfl) ?_
  refine g_calli (va_runV (As := [.ref (ad 4), .int a]) (rest := []) ⟨hx, hb, hml, hown, hts⟩ (f_X10_addPlace l D cy ad hI _ iv ar 4 (Nat.le_of_ble_eq_true rfl) rfl a hF_iv (by decide)) (cwV 2 hts gX10_addDrone_X10_addPlace rfl rfl rfl (by decide +kernel) ⟨Nat.le_of_ble_eq_true rfl, Nat.le_of_ble_eq_true rfl⟩) (g_preV hP hK hSt hNw hS (g_at10 (Nat.le_of_ble_eq_true rfl) rfl) rfl) rfl rfl hl.1 rfl (lv_room (Nat.le_of_ble_eq_true rfl)) dX10_addDrone_9 ⟨Nat.zero_le _, Nat.zero_le _⟩) hS (fun r_1 iv_1 ar_1 H locs w_1 hP hS => ?_)
  try dsimp only at w_1
  rw [hQ]
  exact W.iret (v := r_1) hx hb hr (fun t ht hW => ⟨⟨r_1, (iv_1, ar_1), rfl, by have zr : r_1.toInt = r_1.toInt := (rfl : r_1.toInt = r_1.toInt); have z0 := i_l0; have z1 := i_l1; omega, by show va_P _ _ _ _; rw [ht]; exact hP⟩, hS.F ht⟩) hS.2.2 dX10_addDrone_12
set_option maxHeartbeats 4000000 in
set_option maxRecDepth 100000 in
theorem f_X10_addSlot (l : Launch) (D : va_G) (cy : Nat → ClassId) (ad : Nat → Nat) (hI : gInj ad) (sz : Nat) (iv : gIv) (ar : gAr) (a : Int32) (hF_iv : gFr iv ar) : Met l yX10_addSlot wsX10_addSlot ({ frames := 6, cells := 0, slots := 0, locals := 145 } : Room) (va_Pc [.ref (ad 0), .int a] (gPre D cy ad sz iv ar)) (va_Qi (fun (r : Int32) (u : gIv × gAr) => (0 ≤ a.toInt ∧ a.toInt < 108) ∧ r.toInt = 0 ∨ ¬ (0 ≤ a.toInt ∧ a.toInt < 108) ∧ r.toInt = -2) (gPost D cy ad) (gA ad sz)) 0 0 (gA ad sz) := by
  refine Met.ofW (cc := cX10_addSlot) (maxL := 2) (ret := (some .int)) (by decide) rfl ?_
  intro p e s m args below meth c s₁ B hml hv
  obtain ⟨rfl, rfl, hP, hK, hSt, hNw⟩ := hv
  have hx := B.exec
  have hb := B.bytes
  have hr := B.returns
  have hts := atoms_spec (ws := wsX10_addSlot) B.pre
  have hown : s.vm.findClass RX10 = some m.cls := findClass_of_methodNamed B.named
  have hlocks := B.notSynchronized
  have hS : va_S (gA ad s.heap.size) s.heap s.heap [] := va_S.rf
  have inX10 : ∀ w ∈ u_ws RX10 TX10 6, w ∈ wsX10_addSlot := by decide +kernel
  have inX8 : ∀ w ∈ u_ws RX8 TX8 5, w ∈ wsX10_addSlot := by decide +kernel
  have lk0 := hts (.fieldLink RX10 12 "FormationPlanner" "scene" "LFormationPlanner$Scene;") (by decide +kernel)
  have lk1 := hts (.fieldLink RX10 87 "FormationPlanner$Scene" "slots" "LFormationPlanner$Places;") (by decide +kernel)
  have hl := lv_entry ([.ref (ad 0), .int a]) (n := 2) (Nat.le_of_ble_eq_true rfl)
  rw [lg_entry_eq]
  generalize (lg_sl ([.ref (ad 0), .int a]) ++ List.replicate (2 - (lg_sl ([.ref (ad 0), .int a])).length) Slot.unset).toArray = ls at hl ⊢
  have hl : lv_has ls 2 [(0, .ref (ad 0)), (1, .int a)] := hl
  obtain ⟨Q, hQ⟩ : ∃ Q, Q = MQ below (va_Qi (fun (r : Int32) (u : gIv × gAr) => (0 ≤ a.toInt ∧ a.toInt < 108) ∧ r.toInt = 0 ∨ ¬ (0 ≤ a.toInt ∧ a.toInt < 108) ∧ r.toInt = -2) (gPost D cy ad) (gA ad s.heap.size)) (([.ref (ad 0), .int a] : List Value).toArray) s 0 0 (gA ad s.heap.size) := ⟨_, rfl⟩
  rw [← hQ]
  refine lv_aload_n hx hb dX10_addSlot_0 rfl (lv_at hl 0 rfl) ?_
  refine lv_aload_n hx hb dX10_addSlot_1 rfl (lv_at hl 0 rfl) ?_
  refine va_get (D := D) (ci := 10) (v := .ref (ad 1)) (C := RX10) (T := TX10) (N := 6) hx hb hts inX10 hown hK hP 0 (g_at10 (Nat.le_of_ble_eq_true rfl) rfl) rfl 0 (by decide) lk0 (fun _ h9 => h9) rfl dX10_addSlot_2 ?_
  refine va_get (D := D) (ci := 8) (v := .ref (ad 6)) (C := RX8) (T := TX8) (N := 5) hx hb hts inX8 hown hK hP 1 (g_at8 (Nat.le_of_ble_eq_true rfl) rfl) rfl 3 (by decide) lk1 (fun _ h9 => h9) rfl dX10_addSlot_5 ?_
  refine lv_iload_n hx hb dX10_addSlot_8 rfl (lv_at hl 1 rfl) ?_
  refine g_calli (va_runV (As := [.ref (ad 6), .int a]) (rest := []) ⟨hx, hb, hml, hown, hts⟩ (f_X10_addPlace l D cy ad hI _ iv ar 6 (Nat.le_of_ble_eq_true rfl) rfl a hF_iv (by decide)) (cwV 2 hts gX10_addSlot_X10_addPlace rfl rfl rfl (by decide +kernel) ⟨Nat.le_of_ble_eq_true rfl, Nat.le_of_ble_eq_true rfl⟩) (g_preV hP hK hSt hNw hS (g_at10 (Nat.le_of_ble_eq_true rfl) rfl) rfl) rfl rfl hl.1 rfl (lv_room (Nat.le_of_ble_eq_true rfl)) dX10_addSlot_9 ⟨Nat.zero_le _, Nat.zero_le _⟩) hS (fun r_1 iv_1 ar_1 H locs w_1 hP hS => ?_)
  try dsimp only at w_1
  rw [hQ]
  exact W.iret (v := r_1) hx hb hr (fun t ht hW => ⟨⟨r_1, (iv_1, ar_1), rfl, by have zr : r_1.toInt = r_1.toInt := (rfl : r_1.toInt = r_1.toInt); have z0 := i_l0; have z1 := i_l1; omega, by show va_P _ _ _ _; rw [ht]; exact hP⟩, hS.F ht⟩) hS.2.2 dX10_addSlot_12
set_option maxHeartbeats 4000000 in
set_option maxRecDepth 100000 in
theorem c_X5_remove (l : Launch) (D : va_G) (cy : Nat → ClassId) (ad : Nat → Nat) (hI : gInj ad) (sz : Nat) (iv : gIv) (ar : gAr) (k : Nat) (hk : k < 135) (hd : kd k = 5) (a : Int32)  : Met l yX5_remove wsX5_remove ({ frames := 1, cells := 0, slots := 0, locals := 21 } : Room) (va_Pc [.ref (ad k), .int a] (gPre D cy ad sz iv ar)) (va_Qi (fun (r : Int32) (u : gIv × gAr) => (r.toInt = 0 ∧ ¬ (0 ≤ a.toInt ∧ a.toInt < (iv k 1).toInt ∧ a.toInt < 6) ∧ u = (iv, ar)) ∨ (r.toInt = 1 ∧ (0 ≤ a.toInt ∧ a.toInt < (iv k 1).toInt ∧ a.toInt < 6) ∧ (u.1 k 1).toInt = (iv k 1).toInt - 1 ∧ (∀ a b, ¬ (a = k ∧ b = 1) → u.1 a b = iv a b) ∧ ∀ a, a ≠ k + 1 → u.2 a = ar a)) (gPost D cy ad) (gA ad sz)) 0 0 (gA ad sz) := by
  refine Met.ofW (cc := cX5_remove) (maxL := 3) (ret := (some .boolean)) (by decide) rfl ?_
  intro p e s m args below meth c s₁ B hml hv
  obtain ⟨rfl, rfl, hP, hK, hSt, hNw⟩ := hv
  have hx := B.exec
  have hb := B.bytes
  have hr := B.returns
  have hts := atoms_spec (ws := wsX5_remove) B.pre
  have hown : s.vm.findClass RX5 = some m.cls := findClass_of_methodNamed B.named
  have hlocks := B.notSynchronized
  have hS : va_S (gA ad s.heap.size) s.heap s.heap [] := va_S.rf
  have inX5 : ∀ w ∈ u_ws RX5 TX5 2, w ∈ wsX5_remove := by decide +kernel
  have lk0 := hts (.fieldLink RX5 15 "FormationPlanner$Places" "size" "I") (by decide +kernel)
  have lk1 := hts (.fieldLink RX5 9 "FormationPlanner$Places" "cells" "[I") (by decide +kernel)
  have hl := lv_entry ([.ref (ad k), .int a]) (n := 3) (Nat.le_of_ble_eq_true rfl)
  rw [lg_entry_eq]
  generalize (lg_sl ([.ref (ad k), .int a]) ++ List.replicate (3 - (lg_sl ([.ref (ad k), .int a])).length) Slot.unset).toArray = ls at hl ⊢
  have hl : lv_has ls 3 [(0, .ref (ad k)), (1, .int a)] := hl
  obtain ⟨Q, hQ⟩ : ∃ Q, Q = MQ below (va_Qi (fun (r : Int32) (u : gIv × gAr) => (r.toInt = 0 ∧ ¬ (0 ≤ a.toInt ∧ a.toInt < (iv k 1).toInt ∧ a.toInt < 6) ∧ u = (iv, ar)) ∨ (r.toInt = 1 ∧ (0 ≤ a.toInt ∧ a.toInt < (iv k 1).toInt ∧ a.toInt < 6) ∧ (u.1 k 1).toInt = (iv k 1).toInt - 1 ∧ (∀ a b, ¬ (a = k ∧ b = 1) → u.1 a b = iv a b) ∧ ∀ a, a ≠ k + 1 → u.2 a = ar a)) (gPost D cy ad) (gA ad s.heap.size)) (([.ref (ad k), .int a] : List Value).toArray) s 0 0 (gA ad s.heap.size) := ⟨_, rfl⟩
  rw [← hQ]
  refine lv_aload_n hx hb dX5_remove_0 rfl (lv_at hl 0 rfl) ?_
  refine lv_iload_n hx hb dX5_remove_1 rfl (lv_at hl 1 rfl) ?_
  refine g_callSi (va_runV (As := [.int a]) (rest := []) ⟨hx, hb, hml, hown, hts⟩ (c_X5_has l D cy ad hI _ iv ar k hk hd a) (cwV 1 hts gX5_remove_X5_has rfl rfl rfl (by decide +kernel) ⟨Nat.le_of_ble_eq_true rfl, Nat.le_of_ble_eq_true rfl⟩) (g_preV hP hK hSt hNw hS (g_at5 hk hd) rfl) rfl rfl hl.1 rfl (lv_room (Nat.le_of_ble_eq_true rfl)) dX5_remove_2 ⟨Nat.zero_le _, Nat.zero_le _⟩) (fun r_1 w_1 => ?_)
  try dsimp only at w_1
  refine lv_if_ne (tgt := 10) hx hb dX5_remove_5 (by decide) (fun c_2 => ?_) (fun c_2 => ?_)
  · skip
    have q_2 : r_1.toInt ≠ (0 : Int) := i_ne2 (rfl : r_1.toInt = r_1.toInt) (show (0 : Int32).toInt = (0 : Int) from rfl) c_2
    refine lv_iload_n hx hb dX5_remove_10 rfl (lv_at hl 1 rfl) ?_
    refine lv_iconst (v := 1) hx hb dX5_remove_11 (by decide) ?_
    refine lv_iadd hx hb dX5_remove_12 ?_
    refine lv_topi (fun v_3 ev_3 => ?_)
    have rg_4 := i_rng a
    have tv_3 : v_3.toInt = a.toInt + (1 : Int) := i_add (rfl : a.toInt = a.toInt) (show (1 : Int32).toInt = (1 : Int) from rfl) (by omega) (by omega) ev_3
    refine lv_istore_n (lv' := [(2, .int v_3), (0, .ref (ad k)), (1, .int a)]) hx hb dX5_remove_13 rfl hl (by decide) rfl (fun ls hl => ?_)
    have loop7 : ∀ (n : Nat) (x2_5 : Int32) (ar_6 : gAr) (H : Heap) (locs : List Loc) (ls : Array Slot), ((6 - (x2_5.toInt)).toNat) < n → (1 ≤ (x2_5.toInt) ∧ (x2_5.toInt) ≤ 6) → (∀ a, a ≠ k + 1 → ar_6 a = ar a) → va_P D vwCl (GW cy ad iv ar_6) H → va_S (gA ad s.heap.size) s.heap H locs → lv_has ls 3 [(2, .int x2_5), (0, .ref (ad k)), (1, .int a)] → W p l e (headSpec wsX5_remove (({ frames := 1, cells := 0, slots := 0, locals := 21 } : Room))).room s m (([.ref (ad k), .int a] : List Value).toArray) below meth c H locs 0 0 Q (F0 m 14 ls []) := by
      intro n
      induction n with
      | zero => intro x2_5 ar_6 H locs ls hm; omega
      | succ n ih7 =>
        intro x2_5 ar_6 H locs ls hm hg0 hga hP hS hl
        refine lv_iload_n hx hb dX5_remove_14 rfl (lv_at hl 0 rfl) ?_
        refine lv_aload_n hx hb dX5_remove_15 rfl (lv_at hl 1 rfl) ?_
        refine va_get (D := D) (ci := 5) (v := .int (iv k 1)) (C := RX5) (T := TX5) (N := 2) hx hb hts inX5 hown hK hP k (g_at5 hk hd) rfl 1 (by decide) lk0 (fun _ h9 => h9) rfl dX5_remove_16 ?_
        refine lv_icmp_ge (tgt := 48) hx hb dX5_remove_19 (by decide) (fun c_8 => ?_) (fun c_8 => ?_)
        · skip
          have q_8 : (iv k 1).toInt ≤ x2_5.toInt := i_le2 (rfl : (iv k 1).toInt = (iv k 1).toInt) (rfl : x2_5.toInt = x2_5.toInt) c_8
          refine lv_aload_n hx hb dX5_remove_48 rfl (lv_at hl 1 rfl) ?_
          refine lv_dup hx hb dX5_remove_49 rfl ?_
          refine va_get (D := D) (ci := 5) (v := .int (iv k 1)) (C := RX5) (T := TX5) (N := 2) hx hb hts inX5 hown hK hP k (g_at5 hk hd) rfl 1 (by decide) lk0 (fun _ h9 => h9) rfl dX5_remove_50 ?_
          refine lv_iconst (v := 1) hx hb dX5_remove_53 (by decide) ?_
          refine lv_isub hx hb dX5_remove_54 ?_
          refine lv_topi (fun v_9 ev_9 => ?_)
          have rg_10 := i_rng (iv k 1)
          have tv_9 : v_9.toInt = ((iv k 1).toInt) - (1 : Int) := i_sub (rfl : (iv k 1).toInt = (iv k 1).toInt) (show (1 : Int32).toInt = (1 : Int) from rfl) (by omega) (by omega) ev_9
          refine va_put (D := D) (ci := 5) (v := .int v_9) (ty := .int) (C := RX5) (T := TX5) (N := 2) hx hb hts inX5 tyX5 tyX5_ok nmX5 hown hK hP (gD hI) hS k (g_at5 hk hd) rfl 1 (by decide) lk0 (fun _ h9 => h9) rfl (by decide +kernel) rfl rfl (Nat.le_of_ble_eq_true rfl) dX5_remove_55 (fun H locs hP _ hS => ?_)
          have hP : va_P D vwCl (GW cy ad (u2 iv k 1 v_9) ar_6) H := by rw [← g_pt5_1 hk hd]; exact hP
          obtain ⟨iv_11, eiv_11⟩ : ∃ z : gIv, z = u2 iv k 1 v_9 := ⟨_, rfl⟩
          rw [← eiv_11] at hP
          refine lv_iconst (v := 1) hx hb dX5_remove_58 (by decide) ?_
          rw [hQ]
          exact W.zret (v := 1) hx hb hr rfl (fun t ht hW => ⟨⟨1, (iv_11, ar_6), rfl, Or.inr ⟨rfl, by omega, by show (iv_11 k 1).toInt = _; rw [eiv_11, u2_s]; exact tv_9, fun a b h => by show iv_11 a b = iv a b; rw [eiv_11, u2_o h], hga⟩, by show va_P _ _ _ _; rw [ht]; exact hP⟩, hS.F ht⟩) hS.2.2 dX5_remove_59
        · skip
          have q_8 : x2_5.toInt < (iv k 1).toInt := i_nle2 (rfl : (iv k 1).toInt = (iv k 1).toInt) (rfl : x2_5.toInt = x2_5.toInt) c_8
          refine lv_iload_n hx hb dX5_remove_22 rfl (lv_at hl 0 rfl) ?_
          refine lv_bipush (v := 6) hx hb dX5_remove_23 (by decide) ?_
          refine lv_icmp_ge (tgt := 48) hx hb dX5_remove_25 (by decide) (fun c_12 => ?_) (fun c_12 => ?_)
          · skip
            have q_12 : (6 : Int) ≤ x2_5.toInt := i_le2 (show (6 : Int32).toInt = (6 : Int) from rfl) (rfl : x2_5.toInt = x2_5.toInt) c_12
            refine lv_aload_n hx hb dX5_remove_48 rfl (lv_at hl 1 rfl) ?_
            refine lv_dup hx hb dX5_remove_49 rfl ?_
            refine va_get (D := D) (ci := 5) (v := .int (iv k 1)) (C := RX5) (T := TX5) (N := 2) hx hb hts inX5 hown hK hP k (g_at5 hk hd) rfl 1 (by decide) lk0 (fun _ h9 => h9) rfl dX5_remove_50 ?_
            refine lv_iconst (v := 1) hx hb dX5_remove_53 (by decide) ?_
            refine lv_isub hx hb dX5_remove_54 ?_
            refine lv_topi (fun v_13 ev_13 => ?_)
            have rg_14 := i_rng (iv k 1)
            have tv_13 : v_13.toInt = ((iv k 1).toInt) - (1 : Int) := i_sub (rfl : (iv k 1).toInt = (iv k 1).toInt) (show (1 : Int32).toInt = (1 : Int) from rfl) (by omega) (by omega) ev_13
            refine va_put (D := D) (ci := 5) (v := .int v_13) (ty := .int) (C := RX5) (T := TX5) (N := 2) hx hb hts inX5 tyX5 tyX5_ok nmX5 hown hK hP (gD hI) hS k (g_at5 hk hd) rfl 1 (by decide) lk0 (fun _ h9 => h9) rfl (by decide +kernel) rfl rfl (Nat.le_of_ble_eq_true rfl) dX5_remove_55 (fun H locs hP _ hS => ?_)
            have hP : va_P D vwCl (GW cy ad (u2 iv k 1 v_13) ar_6) H := by rw [← g_pt5_1 hk hd]; exact hP
            obtain ⟨iv_15, eiv_15⟩ : ∃ z : gIv, z = u2 iv k 1 v_13 := ⟨_, rfl⟩
            rw [← eiv_15] at hP
            refine lv_iconst (v := 1) hx hb dX5_remove_58 (by decide) ?_
            rw [hQ]
            exact W.zret (v := 1) hx hb hr rfl (fun t ht hW => ⟨⟨1, (iv_15, ar_6), rfl, Or.inr ⟨rfl, by omega, by show (iv_15 k 1).toInt = _; rw [eiv_15, u2_s]; exact tv_13, fun a b h => by show iv_15 a b = iv a b; rw [eiv_15, u2_o h], hga⟩, by show va_P _ _ _ _; rw [ht]; exact hP⟩, hS.F ht⟩) hS.2.2 dX5_remove_59
          · skip
            have q_12 : x2_5.toInt < (6 : Int) := i_nle2 (show (6 : Int32).toInt = (6 : Int) from rfl) (rfl : x2_5.toInt = x2_5.toInt) c_12
            refine lv_aload_n hx hb dX5_remove_28 rfl (lv_at hl 1 rfl) ?_
            refine va_get (D := D) (ci := 5) (v := .ref (ad (k + 1))) (C := RX5) (T := TX5) (N := 2) hx hb hts inX5 hown hK hP k (g_at5 hk hd) rfl 0 (by decide) lk1 (fun _ h9 => h9) rfl dX5_remove_29 ?_
            refine lv_iload_n hx hb dX5_remove_32 rfl (lv_at hl 0 rfl) ?_
            refine lv_iconst (v := 1) hx hb dX5_remove_33 (by decide) ?_
            refine lv_isub hx hb dX5_remove_34 ?_
            refine lv_topi (fun v_16 ev_16 => ?_)
            have tv_16 : v_16.toInt = x2_5.toInt - (1 : Int) := i_sub (rfl : x2_5.toInt = x2_5.toInt) (show (1 : Int32).toInt = (1 : Int) from rfl) (by omega) (by omega) ev_16
            refine lv_aload_n hx hb dX5_remove_35 rfl (lv_at hl 1 rfl) ?_
            refine va_get (D := D) (ci := 5) (v := .ref (ad (k + 1))) (C := RX5) (T := TX5) (N := 2) hx hb hts inX5 hown hK hP k (g_at5 hk hd) rfl 0 (by decide) lk1 (fun _ h9 => h9) rfl dX5_remove_36 ?_
            refine lv_iload_n hx hb dX5_remove_39 rfl (lv_at hl 0 rfl) ?_
            refine va_iald hx hb hK hP (k + 1) 0 (g_at12 (g_k5_0 hk hd).1 (g_k5_0 hk hd).2) rfl (g_in (N := 6) (rfl : x2_5.toInt = x2_5.toInt) (g_l5_0 hk hd) (by omega) (by omega)) dX5_remove_40 ?_
            refine lv_topi (fun v_17 ev_17 => ?_)
            refine va_iast hx hb hK hP (gD hI) hS (k + 1) 0 (g_at12 (g_k5_0 hk hd).1 (g_k5_0 hk hd).2) rfl (g_in (N := 6) (rfl : v_16.toInt = v_16.toInt) (g_l5_0 hk hd) (by omega) (by omega)) dX5_remove_41 (fun H locs hP _ hS => ?_)
            rw [g_pt12 (g_k5_0 hk hd).1 (g_k5_0 hk hd).2] at hP
            obtain ⟨ar_18, ear_18⟩ : ∃ z : gAr, z = va_up ar_6 (k + 1) (upd (ar_6 (k + 1)) v_16.toNatClampNeg v_17) := ⟨_, rfl⟩
            rw [← ear_18] at hP
            obtain ⟨x2_19, ex2_19⟩ : ∃ y : Int32, y = x2_5 + 1 := ⟨_, rfl⟩
            have tx2_19 : x2_19.toInt = x2_5.toInt + (1 : Int) := i_add (rfl : x2_5.toInt = x2_5.toInt) (show (1 : Int32).toInt = (1 : Int) from rfl) (by omega) (by omega) ex2_19
            refine lv_iinc (v := x2_19) (lv' := [(2, .int x2_19), (0, .ref (ad k)), (1, .int a)]) hx hb dX5_remove_42 hl (k := 0) rfl (by rw [ex2_19]; rfl) (by decide) rfl (fun ls hl => ?_)
            refine lv_goto (tgt := 14) hx hb dX5_remove_45 (by decide) ?_
            exact ih7 x2_19 ar_18 _ _ _ (by omega) (by omega) (fun a h => by rw [ear_18, ua_o h]; exact hga a h) hP hS (lv_sub hl [0, 1, 2] rfl)
    exact loop7 (((6 - (v_3.toInt)).toNat) + 1) v_3 ar _ _ _ (by omega) (by omega) (fun _ _ => rfl) hP hS (lv_sub hl [0, 1, 2] rfl)
  · skip
    have q_2 : r_1.toInt = (0 : Int) := i_eq2 (rfl : r_1.toInt = r_1.toInt) (show (0 : Int32).toInt = (0 : Int) from rfl) c_2
    refine lv_iconst (v := 0) hx hb dX5_remove_8 (by decide) ?_
    rw [hQ]
    exact W.zret (v := 0) hx hb hr rfl (fun t ht hW => ⟨⟨0, (iv, ar), rfl, Or.inl ⟨rfl, by omega, rfl⟩, by show va_P _ _ _ _; rw [ht]; exact hP⟩, hS.F ht⟩) hS.2.2 dX5_remove_9
set_option maxHeartbeats 4000000 in
set_option maxRecDepth 100000 in
theorem f_X10_removeDrone (l : Launch) (D : va_G) (cy : Nat → ClassId) (ad : Nat → Nat) (hI : gInj ad) (sz : Nat) (iv : gIv) (ar : gAr) (a : Int32) (hF_iv : gFr iv ar) : Met l yX10_removeDrone wsX10_removeDrone ({ frames := 5, cells := 0, slots := 0, locals := 123 } : Room) (va_Pc [.ref (ad 0), .int a] (gPre D cy ad sz iv ar)) (va_Qi (fun (r : Int32) (u : gIv × gAr) => r.toInt = -1) (gPost D cy ad) (gA ad sz)) 0 0 (gA ad sz) := by
  refine Met.ofW (cc := cX10_removeDrone) (maxL := 2) (ret := (some .int)) (by decide) rfl ?_
  intro p e s m args below meth c s₁ B hml hv
  obtain ⟨rfl, rfl, hP, hK, hSt, hNw⟩ := hv
  have hx := B.exec
  have hb := B.bytes
  have hr := B.returns
  have hts := atoms_spec (ws := wsX10_removeDrone) B.pre
  have hown : s.vm.findClass RX10 = some m.cls := findClass_of_methodNamed B.named
  have hlocks := B.notSynchronized
  have hS : va_S (gA ad s.heap.size) s.heap s.heap [] := va_S.rf
  have inX10 : ∀ w ∈ u_ws RX10 TX10 6, w ∈ wsX10_removeDrone := by decide +kernel
  have inX8 : ∀ w ∈ u_ws RX8 TX8 5, w ∈ wsX10_removeDrone := by decide +kernel
  have lk0 := hts (.fieldLink RX10 12 "FormationPlanner" "scene" "LFormationPlanner$Scene;") (by decide +kernel)
  have lk1 := hts (.fieldLink RX10 77 "FormationPlanner$Scene" "drones" "LFormationPlanner$Places;") (by decide +kernel)
  have hl := lv_entry ([.ref (ad 0), .int a]) (n := 2) (Nat.le_of_ble_eq_true rfl)
  rw [lg_entry_eq]
  generalize (lg_sl ([.ref (ad 0), .int a]) ++ List.replicate (2 - (lg_sl ([.ref (ad 0), .int a])).length) Slot.unset).toArray = ls at hl ⊢
  have hl : lv_has ls 2 [(0, .ref (ad 0)), (1, .int a)] := hl
  obtain ⟨Q, hQ⟩ : ∃ Q, Q = MQ below (va_Qi (fun (r : Int32) (u : gIv × gAr) => r.toInt = -1) (gPost D cy ad) (gA ad s.heap.size)) (([.ref (ad 0), .int a] : List Value).toArray) s 0 0 (gA ad s.heap.size) := ⟨_, rfl⟩
  rw [← hQ]
  refine lv_aload_n hx hb dX10_removeDrone_0 rfl (lv_at hl 0 rfl) ?_
  refine g_callv (va_runV (As := []) (rest := []) ⟨hx, hb, hml, hown, hts⟩ (c_X10_beginChange l D cy ad hI _ iv ar (fun c _ _ => by have := fr0 hF_iv c 1 (by omega); omega)) (cwV 0 hts gX10_removeDrone_X10_beginChange rfl rfl rfl (by decide +kernel) ⟨Nat.le_of_ble_eq_true rfl, Nat.le_of_ble_eq_true rfl⟩) (g_preV hP hK hSt hNw hS (g_at10 (Nat.le_of_ble_eq_true rfl) rfl) rfl) rfl rfl hl.1 rfl (lv_room (Nat.le_of_ble_eq_true rfl)) dX10_removeDrone_1 ⟨Nat.zero_le _, Nat.zero_le _⟩) hS (fun iv_1 ar_1 H locs w_1 hP hS => ?_)
  try dsimp only at w_1
  refine lv_aload_n hx hb dX10_removeDrone_4 rfl (lv_at hl 0 rfl) ?_
  refine va_get (D := D) (ci := 10) (v := .ref (ad 1)) (C := RX10) (T := TX10) (N := 6) hx hb hts inX10 hown hK hP 0 (g_at10 (Nat.le_of_ble_eq_true rfl) rfl) rfl 0 (by decide) lk0 (fun _ h9 => h9) rfl dX10_removeDrone_5 ?_
  refine va_get (D := D) (ci := 8) (v := .ref (ad 4)) (C := RX8) (T := TX8) (N := 5) hx hb hts inX8 hown hK hP 1 (g_at8 (Nat.le_of_ble_eq_true rfl) rfl) rfl 2 (by decide) lk1 (fun _ h9 => h9) rfl dX10_removeDrone_8 ?_
  refine lv_iload_n hx hb dX10_removeDrone_11 rfl (lv_at hl 1 rfl) ?_
  refine g_calli (va_runV (As := [.int a]) (rest := []) ⟨hx, hb, hml, hown, hts⟩ (c_X5_remove l D cy ad hI _ iv_1 ar_1 4 (Nat.le_of_ble_eq_true rfl) rfl a) (cwV 1 hts gX10_removeDrone_X5_remove rfl rfl rfl (by decide +kernel) ⟨Nat.le_of_ble_eq_true rfl, Nat.le_of_ble_eq_true rfl⟩) (g_preV hP hK hSt hNw hS (g_at5 (Nat.le_of_ble_eq_true rfl) rfl) rfl) rfl rfl hl.1 rfl (lv_room (Nat.le_of_ble_eq_true rfl)) dX10_removeDrone_12 ⟨Nat.zero_le _, Nat.zero_le _⟩) hS (fun r_2 iv_2 ar_2 H locs w_2 hP hS => ?_)
  try dsimp only at w_2
  have z_2 : r_2.toInt = 0 := by
    have hs : (iv_1 4 1).toInt = 0 := by rw [w_1.1 4 1 (by omega) (by omega)]; exact fr0 hF_iv 4 1 (by decide)
    rcases w_2 with q | q
    · exact q.1
    · exfalso; have := q.2.1; omega
  refine lv_if_eq (tgt := 31) hx hb dX10_removeDrone_15 (by decide) (fun c_3 => ?_) (fun c_3 => ?_)
  · skip
    have q_3 : (0 : Int) = (0 : Int) := i_eq2 z_2 (show (0 : Int32).toInt = (0 : Int) from rfl) c_3
    refine lv_iconst (v := (-1)) hx hb dX10_removeDrone_31 (by decide) ?_
    rw [hQ]
    exact W.iret (v := (-1)) hx hb hr (fun t ht hW => ⟨⟨(-1), (iv_2, ar_2), rfl, by have zr : ((-1) : Int32).toInt = (-1 : Int) := (show ((-1) : Int32).toInt = (-1 : Int) from rfl); have z0 := i_l0; have z1 := i_l1; omega, by show va_P _ _ _ _; rw [ht]; exact hP⟩, hS.F ht⟩) hS.2.2 dX10_removeDrone_32
  · skip
    have q_3 : (0 : Int) ≠ (0 : Int) := i_ne2 z_2 (show (0 : Int32).toInt = (0 : Int) from rfl) c_3
    exfalso; omega
set_option maxHeartbeats 4000000 in
set_option maxRecDepth 100000 in
theorem f_X10_clearSlots (l : Launch) (D : va_G) (cy : Nat → ClassId) (ad : Nat → Nat) (hI : gInj ad) (sz : Nat) (iv : gIv) (ar : gAr)  (hF_iv : gFr iv ar) : Met l yX10_clearSlots wsX10_clearSlots ({ frames := 5, cells := 0, slots := 0, locals := 123 } : Room) (va_Pc [.ref (ad 0)] (gPre D cy ad sz iv ar)) (va_Qi (fun (r : Int32) (u : gIv × gAr) => r.toInt = 0) (gPost D cy ad) (gA ad sz)) 0 0 (gA ad sz) := by
  refine Met.ofW (cc := cX10_clearSlots) (maxL := 2) (ret := (some .int)) (by decide) rfl ?_
  intro p e s m args below meth c s₁ B hml hv
  obtain ⟨rfl, rfl, hP, hK, hSt, hNw⟩ := hv
  have hx := B.exec
  have hb := B.bytes
  have hr := B.returns
  have hts := atoms_spec (ws := wsX10_clearSlots) B.pre
  have hown : s.vm.findClass RX10 = some m.cls := findClass_of_methodNamed B.named
  have hlocks := B.notSynchronized
  have hS : va_S (gA ad s.heap.size) s.heap s.heap [] := va_S.rf
  have inX10 : ∀ w ∈ u_ws RX10 TX10 6, w ∈ wsX10_clearSlots := by decide +kernel
  have inX5 : ∀ w ∈ u_ws RX5 TX5 2, w ∈ wsX10_clearSlots := by decide +kernel
  have inX8 : ∀ w ∈ u_ws RX8 TX8 5, w ∈ wsX10_clearSlots := by decide +kernel
  have lk0 := hts (.fieldLink RX10 12 "FormationPlanner" "scene" "LFormationPlanner$Scene;") (by decide +kernel)
  have lk1 := hts (.fieldLink RX10 87 "FormationPlanner$Scene" "slots" "LFormationPlanner$Places;") (by decide +kernel)
  have lk2 := hts (.fieldLink RX10 100 "FormationPlanner$Places" "size" "I") (by decide +kernel)
  have hl := lv_entry ([.ref (ad 0)]) (n := 2) (Nat.le_of_ble_eq_true rfl)
  rw [lg_entry_eq]
  generalize (lg_sl ([.ref (ad 0)]) ++ List.replicate (2 - (lg_sl ([.ref (ad 0)])).length) Slot.unset).toArray = ls at hl ⊢
  have hl : lv_has ls 2 [(0, .ref (ad 0))] := hl
  obtain ⟨Q, hQ⟩ : ∃ Q, Q = MQ below (va_Qi (fun (r : Int32) (u : gIv × gAr) => r.toInt = 0) (gPost D cy ad) (gA ad s.heap.size)) (([.ref (ad 0)] : List Value).toArray) s 0 0 (gA ad s.heap.size) := ⟨_, rfl⟩
  rw [← hQ]
  refine lv_aload_n hx hb dX10_clearSlots_0 rfl (lv_at hl 0 rfl) ?_
  refine g_callv (va_runV (As := []) (rest := []) ⟨hx, hb, hml, hown, hts⟩ (c_X10_beginChange l D cy ad hI _ iv ar (fun c _ _ => by have := fr0 hF_iv c 1 (by omega); omega)) (cwV 0 hts gX10_clearSlots_X10_beginChange rfl rfl rfl (by decide +kernel) ⟨Nat.le_of_ble_eq_true rfl, Nat.le_of_ble_eq_true rfl⟩) (g_preV hP hK hSt hNw hS (g_at10 (Nat.le_of_ble_eq_true rfl) rfl) rfl) rfl rfl hl.1 rfl (lv_room (Nat.le_of_ble_eq_true rfl)) dX10_clearSlots_1 ⟨Nat.zero_le _, Nat.zero_le _⟩) hS (fun iv_1 ar_1 H locs w_1 hP hS => ?_)
  try dsimp only at w_1
  refine lv_aload_n hx hb dX10_clearSlots_4 rfl (lv_at hl 0 rfl) ?_
  refine va_get (D := D) (ci := 10) (v := .ref (ad 1)) (C := RX10) (T := TX10) (N := 6) hx hb hts inX10 hown hK hP 0 (g_at10 (Nat.le_of_ble_eq_true rfl) rfl) rfl 0 (by decide) lk0 (fun _ h9 => h9) rfl dX10_clearSlots_5 ?_
  refine va_get (D := D) (ci := 8) (v := .ref (ad 6)) (C := RX8) (T := TX8) (N := 5) hx hb hts inX8 hown hK hP 1 (g_at8 (Nat.le_of_ble_eq_true rfl) rfl) rfl 3 (by decide) lk1 (fun _ h9 => h9) rfl dX10_clearSlots_8 ?_
  refine va_get (D := D) (ci := 5) (v := .int (iv_1 6 1)) (C := RX5) (T := TX5) (N := 2) hx hb hts inX5 hown hK hP 6 (g_at5 (Nat.le_of_ble_eq_true rfl) rfl) rfl 1 (by decide) lk2 (fun _ h9 => h9) rfl dX10_clearSlots_11 ?_
  have f_2 : iv_1 6 1 = iv 6 1 := by rw [w_1.1 6 1 (by omega) (by omega)]
  refine lv_istore_n (lv' := [(1, .int (iv_1 6 1)), (0, .ref (ad 0))]) hx hb dX10_clearSlots_14 rfl hl (by decide) rfl (fun ls hl => ?_)
  refine lv_aload_n hx hb dX10_clearSlots_15 rfl (lv_at hl 1 rfl) ?_
  refine va_get (D := D) (ci := 10) (v := .ref (ad 1)) (C := RX10) (T := TX10) (N := 6) hx hb hts inX10 hown hK hP 0 (g_at10 (Nat.le_of_ble_eq_true rfl) rfl) rfl 0 (by decide) lk0 (fun _ h9 => h9) rfl dX10_clearSlots_16 ?_
  refine va_get (D := D) (ci := 8) (v := .ref (ad 6)) (C := RX8) (T := TX8) (N := 5) hx hb hts inX8 hown hK hP 1 (g_at8 (Nat.le_of_ble_eq_true rfl) rfl) rfl 3 (by decide) lk1 (fun _ h9 => h9) rfl dX10_clearSlots_19 ?_
  refine g_callv (va_runV (As := []) (rest := []) ⟨hx, hb, hml, hown, hts⟩ (c_X5_clear l D cy ad hI _ iv_1 ar_1 6 (Nat.le_of_ble_eq_true rfl) rfl) (cwV 0 hts gX10_clearSlots_X5_clear rfl rfl rfl (by decide +kernel) ⟨Nat.le_of_ble_eq_true rfl, Nat.le_of_ble_eq_true rfl⟩) (g_preV hP hK hSt hNw hS (g_at5 (Nat.le_of_ble_eq_true rfl) rfl) rfl) rfl rfl hl.1 rfl (lv_room (Nat.le_of_ble_eq_true rfl)) dX10_clearSlots_22 ⟨Nat.zero_le _, Nat.zero_le _⟩) hS (fun iv_3 ar_3 H locs w_3 hP hS => ?_)
  try dsimp only at w_3
  have eiv_3 : iv_3 = u2 iv_1 6 1 0 := by exact w_3.1
  refine lv_iload_n hx hb dX10_clearSlots_25 rfl (lv_at hl 0 rfl) ?_
  rw [hQ]
  exact W.iret (v := (iv_1 6 1)) hx hb hr (fun t ht hW => ⟨⟨(iv_1 6 1), (iv_3, ar_3), rfl, by have zr : (iv_1 6 1).toInt = (0 : Int) := ((congrArg Int32.toInt f_2).trans (fr0 hF_iv 6 1 (by decide))); have z0 := i_l0; have z1 := i_l1; omega, by show va_P _ _ _ _; rw [ht]; exact hP⟩, hS.F ht⟩) hS.2.2 dX10_clearSlots_26
set_option maxHeartbeats 4000000 in
set_option maxRecDepth 100000 in
theorem c_X2_lengthen (l : Launch) (D : va_G) (cy : Nat → ClassId) (ad : Nat → Nat) (hI : gInj ad) (sz : Nat) (iv : gIv) (ar : gAr) (a : Int32) (b : Int32) (h0 : 0 ≤ (iv 66 2).toInt ∧ (iv 66 2).toInt ≤ 60) (hb : 1 ≤ b.toInt ∧ b.toInt ≤ 60) : Met l yX2_lengthen wsX2_lengthen ({ frames := 0, cells := 0, slots := 0, locals := 0 } : Room) (va_Pc [.ref (ad 66), .int a, .int b] (gPre D cy ad sz iv ar)) (va_Qi (fun (r : Int32) (u : gIv × gAr) => (r.toInt = 0 ∧ 60 < (iv 66 2).toInt + b.toInt ∧ u = (iv, ar)) ∨ (r.toInt = 1 ∧ (iv 66 2).toInt + b.toInt ≤ 60 ∧ (u.1 66 2).toInt = (iv 66 2).toInt + b.toInt ∧ (∀ a b, ¬ (a = 66 ∧ b = 2) → u.1 a b = iv a b) ∧ ∀ a, a ≠ 67 → u.2 a = ar a)) (gPost D cy ad) (gA ad sz)) 0 0 (gA ad sz) := by
  refine Met.ofW (cc := cX2_lengthen) (maxL := 4) (ret := (some .boolean)) (by decide) rfl ?_
  intro p e s m args below meth c s₁ B hml hv
  obtain ⟨rfl, rfl, hP, hK, hSt, hNw⟩ := hv
  have hx := B.exec
  have hb := B.bytes
  have hr := B.returns
  have hts := atoms_spec (ws := wsX2_lengthen) B.pre
  have hown : s.vm.findClass RX2 = some m.cls := findClass_of_methodNamed B.named
  have hlocks := B.notSynchronized
  have hS : va_S (gA ad s.heap.size) s.heap s.heap [] := va_S.rf
  have inX2 : ∀ w ∈ u_ws RX2 TX2 5, w ∈ wsX2_lengthen := by decide +kernel
  have lk0 := hts (.fieldLink RX2 22 "FormationPlanner$Formation" "length" "I") (by decide +kernel)
  have lk1 := hts (.fieldLink RX2 9 "FormationPlanner$Formation" "signs" "[I") (by decide +kernel)
  have hl := lv_entry ([.ref (ad 66), .int a, .int b]) (n := 4) (Nat.le_of_ble_eq_true rfl)
  rw [lg_entry_eq]
  generalize (lg_sl ([.ref (ad 66), .int a, .int b]) ++ List.replicate (4 - (lg_sl ([.ref (ad 66), .int a, .int b])).length) Slot.unset).toArray = ls at hl ⊢
  have hl : lv_has ls 4 [(0, .ref (ad 66)), (1, .int a), (2, .int b)] := hl
  obtain ⟨Q, hQ⟩ : ∃ Q, Q = MQ below (va_Qi (fun (r : Int32) (u : gIv × gAr) => (r.toInt = 0 ∧ 60 < (iv 66 2).toInt + b.toInt ∧ u = (iv, ar)) ∨ (r.toInt = 1 ∧ (iv 66 2).toInt + b.toInt ≤ 60 ∧ (u.1 66 2).toInt = (iv 66 2).toInt + b.toInt ∧ (∀ a b, ¬ (a = 66 ∧ b = 2) → u.1 a b = iv a b) ∧ ∀ a, a ≠ 67 → u.2 a = ar a)) (gPost D cy ad) (gA ad s.heap.size)) (([.ref (ad 66), .int a, .int b] : List Value).toArray) s 0 0 (gA ad s.heap.size) := ⟨_, rfl⟩
  rw [← hQ]
  refine lv_aload_n hx hb dX2_lengthen_0 rfl (lv_at hl 0 rfl) ?_
  refine va_get (D := D) (ci := 2) (v := .int (iv 66 2)) (C := RX2) (T := TX2) (N := 5) hx hb hts inX2 hown hK hP 66 (g_at2 (Nat.le_of_ble_eq_true rfl) rfl) rfl 2 (by decide) lk0 (fun _ h9 => h9) rfl dX2_lengthen_1 ?_
  refine lv_iload_n hx hb dX2_lengthen_4 rfl (lv_at hl 2 rfl) ?_
  refine lv_iadd hx hb dX2_lengthen_5 ?_
  refine lv_topi (fun v_1 ev_1 => ?_)
  have tv_1 : v_1.toInt = ((iv 66 2).toInt) + b.toInt := i_add (rfl : (iv 66 2).toInt = (iv 66 2).toInt) (rfl : b.toInt = b.toInt) (by omega) (by omega) ev_1
  refine lv_bipush (v := 60) hx hb dX2_lengthen_6 (by decide) ?_
  refine lv_icmp_le (tgt := 13) hx hb dX2_lengthen_8 (by decide) (fun c_2 => ?_) (fun c_2 => ?_)
  · skip
    have q_2 : v_1.toInt ≤ (60 : Int) := i_le2 (rfl : v_1.toInt = v_1.toInt) (show (60 : Int32).toInt = (60 : Int) from rfl) c_2
    refine lv_iconst (v := 0) hx hb dX2_lengthen_13 (by decide) ?_
    refine lv_istore_n (lv' := [(3, .int 0), (0, .ref (ad 66)), (1, .int a), (2, .int b)]) hx hb dX2_lengthen_14 rfl hl (by decide) rfl (fun ls hl => ?_)
    have loop5 : ∀ (n : Nat) (x3_3 : Int32) (iv_4 : gIv) (ar_4 : gAr) (H : Heap) (locs : List Loc) (ls : Array Slot), (((b.toInt) - (x3_3.toInt)).toNat) < n → (0 ≤ (x3_3.toInt) ∧ (x3_3.toInt) ≤ (b.toInt)) → ((iv_4 66 2).toInt = (iv 66 2).toInt + (x3_3.toInt)) → (∀ a b, ¬ (a = 66 ∧ b = 2) → iv_4 a b = iv a b) → (∀ a, a ≠ 67 → ar_4 a = ar a) → va_P D vwCl (GW cy ad iv_4 ar_4) H → va_S (gA ad s.heap.size) s.heap H locs → lv_has ls 4 [(3, .int x3_3), (0, .ref (ad 66)), (1, .int a), (2, .int b)] → W p l e (headSpec wsX2_lengthen (({ frames := 0, cells := 0, slots := 0, locals := 0 } : Room))).room s m (([.ref (ad 66), .int a, .int b] : List Value).toArray) below meth c H locs 0 0 Q (F0 m 15 ls []) := by
      intro n
      induction n with
      | zero => intro x3_3 iv_4 ar_4 H locs ls hm; omega
      | succ n ih5 =>
        intro x3_3 iv_4 ar_4 H locs ls hm hg0 hgl hgi hga hP hS hl
        refine lv_iload_n hx hb dX2_lengthen_15 rfl (lv_at hl 0 rfl) ?_
        refine lv_iload_n hx hb dX2_lengthen_16 rfl (lv_at hl 3 rfl) ?_
        refine lv_icmp_ge (tgt := 62) hx hb dX2_lengthen_17 (by decide) (fun c_6 => ?_) (fun c_6 => ?_)
        · skip
          have q_6 : b.toInt ≤ x3_3.toInt := i_le2 (rfl : b.toInt = b.toInt) (rfl : x3_3.toInt = x3_3.toInt) c_6
          refine lv_iconst (v := 1) hx hb dX2_lengthen_62 (by decide) ?_
          rw [hQ]
          exact W.zret (v := 1) hx hb hr rfl (fun t ht hW => ⟨⟨1, (iv_4, ar_4), rfl, Or.inr ⟨rfl, by omega, by show (iv_4 66 2).toInt = _; omega, hgi, hga⟩, by show va_P _ _ _ _; rw [ht]; exact hP⟩, hS.F ht⟩) hS.2.2 dX2_lengthen_63
        · skip
          have q_6 : x3_3.toInt < b.toInt := i_nle2 (rfl : b.toInt = b.toInt) (rfl : x3_3.toInt = x3_3.toInt) c_6
          refine lv_aload_n hx hb dX2_lengthen_20 rfl (lv_at hl 1 rfl) ?_
          refine va_get (D := D) (ci := 2) (v := .int (iv_4 66 2)) (C := RX2) (T := TX2) (N := 5) hx hb hts inX2 hown hK hP 66 (g_at2 (Nat.le_of_ble_eq_true rfl) rfl) rfl 2 (by decide) lk0 (fun _ h9 => h9) rfl dX2_lengthen_21 ?_
          refine lv_if_lt (tgt := 62) hx hb dX2_lengthen_24 (by decide) (fun c_7 => ?_) (fun c_7 => ?_)
          · skip
            have q_7 : (iv_4 66 2).toInt < (0 : Int) := i_lt2 (rfl : (iv_4 66 2).toInt = (iv_4 66 2).toInt) (show (0 : Int32).toInt = (0 : Int) from rfl) c_7
            exfalso; omega
          · skip
            have q_7 : (0 : Int) ≤ (iv_4 66 2).toInt := i_nlt2 (rfl : (iv_4 66 2).toInt = (iv_4 66 2).toInt) (show (0 : Int32).toInt = (0 : Int) from rfl) c_7
            refine lv_aload_n hx hb dX2_lengthen_27 rfl (lv_at hl 1 rfl) ?_
            refine va_get (D := D) (ci := 2) (v := .int (iv_4 66 2)) (C := RX2) (T := TX2) (N := 5) hx hb hts inX2 hown hK hP 66 (g_at2 (Nat.le_of_ble_eq_true rfl) rfl) rfl 2 (by decide) lk0 (fun _ h9 => h9) rfl dX2_lengthen_28 ?_
            refine lv_bipush (v := 60) hx hb dX2_lengthen_31 (by decide) ?_
            refine lv_icmp_ge (tgt := 62) hx hb dX2_lengthen_33 (by decide) (fun c_8 => ?_) (fun c_8 => ?_)
            · skip
              have q_8 : (60 : Int) ≤ (iv_4 66 2).toInt := i_le2 (show (60 : Int32).toInt = (60 : Int) from rfl) (rfl : (iv_4 66 2).toInt = (iv_4 66 2).toInt) c_8
              refine lv_iconst (v := 1) hx hb dX2_lengthen_62 (by decide) ?_
              rw [hQ]
              exact W.zret (v := 1) hx hb hr rfl (fun t ht hW => ⟨⟨1, (iv_4, ar_4), rfl, Or.inr ⟨rfl, by omega, by show (iv_4 66 2).toInt = _; omega, hgi, hga⟩, by show va_P _ _ _ _; rw [ht]; exact hP⟩, hS.F ht⟩) hS.2.2 dX2_lengthen_63
            · skip
              have q_8 : (iv_4 66 2).toInt < (60 : Int) := i_nle2 (show (60 : Int32).toInt = (60 : Int) from rfl) (rfl : (iv_4 66 2).toInt = (iv_4 66 2).toInt) c_8
              refine lv_aload_n hx hb dX2_lengthen_36 rfl (lv_at hl 1 rfl) ?_
              refine va_get (D := D) (ci := 2) (v := .ref (ad 67)) (C := RX2) (T := TX2) (N := 5) hx hb hts inX2 hown hK hP 66 (g_at2 (Nat.le_of_ble_eq_true rfl) rfl) rfl 0 (by decide) lk1 (fun _ h9 => h9) rfl dX2_lengthen_37 ?_
              refine lv_aload_n hx hb dX2_lengthen_40 rfl (lv_at hl 1 rfl) ?_
              refine va_get (D := D) (ci := 2) (v := .int (iv_4 66 2)) (C := RX2) (T := TX2) (N := 5) hx hb hts inX2 hown hK hP 66 (g_at2 (Nat.le_of_ble_eq_true rfl) rfl) rfl 2 (by decide) lk0 (fun _ h9 => h9) rfl dX2_lengthen_41 ?_
              refine lv_iload_n hx hb dX2_lengthen_44 rfl (lv_at hl 2 rfl) ?_
              refine va_iast hx hb hK hP (gD hI) hS 67 0 (g_at12 (Nat.le_of_ble_eq_true rfl) rfl) rfl (g_in (N := 60) (rfl : (iv_4 66 2).toInt = (iv_4 66 2).toInt) rfl (by omega) (by omega)) dX2_lengthen_45 (fun H locs hP _ hS => ?_)
              rw [g_pt12 (Nat.le_of_ble_eq_true rfl) rfl] at hP
              obtain ⟨ar_9, ear_9⟩ : ∃ z : gAr, z = va_up ar_4 67 (upd (ar_4 67) (iv_4 66 2).toNatClampNeg a) := ⟨_, rfl⟩
              rw [← ear_9] at hP
              refine lv_aload_n hx hb dX2_lengthen_46 rfl (lv_at hl 1 rfl) ?_
              refine lv_dup hx hb dX2_lengthen_47 rfl ?_
              refine va_get (D := D) (ci := 2) (v := .int (iv_4 66 2)) (C := RX2) (T := TX2) (N := 5) hx hb hts inX2 hown hK hP 66 (g_at2 (Nat.le_of_ble_eq_true rfl) rfl) rfl 2 (by decide) lk0 (fun _ h9 => h9) rfl dX2_lengthen_48 ?_
              refine lv_iconst (v := 1) hx hb dX2_lengthen_51 (by decide) ?_
              refine lv_iadd hx hb dX2_lengthen_52 ?_
              refine lv_topi (fun v_10 ev_10 => ?_)
              have tv_10 : v_10.toInt = ((iv_4 66 2).toInt) + (1 : Int) := i_add (rfl : (iv_4 66 2).toInt = (iv_4 66 2).toInt) (show (1 : Int32).toInt = (1 : Int) from rfl) (by omega) (by omega) ev_10
              refine va_put (D := D) (ci := 2) (v := .int v_10) (ty := .int) (C := RX2) (T := TX2) (N := 5) hx hb hts inX2 tyX2 tyX2_ok nmX2 hown hK hP (gD hI) hS 66 (g_at2 (Nat.le_of_ble_eq_true rfl) rfl) rfl 2 (by decide) lk0 (fun _ h9 => h9) rfl (by decide +kernel) rfl rfl (Nat.le_of_ble_eq_true rfl) dX2_lengthen_53 (fun H locs hP _ hS => ?_)
              have hP : va_P D vwCl (GW cy ad (u2 iv_4 66 2 v_10) ar_9) H := by rw [← g_pt2_2 (Nat.le_of_ble_eq_true rfl) rfl]; exact hP
              obtain ⟨iv_11, eiv_11⟩ : ∃ z : gIv, z = u2 iv_4 66 2 v_10 := ⟨_, rfl⟩
              rw [← eiv_11] at hP
              obtain ⟨x3_12, ex3_12⟩ : ∃ y : Int32, y = x3_3 + 1 := ⟨_, rfl⟩
              have tx3_12 : x3_12.toInt = x3_3.toInt + (1 : Int) := i_add (rfl : x3_3.toInt = x3_3.toInt) (show (1 : Int32).toInt = (1 : Int) from rfl) (by omega) (by omega) ex3_12
              refine lv_iinc (v := x3_12) (lv' := [(3, .int x3_12), (0, .ref (ad 66)), (1, .int a), (2, .int b)]) hx hb dX2_lengthen_56 hl (k := 0) rfl (by rw [ex3_12]; rfl) (by decide) rfl (fun ls hl => ?_)
              refine lv_goto (tgt := 15) hx hb dX2_lengthen_59 (by decide) ?_
              have hnl : (iv_11 66 2).toInt = (iv 66 2).toInt + (x3_12.toInt) := by rw [eiv_11, u2_s]; omega
              exact ih5 x3_12 iv_11 ar_9 _ _ _ (by omega) (by omega) hnl (fun a b h => by rw [eiv_11, u2_o h]; exact hgi a b h) (fun a h => by rw [ear_9, ua_o h]; exact hga a h) hP hS (lv_sub hl [0, 1, 2, 3] rfl)
    have zl_13 : (0 : Int32).toInt = (0 : Int) := rfl
    exact loop5 ((((b.toInt) - ((0 : Int))).toNat) + 1) 0 iv ar _ _ _ (by omega) (by omega) (by have z0 := i_l0; omega) (fun _ _ _ => rfl) (fun _ _ => rfl) hP hS (lv_sub hl [0, 1, 2, 3] rfl)
  · skip
    have q_2 : (60 : Int) < v_1.toInt := i_nle2 (rfl : v_1.toInt = v_1.toInt) (show (60 : Int32).toInt = (60 : Int) from rfl) c_2
    refine lv_iconst (v := 0) hx hb dX2_lengthen_11 (by decide) ?_
    rw [hQ]
    exact W.zret (v := 0) hx hb hr rfl (fun t ht hW => ⟨⟨0, (iv, ar), rfl, Or.inl ⟨rfl, by omega, rfl⟩, by show va_P _ _ _ _; rw [ht]; exact hP⟩, hS.F ht⟩) hS.2.2 dX2_lengthen_12
set_option maxHeartbeats 4000000 in
set_option maxRecDepth 100000 in
theorem f_X10_append (l : Launch) (D : va_G) (cy : Nat → ClassId) (ad : Nat → Nat) (hI : gInj ad) (sz : Nat) (iv : gIv) (ar : gAr) (a : Int32) (b : Int32) (hF_iv : gFr iv ar) : Met l yX10_append wsX10_append ({ frames := 1, cells := 0, slots := 0, locals := 23 } : Room) (va_Pc [.ref (ad 0), .int a, .int b] (gPre D cy ad sz iv ar)) (va_Qi (fun (r : Int32) (u : gIv × gAr) => (0 ≤ a.toInt ∧ a.toInt < 128 ∧ 1 ≤ b.toInt ∧ b.toInt ≤ 60) ∧ r.toInt = b.toInt ∨ ¬ (0 ≤ a.toInt ∧ a.toInt < 128 ∧ 1 ≤ b.toInt ∧ b.toInt ≤ 60) ∧ r.toInt = -2) (gPost D cy ad) (gA ad sz)) 0 0 (gA ad sz) := by
  refine Met.ofW (cc := cX10_append) (maxL := 3) (ret := (some .int)) (by decide) rfl ?_
  intro p e s m args below meth c s₁ B hml hv
  obtain ⟨rfl, rfl, hP, hK, hSt, hNw⟩ := hv
  have hx := B.exec
  have hb := B.bytes
  have hr := B.returns
  have hts := atoms_spec (ws := wsX10_append) B.pre
  have hown : s.vm.findClass RX10 = some m.cls := findClass_of_methodNamed B.named
  have hlocks := B.notSynchronized
  have hS : va_S (gA ad s.heap.size) s.heap s.heap [] := va_S.rf
  have inX10 : ∀ w ∈ u_ws RX10 TX10 6, w ∈ wsX10_append := by decide +kernel
  have inX2 : ∀ w ∈ u_ws RX2 TX2 5, w ∈ wsX10_append := by decide +kernel
  have lk0 := hts (.fieldLink RX10 26 "FormationPlanner" "text" "LFormationPlanner$Formation;") (by decide +kernel)
  have lk1 := hts (.fieldLink RX10 111 "FormationPlanner$Formation" "length" "I") (by decide +kernel)
  have hl := lv_entry ([.ref (ad 0), .int a, .int b]) (n := 3) (Nat.le_of_ble_eq_true rfl)
  rw [lg_entry_eq]
  generalize (lg_sl ([.ref (ad 0), .int a, .int b]) ++ List.replicate (3 - (lg_sl ([.ref (ad 0), .int a, .int b])).length) Slot.unset).toArray = ls at hl ⊢
  have hl : lv_has ls 3 [(0, .ref (ad 0)), (1, .int a), (2, .int b)] := hl
  obtain ⟨Q, hQ⟩ : ∃ Q, Q = MQ below (va_Qi (fun (r : Int32) (u : gIv × gAr) => (0 ≤ a.toInt ∧ a.toInt < 128 ∧ 1 ≤ b.toInt ∧ b.toInt ≤ 60) ∧ r.toInt = b.toInt ∨ ¬ (0 ≤ a.toInt ∧ a.toInt < 128 ∧ 1 ≤ b.toInt ∧ b.toInt ≤ 60) ∧ r.toInt = -2) (gPost D cy ad) (gA ad s.heap.size)) (([.ref (ad 0), .int a, .int b] : List Value).toArray) s 0 0 (gA ad s.heap.size) := ⟨_, rfl⟩
  rw [← hQ]
  refine lv_iload_n hx hb dX10_append_0 rfl (lv_at hl 1 rfl) ?_
  refine lv_if_lt (tgt := 22) hx hb dX10_append_1 (by decide) (fun c_1 => ?_) (fun c_1 => ?_)
  · skip
    have q_1 : a.toInt < (0 : Int) := i_lt2 (rfl : a.toInt = a.toInt) (show (0 : Int32).toInt = (0 : Int) from rfl) c_1
    refine lv_bipush (v := (-2)) hx hb dX10_append_22 (by decide) ?_
    rw [hQ]
    exact W.iret (v := (-2)) hx hb hr (fun t ht hW => ⟨⟨(-2), (iv, ar), rfl, by have zr : ((-2) : Int32).toInt = (-2 : Int) := (show ((-2) : Int32).toInt = (-2 : Int) from rfl); have z0 := i_l0; have z1 := i_l1; omega, by show va_P _ _ _ _; rw [ht]; exact hP⟩, hS.F ht⟩) hS.2.2 dX10_append_24
  · skip
    have q_1 : (0 : Int) ≤ a.toInt := i_nlt2 (rfl : a.toInt = a.toInt) (show (0 : Int32).toInt = (0 : Int) from rfl) c_1
    refine lv_iload_n hx hb dX10_append_4 rfl (lv_at hl 1 rfl) ?_
    refine lv_sipush (v := 128) hx hb dX10_append_5 (by decide) ?_
    refine lv_icmp_ge (tgt := 22) hx hb dX10_append_8 (by decide) (fun c_2 => ?_) (fun c_2 => ?_)
    · skip
      have q_2 : (128 : Int) ≤ a.toInt := i_le2 (show (128 : Int32).toInt = (128 : Int) from rfl) (rfl : a.toInt = a.toInt) c_2
      refine lv_bipush (v := (-2)) hx hb dX10_append_22 (by decide) ?_
      rw [hQ]
      exact W.iret (v := (-2)) hx hb hr (fun t ht hW => ⟨⟨(-2), (iv, ar), rfl, by have zr : ((-2) : Int32).toInt = (-2 : Int) := (show ((-2) : Int32).toInt = (-2 : Int) from rfl); have z0 := i_l0; have z1 := i_l1; omega, by show va_P _ _ _ _; rw [ht]; exact hP⟩, hS.F ht⟩) hS.2.2 dX10_append_24
    · skip
      have q_2 : a.toInt < (128 : Int) := i_nle2 (show (128 : Int32).toInt = (128 : Int) from rfl) (rfl : a.toInt = a.toInt) c_2
      refine lv_iload_n hx hb dX10_append_11 rfl (lv_at hl 2 rfl) ?_
      refine lv_iconst (v := 1) hx hb dX10_append_12 (by decide) ?_
      refine lv_icmp_lt (tgt := 22) hx hb dX10_append_13 (by decide) (fun c_3 => ?_) (fun c_3 => ?_)
      · skip
        have q_3 : b.toInt < (1 : Int) := i_lt2 (rfl : b.toInt = b.toInt) (show (1 : Int32).toInt = (1 : Int) from rfl) c_3
        refine lv_bipush (v := (-2)) hx hb dX10_append_22 (by decide) ?_
        rw [hQ]
        exact W.iret (v := (-2)) hx hb hr (fun t ht hW => ⟨⟨(-2), (iv, ar), rfl, by have zr : ((-2) : Int32).toInt = (-2 : Int) := (show ((-2) : Int32).toInt = (-2 : Int) from rfl); have z0 := i_l0; have z1 := i_l1; omega, by show va_P _ _ _ _; rw [ht]; exact hP⟩, hS.F ht⟩) hS.2.2 dX10_append_24
      · skip
        have q_3 : (1 : Int) ≤ b.toInt := i_nlt2 (rfl : b.toInt = b.toInt) (show (1 : Int32).toInt = (1 : Int) from rfl) c_3
        refine lv_iload_n hx hb dX10_append_16 rfl (lv_at hl 2 rfl) ?_
        refine lv_bipush (v := 60) hx hb dX10_append_17 (by decide) ?_
        refine lv_icmp_le (tgt := 25) hx hb dX10_append_19 (by decide) (fun c_4 => ?_) (fun c_4 => ?_)
        · skip
          have q_4 : b.toInt ≤ (60 : Int) := i_le2 (rfl : b.toInt = b.toInt) (show (60 : Int32).toInt = (60 : Int) from rfl) c_4
          refine lv_aload_n hx hb dX10_append_25 rfl (lv_at hl 0 rfl) ?_
          refine va_get (D := D) (ci := 10) (v := .ref (ad 66)) (C := RX10) (T := TX10) (N := 6) hx hb hts inX10 hown hK hP 0 (g_at10 (Nat.le_of_ble_eq_true rfl) rfl) rfl 2 (by decide) lk0 (fun _ h9 => h9) rfl dX10_append_26 ?_
          refine lv_iload_n hx hb dX10_append_29 rfl (lv_at hl 1 rfl) ?_
          refine lv_iload_n hx hb dX10_append_30 rfl (lv_at hl 2 rfl) ?_
          refine g_calli (va_runV (As := [.int a, .int b]) (rest := []) ⟨hx, hb, hml, hown, hts⟩ (c_X2_lengthen l D cy ad hI _ iv ar a b (by have := fr0 hF_iv 66 2 (by decide); omega) (by omega)) (cwV 2 hts gX10_append_X2_lengthen rfl rfl rfl (by decide +kernel) ⟨Nat.le_of_ble_eq_true rfl, Nat.le_of_ble_eq_true rfl⟩) (g_preV hP hK hSt hNw hS (g_at2 (Nat.le_of_ble_eq_true rfl) rfl) rfl) rfl rfl hl.1 rfl (lv_room (Nat.le_of_ble_eq_true rfl)) dX10_append_31 ⟨Nat.zero_le _, Nat.zero_le _⟩) hS (fun r_5 iv_5 ar_5 H locs w_5 hP hS => ?_)
          try dsimp only at w_5
          have z_5 : r_5.toInt = 1 := by
            have hs := fr0 hF_iv 66 2 (by decide)
            rcases w_5 with q | q
            · exfalso; have := q.2.1; omega
            · exact q.1
          have hle : (iv_5 66 2).toInt = b.toInt := by
            have hs := fr0 hF_iv 66 2 (by decide)
            rcases w_5 with q | q
            · exfalso; have := q.2.1; omega
            · have := q.2.2.1; omega
          refine lv_if_eq (tgt := 47) hx hb dX10_append_34 (by decide) (fun c_6 => ?_) (fun c_6 => ?_)
          · skip
            have q_6 : (1 : Int) = (0 : Int) := i_eq2 z_5 (show (0 : Int32).toInt = (0 : Int) from rfl) c_6
            exfalso; omega
          · skip
            have q_6 : (1 : Int) ≠ (0 : Int) := i_ne2 z_5 (show (0 : Int32).toInt = (0 : Int) from rfl) c_6
            refine lv_aload_n hx hb dX10_append_37 rfl (lv_at hl 0 rfl) ?_
            refine va_get (D := D) (ci := 10) (v := .ref (ad 66)) (C := RX10) (T := TX10) (N := 6) hx hb hts inX10 hown hK hP 0 (g_at10 (Nat.le_of_ble_eq_true rfl) rfl) rfl 2 (by decide) lk0 (fun _ h9 => h9) rfl dX10_append_38 ?_
            refine va_get (D := D) (ci := 2) (v := .int (iv_5 66 2)) (C := RX2) (T := TX2) (N := 5) hx hb hts inX2 hown hK hP 66 (g_at2 (Nat.le_of_ble_eq_true rfl) rfl) rfl 2 (by decide) lk1 (fun _ h9 => h9) rfl dX10_append_41 ?_
            refine lv_goto (tgt := 49) hx hb dX10_append_44 (by decide) ?_
            rw [hQ]
            exact W.iret (v := (iv_5 66 2)) hx hb hr (fun t ht hW => ⟨⟨(iv_5 66 2), (iv_5, ar_5), rfl, by have zr : (iv_5 66 2).toInt = (iv_5 66 2).toInt := (rfl : (iv_5 66 2).toInt = (iv_5 66 2).toInt); have z0 := i_l0; have z1 := i_l1; omega, by show va_P _ _ _ _; rw [ht]; exact hP⟩, hS.F ht⟩) hS.2.2 dX10_append_49
        · skip
          have q_4 : (60 : Int) < b.toInt := i_nle2 (rfl : b.toInt = b.toInt) (show (60 : Int32).toInt = (60 : Int) from rfl) c_4
          refine lv_bipush (v := (-2)) hx hb dX10_append_22 (by decide) ?_
          rw [hQ]
          exact W.iret (v := (-2)) hx hb hr (fun t ht hW => ⟨⟨(-2), (iv, ar), rfl, by have zr : ((-2) : Int32).toInt = (-2 : Int) := (show ((-2) : Int32).toInt = (-2 : Int) from rfl); have z0 := i_l0; have z1 := i_l1; omega, by show va_P _ _ _ _; rw [ht]; exact hP⟩, hS.F ht⟩) hS.2.2 dX10_append_24
set_option maxHeartbeats 4000000 in
set_option maxRecDepth 100000 in
theorem f_X2_signHere (l : Launch) (D : va_G) (cy : Nat → ClassId) (ad : Nat → Nat) (hI : gInj ad) (sz : Nat) (iv : gIv) (ar : gAr)  (hF_iv : gFr iv ar) : Met l yX2_signHere wsX2_signHere ({ frames := 0, cells := 0, slots := 0, locals := 0 } : Room) (va_Pc [.ref (ad 66)] (gPre D cy ad sz iv ar)) (vp_Si (fun r => r.toInt = -1)) 0 0 (fun _ => False) := by
  refine Met.ofW (cc := cX2_signHere) (maxL := 1) (ret := (some .int)) (by decide) rfl ?_
  intro p e s m args below meth c s₁ B hml hv
  obtain ⟨rfl, rfl, hP, hK, hSt, hNw⟩ := hv
  have hx := B.exec
  have hb := B.bytes
  have hr := B.returns
  have hts := atoms_spec (ws := wsX2_signHere) B.pre
  have hown : s.vm.findClass RX2 = some m.cls := findClass_of_methodNamed B.named
  have hlocks := B.notSynchronized
  have hS : va_S (gA ad s.heap.size) s.heap s.heap [] := va_S.rf
  have inX2 : ∀ w ∈ u_ws RX2 TX2 5, w ∈ wsX2_signHere := by decide +kernel
  have lk0 := hts (.fieldLink RX2 26 "FormationPlanner$Formation" "offset" "I") (by decide +kernel)
  have lk1 := hts (.fieldLink RX2 22 "FormationPlanner$Formation" "length" "I") (by decide +kernel)
  have hl := lv_entry ([.ref (ad 66)]) (n := 1) (Nat.le_of_ble_eq_true rfl)
  rw [lg_entry_eq]
  generalize (lg_sl ([.ref (ad 66)]) ++ List.replicate (1 - (lg_sl ([.ref (ad 66)])).length) Slot.unset).toArray = ls at hl ⊢
  have hl : lv_has ls 1 [(0, .ref (ad 66))] := hl
  obtain ⟨Q, hQ⟩ : ∃ Q, Q = MQ below (vp_Si (fun r => r.toInt = -1)) (([.ref (ad 66)] : List Value).toArray) s 0 0 (fun _ => False) := ⟨_, rfl⟩
  rw [← hQ]
  refine lv_aload_n hx hb dX2_signHere_0 rfl (lv_at hl 0 rfl) ?_
  refine va_get (D := D) (ci := 2) (v := .int (iv 66 3)) (C := RX2) (T := TX2) (N := 5) hx hb hts inX2 hown hK hP 66 (g_at2 (Nat.le_of_ble_eq_true rfl) rfl) rfl 3 (by decide) lk0 (fun _ h9 => h9) rfl dX2_signHere_1 ?_
  refine lv_if_lt (tgt := 39) hx hb dX2_signHere_4 (by decide) (fun c_1 => ?_) (fun c_1 => ?_)
  · skip
    have q_1 : (0 : Int) < (0 : Int) := i_lt2 (fr0 hF_iv 66 3 (by decide)) (show (0 : Int32).toInt = (0 : Int) from rfl) c_1
    exfalso; omega
  · skip
    have q_1 : (0 : Int) ≤ (0 : Int) := i_nlt2 (fr0 hF_iv 66 3 (by decide)) (show (0 : Int32).toInt = (0 : Int) from rfl) c_1
    refine lv_aload_n hx hb dX2_signHere_7 rfl (lv_at hl 0 rfl) ?_
    refine va_get (D := D) (ci := 2) (v := .int (iv 66 3)) (C := RX2) (T := TX2) (N := 5) hx hb hts inX2 hown hK hP 66 (g_at2 (Nat.le_of_ble_eq_true rfl) rfl) rfl 3 (by decide) lk0 (fun _ h9 => h9) rfl dX2_signHere_8 ?_
    refine lv_aload_n hx hb dX2_signHere_11 rfl (lv_at hl 0 rfl) ?_
    refine va_get (D := D) (ci := 2) (v := .int (iv 66 2)) (C := RX2) (T := TX2) (N := 5) hx hb hts inX2 hown hK hP 66 (g_at2 (Nat.le_of_ble_eq_true rfl) rfl) rfl 2 (by decide) lk1 (fun _ h9 => h9) rfl dX2_signHere_12 ?_
    refine lv_icmp_ge (tgt := 39) hx hb dX2_signHere_15 (by decide) (fun c_2 => ?_) (fun c_2 => ?_)
    · skip
      have q_2 : (0 : Int) ≤ (0 : Int) := i_le2 (fr0 hF_iv 66 2 (by decide)) (fr0 hF_iv 66 3 (by decide)) c_2
      refine lv_iconst (v := (-1)) hx hb dX2_signHere_39 (by decide) ?_
      rw [hQ]
      exact W.iret (v := (-1)) hx hb hr (fun t ht hW => ⟨(-1), rfl, by have zr : ((-1) : Int32).toInt = (-1 : Int) := (show ((-1) : Int32).toInt = (-1 : Int) from rfl); have z0 := i_l0; have z1 := i_l1; omega, ht⟩) (fun q h => by cases h) dX2_signHere_40
    · skip
      have q_2 : (0 : Int) < (0 : Int) := i_nle2 (fr0 hF_iv 66 2 (by decide)) (fr0 hF_iv 66 3 (by decide)) c_2
      exfalso; omega
set_option maxHeartbeats 4000000 in
set_option maxRecDepth 100000 in
theorem f_X2_readPosition (l : Launch) (D : va_G) (cy : Nat → ClassId) (ad : Nat → Nat) (hI : gInj ad) (sz : Nat) (iv : gIv) (ar : gAr)  (hF_iv : gFr iv ar) : Met l yX2_readPosition wsX2_readPosition ({ frames := 1, cells := 0, slots := 0, locals := 20 } : Room) (va_Pc [.ref (ad 66)] (gPre D cy ad sz iv ar)) (vp_Si (fun r => r.toInt = 0)) 0 0 (fun _ => False) := by
  refine Met.ofW (cc := cX2_readPosition) (maxL := 4) (ret := (some .boolean)) (by decide) rfl ?_
  intro p e s m args below meth c s₁ B hml hv
  obtain ⟨rfl, rfl, hP, hK, hSt, hNw⟩ := hv
  have hx := B.exec
  have hb := B.bytes
  have hr := B.returns
  have hts := atoms_spec (ws := wsX2_readPosition) B.pre
  have hown : s.vm.findClass RX2 = some m.cls := findClass_of_methodNamed B.named
  have hlocks := B.notSynchronized
  have hS : va_S (gA ad s.heap.size) s.heap s.heap [] := va_S.rf
  have hl := lv_entry ([.ref (ad 66)]) (n := 4) (Nat.le_of_ble_eq_true rfl)
  rw [lg_entry_eq]
  generalize (lg_sl ([.ref (ad 66)]) ++ List.replicate (4 - (lg_sl ([.ref (ad 66)])).length) Slot.unset).toArray = ls at hl ⊢
  have hl : lv_has ls 4 [(0, .ref (ad 66))] := hl
  obtain ⟨Q, hQ⟩ : ∃ Q, Q = MQ below (vp_Si (fun r => r.toInt = 0)) (([.ref (ad 66)] : List Value).toArray) s 0 0 (fun _ => False) := ⟨_, rfl⟩
  rw [← hQ]
  refine lv_aload_n hx hb dX2_readPosition_0 rfl (lv_at hl 0 rfl) ?_
  refine g_callSi (va_runV (As := []) (rest := []) ⟨hx, hb, hml, hown, hts⟩ (f_X2_signHere l D cy ad hI _ iv ar hF_iv) (cwV 0 hts gX2_readPosition_X2_signHere rfl rfl rfl (by decide +kernel) ⟨Nat.le_of_ble_eq_true rfl, Nat.le_of_ble_eq_true rfl⟩) (g_preV hP hK hSt hNw hS (g_at2 (Nat.le_of_ble_eq_true rfl) rfl) rfl) rfl rfl hl.1 rfl (lv_room (Nat.le_of_ble_eq_true rfl)) dX2_readPosition_1 ⟨Nat.zero_le _, Nat.zero_le _⟩) (fun r_1 w_1 => ?_)
  try dsimp only at w_1
  refine lv_bipush (v := 97) hx hb dX2_readPosition_4 (by decide) ?_
  refine lv_isub hx hb dX2_readPosition_6 ?_
  refine lv_topi (fun v_2 ev_2 => ?_)
  have tv_2 : v_2.toInt = (-1 : Int) - (97 : Int) := i_sub w_1 (show (97 : Int32).toInt = (97 : Int) from rfl) (by omega) (by omega) ev_2
  refine lv_istore_n (lv' := [(1, .int v_2), (0, .ref (ad 66))]) hx hb dX2_readPosition_7 rfl hl (by decide) rfl (fun ls hl => ?_)
  refine lv_iload_n hx hb dX2_readPosition_8 rfl (lv_at hl 0 rfl) ?_
  refine lv_if_lt (tgt := 18) hx hb dX2_readPosition_9 (by decide) (fun c_3 => ?_) (fun c_3 => ?_)
  · skip
    have q_3 : v_2.toInt < (0 : Int) := i_lt2 (rfl : v_2.toInt = v_2.toInt) (show (0 : Int32).toInt = (0 : Int) from rfl) c_3
    refine lv_iconst (v := 0) hx hb dX2_readPosition_18 (by decide) ?_
    rw [hQ]
    exact W.zret (v := 0) hx hb hr rfl (fun t ht hW => ⟨0, rfl, by have zr : (0 : Int32).toInt = (0 : Int) := (show (0 : Int32).toInt = (0 : Int) from rfl); have z0 := i_l0; have z1 := i_l1; omega, ht⟩) (fun q h => by cases h) dX2_readPosition_19
  · skip
    have q_3 : (0 : Int) ≤ v_2.toInt := i_nlt2 (rfl : v_2.toInt = v_2.toInt) (show (0 : Int32).toInt = (0 : Int) from rfl) c_3
    exfalso; omega
set_option maxHeartbeats 4000000 in
set_option maxRecDepth 100000 in
theorem f_X2_readPositions (l : Launch) (D : va_G) (cy : Nat → ClassId) (ad : Nat → Nat) (hI : gInj ad) (sz : Nat) (iv : gIv) (ar : gAr)  (hF_iv : gFr iv ar) : Met l yX2_readPositions wsX2_readPositions ({ frames := 2, cells := 0, slots := 0, locals := 43 } : Room) (va_Pc [.ref (ad 66)] (gPre D cy ad sz iv ar)) (vp_Si (fun r => r.toInt = -100)) 0 0 (fun _ => False) := by
  refine Met.ofW (cc := cX2_readPositions) (maxL := 2) (ret := (some .int)) (by decide) rfl ?_
  intro p e s m args below meth c s₁ B hml hv
  obtain ⟨rfl, rfl, hP, hK, hSt, hNw⟩ := hv
  have hx := B.exec
  have hb := B.bytes
  have hr := B.returns
  have hts := atoms_spec (ws := wsX2_readPositions) B.pre
  have hown : s.vm.findClass RX2 = some m.cls := findClass_of_methodNamed B.named
  have hlocks := B.notSynchronized
  have hS : va_S (gA ad s.heap.size) s.heap s.heap [] := va_S.rf
  have inX2 : ∀ w ∈ u_ws RX2 TX2 5, w ∈ wsX2_readPositions := by decide +kernel
  have lk0 := hts (.fieldLink RX2 26 "FormationPlanner$Formation" "offset" "I") (by decide +kernel)
  have hl := lv_entry ([.ref (ad 66)]) (n := 2) (Nat.le_of_ble_eq_true rfl)
  rw [lg_entry_eq]
  generalize (lg_sl ([.ref (ad 66)]) ++ List.replicate (2 - (lg_sl ([.ref (ad 66)])).length) Slot.unset).toArray = ls at hl ⊢
  have hl : lv_has ls 2 [(0, .ref (ad 66))] := hl
  obtain ⟨Q, hQ⟩ : ∃ Q, Q = MQ below (vp_Si (fun r => r.toInt = -100)) (([.ref (ad 66)] : List Value).toArray) s 0 0 (fun _ => False) := ⟨_, rfl⟩
  rw [← hQ]
  refine lv_iconst (v := 1) hx hb dX2_readPositions_0 (by decide) ?_
  refine lv_istore_n (lv' := [(1, .int 1), (0, .ref (ad 66))]) hx hb dX2_readPositions_1 rfl hl (by decide) rfl (fun ls hl => ?_)
  refine lv_iload_n hx hb dX2_readPositions_2 rfl (lv_at hl 0 rfl) ?_
  refine lv_bipush (v := 60) hx hb dX2_readPositions_3 (by decide) ?_
  refine lv_icmp_gt (tgt := 69) hx hb dX2_readPositions_5 (by decide) (fun c_1 => ?_) (fun c_1 => ?_)
  · skip
    have q_1 : (60 : Int) < (1 : Int) := i_lt2 (show (60 : Int32).toInt = (60 : Int) from rfl) (show (1 : Int32).toInt = (1 : Int) from rfl) c_1
    exfalso; omega
  · skip
    have q_1 : (1 : Int) ≤ (60 : Int) := i_nlt2 (show (60 : Int32).toInt = (60 : Int) from rfl) (show (1 : Int32).toInt = (1 : Int) from rfl) c_1
    refine lv_aload_n hx hb dX2_readPositions_8 rfl (lv_at hl 1 rfl) ?_
    refine g_callSi (va_runV (As := []) (rest := []) ⟨hx, hb, hml, hown, hts⟩ (f_X2_readPosition l D cy ad hI _ iv ar hF_iv) (cwV 0 hts gX2_readPositions_X2_readPosition rfl rfl rfl (by decide +kernel) ⟨Nat.le_of_ble_eq_true rfl, Nat.le_of_ble_eq_true rfl⟩) (g_preV hP hK hSt hNw hS (g_at2 (Nat.le_of_ble_eq_true rfl) rfl) rfl) rfl rfl hl.1 rfl (lv_room (Nat.le_of_ble_eq_true rfl)) dX2_readPositions_9 ⟨Nat.zero_le _, Nat.zero_le _⟩) (fun r_2 w_2 => ?_)
    try dsimp only at w_2
    refine lv_if_ne (tgt := 23) hx hb dX2_readPositions_12 (by decide) (fun c_3 => ?_) (fun c_3 => ?_)
    · skip
      have q_3 : (0 : Int) ≠ (0 : Int) := i_ne2 w_2 (show (0 : Int32).toInt = (0 : Int) from rfl) c_3
      exfalso; omega
    · skip
      have q_3 : (0 : Int) = (0 : Int) := i_eq2 w_2 (show (0 : Int32).toInt = (0 : Int) from rfl) c_3
      refine lv_bipush (v := (-100)) hx hb dX2_readPositions_15 (by decide) ?_
      refine lv_aload_n hx hb dX2_readPositions_17 rfl (lv_at hl 1 rfl) ?_
      refine va_get (D := D) (ci := 2) (v := .int (iv 66 3)) (C := RX2) (T := TX2) (N := 5) hx hb hts inX2 hown hK hP 66 (g_at2 (Nat.le_of_ble_eq_true rfl) rfl) rfl 3 (by decide) lk0 (fun _ h9 => h9) rfl dX2_readPositions_18 ?_
      refine lv_isub hx hb dX2_readPositions_21 ?_
      refine lv_topi (fun v_4 ev_4 => ?_)
      have tv_4 : v_4.toInt = (-100 : Int) - (0 : Int) := i_sub (show ((-100) : Int32).toInt = (-100 : Int) from rfl) (fr0 hF_iv 66 3 (by decide)) (by omega) (by omega) ev_4
      rw [hQ]
      exact W.iret (v := v_4) hx hb hr (fun t ht hW => ⟨v_4, rfl, by have zr : v_4.toInt = v_4.toInt := (rfl : v_4.toInt = v_4.toInt); have z0 := i_l0; have z1 := i_l1; omega, ht⟩) (fun q h => by cases h) dX2_readPositions_22
set_option maxHeartbeats 4000000 in
set_option maxRecDepth 100000 in
theorem f_X2_read (l : Launch) (D : va_G) (cy : Nat → ClassId) (ad : Nat → Nat) (hI : gInj ad) (sz : Nat) (iv : gIv) (ar : gAr)  (hF_iv : gFr iv ar) : Met l yX2_read wsX2_read ({ frames := 3, cells := 0, slots := 0, locals := 64 } : Room) (va_Pc [.ref (ad 66)] (gPre D cy ad sz iv ar)) (va_Qi (fun (r : Int32) (u : gIv × gAr) => r.toInt = -100) (gPost D cy ad) (gA ad sz)) 0 0 (gA ad sz) := by
  refine Met.ofW (cc := cX2_read) (maxL := 2) (ret := (some .int)) (by decide) rfl ?_
  intro p e s m args below meth c s₁ B hml hv
  obtain ⟨rfl, rfl, hP, hK, hSt, hNw⟩ := hv
  have hx := B.exec
  have hb := B.bytes
  have hr := B.returns
  have hts := atoms_spec (ws := wsX2_read) B.pre
  have hown : s.vm.findClass RX2 = some m.cls := findClass_of_methodNamed B.named
  have hlocks := B.notSynchronized
  have hS : va_S (gA ad s.heap.size) s.heap s.heap [] := va_S.rf
  have inX2 : ∀ w ∈ u_ws RX2 TX2 5, w ∈ wsX2_read := by decide +kernel
  have lk0 := hts (.fieldLink RX2 26 "FormationPlanner$Formation" "offset" "I") (by decide +kernel)
  have lk1 := hts (.fieldLink RX2 29 "FormationPlanner$Formation" "repeats" "Z") (by decide +kernel)
  have lk2 := hts (.fieldLink RX2 18 "FormationPlanner$Formation" "places" "LFormationPlanner$Places;") (by decide +kernel)
  have lk3 := hts (.fieldLink RX2 22 "FormationPlanner$Formation" "length" "I") (by decide +kernel)
  have hl := lv_entry ([.ref (ad 66)]) (n := 2) (Nat.le_of_ble_eq_true rfl)
  rw [lg_entry_eq]
  generalize (lg_sl ([.ref (ad 66)]) ++ List.replicate (2 - (lg_sl ([.ref (ad 66)])).length) Slot.unset).toArray = ls at hl ⊢
  have hl : lv_has ls 2 [(0, .ref (ad 66))] := hl
  obtain ⟨Q, hQ⟩ : ∃ Q, Q = MQ below (va_Qi (fun (r : Int32) (u : gIv × gAr) => r.toInt = -100) (gPost D cy ad) (gA ad s.heap.size)) (([.ref (ad 66)] : List Value).toArray) s 0 0 (gA ad s.heap.size) := ⟨_, rfl⟩
  rw [← hQ]
  refine lv_aload_n hx hb dX2_read_0 rfl (lv_at hl 0 rfl) ?_
  refine lv_iconst (v := 0) hx hb dX2_read_1 (by decide) ?_
  refine va_put (D := D) (ci := 2) (v := .int 0) (ty := .int) (C := RX2) (T := TX2) (N := 5) hx hb hts inX2 tyX2 tyX2_ok nmX2 hown hK hP (gD hI) hS 66 (g_at2 (Nat.le_of_ble_eq_true rfl) rfl) rfl 3 (by decide) lk0 (fun _ h9 => h9) rfl (by decide +kernel) rfl rfl (Nat.le_of_ble_eq_true rfl) dX2_read_2 (fun H locs hP _ hS => ?_)
  have hP : va_P D vwCl (GW cy ad (u2 iv 66 3 0) ar) H := by rw [← g_pt2_3 (Nat.le_of_ble_eq_true rfl) rfl]; exact hP
  obtain ⟨iv_1, eiv_1⟩ : ∃ z : gIv, z = u2 iv 66 3 0 := ⟨_, rfl⟩
  rw [← eiv_1] at hP
  have hF_iv_1 : gFr iv_1 ar := by rw [eiv_1]; exact fru hF_iv 66 3 (by decide) (show (0 : Int32).toInt = (0 : Int) from rfl)
  refine lv_aload_n hx hb dX2_read_5 rfl (lv_at hl 0 rfl) ?_
  refine lv_iconst (v := 0) hx hb dX2_read_6 (by decide) ?_
  refine va_put (D := D) (ci := 2) (v := .int 0) (ty := .boolean) (C := RX2) (T := TX2) (N := 5) hx hb hts inX2 tyX2 tyX2_ok nmX2 hown hK hP (gD hI) hS 66 (g_at2 (Nat.le_of_ble_eq_true rfl) rfl) rfl 4 (by decide) lk1 (fun _ h9 => h9) rfl (by decide +kernel) rfl rfl (Nat.le_of_ble_eq_true rfl) dX2_read_7 (fun H locs hP _ hS => ?_)
  have hP : va_P D vwCl (GW cy ad (u2 iv_1 66 4 0) ar) H := by rw [← g_pt2_4 (Nat.le_of_ble_eq_true rfl) rfl]; exact hP
  obtain ⟨iv_2, eiv_2⟩ : ∃ z : gIv, z = u2 iv_1 66 4 0 := ⟨_, rfl⟩
  rw [← eiv_2] at hP
  have hF_iv_2 : gFr iv_2 ar := by rw [eiv_2]; exact fru hF_iv_1 66 4 (by decide) (show (0 : Int32).toInt = (0 : Int) from rfl)
  refine lv_aload_n hx hb dX2_read_10 rfl (lv_at hl 0 rfl) ?_
  refine va_get (D := D) (ci := 2) (v := .ref (ad 68)) (C := RX2) (T := TX2) (N := 5) hx hb hts inX2 hown hK hP 66 (g_at2 (Nat.le_of_ble_eq_true rfl) rfl) rfl 1 (by decide) lk2 (fun _ h9 => h9) rfl dX2_read_11 ?_
  refine g_callv (va_runV (As := []) (rest := []) ⟨hx, hb, hml, hown, hts⟩ (c_X5_clear l D cy ad hI _ iv_2 ar 68 (Nat.le_of_ble_eq_true rfl) rfl) (cwV 0 hts gX2_read_X5_clear rfl rfl rfl (by decide +kernel) ⟨Nat.le_of_ble_eq_true rfl, Nat.le_of_ble_eq_true rfl⟩) (g_preV hP hK hSt hNw hS (g_at5 (Nat.le_of_ble_eq_true rfl) rfl) rfl) rfl rfl hl.1 rfl (lv_room (Nat.le_of_ble_eq_true rfl)) dX2_read_14 ⟨Nat.zero_le _, Nat.zero_le _⟩) hS (fun iv_3 ar_3 H locs w_3 hP hS => ?_)
  try dsimp only at w_3
  have eiv_3 : iv_3 = u2 iv_2 68 1 0 := by exact w_3.1
  have hF_iv_3 : gFr iv_3 ar_3 := by rw [w_3.2, eiv_3]; exact fru hF_iv_2 68 1 (by decide) (show (0 : Int32).toInt = (0 : Int) from rfl)
  refine lv_aload_n hx hb dX2_read_17 rfl (lv_at hl 0 rfl) ?_
  refine g_callSi (va_runV (As := []) (rest := []) ⟨hx, hb, hml, hown, hts⟩ (f_X2_readPositions l D cy ad hI _ iv_3 ar_3 hF_iv_3) (cwV 0 hts gX2_read_X2_readPositions rfl rfl rfl (by decide +kernel) ⟨Nat.le_of_ble_eq_true rfl, Nat.le_of_ble_eq_true rfl⟩) (g_preV hP hK hSt hNw hS (g_at2 (Nat.le_of_ble_eq_true rfl) rfl) rfl) rfl rfl hl.1 rfl (lv_room (Nat.le_of_ble_eq_true rfl)) dX2_read_18 ⟨Nat.zero_le _, Nat.zero_le _⟩) (fun r_4 w_4 => ?_)
  try dsimp only at w_4
  refine lv_istore_n (lv' := [(1, .int r_4), (0, .ref (ad 66))]) hx hb dX2_read_21 rfl hl (by decide) rfl (fun ls hl => ?_)
  refine lv_aload_n hx hb dX2_read_22 rfl (lv_at hl 1 rfl) ?_
  refine lv_iconst (v := 0) hx hb dX2_read_23 (by decide) ?_
  refine va_put (D := D) (ci := 2) (v := .int 0) (ty := .int) (C := RX2) (T := TX2) (N := 5) hx hb hts inX2 tyX2 tyX2_ok nmX2 hown hK hP (gD hI) hS 66 (g_at2 (Nat.le_of_ble_eq_true rfl) rfl) rfl 2 (by decide) lk3 (fun _ h9 => h9) rfl (by decide +kernel) rfl rfl (Nat.le_of_ble_eq_true rfl) dX2_read_24 (fun H locs hP _ hS => ?_)
  have hP : va_P D vwCl (GW cy ad (u2 iv_3 66 2 0) ar_3) H := by rw [← g_pt2_2 (Nat.le_of_ble_eq_true rfl) rfl]; exact hP
  obtain ⟨iv_5, eiv_5⟩ : ∃ z : gIv, z = u2 iv_3 66 2 0 := ⟨_, rfl⟩
  rw [← eiv_5] at hP
  have hF_iv_5 : gFr iv_5 ar_3 := by rw [eiv_5]; exact fru hF_iv_3 66 2 (by decide) (show (0 : Int32).toInt = (0 : Int) from rfl)
  refine lv_iload_n hx hb dX2_read_27 rfl (lv_at hl 0 rfl) ?_
  rw [hQ]
  exact W.iret (v := r_4) hx hb hr (fun t ht hW => ⟨⟨r_4, (iv_5, ar_3), rfl, by have zr : r_4.toInt = (-100 : Int) := w_4; have z0 := i_l0; have z1 := i_l1; omega, by show va_P _ _ _ _; rw [ht]; exact hP⟩, hS.F ht⟩) hS.2.2 dX2_read_28
set_option maxHeartbeats 4000000 in
set_option maxRecDepth 100000 in
theorem f_X10_readSlots (l : Launch) (D : va_G) (cy : Nat → ClassId) (ad : Nat → Nat) (hI : gInj ad) (sz : Nat) (iv : gIv) (ar : gAr)  (hF_iv : gFr iv ar) : Met l yX10_readSlots wsX10_readSlots ({ frames := 4, cells := 0, slots := 0, locals := 85 } : Room) (va_Pc [.ref (ad 0)] (gPre D cy ad sz iv ar)) (va_Qi (fun (r : Int32) (u : gIv × gAr) => r.toInt = -100) (gPost D cy ad) (gA ad sz)) 0 0 (gA ad sz) := by
  refine Met.ofW (cc := cX10_readSlots) (maxL := 2) (ret := (some .int)) (by decide) rfl ?_
  intro p e s m args below meth c s₁ B hml hv
  obtain ⟨rfl, rfl, hP, hK, hSt, hNw⟩ := hv
  have hx := B.exec
  have hb := B.bytes
  have hr := B.returns
  have hts := atoms_spec (ws := wsX10_readSlots) B.pre
  have hown : s.vm.findClass RX10 = some m.cls := findClass_of_methodNamed B.named
  have hlocks := B.notSynchronized
  have hS : va_S (gA ad s.heap.size) s.heap s.heap [] := va_S.rf
  have inX10 : ∀ w ∈ u_ws RX10 TX10 6, w ∈ wsX10_readSlots := by decide +kernel
  have lk0 := hts (.fieldLink RX10 26 "FormationPlanner" "text" "LFormationPlanner$Formation;") (by decide +kernel)
  have hl := lv_entry ([.ref (ad 0)]) (n := 2) (Nat.le_of_ble_eq_true rfl)
  rw [lg_entry_eq]
  generalize (lg_sl ([.ref (ad 0)]) ++ List.replicate (2 - (lg_sl ([.ref (ad 0)])).length) Slot.unset).toArray = ls at hl ⊢
  have hl : lv_has ls 2 [(0, .ref (ad 0))] := hl
  obtain ⟨Q, hQ⟩ : ∃ Q, Q = MQ below (va_Qi (fun (r : Int32) (u : gIv × gAr) => r.toInt = -100) (gPost D cy ad) (gA ad s.heap.size)) (([.ref (ad 0)] : List Value).toArray) s 0 0 (gA ad s.heap.size) := ⟨_, rfl⟩
  rw [← hQ]
  refine lv_aload_n hx hb dX10_readSlots_0 rfl (lv_at hl 0 rfl) ?_
  refine va_get (D := D) (ci := 10) (v := .ref (ad 66)) (C := RX10) (T := TX10) (N := 6) hx hb hts inX10 hown hK hP 0 (g_at10 (Nat.le_of_ble_eq_true rfl) rfl) rfl 2 (by decide) lk0 (fun _ h9 => h9) rfl dX10_readSlots_1 ?_
  refine g_calli (va_runV (As := []) (rest := []) ⟨hx, hb, hml, hown, hts⟩ (f_X2_read l D cy ad hI _ iv ar hF_iv) (cwV 0 hts gX10_readSlots_X2_read rfl rfl rfl (by decide +kernel) ⟨Nat.le_of_ble_eq_true rfl, Nat.le_of_ble_eq_true rfl⟩) (g_preV hP hK hSt hNw hS (g_at2 (Nat.le_of_ble_eq_true rfl) rfl) rfl) rfl rfl hl.1 rfl (lv_room (Nat.le_of_ble_eq_true rfl)) dX10_readSlots_4 ⟨Nat.zero_le _, Nat.zero_le _⟩) hS (fun r_1 iv_1 ar_1 H locs w_1 hP hS => ?_)
  try dsimp only at w_1
  refine lv_istore_n (lv' := [(1, .int r_1), (0, .ref (ad 0))]) hx hb dX10_readSlots_7 rfl hl (by decide) rfl (fun ls hl => ?_)
  refine lv_iload_n hx hb dX10_readSlots_8 rfl (lv_at hl 0 rfl) ?_
  refine lv_if_ge (tgt := 14) hx hb dX10_readSlots_9 (by decide) (fun c_2 => ?_) (fun c_2 => ?_)
  · skip
    have q_2 : (0 : Int) ≤ (-100 : Int) := i_le2 (show (0 : Int32).toInt = (0 : Int) from rfl) w_1 c_2
    exfalso; omega
  · skip
    have q_2 : (-100 : Int) < (0 : Int) := i_nle2 (show (0 : Int32).toInt = (0 : Int) from rfl) w_1 c_2
    refine lv_iload_n hx hb dX10_readSlots_12 rfl (lv_at hl 0 rfl) ?_
    rw [hQ]
    exact W.iret (v := r_1) hx hb hr (fun t ht hW => ⟨⟨r_1, (iv_1, ar_1), rfl, by have zr : r_1.toInt = (-100 : Int) := w_1; have z0 := i_l0; have z1 := i_l1; omega, by show va_P _ _ _ _; rw [ht]; exact hP⟩, hS.F ht⟩) hS.2.2 dX10_readSlots_13
set_option maxHeartbeats 4000000 in
set_option maxRecDepth 100000 in
theorem f_X10_planError (l : Launch) (D : va_G) (cy : Nat → ClassId) (ad : Nat → Nat) (hI : gInj ad) (sz : Nat) (iv : gIv) (ar : gAr) (a : Int32) (b : Int32) (hF_iv : gFr iv ar) : Met l yX10_planError wsX10_planError ({ frames := 1, cells := 0, slots := 0, locals := 21 } : Room) (va_Pc [.ref (ad 0), .int a, .int b] (gPre D cy ad sz iv ar)) (vp_Si (fun r => r.toInt = -1)) 0 0 (fun _ => False) := by
  refine Met.ofW (cc := cX10_planError) (maxL := 3) (ret := (some .int)) (by decide) rfl ?_
  intro p e s m args below meth c s₁ B hml hv
  obtain ⟨rfl, rfl, hP, hK, hSt, hNw⟩ := hv
  have hx := B.exec
  have hb := B.bytes
  have hr := B.returns
  have hts := atoms_spec (ws := wsX10_planError) B.pre
  have hown : s.vm.findClass RX10 = some m.cls := findClass_of_methodNamed B.named
  have hlocks := B.notSynchronized
  have hS : va_S (gA ad s.heap.size) s.heap s.heap [] := va_S.rf
  have inX10 : ∀ w ∈ u_ws RX10 TX10 6, w ∈ wsX10_planError := by decide +kernel
  have inX8 : ∀ w ∈ u_ws RX8 TX8 5, w ∈ wsX10_planError := by decide +kernel
  have lk0 := hts (.fieldLink RX10 12 "FormationPlanner" "scene" "LFormationPlanner$Scene;") (by decide +kernel)
  have lk1 := hts (.fieldLink RX10 77 "FormationPlanner$Scene" "drones" "LFormationPlanner$Places;") (by decide +kernel)
  have hl := lv_entry ([.ref (ad 0), .int a, .int b]) (n := 3) (Nat.le_of_ble_eq_true rfl)
  rw [lg_entry_eq]
  generalize (lg_sl ([.ref (ad 0), .int a, .int b]) ++ List.replicate (3 - (lg_sl ([.ref (ad 0), .int a, .int b])).length) Slot.unset).toArray = ls at hl ⊢
  have hl : lv_has ls 3 [(0, .ref (ad 0)), (1, .int a), (2, .int b)] := hl
  obtain ⟨Q, hQ⟩ : ∃ Q, Q = MQ below (vp_Si (fun r => r.toInt = -1)) (([.ref (ad 0), .int a, .int b] : List Value).toArray) s 0 0 (fun _ => False) := ⟨_, rfl⟩
  rw [← hQ]
  refine lv_aload_n hx hb dX10_planError_0 rfl (lv_at hl 0 rfl) ?_
  refine va_get (D := D) (ci := 10) (v := .ref (ad 1)) (C := RX10) (T := TX10) (N := 6) hx hb hts inX10 hown hK hP 0 (g_at10 (Nat.le_of_ble_eq_true rfl) rfl) rfl 0 (by decide) lk0 (fun _ h9 => h9) rfl dX10_planError_1 ?_
  refine va_get (D := D) (ci := 8) (v := .ref (ad 4)) (C := RX8) (T := TX8) (N := 5) hx hb hts inX8 hown hK hP 1 (g_at8 (Nat.le_of_ble_eq_true rfl) rfl) rfl 2 (by decide) lk1 (fun _ h9 => h9) rfl dX10_planError_4 ?_
  refine lv_iload_n hx hb dX10_planError_7 rfl (lv_at hl 1 rfl) ?_
  refine g_callSi (va_runV (As := [.int a]) (rest := []) ⟨hx, hb, hml, hown, hts⟩ (c_X5_has l D cy ad hI _ iv ar 4 (Nat.le_of_ble_eq_true rfl) rfl a) (cwV 1 hts gX10_planError_X5_has rfl rfl rfl (by decide +kernel) ⟨Nat.le_of_ble_eq_true rfl, Nat.le_of_ble_eq_true rfl⟩) (g_preV hP hK hSt hNw hS (g_at5 (Nat.le_of_ble_eq_true rfl) rfl) rfl) rfl rfl hl.1 rfl (lv_room (Nat.le_of_ble_eq_true rfl)) dX10_planError_8 ⟨Nat.zero_le _, Nat.zero_le _⟩) (fun r_1 w_1 => ?_)
  try dsimp only at w_1
  have z_1 : r_1.toInt = 0 := by have hq := fr0 hF_iv 4 1 (by decide); omega
  refine lv_if_ne (tgt := 16) hx hb dX10_planError_11 (by decide) (fun c_2 => ?_) (fun c_2 => ?_)
  · skip
    have q_2 : (0 : Int) ≠ (0 : Int) := i_ne2 z_1 (show (0 : Int32).toInt = (0 : Int) from rfl) c_2
    exfalso; omega
  · skip
    have q_2 : (0 : Int) = (0 : Int) := i_eq2 z_1 (show (0 : Int32).toInt = (0 : Int) from rfl) c_2
    refine lv_iconst (v := (-1)) hx hb dX10_planError_14 (by decide) ?_
    rw [hQ]
    exact W.iret (v := (-1)) hx hb hr (fun t ht hW => ⟨(-1), rfl, by have zr : ((-1) : Int32).toInt = (-1 : Int) := (show ((-1) : Int32).toInt = (-1 : Int) from rfl); have z0 := i_l0; have z1 := i_l1; omega, ht⟩) (fun q h => by cases h) dX10_planError_15
set_option maxHeartbeats 4000000 in
set_option maxRecDepth 100000 in
theorem f_X10_at (l : Launch) (D : va_G) (cy : Nat → ClassId) (ad : Nat → Nat) (hI : gInj ad) (sz : Nat) (iv : gIv) (ar : gAr) (a : Int32) (b : Int32) (hF_iv : gFr iv ar) : Met l yX10_at wsX10_at ({ frames := 2, cells := 0, slots := 0, locals := 43 } : Room) (va_Pc [.ref (ad 0), .int a, .int b] (gPre D cy ad sz iv ar)) (vp_Si (fun r => r.toInt = -1)) 0 0 (fun _ => False) := by
  refine Met.ofW (cc := cX10_at) (maxL := 4) (ret := (some .int)) (by decide) rfl ?_
  intro p e s m args below meth c s₁ B hml hv
  obtain ⟨rfl, rfl, hP, hK, hSt, hNw⟩ := hv
  have hx := B.exec
  have hb := B.bytes
  have hr := B.returns
  have hts := atoms_spec (ws := wsX10_at) B.pre
  have hown : s.vm.findClass RX10 = some m.cls := findClass_of_methodNamed B.named
  have hlocks := B.notSynchronized
  have hS : va_S (gA ad s.heap.size) s.heap s.heap [] := va_S.rf
  have hl := lv_entry ([.ref (ad 0), .int a, .int b]) (n := 4) (Nat.le_of_ble_eq_true rfl)
  rw [lg_entry_eq]
  generalize (lg_sl ([.ref (ad 0), .int a, .int b]) ++ List.replicate (4 - (lg_sl ([.ref (ad 0), .int a, .int b])).length) Slot.unset).toArray = ls at hl ⊢
  have hl : lv_has ls 4 [(0, .ref (ad 0)), (1, .int a), (2, .int b)] := hl
  obtain ⟨Q, hQ⟩ : ∃ Q, Q = MQ below (vp_Si (fun r => r.toInt = -1)) (([.ref (ad 0), .int a, .int b] : List Value).toArray) s 0 0 (fun _ => False) := ⟨_, rfl⟩
  rw [← hQ]
  refine lv_aload_n hx hb dX10_at_0 rfl (lv_at hl 0 rfl) ?_
  refine lv_iload_n hx hb dX10_at_1 rfl (lv_at hl 1 rfl) ?_
  refine lv_iload_n hx hb dX10_at_2 rfl (lv_at hl 2 rfl) ?_
  refine lv_if_lt (tgt := 16) hx hb dX10_at_3 (by decide) (fun c_1 => ?_) (fun c_1 => ?_)
  · skip
    have q_1 : b.toInt < (0 : Int) := i_lt2 (rfl : b.toInt = b.toInt) (show (0 : Int32).toInt = (0 : Int) from rfl) c_1
    refine lv_iconst (v := 0) hx hb dX10_at_16 (by decide) ?_
    have zl_2 : (0 : Int32).toInt = (0 : Int) := rfl
    refine g_callSi (va_runV (As := [.int a, .int 0]) (rest := []) ⟨hx, hb, hml, hown, hts⟩ (f_X10_planError l D cy ad hI _ iv ar a 0 hF_iv) (cwV 2 hts gX10_at_X10_planError rfl rfl rfl (by decide +kernel) ⟨Nat.le_of_ble_eq_true rfl, Nat.le_of_ble_eq_true rfl⟩) (g_preV hP hK hSt hNw hS (g_at10 (Nat.le_of_ble_eq_true rfl) rfl) rfl) rfl rfl hl.1 rfl (lv_room (Nat.le_of_ble_eq_true rfl)) dX10_at_17 ⟨Nat.zero_le _, Nat.zero_le _⟩) (fun r_3 w_3 => ?_)
    try dsimp only at w_3
    refine lv_istore_n (lv' := [(3, .int r_3), (0, .ref (ad 0)), (1, .int a), (2, .int b)]) hx hb dX10_at_20 rfl hl (by decide) rfl (fun ls hl => ?_)
    refine lv_iload_n hx hb dX10_at_21 rfl (lv_at hl 0 rfl) ?_
    refine lv_if_eq (tgt := 29) hx hb dX10_at_22 (by decide) (fun c_4 => ?_) (fun c_4 => ?_)
    · skip
      have q_4 : (-1 : Int) = (0 : Int) := i_eq2 w_3 (show (0 : Int32).toInt = (0 : Int) from rfl) c_4
      exfalso; omega
    · skip
      have q_4 : (-1 : Int) ≠ (0 : Int) := i_ne2 w_3 (show (0 : Int32).toInt = (0 : Int) from rfl) c_4
      refine lv_iload_n hx hb dX10_at_25 rfl (lv_at hl 0 rfl) ?_
      refine lv_goto (tgt := 38) hx hb dX10_at_26 (by decide) ?_
      rw [hQ]
      exact W.iret (v := r_3) hx hb hr (fun t ht hW => ⟨r_3, rfl, by have zr : r_3.toInt = (-1 : Int) := w_3; have z0 := i_l0; have z1 := i_l1; omega, ht⟩) (fun q h => by cases h) dX10_at_38
  · skip
    have q_1 : (0 : Int) ≤ b.toInt := i_nlt2 (rfl : b.toInt = b.toInt) (show (0 : Int32).toInt = (0 : Int) from rfl) c_1
    refine lv_iload_n hx hb dX10_at_6 rfl (lv_at hl 2 rfl) ?_
    refine lv_bipush (v := 60) hx hb dX10_at_7 (by decide) ?_
    refine lv_icmp_gt (tgt := 16) hx hb dX10_at_9 (by decide) (fun c_5 => ?_) (fun c_5 => ?_)
    · skip
      have q_5 : (60 : Int) < b.toInt := i_lt2 (show (60 : Int32).toInt = (60 : Int) from rfl) (rfl : b.toInt = b.toInt) c_5
      refine lv_iconst (v := 0) hx hb dX10_at_16 (by decide) ?_
      have zl_6 : (0 : Int32).toInt = (0 : Int) := rfl
      refine g_callSi (va_runV (As := [.int a, .int 0]) (rest := []) ⟨hx, hb, hml, hown, hts⟩ (f_X10_planError l D cy ad hI _ iv ar a 0 hF_iv) (cwV 2 hts gX10_at_X10_planError rfl rfl rfl (by decide +kernel) ⟨Nat.le_of_ble_eq_true rfl, Nat.le_of_ble_eq_true rfl⟩) (g_preV hP hK hSt hNw hS (g_at10 (Nat.le_of_ble_eq_true rfl) rfl) rfl) rfl rfl hl.1 rfl (lv_room (Nat.le_of_ble_eq_true rfl)) dX10_at_17 ⟨Nat.zero_le _, Nat.zero_le _⟩) (fun r_7 w_7 => ?_)
      try dsimp only at w_7
      refine lv_istore_n (lv' := [(3, .int r_7), (0, .ref (ad 0)), (1, .int a), (2, .int b)]) hx hb dX10_at_20 rfl hl (by decide) rfl (fun ls hl => ?_)
      refine lv_iload_n hx hb dX10_at_21 rfl (lv_at hl 0 rfl) ?_
      refine lv_if_eq (tgt := 29) hx hb dX10_at_22 (by decide) (fun c_8 => ?_) (fun c_8 => ?_)
      · skip
        have q_8 : (-1 : Int) = (0 : Int) := i_eq2 w_7 (show (0 : Int32).toInt = (0 : Int) from rfl) c_8
        exfalso; omega
      · skip
        have q_8 : (-1 : Int) ≠ (0 : Int) := i_ne2 w_7 (show (0 : Int32).toInt = (0 : Int) from rfl) c_8
        refine lv_iload_n hx hb dX10_at_25 rfl (lv_at hl 0 rfl) ?_
        refine lv_goto (tgt := 38) hx hb dX10_at_26 (by decide) ?_
        rw [hQ]
        exact W.iret (v := r_7) hx hb hr (fun t ht hW => ⟨r_7, rfl, by have zr : r_7.toInt = (-1 : Int) := w_7; have z0 := i_l0; have z1 := i_l1; omega, ht⟩) (fun q h => by cases h) dX10_at_38
    · skip
      have q_5 : b.toInt ≤ (60 : Int) := i_nlt2 (show (60 : Int32).toInt = (60 : Int) from rfl) (rfl : b.toInt = b.toInt) c_5
      refine lv_iconst (v := 1) hx hb dX10_at_12 (by decide) ?_
      refine lv_goto (tgt := 17) hx hb dX10_at_13 (by decide) ?_
      have zl_9 : (1 : Int32).toInt = (1 : Int) := rfl
      refine g_callSi (va_runV (As := [.int a, .int 1]) (rest := []) ⟨hx, hb, hml, hown, hts⟩ (f_X10_planError l D cy ad hI _ iv ar a 1 hF_iv) (cwV 2 hts gX10_at_X10_planError rfl rfl rfl (by decide +kernel) ⟨Nat.le_of_ble_eq_true rfl, Nat.le_of_ble_eq_true rfl⟩) (g_preV hP hK hSt hNw hS (g_at10 (Nat.le_of_ble_eq_true rfl) rfl) rfl) rfl rfl hl.1 rfl (lv_room (Nat.le_of_ble_eq_true rfl)) dX10_at_17 ⟨Nat.zero_le _, Nat.zero_le _⟩) (fun r_10 w_10 => ?_)
      try dsimp only at w_10
      refine lv_istore_n (lv' := [(3, .int r_10), (0, .ref (ad 0)), (1, .int a), (2, .int b)]) hx hb dX10_at_20 rfl hl (by decide) rfl (fun ls hl => ?_)
      refine lv_iload_n hx hb dX10_at_21 rfl (lv_at hl 0 rfl) ?_
      refine lv_if_eq (tgt := 29) hx hb dX10_at_22 (by decide) (fun c_11 => ?_) (fun c_11 => ?_)
      · skip
        have q_11 : (-1 : Int) = (0 : Int) := i_eq2 w_10 (show (0 : Int32).toInt = (0 : Int) from rfl) c_11
        exfalso; omega
      · skip
        have q_11 : (-1 : Int) ≠ (0 : Int) := i_ne2 w_10 (show (0 : Int32).toInt = (0 : Int) from rfl) c_11
        refine lv_iload_n hx hb dX10_at_25 rfl (lv_at hl 0 rfl) ?_
        refine lv_goto (tgt := 38) hx hb dX10_at_26 (by decide) ?_
        rw [hQ]
        exact W.iret (v := r_10) hx hb hr (fun t ht hW => ⟨r_10, rfl, by have zr : r_10.toInt = (-1 : Int) := w_10; have z0 := i_l0; have z1 := i_l1; omega, ht⟩) (fun q h => by cases h) dX10_at_38
set_option maxHeartbeats 4000000 in
set_option maxRecDepth 100000 in
theorem f_X10_action (l : Launch) (D : va_G) (cy : Nat → ClassId) (ad : Nat → Nat) (hI : gInj ad) (sz : Nat) (iv : gIv) (ar : gAr) (a : Int32) (b : Int32) (hF_iv : gFr iv ar) : Met l yX10_action wsX10_action ({ frames := 2, cells := 0, slots := 0, locals := 43 } : Room) (va_Pc [.ref (ad 0), .int a, .int b] (gPre D cy ad sz iv ar)) (vp_Si (fun r => r.toInt = -1)) 0 0 (fun _ => False) := by
  refine Met.ofW (cc := cX10_action) (maxL := 4) (ret := (some .int)) (by decide) rfl ?_
  intro p e s m args below meth c s₁ B hml hv
  obtain ⟨rfl, rfl, hP, hK, hSt, hNw⟩ := hv
  have hx := B.exec
  have hb := B.bytes
  have hr := B.returns
  have hts := atoms_spec (ws := wsX10_action) B.pre
  have hown : s.vm.findClass RX10 = some m.cls := findClass_of_methodNamed B.named
  have hlocks := B.notSynchronized
  have hS : va_S (gA ad s.heap.size) s.heap s.heap [] := va_S.rf
  have hl := lv_entry ([.ref (ad 0), .int a, .int b]) (n := 4) (Nat.le_of_ble_eq_true rfl)
  rw [lg_entry_eq]
  generalize (lg_sl ([.ref (ad 0), .int a, .int b]) ++ List.replicate (4 - (lg_sl ([.ref (ad 0), .int a, .int b])).length) Slot.unset).toArray = ls at hl ⊢
  have hl : lv_has ls 4 [(0, .ref (ad 0)), (1, .int a), (2, .int b)] := hl
  obtain ⟨Q, hQ⟩ : ∃ Q, Q = MQ below (vp_Si (fun r => r.toInt = -1)) (([.ref (ad 0), .int a, .int b] : List Value).toArray) s 0 0 (fun _ => False) := ⟨_, rfl⟩
  rw [← hQ]
  refine lv_aload_n hx hb dX10_action_0 rfl (lv_at hl 0 rfl) ?_
  refine lv_iload_n hx hb dX10_action_1 rfl (lv_at hl 1 rfl) ?_
  refine lv_iload_n hx hb dX10_action_2 rfl (lv_at hl 2 rfl) ?_
  refine lv_if_lt (tgt := 16) hx hb dX10_action_3 (by decide) (fun c_1 => ?_) (fun c_1 => ?_)
  · skip
    have q_1 : b.toInt < (0 : Int) := i_lt2 (rfl : b.toInt = b.toInt) (show (0 : Int32).toInt = (0 : Int) from rfl) c_1
    refine lv_iconst (v := 0) hx hb dX10_action_16 (by decide) ?_
    have zl_2 : (0 : Int32).toInt = (0 : Int) := rfl
    refine g_callSi (va_runV (As := [.int a, .int 0]) (rest := []) ⟨hx, hb, hml, hown, hts⟩ (f_X10_planError l D cy ad hI _ iv ar a 0 hF_iv) (cwV 2 hts gX10_action_X10_planError rfl rfl rfl (by decide +kernel) ⟨Nat.le_of_ble_eq_true rfl, Nat.le_of_ble_eq_true rfl⟩) (g_preV hP hK hSt hNw hS (g_at10 (Nat.le_of_ble_eq_true rfl) rfl) rfl) rfl rfl hl.1 rfl (lv_room (Nat.le_of_ble_eq_true rfl)) dX10_action_17 ⟨Nat.zero_le _, Nat.zero_le _⟩) (fun r_3 w_3 => ?_)
    try dsimp only at w_3
    refine lv_istore_n (lv' := [(3, .int r_3), (0, .ref (ad 0)), (1, .int a), (2, .int b)]) hx hb dX10_action_20 rfl hl (by decide) rfl (fun ls hl => ?_)
    refine lv_iload_n hx hb dX10_action_21 rfl (lv_at hl 0 rfl) ?_
    refine lv_if_eq (tgt := 29) hx hb dX10_action_22 (by decide) (fun c_4 => ?_) (fun c_4 => ?_)
    · skip
      have q_4 : (-1 : Int) = (0 : Int) := i_eq2 w_3 (show (0 : Int32).toInt = (0 : Int) from rfl) c_4
      exfalso; omega
    · skip
      have q_4 : (-1 : Int) ≠ (0 : Int) := i_ne2 w_3 (show (0 : Int32).toInt = (0 : Int) from rfl) c_4
      refine lv_iload_n hx hb dX10_action_25 rfl (lv_at hl 0 rfl) ?_
      refine lv_goto (tgt := 38) hx hb dX10_action_26 (by decide) ?_
      rw [hQ]
      exact W.iret (v := r_3) hx hb hr (fun t ht hW => ⟨r_3, rfl, by have zr : r_3.toInt = (-1 : Int) := w_3; have z0 := i_l0; have z1 := i_l1; omega, ht⟩) (fun q h => by cases h) dX10_action_38
  · skip
    have q_1 : (0 : Int) ≤ b.toInt := i_nlt2 (rfl : b.toInt = b.toInt) (show (0 : Int32).toInt = (0 : Int) from rfl) c_1
    refine lv_iload_n hx hb dX10_action_6 rfl (lv_at hl 2 rfl) ?_
    refine lv_bipush (v := 60) hx hb dX10_action_7 (by decide) ?_
    refine lv_icmp_ge (tgt := 16) hx hb dX10_action_9 (by decide) (fun c_5 => ?_) (fun c_5 => ?_)
    · skip
      have q_5 : (60 : Int) ≤ b.toInt := i_le2 (show (60 : Int32).toInt = (60 : Int) from rfl) (rfl : b.toInt = b.toInt) c_5
      refine lv_iconst (v := 0) hx hb dX10_action_16 (by decide) ?_
      have zl_6 : (0 : Int32).toInt = (0 : Int) := rfl
      refine g_callSi (va_runV (As := [.int a, .int 0]) (rest := []) ⟨hx, hb, hml, hown, hts⟩ (f_X10_planError l D cy ad hI _ iv ar a 0 hF_iv) (cwV 2 hts gX10_action_X10_planError rfl rfl rfl (by decide +kernel) ⟨Nat.le_of_ble_eq_true rfl, Nat.le_of_ble_eq_true rfl⟩) (g_preV hP hK hSt hNw hS (g_at10 (Nat.le_of_ble_eq_true rfl) rfl) rfl) rfl rfl hl.1 rfl (lv_room (Nat.le_of_ble_eq_true rfl)) dX10_action_17 ⟨Nat.zero_le _, Nat.zero_le _⟩) (fun r_7 w_7 => ?_)
      try dsimp only at w_7
      refine lv_istore_n (lv' := [(3, .int r_7), (0, .ref (ad 0)), (1, .int a), (2, .int b)]) hx hb dX10_action_20 rfl hl (by decide) rfl (fun ls hl => ?_)
      refine lv_iload_n hx hb dX10_action_21 rfl (lv_at hl 0 rfl) ?_
      refine lv_if_eq (tgt := 29) hx hb dX10_action_22 (by decide) (fun c_8 => ?_) (fun c_8 => ?_)
      · skip
        have q_8 : (-1 : Int) = (0 : Int) := i_eq2 w_7 (show (0 : Int32).toInt = (0 : Int) from rfl) c_8
        exfalso; omega
      · skip
        have q_8 : (-1 : Int) ≠ (0 : Int) := i_ne2 w_7 (show (0 : Int32).toInt = (0 : Int) from rfl) c_8
        refine lv_iload_n hx hb dX10_action_25 rfl (lv_at hl 0 rfl) ?_
        refine lv_goto (tgt := 38) hx hb dX10_action_26 (by decide) ?_
        rw [hQ]
        exact W.iret (v := r_7) hx hb hr (fun t ht hW => ⟨r_7, rfl, by have zr : r_7.toInt = (-1 : Int) := w_7; have z0 := i_l0; have z1 := i_l1; omega, ht⟩) (fun q h => by cases h) dX10_action_38
    · skip
      have q_5 : b.toInt < (60 : Int) := i_nle2 (show (60 : Int32).toInt = (60 : Int) from rfl) (rfl : b.toInt = b.toInt) c_5
      refine lv_iconst (v := 1) hx hb dX10_action_12 (by decide) ?_
      refine lv_goto (tgt := 17) hx hb dX10_action_13 (by decide) ?_
      have zl_9 : (1 : Int32).toInt = (1 : Int) := rfl
      refine g_callSi (va_runV (As := [.int a, .int 1]) (rest := []) ⟨hx, hb, hml, hown, hts⟩ (f_X10_planError l D cy ad hI _ iv ar a 1 hF_iv) (cwV 2 hts gX10_action_X10_planError rfl rfl rfl (by decide +kernel) ⟨Nat.le_of_ble_eq_true rfl, Nat.le_of_ble_eq_true rfl⟩) (g_preV hP hK hSt hNw hS (g_at10 (Nat.le_of_ble_eq_true rfl) rfl) rfl) rfl rfl hl.1 rfl (lv_room (Nat.le_of_ble_eq_true rfl)) dX10_action_17 ⟨Nat.zero_le _, Nat.zero_le _⟩) (fun r_10 w_10 => ?_)
      try dsimp only at w_10
      refine lv_istore_n (lv' := [(3, .int r_10), (0, .ref (ad 0)), (1, .int a), (2, .int b)]) hx hb dX10_action_20 rfl hl (by decide) rfl (fun ls hl => ?_)
      refine lv_iload_n hx hb dX10_action_21 rfl (lv_at hl 0 rfl) ?_
      refine lv_if_eq (tgt := 29) hx hb dX10_action_22 (by decide) (fun c_11 => ?_) (fun c_11 => ?_)
      · skip
        have q_11 : (-1 : Int) = (0 : Int) := i_eq2 w_10 (show (0 : Int32).toInt = (0 : Int) from rfl) c_11
        exfalso; omega
      · skip
        have q_11 : (-1 : Int) ≠ (0 : Int) := i_ne2 w_10 (show (0 : Int32).toInt = (0 : Int) from rfl) c_11
        refine lv_iload_n hx hb dX10_action_25 rfl (lv_at hl 0 rfl) ?_
        refine lv_goto (tgt := 38) hx hb dX10_action_26 (by decide) ?_
        rw [hQ]
        exact W.iret (v := r_10) hx hb hr (fun t ht hW => ⟨r_10, rfl, by have zr : r_10.toInt = (-1 : Int) := w_10; have z0 := i_l0; have z1 := i_l1; omega, ht⟩) (fun q h => by cases h) dX10_action_38
set_option maxHeartbeats 4000000 in
set_option maxRecDepth 100000 in
theorem f_X10_flight (l : Launch) (D : va_G) (cy : Nat → ClassId) (ad : Nat → Nat) (hI : gInj ad) (sz : Nat) (iv : gIv) (ar : gAr) (a : Int32) (b : Int32) (hF_iv : gFr iv ar) : Met l yX10_flight wsX10_flight ({ frames := 2, cells := 0, slots := 0, locals := 43 } : Room) (va_Pc [.ref (ad 0), .int a, .int b] (gPre D cy ad sz iv ar)) (vp_Si (fun r => r.toInt = -1)) 0 0 (fun _ => False) := by
  refine Met.ofW (cc := cX10_flight) (maxL := 4) (ret := (some .int)) (by decide) rfl ?_
  intro p e s m args below meth c s₁ B hml hv
  obtain ⟨rfl, rfl, hP, hK, hSt, hNw⟩ := hv
  have hx := B.exec
  have hb := B.bytes
  have hr := B.returns
  have hts := atoms_spec (ws := wsX10_flight) B.pre
  have hown : s.vm.findClass RX10 = some m.cls := findClass_of_methodNamed B.named
  have hlocks := B.notSynchronized
  have hS : va_S (gA ad s.heap.size) s.heap s.heap [] := va_S.rf
  have hl := lv_entry ([.ref (ad 0), .int a, .int b]) (n := 4) (Nat.le_of_ble_eq_true rfl)
  rw [lg_entry_eq]
  generalize (lg_sl ([.ref (ad 0), .int a, .int b]) ++ List.replicate (4 - (lg_sl ([.ref (ad 0), .int a, .int b])).length) Slot.unset).toArray = ls at hl ⊢
  have hl : lv_has ls 4 [(0, .ref (ad 0)), (1, .int a), (2, .int b)] := hl
  obtain ⟨Q, hQ⟩ : ∃ Q, Q = MQ below (vp_Si (fun r => r.toInt = -1)) (([.ref (ad 0), .int a, .int b] : List Value).toArray) s 0 0 (fun _ => False) := ⟨_, rfl⟩
  rw [← hQ]
  refine lv_aload_n hx hb dX10_flight_0 rfl (lv_at hl 0 rfl) ?_
  refine lv_iload_n hx hb dX10_flight_1 rfl (lv_at hl 1 rfl) ?_
  refine lv_iload_n hx hb dX10_flight_2 rfl (lv_at hl 2 rfl) ?_
  refine lv_if_lt (tgt := 15) hx hb dX10_flight_3 (by decide) (fun c_1 => ?_) (fun c_1 => ?_)
  · skip
    have q_1 : b.toInt < (0 : Int) := i_lt2 (rfl : b.toInt = b.toInt) (show (0 : Int32).toInt = (0 : Int) from rfl) c_1
    refine lv_iconst (v := 0) hx hb dX10_flight_15 (by decide) ?_
    have zl_2 : (0 : Int32).toInt = (0 : Int) := rfl
    refine g_callSi (va_runV (As := [.int a, .int 0]) (rest := []) ⟨hx, hb, hml, hown, hts⟩ (f_X10_planError l D cy ad hI _ iv ar a 0 hF_iv) (cwV 2 hts gX10_flight_X10_planError rfl rfl rfl (by decide +kernel) ⟨Nat.le_of_ble_eq_true rfl, Nat.le_of_ble_eq_true rfl⟩) (g_preV hP hK hSt hNw hS (g_at10 (Nat.le_of_ble_eq_true rfl) rfl) rfl) rfl rfl hl.1 rfl (lv_room (Nat.le_of_ble_eq_true rfl)) dX10_flight_16 ⟨Nat.zero_le _, Nat.zero_le _⟩) (fun r_3 w_3 => ?_)
    try dsimp only at w_3
    refine lv_istore_n (lv' := [(3, .int r_3), (0, .ref (ad 0)), (1, .int a), (2, .int b)]) hx hb dX10_flight_19 rfl hl (by decide) rfl (fun ls hl => ?_)
    refine lv_iload_n hx hb dX10_flight_20 rfl (lv_at hl 0 rfl) ?_
    refine lv_if_eq (tgt := 26) hx hb dX10_flight_21 (by decide) (fun c_4 => ?_) (fun c_4 => ?_)
    · skip
      have q_4 : (-1 : Int) = (0 : Int) := i_eq2 w_3 (show (0 : Int32).toInt = (0 : Int) from rfl) c_4
      exfalso; omega
    · skip
      have q_4 : (-1 : Int) ≠ (0 : Int) := i_ne2 w_3 (show (0 : Int32).toInt = (0 : Int) from rfl) c_4
      refine lv_iload_n hx hb dX10_flight_24 rfl (lv_at hl 0 rfl) ?_
      rw [hQ]
      exact W.iret (v := r_3) hx hb hr (fun t ht hW => ⟨r_3, rfl, by have zr : r_3.toInt = (-1 : Int) := w_3; have z0 := i_l0; have z1 := i_l1; omega, ht⟩) (fun q h => by cases h) dX10_flight_25
  · skip
    have q_1 : (0 : Int) ≤ b.toInt := i_nlt2 (rfl : b.toInt = b.toInt) (show (0 : Int32).toInt = (0 : Int) from rfl) c_1
    refine lv_iload_n hx hb dX10_flight_6 rfl (lv_at hl 2 rfl) ?_
    refine lv_iconst (v := 4) hx hb dX10_flight_7 (by decide) ?_
    refine lv_icmp_gt (tgt := 15) hx hb dX10_flight_8 (by decide) (fun c_5 => ?_) (fun c_5 => ?_)
    · skip
      have q_5 : (4 : Int) < b.toInt := i_lt2 (show (4 : Int32).toInt = (4 : Int) from rfl) (rfl : b.toInt = b.toInt) c_5
      refine lv_iconst (v := 0) hx hb dX10_flight_15 (by decide) ?_
      have zl_6 : (0 : Int32).toInt = (0 : Int) := rfl
      refine g_callSi (va_runV (As := [.int a, .int 0]) (rest := []) ⟨hx, hb, hml, hown, hts⟩ (f_X10_planError l D cy ad hI _ iv ar a 0 hF_iv) (cwV 2 hts gX10_flight_X10_planError rfl rfl rfl (by decide +kernel) ⟨Nat.le_of_ble_eq_true rfl, Nat.le_of_ble_eq_true rfl⟩) (g_preV hP hK hSt hNw hS (g_at10 (Nat.le_of_ble_eq_true rfl) rfl) rfl) rfl rfl hl.1 rfl (lv_room (Nat.le_of_ble_eq_true rfl)) dX10_flight_16 ⟨Nat.zero_le _, Nat.zero_le _⟩) (fun r_7 w_7 => ?_)
      try dsimp only at w_7
      refine lv_istore_n (lv' := [(3, .int r_7), (0, .ref (ad 0)), (1, .int a), (2, .int b)]) hx hb dX10_flight_19 rfl hl (by decide) rfl (fun ls hl => ?_)
      refine lv_iload_n hx hb dX10_flight_20 rfl (lv_at hl 0 rfl) ?_
      refine lv_if_eq (tgt := 26) hx hb dX10_flight_21 (by decide) (fun c_8 => ?_) (fun c_8 => ?_)
      · skip
        have q_8 : (-1 : Int) = (0 : Int) := i_eq2 w_7 (show (0 : Int32).toInt = (0 : Int) from rfl) c_8
        exfalso; omega
      · skip
        have q_8 : (-1 : Int) ≠ (0 : Int) := i_ne2 w_7 (show (0 : Int32).toInt = (0 : Int) from rfl) c_8
        refine lv_iload_n hx hb dX10_flight_24 rfl (lv_at hl 0 rfl) ?_
        rw [hQ]
        exact W.iret (v := r_7) hx hb hr (fun t ht hW => ⟨r_7, rfl, by have zr : r_7.toInt = (-1 : Int) := w_7; have z0 := i_l0; have z1 := i_l1; omega, ht⟩) (fun q h => by cases h) dX10_flight_25
    · skip
      have q_5 : b.toInt ≤ (4 : Int) := i_nlt2 (show (4 : Int32).toInt = (4 : Int) from rfl) (rfl : b.toInt = b.toInt) c_5
      refine lv_iconst (v := 1) hx hb dX10_flight_11 (by decide) ?_
      refine lv_goto (tgt := 16) hx hb dX10_flight_12 (by decide) ?_
      have zl_9 : (1 : Int32).toInt = (1 : Int) := rfl
      refine g_callSi (va_runV (As := [.int a, .int 1]) (rest := []) ⟨hx, hb, hml, hown, hts⟩ (f_X10_planError l D cy ad hI _ iv ar a 1 hF_iv) (cwV 2 hts gX10_flight_X10_planError rfl rfl rfl (by decide +kernel) ⟨Nat.le_of_ble_eq_true rfl, Nat.le_of_ble_eq_true rfl⟩) (g_preV hP hK hSt hNw hS (g_at10 (Nat.le_of_ble_eq_true rfl) rfl) rfl) rfl rfl hl.1 rfl (lv_room (Nat.le_of_ble_eq_true rfl)) dX10_flight_16 ⟨Nat.zero_le _, Nat.zero_le _⟩) (fun r_10 w_10 => ?_)
      try dsimp only at w_10
      refine lv_istore_n (lv' := [(3, .int r_10), (0, .ref (ad 0)), (1, .int a), (2, .int b)]) hx hb dX10_flight_19 rfl hl (by decide) rfl (fun ls hl => ?_)
      refine lv_iload_n hx hb dX10_flight_20 rfl (lv_at hl 0 rfl) ?_
      refine lv_if_eq (tgt := 26) hx hb dX10_flight_21 (by decide) (fun c_11 => ?_) (fun c_11 => ?_)
      · skip
        have q_11 : (-1 : Int) = (0 : Int) := i_eq2 w_10 (show (0 : Int32).toInt = (0 : Int) from rfl) c_11
        exfalso; omega
      · skip
        have q_11 : (-1 : Int) ≠ (0 : Int) := i_ne2 w_10 (show (0 : Int32).toInt = (0 : Int) from rfl) c_11
        refine lv_iload_n hx hb dX10_flight_24 rfl (lv_at hl 0 rfl) ?_
        rw [hQ]
        exact W.iret (v := r_10) hx hb hr (fun t ht hW => ⟨r_10, rfl, by have zr : r_10.toInt = (-1 : Int) := w_10; have z0 := i_l0; have z1 := i_l1; omega, ht⟩) (fun q h => by cases h) dX10_flight_25
set_option maxHeartbeats 4000000 in
set_option maxRecDepth 100000 in
theorem f_X10_explain (l : Launch) (D : va_G) (cy : Nat → ClassId) (ad : Nat → Nat) (hI : gInj ad) (sz : Nat) (iv : gIv) (ar : gAr) (a : Int32) (b : Int32) (hF_iv : gFr iv ar) : Met l yX10_explain wsX10_explain ({ frames := 2, cells := 0, slots := 0, locals := 43 } : Room) (va_Pc [.ref (ad 0), .int a, .int b] (gPre D cy ad sz iv ar)) (vp_Si (fun r => r.toInt = -1)) 0 0 (fun _ => False) := by
  refine Met.ofW (cc := cX10_explain) (maxL := 4) (ret := (some .int)) (by decide) rfl ?_
  intro p e s m args below meth c s₁ B hml hv
  obtain ⟨rfl, rfl, hP, hK, hSt, hNw⟩ := hv
  have hx := B.exec
  have hb := B.bytes
  have hr := B.returns
  have hts := atoms_spec (ws := wsX10_explain) B.pre
  have hown : s.vm.findClass RX10 = some m.cls := findClass_of_methodNamed B.named
  have hlocks := B.notSynchronized
  have hS : va_S (gA ad s.heap.size) s.heap s.heap [] := va_S.rf
  have hl := lv_entry ([.ref (ad 0), .int a, .int b]) (n := 4) (Nat.le_of_ble_eq_true rfl)
  rw [lg_entry_eq]
  generalize (lg_sl ([.ref (ad 0), .int a, .int b]) ++ List.replicate (4 - (lg_sl ([.ref (ad 0), .int a, .int b])).length) Slot.unset).toArray = ls at hl ⊢
  have hl : lv_has ls 4 [(0, .ref (ad 0)), (1, .int a), (2, .int b)] := hl
  obtain ⟨Q, hQ⟩ : ∃ Q, Q = MQ below (vp_Si (fun r => r.toInt = -1)) (([.ref (ad 0), .int a, .int b] : List Value).toArray) s 0 0 (fun _ => False) := ⟨_, rfl⟩
  rw [← hQ]
  refine lv_aload_n hx hb dX10_explain_0 rfl (lv_at hl 0 rfl) ?_
  refine lv_iload_n hx hb dX10_explain_1 rfl (lv_at hl 1 rfl) ?_
  refine lv_iload_n hx hb dX10_explain_2 rfl (lv_at hl 2 rfl) ?_
  refine lv_if_lt (tgt := 16) hx hb dX10_explain_3 (by decide) (fun c_1 => ?_) (fun c_1 => ?_)
  · skip
    have q_1 : b.toInt < (0 : Int) := i_lt2 (rfl : b.toInt = b.toInt) (show (0 : Int32).toInt = (0 : Int) from rfl) c_1
    refine lv_iconst (v := 0) hx hb dX10_explain_16 (by decide) ?_
    have zl_2 : (0 : Int32).toInt = (0 : Int) := rfl
    refine g_callSi (va_runV (As := [.int a, .int 0]) (rest := []) ⟨hx, hb, hml, hown, hts⟩ (f_X10_planError l D cy ad hI _ iv ar a 0 hF_iv) (cwV 2 hts gX10_explain_X10_planError rfl rfl rfl (by decide +kernel) ⟨Nat.le_of_ble_eq_true rfl, Nat.le_of_ble_eq_true rfl⟩) (g_preV hP hK hSt hNw hS (g_at10 (Nat.le_of_ble_eq_true rfl) rfl) rfl) rfl rfl hl.1 rfl (lv_room (Nat.le_of_ble_eq_true rfl)) dX10_explain_17 ⟨Nat.zero_le _, Nat.zero_le _⟩) (fun r_3 w_3 => ?_)
    try dsimp only at w_3
    refine lv_istore_n (lv' := [(3, .int r_3), (0, .ref (ad 0)), (1, .int a), (2, .int b)]) hx hb dX10_explain_20 rfl hl (by decide) rfl (fun ls hl => ?_)
    refine lv_iload_n hx hb dX10_explain_21 rfl (lv_at hl 0 rfl) ?_
    refine lv_if_eq (tgt := 29) hx hb dX10_explain_22 (by decide) (fun c_4 => ?_) (fun c_4 => ?_)
    · skip
      have q_4 : (-1 : Int) = (0 : Int) := i_eq2 w_3 (show (0 : Int32).toInt = (0 : Int) from rfl) c_4
      exfalso; omega
    · skip
      have q_4 : (-1 : Int) ≠ (0 : Int) := i_ne2 w_3 (show (0 : Int32).toInt = (0 : Int) from rfl) c_4
      refine lv_iload_n hx hb dX10_explain_25 rfl (lv_at hl 0 rfl) ?_
      refine lv_goto (tgt := 38) hx hb dX10_explain_26 (by decide) ?_
      rw [hQ]
      exact W.iret (v := r_3) hx hb hr (fun t ht hW => ⟨r_3, rfl, by have zr : r_3.toInt = (-1 : Int) := w_3; have z0 := i_l0; have z1 := i_l1; omega, ht⟩) (fun q h => by cases h) dX10_explain_38
  · skip
    have q_1 : (0 : Int) ≤ b.toInt := i_nlt2 (rfl : b.toInt = b.toInt) (show (0 : Int32).toInt = (0 : Int) from rfl) c_1
    refine lv_iload_n hx hb dX10_explain_6 rfl (lv_at hl 2 rfl) ?_
    refine lv_bipush (v := 60) hx hb dX10_explain_7 (by decide) ?_
    refine lv_icmp_ge (tgt := 16) hx hb dX10_explain_9 (by decide) (fun c_5 => ?_) (fun c_5 => ?_)
    · skip
      have q_5 : (60 : Int) ≤ b.toInt := i_le2 (show (60 : Int32).toInt = (60 : Int) from rfl) (rfl : b.toInt = b.toInt) c_5
      refine lv_iconst (v := 0) hx hb dX10_explain_16 (by decide) ?_
      have zl_6 : (0 : Int32).toInt = (0 : Int) := rfl
      refine g_callSi (va_runV (As := [.int a, .int 0]) (rest := []) ⟨hx, hb, hml, hown, hts⟩ (f_X10_planError l D cy ad hI _ iv ar a 0 hF_iv) (cwV 2 hts gX10_explain_X10_planError rfl rfl rfl (by decide +kernel) ⟨Nat.le_of_ble_eq_true rfl, Nat.le_of_ble_eq_true rfl⟩) (g_preV hP hK hSt hNw hS (g_at10 (Nat.le_of_ble_eq_true rfl) rfl) rfl) rfl rfl hl.1 rfl (lv_room (Nat.le_of_ble_eq_true rfl)) dX10_explain_17 ⟨Nat.zero_le _, Nat.zero_le _⟩) (fun r_7 w_7 => ?_)
      try dsimp only at w_7
      refine lv_istore_n (lv' := [(3, .int r_7), (0, .ref (ad 0)), (1, .int a), (2, .int b)]) hx hb dX10_explain_20 rfl hl (by decide) rfl (fun ls hl => ?_)
      refine lv_iload_n hx hb dX10_explain_21 rfl (lv_at hl 0 rfl) ?_
      refine lv_if_eq (tgt := 29) hx hb dX10_explain_22 (by decide) (fun c_8 => ?_) (fun c_8 => ?_)
      · skip
        have q_8 : (-1 : Int) = (0 : Int) := i_eq2 w_7 (show (0 : Int32).toInt = (0 : Int) from rfl) c_8
        exfalso; omega
      · skip
        have q_8 : (-1 : Int) ≠ (0 : Int) := i_ne2 w_7 (show (0 : Int32).toInt = (0 : Int) from rfl) c_8
        refine lv_iload_n hx hb dX10_explain_25 rfl (lv_at hl 0 rfl) ?_
        refine lv_goto (tgt := 38) hx hb dX10_explain_26 (by decide) ?_
        rw [hQ]
        exact W.iret (v := r_7) hx hb hr (fun t ht hW => ⟨r_7, rfl, by have zr : r_7.toInt = (-1 : Int) := w_7; have z0 := i_l0; have z1 := i_l1; omega, ht⟩) (fun q h => by cases h) dX10_explain_38
    · skip
      have q_5 : b.toInt < (60 : Int) := i_nle2 (show (60 : Int32).toInt = (60 : Int) from rfl) (rfl : b.toInt = b.toInt) c_5
      refine lv_iconst (v := 1) hx hb dX10_explain_12 (by decide) ?_
      refine lv_goto (tgt := 17) hx hb dX10_explain_13 (by decide) ?_
      have zl_9 : (1 : Int32).toInt = (1 : Int) := rfl
      refine g_callSi (va_runV (As := [.int a, .int 1]) (rest := []) ⟨hx, hb, hml, hown, hts⟩ (f_X10_planError l D cy ad hI _ iv ar a 1 hF_iv) (cwV 2 hts gX10_explain_X10_planError rfl rfl rfl (by decide +kernel) ⟨Nat.le_of_ble_eq_true rfl, Nat.le_of_ble_eq_true rfl⟩) (g_preV hP hK hSt hNw hS (g_at10 (Nat.le_of_ble_eq_true rfl) rfl) rfl) rfl rfl hl.1 rfl (lv_room (Nat.le_of_ble_eq_true rfl)) dX10_explain_17 ⟨Nat.zero_le _, Nat.zero_le _⟩) (fun r_10 w_10 => ?_)
      try dsimp only at w_10
      refine lv_istore_n (lv' := [(3, .int r_10), (0, .ref (ad 0)), (1, .int a), (2, .int b)]) hx hb dX10_explain_20 rfl hl (by decide) rfl (fun ls hl => ?_)
      refine lv_iload_n hx hb dX10_explain_21 rfl (lv_at hl 0 rfl) ?_
      refine lv_if_eq (tgt := 29) hx hb dX10_explain_22 (by decide) (fun c_11 => ?_) (fun c_11 => ?_)
      · skip
        have q_11 : (-1 : Int) = (0 : Int) := i_eq2 w_10 (show (0 : Int32).toInt = (0 : Int) from rfl) c_11
        exfalso; omega
      · skip
        have q_11 : (-1 : Int) ≠ (0 : Int) := i_ne2 w_10 (show (0 : Int32).toInt = (0 : Int) from rfl) c_11
        refine lv_iload_n hx hb dX10_explain_25 rfl (lv_at hl 0 rfl) ?_
        refine lv_goto (tgt := 38) hx hb dX10_explain_26 (by decide) ?_
        rw [hQ]
        exact W.iret (v := r_10) hx hb hr (fun t ht hW => ⟨r_10, rfl, by have zr : r_10.toInt = (-1 : Int) := w_10; have z0 := i_l0; have z1 := i_l1; omega, ht⟩) (fun q h => by cases h) dX10_explain_38
set_option maxHeartbeats 4000000 in
set_option maxRecDepth 100000 in
theorem f_X10_assigned (l : Launch) (D : va_G) (cy : Nat → ClassId) (ad : Nat → Nat) (hI : gInj ad) (sz : Nat) (iv : gIv) (ar : gAr) (a : Int32) (hF_iv : gFr iv ar) : Met l yX10_assigned wsX10_assigned ({ frames := 1, cells := 0, slots := 0, locals := 21 } : Room) (va_Pc [.ref (ad 0), .int a] (gPre D cy ad sz iv ar)) (vp_Si (fun r => r.toInt = -1)) 0 0 (fun _ => False) := by
  refine Met.ofW (cc := cX10_assigned) (maxL := 3) (ret := (some .int)) (by decide) rfl ?_
  intro p e s m args below meth c s₁ B hml hv
  obtain ⟨rfl, rfl, hP, hK, hSt, hNw⟩ := hv
  have hx := B.exec
  have hb := B.bytes
  have hr := B.returns
  have hts := atoms_spec (ws := wsX10_assigned) B.pre
  have hown : s.vm.findClass RX10 = some m.cls := findClass_of_methodNamed B.named
  have hlocks := B.notSynchronized
  have hS : va_S (gA ad s.heap.size) s.heap s.heap [] := va_S.rf
  have inX10 : ∀ w ∈ u_ws RX10 TX10 6, w ∈ wsX10_assigned := by decide +kernel
  have inX8 : ∀ w ∈ u_ws RX8 TX8 5, w ∈ wsX10_assigned := by decide +kernel
  have lk0 := hts (.fieldLink RX10 12 "FormationPlanner" "scene" "LFormationPlanner$Scene;") (by decide +kernel)
  have lk1 := hts (.fieldLink RX10 77 "FormationPlanner$Scene" "drones" "LFormationPlanner$Places;") (by decide +kernel)
  have hl := lv_entry ([.ref (ad 0), .int a]) (n := 3) (Nat.le_of_ble_eq_true rfl)
  rw [lg_entry_eq]
  generalize (lg_sl ([.ref (ad 0), .int a]) ++ List.replicate (3 - (lg_sl ([.ref (ad 0), .int a])).length) Slot.unset).toArray = ls at hl ⊢
  have hl : lv_has ls 3 [(0, .ref (ad 0)), (1, .int a)] := hl
  obtain ⟨Q, hQ⟩ : ∃ Q, Q = MQ below (vp_Si (fun r => r.toInt = -1)) (([.ref (ad 0), .int a] : List Value).toArray) s 0 0 (fun _ => False) := ⟨_, rfl⟩
  rw [← hQ]
  refine lv_aload_n hx hb dX10_assigned_0 rfl (lv_at hl 0 rfl) ?_
  refine va_get (D := D) (ci := 10) (v := .ref (ad 1)) (C := RX10) (T := TX10) (N := 6) hx hb hts inX10 hown hK hP 0 (g_at10 (Nat.le_of_ble_eq_true rfl) rfl) rfl 0 (by decide) lk0 (fun _ h9 => h9) rfl dX10_assigned_1 ?_
  refine va_get (D := D) (ci := 8) (v := .ref (ad 4)) (C := RX8) (T := TX8) (N := 5) hx hb hts inX8 hown hK hP 1 (g_at8 (Nat.le_of_ble_eq_true rfl) rfl) rfl 2 (by decide) lk1 (fun _ h9 => h9) rfl dX10_assigned_4 ?_
  refine lv_iload_n hx hb dX10_assigned_7 rfl (lv_at hl 1 rfl) ?_
  refine g_callSi (va_runV (As := [.int a]) (rest := []) ⟨hx, hb, hml, hown, hts⟩ (c_X5_has l D cy ad hI _ iv ar 4 (Nat.le_of_ble_eq_true rfl) rfl a) (cwV 1 hts gX10_assigned_X5_has rfl rfl rfl (by decide +kernel) ⟨Nat.le_of_ble_eq_true rfl, Nat.le_of_ble_eq_true rfl⟩) (g_preV hP hK hSt hNw hS (g_at5 (Nat.le_of_ble_eq_true rfl) rfl) rfl) rfl rfl hl.1 rfl (lv_room (Nat.le_of_ble_eq_true rfl)) dX10_assigned_8 ⟨Nat.zero_le _, Nat.zero_le _⟩) (fun r_1 w_1 => ?_)
  try dsimp only at w_1
  have z_1 : r_1.toInt = 0 := by have hq := fr0 hF_iv 4 1 (by decide); omega
  refine lv_if_ne (tgt := 16) hx hb dX10_assigned_11 (by decide) (fun c_2 => ?_) (fun c_2 => ?_)
  · skip
    have q_2 : (0 : Int) ≠ (0 : Int) := i_ne2 z_1 (show (0 : Int32).toInt = (0 : Int) from rfl) c_2
    exfalso; omega
  · skip
    have q_2 : (0 : Int) = (0 : Int) := i_eq2 z_1 (show (0 : Int32).toInt = (0 : Int) from rfl) c_2
    refine lv_iconst (v := (-1)) hx hb dX10_assigned_14 (by decide) ?_
    rw [hQ]
    exact W.iret (v := (-1)) hx hb hr (fun t ht hW => ⟨(-1), rfl, by have zr : ((-1) : Int32).toInt = (-1 : Int) := (show ((-1) : Int32).toInt = (-1 : Int) from rfl); have z0 := i_l0; have z1 := i_l1; omega, ht⟩) (fun q h => by cases h) dX10_assigned_15
set_option maxHeartbeats 4000000 in
set_option maxRecDepth 100000 in
theorem f_X10_stuck (l : Launch) (D : va_G) (cy : Nat → ClassId) (ad : Nat → Nat) (hI : gInj ad) (sz : Nat) (iv : gIv) (ar : gAr)  (hF_iv : gFr iv ar) : Met l yX10_stuck wsX10_stuck ({ frames := 0, cells := 0, slots := 0, locals := 0 } : Room) (va_Pc [.ref (ad 0)] (gPre D cy ad sz iv ar)) (vp_Si (fun r => r.toInt = -1)) 0 0 (fun _ => False) := by
  refine Met.ofW (cc := cX10_stuck) (maxL := 1) (ret := (some .int)) (by decide) rfl ?_
  intro p e s m args below meth c s₁ B hml hv
  obtain ⟨rfl, rfl, hP, hK, hSt, hNw⟩ := hv
  have hx := B.exec
  have hb := B.bytes
  have hr := B.returns
  have hts := atoms_spec (ws := wsX10_stuck) B.pre
  have hown : s.vm.findClass RX10 = some m.cls := findClass_of_methodNamed B.named
  have hlocks := B.notSynchronized
  have hS : va_S (gA ad s.heap.size) s.heap s.heap [] := va_S.rf
  have inX10 : ∀ w ∈ u_ws RX10 TX10 6, w ∈ wsX10_stuck := by decide +kernel
  have inX6 : ∀ w ∈ u_ws RX6 TX6 11, w ∈ wsX10_stuck := by decide +kernel
  have lk0 := hts (.fieldLink RX10 56 "FormationPlanner" "plan" "LFormationPlanner$Plan;") (by decide +kernel)
  have lk1 := hts (.fieldLink RX10 165 "FormationPlanner$Plan" "stuckDrone" "I") (by decide +kernel)
  have hl := lv_entry ([.ref (ad 0)]) (n := 1) (Nat.le_of_ble_eq_true rfl)
  rw [lg_entry_eq]
  generalize (lg_sl ([.ref (ad 0)]) ++ List.replicate (1 - (lg_sl ([.ref (ad 0)])).length) Slot.unset).toArray = ls at hl ⊢
  have hl : lv_has ls 1 [(0, .ref (ad 0))] := hl
  obtain ⟨Q, hQ⟩ : ∃ Q, Q = MQ below (vp_Si (fun r => r.toInt = -1)) (([.ref (ad 0)] : List Value).toArray) s 0 0 (fun _ => False) := ⟨_, rfl⟩
  rw [← hQ]
  refine lv_aload_n hx hb dX10_stuck_0 rfl (lv_at hl 0 rfl) ?_
  refine va_get (D := D) (ci := 10) (v := .ref (ad 90)) (C := RX10) (T := TX10) (N := 6) hx hb hts inX10 hown hK hP 0 (g_at10 (Nat.le_of_ble_eq_true rfl) rfl) rfl 5 (by decide) lk0 (fun _ h9 => h9) rfl dX10_stuck_1 ?_
  refine va_get (D := D) (ci := 6) (v := .int (iv 90 8)) (C := RX6) (T := TX6) (N := 11) hx hb hts inX6 hown hK hP 90 (g_at6 (Nat.le_of_ble_eq_true rfl) rfl) rfl 8 (by decide) lk1 (fun _ h9 => h9) rfl dX10_stuck_4 ?_
  rw [hQ]
  exact W.iret (v := (iv 90 8)) hx hb hr (fun t ht hW => ⟨(iv 90 8), rfl, by have zr : (iv 90 8).toInt = (-1 : Int) := (frm hF_iv); have z0 := i_l0; have z1 := i_l1; omega, ht⟩) (fun q h => by cases h) dX10_stuck_7
set_option maxHeartbeats 4000000 in
set_option maxRecDepth 100000 in
theorem f_X10_conflictsWithout (l : Launch) (D : va_G) (cy : Nat → ClassId) (ad : Nat → Nat) (hI : gInj ad) (sz : Nat) (iv : gIv) (ar : gAr)  (hF_iv : gFr iv ar) : Met l yX10_conflictsWithout wsX10_conflictsWithout ({ frames := 0, cells := 0, slots := 0, locals := 0 } : Room) (va_Pc [.ref (ad 0)] (gPre D cy ad sz iv ar)) (vp_Si (fun r => r.toInt = -7)) 0 0 (fun _ => False) := by
  refine Met.ofW (cc := cX10_conflictsWithout) (maxL := 1) (ret := (some .int)) (by decide) rfl ?_
  intro p e s m args below meth c s₁ B hml hv
  obtain ⟨rfl, rfl, hP, hK, hSt, hNw⟩ := hv
  have hx := B.exec
  have hb := B.bytes
  have hr := B.returns
  have hts := atoms_spec (ws := wsX10_conflictsWithout) B.pre
  have hown : s.vm.findClass RX10 = some m.cls := findClass_of_methodNamed B.named
  have hlocks := B.notSynchronized
  have hS : va_S (gA ad s.heap.size) s.heap s.heap [] := va_S.rf
  have inX10 : ∀ w ∈ u_ws RX10 TX10 6, w ∈ wsX10_conflictsWithout := by decide +kernel
  have inX6 : ∀ w ∈ u_ws RX6 TX6 11, w ∈ wsX10_conflictsWithout := by decide +kernel
  have lk0 := hts (.fieldLink RX10 56 "FormationPlanner" "plan" "LFormationPlanner$Plan;") (by decide +kernel)
  have lk1 := hts (.fieldLink RX10 195 "FormationPlanner$Plan" "stands" "Z") (by decide +kernel)
  have hl := lv_entry ([.ref (ad 0)]) (n := 1) (Nat.le_of_ble_eq_true rfl)
  rw [lg_entry_eq]
  generalize (lg_sl ([.ref (ad 0)]) ++ List.replicate (1 - (lg_sl ([.ref (ad 0)])).length) Slot.unset).toArray = ls at hl ⊢
  have hl : lv_has ls 1 [(0, .ref (ad 0))] := hl
  obtain ⟨Q, hQ⟩ : ∃ Q, Q = MQ below (vp_Si (fun r => r.toInt = -7)) (([.ref (ad 0)] : List Value).toArray) s 0 0 (fun _ => False) := ⟨_, rfl⟩
  rw [← hQ]
  refine lv_aload_n hx hb dX10_conflictsWithout_0 rfl (lv_at hl 0 rfl) ?_
  refine va_get (D := D) (ci := 10) (v := .ref (ad 90)) (C := RX10) (T := TX10) (N := 6) hx hb hts inX10 hown hK hP 0 (g_at10 (Nat.le_of_ble_eq_true rfl) rfl) rfl 5 (by decide) lk0 (fun _ h9 => h9) rfl dX10_conflictsWithout_1 ?_
  refine va_get (D := D) (ci := 6) (v := .int (iv 90 7)) (C := RX6) (T := TX6) (N := 11) hx hb hts inX6 hown hK hP 90 (g_at6 (Nat.le_of_ble_eq_true rfl) rfl) rfl 7 (by decide) lk1 (fun _ h9 => h9) rfl dX10_conflictsWithout_4 ?_
  refine lv_if_eq (tgt := 20) hx hb dX10_conflictsWithout_7 (by decide) (fun c_1 => ?_) (fun c_1 => ?_)
  · skip
    have q_1 : (0 : Int) = (0 : Int) := i_eq2 (fr0 hF_iv 90 7 (by decide)) (show (0 : Int32).toInt = (0 : Int) from rfl) c_1
    refine lv_bipush (v := (-7)) hx hb dX10_conflictsWithout_20 (by decide) ?_
    rw [hQ]
    exact W.iret (v := (-7)) hx hb hr (fun t ht hW => ⟨(-7), rfl, by have zr : ((-7) : Int32).toInt = (-7 : Int) := (show ((-7) : Int32).toInt = (-7 : Int) from rfl); have z0 := i_l0; have z1 := i_l1; omega, ht⟩) (fun q h => by cases h) dX10_conflictsWithout_22
  · skip
    have q_1 : (0 : Int) ≠ (0 : Int) := i_ne2 (fr0 hF_iv 90 7 (by decide)) (show (0 : Int32).toInt = (0 : Int) from rfl) c_1
    exfalso; omega
set_option maxHeartbeats 4000000 in
set_option maxRecDepth 100000 in
theorem f_X10_fly (l : Launch) (D : va_G) (cy : Nat → ClassId) (ad : Nat → Nat) (hI : gInj ad) (sz : Nat) (iv : gIv) (ar : gAr) (a : Int32) (hF_iv : gFr iv ar) : Met l yX10_fly wsX10_fly ({ frames := 0, cells := 0, slots := 0, locals := 0 } : Room) (va_Pc [.ref (ad 0), .int a] (gPre D cy ad sz iv ar)) (vp_Si (fun r => (1 ≤ a.toInt ∧ a.toInt ≤ 60) ∧ r.toInt = -7 ∨ ¬ (1 ≤ a.toInt ∧ a.toInt ≤ 60) ∧ r.toInt = -2)) 0 0 (fun _ => False) := by
  refine Met.ofW (cc := cX10_fly) (maxL := 2) (ret := (some .int)) (by decide) rfl ?_
  intro p e s m args below meth c s₁ B hml hv
  obtain ⟨rfl, rfl, hP, hK, hSt, hNw⟩ := hv
  have hx := B.exec
  have hb := B.bytes
  have hr := B.returns
  have hts := atoms_spec (ws := wsX10_fly) B.pre
  have hown : s.vm.findClass RX10 = some m.cls := findClass_of_methodNamed B.named
  have hlocks := B.notSynchronized
  have hS : va_S (gA ad s.heap.size) s.heap s.heap [] := va_S.rf
  have inX10 : ∀ w ∈ u_ws RX10 TX10 6, w ∈ wsX10_fly := by decide +kernel
  have inX6 : ∀ w ∈ u_ws RX6 TX6 11, w ∈ wsX10_fly := by decide +kernel
  have lk0 := hts (.fieldLink RX10 56 "FormationPlanner" "plan" "LFormationPlanner$Plan;") (by decide +kernel)
  have lk1 := hts (.fieldLink RX10 195 "FormationPlanner$Plan" "stands" "Z") (by decide +kernel)
  have hl := lv_entry ([.ref (ad 0), .int a]) (n := 2) (Nat.le_of_ble_eq_true rfl)
  rw [lg_entry_eq]
  generalize (lg_sl ([.ref (ad 0), .int a]) ++ List.replicate (2 - (lg_sl ([.ref (ad 0), .int a])).length) Slot.unset).toArray = ls at hl ⊢
  have hl : lv_has ls 2 [(0, .ref (ad 0)), (1, .int a)] := hl
  obtain ⟨Q, hQ⟩ : ∃ Q, Q = MQ below (vp_Si (fun r => (1 ≤ a.toInt ∧ a.toInt ≤ 60) ∧ r.toInt = -7 ∨ ¬ (1 ≤ a.toInt ∧ a.toInt ≤ 60) ∧ r.toInt = -2)) (([.ref (ad 0), .int a] : List Value).toArray) s 0 0 (fun _ => False) := ⟨_, rfl⟩
  rw [← hQ]
  refine lv_iload_n hx hb dX10_fly_0 rfl (lv_at hl 1 rfl) ?_
  refine lv_iconst (v := 1) hx hb dX10_fly_1 (by decide) ?_
  refine lv_icmp_lt (tgt := 11) hx hb dX10_fly_2 (by decide) (fun c_1 => ?_) (fun c_1 => ?_)
  · skip
    have q_1 : a.toInt < (1 : Int) := i_lt2 (rfl : a.toInt = a.toInt) (show (1 : Int32).toInt = (1 : Int) from rfl) c_1
    refine lv_bipush (v := (-2)) hx hb dX10_fly_11 (by decide) ?_
    rw [hQ]
    exact W.iret (v := (-2)) hx hb hr (fun t ht hW => ⟨(-2), rfl, by have zr : ((-2) : Int32).toInt = (-2 : Int) := (show ((-2) : Int32).toInt = (-2 : Int) from rfl); have z0 := i_l0; have z1 := i_l1; omega, ht⟩) (fun q h => by cases h) dX10_fly_13
  · skip
    have q_1 : (1 : Int) ≤ a.toInt := i_nlt2 (rfl : a.toInt = a.toInt) (show (1 : Int32).toInt = (1 : Int) from rfl) c_1
    refine lv_iload_n hx hb dX10_fly_5 rfl (lv_at hl 1 rfl) ?_
    refine lv_bipush (v := 60) hx hb dX10_fly_6 (by decide) ?_
    refine lv_icmp_le (tgt := 14) hx hb dX10_fly_8 (by decide) (fun c_2 => ?_) (fun c_2 => ?_)
    · skip
      have q_2 : a.toInt ≤ (60 : Int) := i_le2 (rfl : a.toInt = a.toInt) (show (60 : Int32).toInt = (60 : Int) from rfl) c_2
      refine lv_aload_n hx hb dX10_fly_14 rfl (lv_at hl 0 rfl) ?_
      refine va_get (D := D) (ci := 10) (v := .ref (ad 90)) (C := RX10) (T := TX10) (N := 6) hx hb hts inX10 hown hK hP 0 (g_at10 (Nat.le_of_ble_eq_true rfl) rfl) rfl 5 (by decide) lk0 (fun _ h9 => h9) rfl dX10_fly_15 ?_
      refine va_get (D := D) (ci := 6) (v := .int (iv 90 7)) (C := RX6) (T := TX6) (N := 11) hx hb hts inX6 hown hK hP 90 (g_at6 (Nat.le_of_ble_eq_true rfl) rfl) rfl 7 (by decide) lk1 (fun _ h9 => h9) rfl dX10_fly_18 ?_
      refine lv_if_ne (tgt := 27) hx hb dX10_fly_21 (by decide) (fun c_3 => ?_) (fun c_3 => ?_)
      · skip
        have q_3 : (0 : Int) ≠ (0 : Int) := i_ne2 (fr0 hF_iv 90 7 (by decide)) (show (0 : Int32).toInt = (0 : Int) from rfl) c_3
        exfalso; omega
      · skip
        have q_3 : (0 : Int) = (0 : Int) := i_eq2 (fr0 hF_iv 90 7 (by decide)) (show (0 : Int32).toInt = (0 : Int) from rfl) c_3
        refine lv_bipush (v := (-7)) hx hb dX10_fly_24 (by decide) ?_
        rw [hQ]
        exact W.iret (v := (-7)) hx hb hr (fun t ht hW => ⟨(-7), rfl, by have zr : ((-7) : Int32).toInt = (-7 : Int) := (show ((-7) : Int32).toInt = (-7 : Int) from rfl); have z0 := i_l0; have z1 := i_l1; omega, ht⟩) (fun q h => by cases h) dX10_fly_26
    · skip
      have q_2 : (60 : Int) < a.toInt := i_nle2 (rfl : a.toInt = a.toInt) (show (60 : Int32).toInt = (60 : Int) from rfl) c_2
      refine lv_bipush (v := (-2)) hx hb dX10_fly_11 (by decide) ?_
      rw [hQ]
      exact W.iret (v := (-2)) hx hb hr (fun t ht hW => ⟨(-2), rfl, by have zr : ((-2) : Int32).toInt = (-2 : Int) := (show ((-2) : Int32).toInt = (-2 : Int) from rfl); have z0 := i_l0; have z1 := i_l1; omega, ht⟩) (fun q h => by cases h) dX10_fly_13
set_option maxHeartbeats 4000000 in
set_option maxRecDepth 100000 in
theorem f_X10_look (l : Launch) (D : va_G) (cy : Nat → ClassId) (ad : Nat → Nat) (hI : gInj ad) (sz : Nat) (iv : gIv) (ar : gAr) (a : Int32) (hF_iv : gFr iv ar) : Met l yX10_look wsX10_look ({ frames := 1, cells := 0, slots := 0, locals := 22 } : Room) (va_Pc [.ref (ad 0), .int a] (gPre D cy ad sz iv ar)) (vp_Si (fun r => (0 ≤ a.toInt ∧ a.toInt < 108) ∧ r.toInt = 0 ∨ ¬ (0 ≤ a.toInt ∧ a.toInt < 108) ∧ r.toInt = -2)) 0 0 (fun _ => False) := by
  refine Met.ofW (cc := cX10_look) (maxL := 2) (ret := (some .int)) (by decide) rfl ?_
  intro p e s m args below meth c s₁ B hml hv
  obtain ⟨rfl, rfl, hP, hK, hSt, hNw⟩ := hv
  have hx := B.exec
  have hb := B.bytes
  have hr := B.returns
  have hts := atoms_spec (ws := wsX10_look) B.pre
  have hown : s.vm.findClass RX10 = some m.cls := findClass_of_methodNamed B.named
  have hlocks := B.notSynchronized
  have hS : va_S (gA ad s.heap.size) s.heap s.heap [] := va_S.rf
  have inX10 : ∀ w ∈ u_ws RX10 TX10 6, w ∈ wsX10_look := by decide +kernel
  have inX8 : ∀ w ∈ u_ws RX8 TX8 5, w ∈ wsX10_look := by decide +kernel
  have lk0 := hts (.fieldLink RX10 12 "FormationPlanner" "scene" "LFormationPlanner$Scene;") (by decide +kernel)
  have lk1 := hts (.fieldLink RX10 90 "FormationPlanner$Scene" "obstacles" "[I") (by decide +kernel)
  have lk2 := hts (.fieldLink RX10 77 "FormationPlanner$Scene" "drones" "LFormationPlanner$Places;") (by decide +kernel)
  have lk3 := hts (.fieldLink RX10 87 "FormationPlanner$Scene" "slots" "LFormationPlanner$Places;") (by decide +kernel)
  have hl := lv_entry ([.ref (ad 0), .int a]) (n := 2) (Nat.le_of_ble_eq_true rfl)
  rw [lg_entry_eq]
  generalize (lg_sl ([.ref (ad 0), .int a]) ++ List.replicate (2 - (lg_sl ([.ref (ad 0), .int a])).length) Slot.unset).toArray = ls at hl ⊢
  have hl : lv_has ls 2 [(0, .ref (ad 0)), (1, .int a)] := hl
  obtain ⟨Q, hQ⟩ : ∃ Q, Q = MQ below (vp_Si (fun r => (0 ≤ a.toInt ∧ a.toInt < 108) ∧ r.toInt = 0 ∨ ¬ (0 ≤ a.toInt ∧ a.toInt < 108) ∧ r.toInt = -2)) (([.ref (ad 0), .int a] : List Value).toArray) s 0 0 (fun _ => False) := ⟨_, rfl⟩
  rw [← hQ]
  refine lv_iload_n hx hb dX10_look_0 rfl (lv_at hl 1 rfl) ?_
  refine g_callSi (va_runS (As := [.int a]) (rest := []) ⟨hx, hb, hml, hown, hts⟩ (c_X10_isCell l a) (va_cwS 1 hts gX10_look_X10_isCell rfl rfl rfl (by decide +kernel) ⟨Nat.le_of_ble_eq_true rfl, Nat.le_of_ble_eq_true rfl⟩) (g_preT) rfl rfl hl.1 rfl (lv_room (Nat.le_of_ble_eq_true rfl)) dX10_look_1 ⟨Nat.zero_le _, Nat.zero_le _⟩) (fun r_1 w_1 => ?_)
  try dsimp only at w_1
  refine lv_if_ne (tgt := 10) hx hb dX10_look_4 (by decide) (fun c_2 => ?_) (fun c_2 => ?_)
  · skip
    have q_2 : r_1.toInt ≠ (0 : Int) := i_ne2 (rfl : r_1.toInt = r_1.toInt) (show (0 : Int32).toInt = (0 : Int) from rfl) c_2
    refine lv_aload_n hx hb dX10_look_10 rfl (lv_at hl 0 rfl) ?_
    refine va_get (D := D) (ci := 10) (v := .ref (ad 1)) (C := RX10) (T := TX10) (N := 6) hx hb hts inX10 hown hK hP 0 (g_at10 (Nat.le_of_ble_eq_true rfl) rfl) rfl 0 (by decide) lk0 (fun _ h9 => h9) rfl dX10_look_11 ?_
    refine va_get (D := D) (ci := 8) (v := .ref (ad 3)) (C := RX8) (T := TX8) (N := 5) hx hb hts inX8 hown hK hP 1 (g_at8 (Nat.le_of_ble_eq_true rfl) rfl) rfl 1 (by decide) lk1 (fun _ h9 => h9) rfl dX10_look_14 ?_
    refine lv_iload_n hx hb dX10_look_17 rfl (lv_at hl 1 rfl) ?_
    refine va_iald hx hb hK hP 3 0 (g_at12 (Nat.le_of_ble_eq_true rfl) rfl) rfl (g_in (N := 108) (rfl : a.toInt = a.toInt) rfl (by omega) (by omega)) dX10_look_18 ?_
    refine lv_topi (fun v_3 ev_3 => ?_)
    refine lv_if_eq (tgt := 24) hx hb dX10_look_19 (by decide) (fun c_4 => ?_) (fun c_4 => ?_)
    · skip
      have q_4 : (0 : Int) = (0 : Int) := i_eq2 (show v_3.toInt = (0 : Int) from by rw [ev_3]; exact fra hF_iv 3 _ (by decide)) (show (0 : Int32).toInt = (0 : Int) from rfl) c_4
      refine lv_bipush (v := 10) hx hb dX10_look_24 (by decide) ?_
      refine lv_aload_n hx hb dX10_look_26 rfl (lv_at hl 0 rfl) ?_
      refine va_get (D := D) (ci := 10) (v := .ref (ad 1)) (C := RX10) (T := TX10) (N := 6) hx hb hts inX10 hown hK hP 0 (g_at10 (Nat.le_of_ble_eq_true rfl) rfl) rfl 0 (by decide) lk0 (fun _ h9 => h9) rfl dX10_look_27 ?_
      refine va_get (D := D) (ci := 8) (v := .ref (ad 4)) (C := RX8) (T := TX8) (N := 5) hx hb hts inX8 hown hK hP 1 (g_at8 (Nat.le_of_ble_eq_true rfl) rfl) rfl 2 (by decide) lk2 (fun _ h9 => h9) rfl dX10_look_30 ?_
      refine lv_iload_n hx hb dX10_look_33 rfl (lv_at hl 1 rfl) ?_
      refine g_callSi (va_runV (As := [.int a]) (rest := [.int 10]) ⟨hx, hb, hml, hown, hts⟩ (c_X5_find l D cy ad hI _ iv ar 4 (Nat.le_of_ble_eq_true rfl) rfl a) (cwV 1 hts gX10_look_X5_find rfl rfl rfl (by decide +kernel) ⟨Nat.le_of_ble_eq_true rfl, Nat.le_of_ble_eq_true rfl⟩) (g_preV hP hK hSt hNw hS (g_at5 (Nat.le_of_ble_eq_true rfl) rfl) rfl) rfl rfl hl.1 rfl (lv_room (Nat.le_of_ble_eq_true rfl)) dX10_look_34 ⟨Nat.zero_le _, Nat.zero_le _⟩) (fun r_5 w_5 => ?_)
      try dsimp only at w_5
      have z_5 : r_5.toInt = (-1) := by
        have hq := fr0 hF_iv 4 1 (by decide)
        rcases w_5 with q | q
        · exact q.1
        · exfalso; omega
      refine lv_iconst (v := 1) hx hb dX10_look_37 (by decide) ?_
      refine lv_iadd hx hb dX10_look_38 ?_
      refine lv_topi (fun v_6 ev_6 => ?_)
      have tv_6 : v_6.toInt = (-1 : Int) + (1 : Int) := i_add z_5 (show (1 : Int32).toInt = (1 : Int) from rfl) (by omega) (by omega) ev_6
      refine lv_imul hx hb dX10_look_39 ?_
      refine lv_topi (fun v_7 ev_7 => ?_)
      have tv_7 : v_7.toInt = (10 : Int) * v_6.toInt := i_mul (show (10 : Int32).toInt = (10 : Int) from rfl) (rfl : v_6.toInt = v_6.toInt) (by omega) (by omega) ev_7
      refine lv_bipush (v := 100) hx hb dX10_look_40 (by decide) ?_
      refine lv_aload_n hx hb dX10_look_42 rfl (lv_at hl 0 rfl) ?_
      refine va_get (D := D) (ci := 10) (v := .ref (ad 1)) (C := RX10) (T := TX10) (N := 6) hx hb hts inX10 hown hK hP 0 (g_at10 (Nat.le_of_ble_eq_true rfl) rfl) rfl 0 (by decide) lk0 (fun _ h9 => h9) rfl dX10_look_43 ?_
      refine va_get (D := D) (ci := 8) (v := .ref (ad 6)) (C := RX8) (T := TX8) (N := 5) hx hb hts inX8 hown hK hP 1 (g_at8 (Nat.le_of_ble_eq_true rfl) rfl) rfl 3 (by decide) lk3 (fun _ h9 => h9) rfl dX10_look_46 ?_
      refine lv_iload_n hx hb dX10_look_49 rfl (lv_at hl 1 rfl) ?_
      refine g_callSi (va_runV (As := [.int a]) (rest := [.int 100, .int v_7]) ⟨hx, hb, hml, hown, hts⟩ (c_X5_find l D cy ad hI _ iv ar 6 (Nat.le_of_ble_eq_true rfl) rfl a) (cwV 1 hts gX10_look_X5_find rfl rfl rfl (by decide +kernel) ⟨Nat.le_of_ble_eq_true rfl, Nat.le_of_ble_eq_true rfl⟩) (g_preV hP hK hSt hNw hS (g_at5 (Nat.le_of_ble_eq_true rfl) rfl) rfl) rfl rfl hl.1 rfl (lv_room (Nat.le_of_ble_eq_true rfl)) dX10_look_50 ⟨Nat.zero_le _, Nat.zero_le _⟩) (fun r_8 w_8 => ?_)
      try dsimp only at w_8
      have z_8 : r_8.toInt = (-1) := by
        have hq := fr0 hF_iv 6 1 (by decide)
        rcases w_8 with q | q
        · exact q.1
        · exfalso; omega
      refine lv_iconst (v := 1) hx hb dX10_look_53 (by decide) ?_
      refine lv_iadd hx hb dX10_look_54 ?_
      refine lv_topi (fun v_9 ev_9 => ?_)
      have tv_9 : v_9.toInt = (-1 : Int) + (1 : Int) := i_add z_8 (show (1 : Int32).toInt = (1 : Int) from rfl) (by omega) (by omega) ev_9
      refine lv_imul hx hb dX10_look_55 ?_
      refine lv_topi (fun v_10 ev_10 => ?_)
      have tv_10 : v_10.toInt = (100 : Int) * v_9.toInt := i_mul (show (100 : Int32).toInt = (100 : Int) from rfl) (rfl : v_9.toInt = v_9.toInt) (by omega) (by omega) ev_10
      refine lv_iadd hx hb dX10_look_56 ?_
      refine lv_topi (fun v_11 ev_11 => ?_)
      have tv_11 : v_11.toInt = v_7.toInt + v_10.toInt := i_add (rfl : v_7.toInt = v_7.toInt) (rfl : v_10.toInt = v_10.toInt) (by omega) (by omega) ev_11
      rw [hQ]
      exact W.iret (v := v_11) hx hb hr (fun t ht hW => ⟨v_11, rfl, by have zr : v_11.toInt = v_11.toInt := (rfl : v_11.toInt = v_11.toInt); have z0 := i_l0; have z1 := i_l1; omega, ht⟩) (fun q h => by cases h) dX10_look_57
    · skip
      have q_4 : (0 : Int) ≠ (0 : Int) := i_ne2 (show v_3.toInt = (0 : Int) from by rw [ev_3]; exact fra hF_iv 3 _ (by decide)) (show (0 : Int32).toInt = (0 : Int) from rfl) c_4
      exfalso; omega
  · skip
    have q_2 : r_1.toInt = (0 : Int) := i_eq2 (rfl : r_1.toInt = r_1.toInt) (show (0 : Int32).toInt = (0 : Int) from rfl) c_2
    refine lv_bipush (v := (-2)) hx hb dX10_look_7 (by decide) ?_
    rw [hQ]
    exact W.iret (v := (-2)) hx hb hr (fun t ht hW => ⟨(-2), rfl, by have zr : ((-2) : Int32).toInt = (-2 : Int) := (show ((-2) : Int32).toInt = (-2 : Int) from rfl); have z0 := i_l0; have z1 := i_l1; omega, ht⟩) (fun q h => by cases h) dX10_look_9
set_option maxHeartbeats 4000000 in
set_option maxRecDepth 100000 in
theorem f_X10_cellOf (l : Launch) (D : va_G) (cy : Nat → ClassId) (ad : Nat → Nat) (hI : gInj ad) (sz : Nat) (iv : gIv) (ar : gAr) (a : Int32) (b : Int32) (hF_iv : gFr iv ar) : Met l yX10_cellOf wsX10_cellOf ({ frames := 2, cells := 0, slots := 0, locals := 42 } : Room) (va_Pc [.ref (ad 0), .int a, .int b] (gPre D cy ad sz iv ar)) (vp_Si (fun r => (0 ≤ a.toInt ∧ a.toInt ≤ 1) ∧ r.toInt = -1 ∨ ¬ (0 ≤ a.toInt ∧ a.toInt ≤ 1) ∧ r.toInt = -2)) 0 0 (fun _ => False) := by
  refine Met.ofW (cc := cX10_cellOf) (maxL := 3) (ret := (some .int)) (by decide) rfl ?_
  intro p e s m args below meth c s₁ B hml hv
  obtain ⟨rfl, rfl, hP, hK, hSt, hNw⟩ := hv
  have hx := B.exec
  have hb := B.bytes
  have hr := B.returns
  have hts := atoms_spec (ws := wsX10_cellOf) B.pre
  have hown : s.vm.findClass RX10 = some m.cls := findClass_of_methodNamed B.named
  have hlocks := B.notSynchronized
  have hS : va_S (gA ad s.heap.size) s.heap s.heap [] := va_S.rf
  have inX10 : ∀ w ∈ u_ws RX10 TX10 6, w ∈ wsX10_cellOf := by decide +kernel
  have inX8 : ∀ w ∈ u_ws RX8 TX8 5, w ∈ wsX10_cellOf := by decide +kernel
  have lk0 := hts (.fieldLink RX10 12 "FormationPlanner" "scene" "LFormationPlanner$Scene;") (by decide +kernel)
  have lk1 := hts (.fieldLink RX10 87 "FormationPlanner$Scene" "slots" "LFormationPlanner$Places;") (by decide +kernel)
  have lk2 := hts (.fieldLink RX10 77 "FormationPlanner$Scene" "drones" "LFormationPlanner$Places;") (by decide +kernel)
  have hl := lv_entry ([.ref (ad 0), .int a, .int b]) (n := 3) (Nat.le_of_ble_eq_true rfl)
  rw [lg_entry_eq]
  generalize (lg_sl ([.ref (ad 0), .int a, .int b]) ++ List.replicate (3 - (lg_sl ([.ref (ad 0), .int a, .int b])).length) Slot.unset).toArray = ls at hl ⊢
  have hl : lv_has ls 3 [(0, .ref (ad 0)), (1, .int a), (2, .int b)] := hl
  obtain ⟨Q, hQ⟩ : ∃ Q, Q = MQ below (vp_Si (fun r => (0 ≤ a.toInt ∧ a.toInt ≤ 1) ∧ r.toInt = -1 ∨ ¬ (0 ≤ a.toInt ∧ a.toInt ≤ 1) ∧ r.toInt = -2)) (([.ref (ad 0), .int a, .int b] : List Value).toArray) s 0 0 (fun _ => False) := ⟨_, rfl⟩
  rw [← hQ]
  refine lv_iload_n hx hb dX10_cellOf_0 rfl (lv_at hl 1 rfl) ?_
  refine lv_if_lt (tgt := 9) hx hb dX10_cellOf_1 (by decide) (fun c_1 => ?_) (fun c_1 => ?_)
  · skip
    have q_1 : a.toInt < (0 : Int) := i_lt2 (rfl : a.toInt = a.toInt) (show (0 : Int32).toInt = (0 : Int) from rfl) c_1
    refine lv_bipush (v := (-2)) hx hb dX10_cellOf_9 (by decide) ?_
    rw [hQ]
    exact W.iret (v := (-2)) hx hb hr (fun t ht hW => ⟨(-2), rfl, by have zr : ((-2) : Int32).toInt = (-2 : Int) := (show ((-2) : Int32).toInt = (-2 : Int) from rfl); have z0 := i_l0; have z1 := i_l1; omega, ht⟩) (fun q h => by cases h) dX10_cellOf_11
  · skip
    have q_1 : (0 : Int) ≤ a.toInt := i_nlt2 (rfl : a.toInt = a.toInt) (show (0 : Int32).toInt = (0 : Int) from rfl) c_1
    refine lv_iload_n hx hb dX10_cellOf_4 rfl (lv_at hl 1 rfl) ?_
    refine lv_iconst (v := 1) hx hb dX10_cellOf_5 (by decide) ?_
    refine lv_icmp_le (tgt := 12) hx hb dX10_cellOf_6 (by decide) (fun c_2 => ?_) (fun c_2 => ?_)
    · skip
      have q_2 : a.toInt ≤ (1 : Int) := i_le2 (rfl : a.toInt = a.toInt) (show (1 : Int32).toInt = (1 : Int) from rfl) c_2
      refine lv_iload_n hx hb dX10_cellOf_12 rfl (lv_at hl 1 rfl) ?_
      refine lv_if_ne (tgt := 30) hx hb dX10_cellOf_13 (by decide) (fun c_3 => ?_) (fun c_3 => ?_)
      · skip
        have q_3 : a.toInt ≠ (0 : Int) := i_ne2 (rfl : a.toInt = a.toInt) (show (0 : Int32).toInt = (0 : Int) from rfl) c_3
        refine lv_aload_n hx hb dX10_cellOf_30 rfl (lv_at hl 0 rfl) ?_
        refine va_get (D := D) (ci := 10) (v := .ref (ad 1)) (C := RX10) (T := TX10) (N := 6) hx hb hts inX10 hown hK hP 0 (g_at10 (Nat.le_of_ble_eq_true rfl) rfl) rfl 0 (by decide) lk0 (fun _ h9 => h9) rfl dX10_cellOf_31 ?_
        refine va_get (D := D) (ci := 8) (v := .ref (ad 6)) (C := RX8) (T := TX8) (N := 5) hx hb hts inX8 hown hK hP 1 (g_at8 (Nat.le_of_ble_eq_true rfl) rfl) rfl 3 (by decide) lk1 (fun _ h9 => h9) rfl dX10_cellOf_34 ?_
        refine lv_iload_n hx hb dX10_cellOf_37 rfl (lv_at hl 2 rfl) ?_
        refine g_callSi (va_runV (As := [.int b]) (rest := []) ⟨hx, hb, hml, hown, hts⟩ (c_X5_cellAt l D cy ad hI _ iv ar 6 (Nat.le_of_ble_eq_true rfl) rfl b) (cwV 1 hts gX10_cellOf_X5_cellAt rfl rfl rfl (by decide +kernel) ⟨Nat.le_of_ble_eq_true rfl, Nat.le_of_ble_eq_true rfl⟩) (g_preV hP hK hSt hNw hS (g_at5 (Nat.le_of_ble_eq_true rfl) rfl) rfl) rfl rfl hl.1 rfl (lv_room (Nat.le_of_ble_eq_true rfl)) dX10_cellOf_38 ⟨Nat.zero_le _, Nat.zero_le _⟩) (fun r_4 w_4 => ?_)
        try dsimp only at w_4
        have z_4 : r_4.toInt = (-1) := by
          have hq := fr0 hF_iv 6 1 (by decide)
          rcases w_4 with q | q
          · exfalso; omega
          · rw [q.2]; rfl
        rw [hQ]
        exact W.iret (v := r_4) hx hb hr (fun t ht hW => ⟨r_4, rfl, by have zr : r_4.toInt = (-1 : Int) := z_4; have z0 := i_l0; have z1 := i_l1; omega, ht⟩) (fun q h => by cases h) dX10_cellOf_41
      · skip
        have q_3 : a.toInt = (0 : Int) := i_eq2 (rfl : a.toInt = a.toInt) (show (0 : Int32).toInt = (0 : Int) from rfl) c_3
        refine lv_aload_n hx hb dX10_cellOf_16 rfl (lv_at hl 0 rfl) ?_
        refine va_get (D := D) (ci := 10) (v := .ref (ad 1)) (C := RX10) (T := TX10) (N := 6) hx hb hts inX10 hown hK hP 0 (g_at10 (Nat.le_of_ble_eq_true rfl) rfl) rfl 0 (by decide) lk0 (fun _ h9 => h9) rfl dX10_cellOf_17 ?_
        refine va_get (D := D) (ci := 8) (v := .ref (ad 4)) (C := RX8) (T := TX8) (N := 5) hx hb hts inX8 hown hK hP 1 (g_at8 (Nat.le_of_ble_eq_true rfl) rfl) rfl 2 (by decide) lk2 (fun _ h9 => h9) rfl dX10_cellOf_20 ?_
        refine lv_iload_n hx hb dX10_cellOf_23 rfl (lv_at hl 2 rfl) ?_
        refine g_callSi (va_runV (As := [.int b]) (rest := []) ⟨hx, hb, hml, hown, hts⟩ (c_X5_cellAt l D cy ad hI _ iv ar 4 (Nat.le_of_ble_eq_true rfl) rfl b) (cwV 1 hts gX10_cellOf_X5_cellAt rfl rfl rfl (by decide +kernel) ⟨Nat.le_of_ble_eq_true rfl, Nat.le_of_ble_eq_true rfl⟩) (g_preV hP hK hSt hNw hS (g_at5 (Nat.le_of_ble_eq_true rfl) rfl) rfl) rfl rfl hl.1 rfl (lv_room (Nat.le_of_ble_eq_true rfl)) dX10_cellOf_24 ⟨Nat.zero_le _, Nat.zero_le _⟩) (fun r_5 w_5 => ?_)
        try dsimp only at w_5
        have z_5 : r_5.toInt = (-1) := by
          have hq := fr0 hF_iv 4 1 (by decide)
          rcases w_5 with q | q
          · exfalso; omega
          · rw [q.2]; rfl
        refine lv_goto (tgt := 41) hx hb dX10_cellOf_27 (by decide) ?_
        rw [hQ]
        exact W.iret (v := r_5) hx hb hr (fun t ht hW => ⟨r_5, rfl, by have zr : r_5.toInt = (-1 : Int) := z_5; have z0 := i_l0; have z1 := i_l1; omega, ht⟩) (fun q h => by cases h) dX10_cellOf_41
    · skip
      have q_2 : (1 : Int) < a.toInt := i_nle2 (rfl : a.toInt = a.toInt) (show (1 : Int32).toInt = (1 : Int) from rfl) c_2
      refine lv_bipush (v := (-2)) hx hb dX10_cellOf_9 (by decide) ?_
      rw [hQ]
      exact W.iret (v := (-2)) hx hb hr (fun t ht hW => ⟨(-2), rfl, by have zr : ((-2) : Int32).toInt = (-2 : Int) := (show ((-2) : Int32).toInt = (-2 : Int) from rfl); have z0 := i_l0; have z1 := i_l1; omega, ht⟩) (fun q h => by cases h) dX10_cellOf_11
set_option maxHeartbeats 4000000 in
set_option maxRecDepth 100000 in
theorem f_X8_obstacleCount (l : Launch) (D : va_G) (cy : Nat → ClassId) (ad : Nat → Nat) (hI : gInj ad) (sz : Nat) (iv : gIv) (ar : gAr)  (hF_iv : gFr iv ar) : Met l yX8_obstacleCount wsX8_obstacleCount ({ frames := 0, cells := 0, slots := 0, locals := 0 } : Room) (va_Pc [.ref (ad 1)] (gPre D cy ad sz iv ar)) (vp_Si (fun r => r.toInt = 0)) 0 0 (fun _ => False) := by
  refine Met.ofW (cc := cX8_obstacleCount) (maxL := 3) (ret := (some .int)) (by decide) rfl ?_
  intro p e s m args below meth c s₁ B hml hv
  obtain ⟨rfl, rfl, hP, hK, hSt, hNw⟩ := hv
  have hx := B.exec
  have hb := B.bytes
  have hr := B.returns
  have hts := atoms_spec (ws := wsX8_obstacleCount) B.pre
  have hown : s.vm.findClass RX8 = some m.cls := findClass_of_methodNamed B.named
  have hlocks := B.notSynchronized
  have hS : va_S (gA ad s.heap.size) s.heap s.heap [] := va_S.rf
  have inX8 : ∀ w ∈ u_ws RX8 TX8 5, w ∈ wsX8_obstacleCount := by decide +kernel
  have lk0 := hts (.fieldLink RX8 15 "FormationPlanner$Scene" "obstacles" "[I") (by decide +kernel)
  have hl := lv_entry ([.ref (ad 1)]) (n := 3) (Nat.le_of_ble_eq_true rfl)
  rw [lg_entry_eq]
  generalize (lg_sl ([.ref (ad 1)]) ++ List.replicate (3 - (lg_sl ([.ref (ad 1)])).length) Slot.unset).toArray = ls at hl ⊢
  have hl : lv_has ls 3 [(0, .ref (ad 1))] := hl
  obtain ⟨Q, hQ⟩ : ∃ Q, Q = MQ below (vp_Si (fun r => r.toInt = 0)) (([.ref (ad 1)] : List Value).toArray) s 0 0 (fun _ => False) := ⟨_, rfl⟩
  rw [← hQ]
  refine lv_iconst (v := 0) hx hb dX8_obstacleCount_0 (by decide) ?_
  refine lv_istore_n (lv' := [(1, .int 0), (0, .ref (ad 1))]) hx hb dX8_obstacleCount_1 rfl hl (by decide) rfl (fun ls hl => ?_)
  refine lv_iconst (v := 0) hx hb dX8_obstacleCount_2 (by decide) ?_
  refine lv_istore_n (lv' := [(2, .int 0), (1, .int 0), (0, .ref (ad 1))]) hx hb dX8_obstacleCount_3 rfl hl (by decide) rfl (fun ls hl => ?_)
  have loop3 : ∀ (n : Nat) (x2_1 : Int32) (x1_2 : Int32) (ls : Array Slot), ((108 - (x2_1.toInt)).toNat) < n → (0 ≤ (x2_1.toInt) ∧ (x2_1.toInt) ≤ 108 ∧ (x1_2.toInt) = 0) → lv_has ls 3 [(2, .int x2_1), (1, .int x1_2), (0, .ref (ad 1))] → W p l e (headSpec wsX8_obstacleCount (({ frames := 0, cells := 0, slots := 0, locals := 0 } : Room))).room s m (([.ref (ad 1)] : List Value).toArray) below meth c s.heap [] 0 0 Q (F0 m 4 ls []) := by
    intro n
    induction n with
    | zero => intro x2_1 x1_2 ls hm; omega
    | succ n ih3 =>
      intro x2_1 x1_2 ls hm hg0 hl
      refine lv_iload_n hx hb dX8_obstacleCount_4 rfl (lv_at hl 0 rfl) ?_
      refine lv_bipush (v := 108) hx hb dX8_obstacleCount_5 (by decide) ?_
      refine lv_icmp_ge (tgt := 25) hx hb dX8_obstacleCount_7 (by decide) (fun c_4 => ?_) (fun c_4 => ?_)
      · skip
        have q_4 : (108 : Int) ≤ x2_1.toInt := i_le2 (show (108 : Int32).toInt = (108 : Int) from rfl) (rfl : x2_1.toInt = x2_1.toInt) c_4
        refine lv_iload_n hx hb dX8_obstacleCount_25 rfl (lv_at hl 1 rfl) ?_
        rw [hQ]
        exact W.iret (v := x1_2) hx hb hr (fun t ht hW => ⟨x1_2, rfl, hg0.2.2, ht⟩) (fun q h => by cases h) dX8_obstacleCount_26
      · skip
        have q_4 : x2_1.toInt < (108 : Int) := i_nle2 (show (108 : Int32).toInt = (108 : Int) from rfl) (rfl : x2_1.toInt = x2_1.toInt) c_4
        refine lv_iload_n hx hb dX8_obstacleCount_10 rfl (lv_at hl 1 rfl) ?_
        refine lv_aload_n hx hb dX8_obstacleCount_11 rfl (lv_at hl 2 rfl) ?_
        refine va_get (D := D) (ci := 8) (v := .ref (ad 3)) (C := RX8) (T := TX8) (N := 5) hx hb hts inX8 hown hK hP 1 (g_at8 (Nat.le_of_ble_eq_true rfl) rfl) rfl 1 (by decide) lk0 (fun _ h9 => h9) rfl dX8_obstacleCount_12 ?_
        refine lv_iload_n hx hb dX8_obstacleCount_15 rfl (lv_at hl 0 rfl) ?_
        refine va_iald hx hb hK hP 3 0 (g_at12 (Nat.le_of_ble_eq_true rfl) rfl) rfl (g_in (N := 108) (rfl : x2_1.toInt = x2_1.toInt) rfl (by omega) (by omega)) dX8_obstacleCount_16 ?_
        refine lv_topi (fun v_5 ev_5 => ?_)
        refine lv_iadd hx hb dX8_obstacleCount_17 ?_
        refine lv_topi (fun v_6 ev_6 => ?_)
        have tv_6 : v_6.toInt = x1_2.toInt + (0 : Int) := i_add (rfl : x1_2.toInt = x1_2.toInt) (show v_5.toInt = (0 : Int) from by rw [ev_5]; exact fra hF_iv 3 _ (by decide)) (by omega) (by omega) ev_6
        refine lv_istore_n (lv' := [(1, .int v_6), (2, .int x2_1), (0, .ref (ad 1))]) hx hb dX8_obstacleCount_18 rfl hl (by decide) rfl (fun ls hl => ?_)
        obtain ⟨x2_7, ex2_7⟩ : ∃ y : Int32, y = x2_1 + 1 := ⟨_, rfl⟩
        have tx2_7 : x2_7.toInt = x2_1.toInt + (1 : Int) := i_add (rfl : x2_1.toInt = x2_1.toInt) (show (1 : Int32).toInt = (1 : Int) from rfl) (by omega) (by omega) ex2_7
        refine lv_iinc (v := x2_7) (lv' := [(2, .int x2_7), (1, .int v_6), (0, .ref (ad 1))]) hx hb dX8_obstacleCount_19 hl (k := 1) rfl (by rw [ex2_7]; rfl) (by decide) rfl (fun ls hl => ?_)
        refine lv_goto (tgt := 4) hx hb dX8_obstacleCount_22 (by decide) ?_
        exact ih3 x2_7 v_6 _ (by omega) (by omega) (lv_sub hl [0, 1, 2] rfl)
  have zl_8 : (0 : Int32).toInt = (0 : Int) := rfl
  have zl_9 : (0 : Int32).toInt = (0 : Int) := rfl
  exact loop3 (((108 - ((0 : Int))).toNat) + 1) 0 0 _ (by omega) (by omega) (lv_sub hl [0, 1, 2] rfl)
set_option maxHeartbeats 4000000 in
set_option maxRecDepth 100000 in
theorem f_X8_dronesAtSlots (l : Launch) (D : va_G) (cy : Nat → ClassId) (ad : Nat → Nat) (hI : gInj ad) (sz : Nat) (iv : gIv) (ar : gAr)  (hF_iv : gFr iv ar) : Met l yX8_dronesAtSlots wsX8_dronesAtSlots ({ frames := 0, cells := 0, slots := 0, locals := 0 } : Room) (va_Pc [.ref (ad 1)] (gPre D cy ad sz iv ar)) (vp_Si (fun r => r.toInt = 0)) 0 0 (fun _ => False) := by
  refine Met.ofW (cc := cX8_dronesAtSlots) (maxL := 3) (ret := (some .int)) (by decide) rfl ?_
  intro p e s m args below meth c s₁ B hml hv
  obtain ⟨rfl, rfl, hP, hK, hSt, hNw⟩ := hv
  have hx := B.exec
  have hb := B.bytes
  have hr := B.returns
  have hts := atoms_spec (ws := wsX8_dronesAtSlots) B.pre
  have hown : s.vm.findClass RX8 = some m.cls := findClass_of_methodNamed B.named
  have hlocks := B.notSynchronized
  have hS : va_S (gA ad s.heap.size) s.heap s.heap [] := va_S.rf
  have inX5 : ∀ w ∈ u_ws RX5 TX5 2, w ∈ wsX8_dronesAtSlots := by decide +kernel
  have inX8 : ∀ w ∈ u_ws RX8 TX8 5, w ∈ wsX8_dronesAtSlots := by decide +kernel
  have lk0 := hts (.fieldLink RX8 21 "FormationPlanner$Scene" "drones" "LFormationPlanner$Places;") (by decide +kernel)
  have lk1 := hts (.fieldLink RX8 32 "FormationPlanner$Places" "size" "I") (by decide +kernel)
  have hl := lv_entry ([.ref (ad 1)]) (n := 3) (Nat.le_of_ble_eq_true rfl)
  rw [lg_entry_eq]
  generalize (lg_sl ([.ref (ad 1)]) ++ List.replicate (3 - (lg_sl ([.ref (ad 1)])).length) Slot.unset).toArray = ls at hl ⊢
  have hl : lv_has ls 3 [(0, .ref (ad 1))] := hl
  obtain ⟨Q, hQ⟩ : ∃ Q, Q = MQ below (vp_Si (fun r => r.toInt = 0)) (([.ref (ad 1)] : List Value).toArray) s 0 0 (fun _ => False) := ⟨_, rfl⟩
  rw [← hQ]
  refine lv_iconst (v := 0) hx hb dX8_dronesAtSlots_0 (by decide) ?_
  refine lv_istore_n (lv' := [(1, .int 0), (0, .ref (ad 1))]) hx hb dX8_dronesAtSlots_1 rfl hl (by decide) rfl (fun ls hl => ?_)
  refine lv_iconst (v := 0) hx hb dX8_dronesAtSlots_2 (by decide) ?_
  refine lv_istore_n (lv' := [(2, .int 0), (1, .int 0), (0, .ref (ad 1))]) hx hb dX8_dronesAtSlots_3 rfl hl (by decide) rfl (fun ls hl => ?_)
  refine lv_iload_n hx hb dX8_dronesAtSlots_4 rfl (lv_at hl 0 rfl) ?_
  refine lv_aload_n hx hb dX8_dronesAtSlots_5 rfl (lv_at hl 2 rfl) ?_
  refine va_get (D := D) (ci := 8) (v := .ref (ad 4)) (C := RX8) (T := TX8) (N := 5) hx hb hts inX8 hown hK hP 1 (g_at8 (Nat.le_of_ble_eq_true rfl) rfl) rfl 2 (by decide) lk0 (fun _ h9 => h9) rfl dX8_dronesAtSlots_6 ?_
  refine va_get (D := D) (ci := 5) (v := .int (iv 4 1)) (C := RX5) (T := TX5) (N := 2) hx hb hts inX5 hown hK hP 4 (g_at5 (Nat.le_of_ble_eq_true rfl) rfl) rfl 1 (by decide) lk1 (fun _ h9 => h9) rfl dX8_dronesAtSlots_9 ?_
  refine lv_icmp_ge (tgt := 43) hx hb dX8_dronesAtSlots_12 (by decide) (fun c_1 => ?_) (fun c_1 => ?_)
  · skip
    have q_1 : (0 : Int) ≤ (0 : Int) := i_le2 (fr0 hF_iv 4 1 (by decide)) (show (0 : Int32).toInt = (0 : Int) from rfl) c_1
    refine lv_iload_n hx hb dX8_dronesAtSlots_43 rfl (lv_at hl 1 rfl) ?_
    rw [hQ]
    exact W.iret (v := 0) hx hb hr (fun t ht hW => ⟨0, rfl, by have zr : (0 : Int32).toInt = (0 : Int) := (show (0 : Int32).toInt = (0 : Int) from rfl); have z0 := i_l0; have z1 := i_l1; omega, ht⟩) (fun q h => by cases h) dX8_dronesAtSlots_44
  · skip
    have q_1 : (0 : Int) < (0 : Int) := i_nle2 (fr0 hF_iv 4 1 (by decide)) (show (0 : Int32).toInt = (0 : Int) from rfl) c_1
    exfalso; omega
set_option maxHeartbeats 4000000 in
set_option maxRecDepth 100000 in
theorem f_X10_count (l : Launch) (D : va_G) (cy : Nat → ClassId) (ad : Nat → Nat) (hI : gInj ad) (sz : Nat) (iv : gIv) (ar : gAr) (a : Int32) (hF_iv : gFr iv ar) : Met l yX10_count wsX10_count ({ frames := 1, cells := 0, slots := 0, locals := 22 } : Room) (va_Pc [.ref (ad 0), .int a] (gPre D cy ad sz iv ar)) (vp_Si (fun r => (0 ≤ a.toInt ∧ a.toInt ≤ 7) ∧ r.toInt = 0 ∨ ¬ (0 ≤ a.toInt ∧ a.toInt ≤ 7) ∧ r.toInt = -2)) 0 0 (fun _ => False) := by
  refine Met.ofW (cc := cX10_count) (maxL := 2) (ret := (some .int)) (by decide) rfl ?_
  intro p e s m args below meth c s₁ B hml hv
  obtain ⟨rfl, rfl, hP, hK, hSt, hNw⟩ := hv
  have hx := B.exec
  have hb := B.bytes
  have hr := B.returns
  have hts := atoms_spec (ws := wsX10_count) B.pre
  have hown : s.vm.findClass RX10 = some m.cls := findClass_of_methodNamed B.named
  have hlocks := B.notSynchronized
  have hS : va_S (gA ad s.heap.size) s.heap s.heap [] := va_S.rf
  have inX10 : ∀ w ∈ u_ws RX10 TX10 6, w ∈ wsX10_count := by decide +kernel
  have inX2 : ∀ w ∈ u_ws RX2 TX2 5, w ∈ wsX10_count := by decide +kernel
  have inX3 : ∀ w ∈ u_ws RX3 TX3 3, w ∈ wsX10_count := by decide +kernel
  have inX5 : ∀ w ∈ u_ws RX5 TX5 2, w ∈ wsX10_count := by decide +kernel
  have inX6 : ∀ w ∈ u_ws RX6 TX6 11, w ∈ wsX10_count := by decide +kernel
  have inX8 : ∀ w ∈ u_ws RX8 TX8 5, w ∈ wsX10_count := by decide +kernel
  have lk0 := hts (.fieldLink RX10 12 "FormationPlanner" "scene" "LFormationPlanner$Scene;") (by decide +kernel)
  have lk1 := hts (.fieldLink RX10 77 "FormationPlanner$Scene" "drones" "LFormationPlanner$Places;") (by decide +kernel)
  have lk2 := hts (.fieldLink RX10 100 "FormationPlanner$Places" "size" "I") (by decide +kernel)
  have lk3 := hts (.fieldLink RX10 87 "FormationPlanner$Scene" "slots" "LFormationPlanner$Places;") (by decide +kernel)
  have lk4 := hts (.fieldLink RX10 204 "FormationPlanner$Scene" "flown" "I") (by decide +kernel)
  have lk5 := hts (.fieldLink RX10 19 "FormationPlanner" "history" "LFormationPlanner$History;") (by decide +kernel)
  have lk6 := hts (.fieldLink RX10 219 "FormationPlanner$History" "size" "I") (by decide +kernel)
  have lk7 := hts (.fieldLink RX10 26 "FormationPlanner" "text" "LFormationPlanner$Formation;") (by decide +kernel)
  have lk8 := hts (.fieldLink RX10 111 "FormationPlanner$Formation" "length" "I") (by decide +kernel)
  have lk9 := hts (.fieldLink RX10 56 "FormationPlanner" "plan" "LFormationPlanner$Plan;") (by decide +kernel)
  have lk10 := hts (.fieldLink RX10 195 "FormationPlanner$Plan" "stands" "Z") (by decide +kernel)
  have hl := lv_entry ([.ref (ad 0), .int a]) (n := 2) (Nat.le_of_ble_eq_true rfl)
  rw [lg_entry_eq]
  generalize (lg_sl ([.ref (ad 0), .int a]) ++ List.replicate (2 - (lg_sl ([.ref (ad 0), .int a])).length) Slot.unset).toArray = ls at hl ⊢
  have hl : lv_has ls 2 [(0, .ref (ad 0)), (1, .int a)] := hl
  obtain ⟨Q, hQ⟩ : ∃ Q, Q = MQ below (vp_Si (fun r => (0 ≤ a.toInt ∧ a.toInt ≤ 7) ∧ r.toInt = 0 ∨ ¬ (0 ≤ a.toInt ∧ a.toInt ≤ 7) ∧ r.toInt = -2)) (([.ref (ad 0), .int a] : List Value).toArray) s 0 0 (fun _ => False) := ⟨_, rfl⟩
  rw [← hQ]
  refine lv_iload_n hx hb dX10_count_0 rfl (lv_at hl 1 rfl) ?_
  by_cases z_1 : a.toInt = 0
  · skip
    refine lv_tableIn (off := 47) (tgt := 48) hx hb dX10_count_1 (by rw [(rfl : a.toInt = a.toInt), z_1]; decide) (by rw [(rfl : a.toInt = a.toInt), z_1]; decide) (by rw [(rfl : a.toInt = a.toInt), z_1]; rfl) (by decide) ?_
    refine lv_aload_n hx hb dX10_count_48 rfl (lv_at hl 0 rfl) ?_
    refine va_get (D := D) (ci := 10) (v := .ref (ad 1)) (C := RX10) (T := TX10) (N := 6) hx hb hts inX10 hown hK hP 0 (g_at10 (Nat.le_of_ble_eq_true rfl) rfl) rfl 0 (by decide) lk0 (fun _ h9 => h9) rfl dX10_count_49 ?_
    refine va_get (D := D) (ci := 8) (v := .ref (ad 4)) (C := RX8) (T := TX8) (N := 5) hx hb hts inX8 hown hK hP 1 (g_at8 (Nat.le_of_ble_eq_true rfl) rfl) rfl 2 (by decide) lk1 (fun _ h9 => h9) rfl dX10_count_52 ?_
    refine va_get (D := D) (ci := 5) (v := .int (iv 4 1)) (C := RX5) (T := TX5) (N := 2) hx hb hts inX5 hown hK hP 4 (g_at5 (Nat.le_of_ble_eq_true rfl) rfl) rfl 1 (by decide) lk2 (fun _ h9 => h9) rfl dX10_count_55 ?_
    rw [hQ]
    exact W.iret (v := (iv 4 1)) hx hb hr (fun t ht hW => ⟨(iv 4 1), rfl, by have zr : (iv 4 1).toInt = (0 : Int) := (fr0 hF_iv 4 1 (by decide)); have z0 := i_l0; have z1 := i_l1; omega, ht⟩) (fun q h => by cases h) dX10_count_58
  by_cases z_2 : a.toInt = 1
  · skip
    refine lv_tableIn (off := 58) (tgt := 59) hx hb dX10_count_1 (by rw [(rfl : a.toInt = a.toInt), z_2]; decide) (by rw [(rfl : a.toInt = a.toInt), z_2]; decide) (by rw [(rfl : a.toInt = a.toInt), z_2]; rfl) (by decide) ?_
    refine lv_aload_n hx hb dX10_count_59 rfl (lv_at hl 0 rfl) ?_
    refine va_get (D := D) (ci := 10) (v := .ref (ad 1)) (C := RX10) (T := TX10) (N := 6) hx hb hts inX10 hown hK hP 0 (g_at10 (Nat.le_of_ble_eq_true rfl) rfl) rfl 0 (by decide) lk0 (fun _ h9 => h9) rfl dX10_count_60 ?_
    refine va_get (D := D) (ci := 8) (v := .ref (ad 6)) (C := RX8) (T := TX8) (N := 5) hx hb hts inX8 hown hK hP 1 (g_at8 (Nat.le_of_ble_eq_true rfl) rfl) rfl 3 (by decide) lk3 (fun _ h9 => h9) rfl dX10_count_63 ?_
    refine va_get (D := D) (ci := 5) (v := .int (iv 6 1)) (C := RX5) (T := TX5) (N := 2) hx hb hts inX5 hown hK hP 6 (g_at5 (Nat.le_of_ble_eq_true rfl) rfl) rfl 1 (by decide) lk2 (fun _ h9 => h9) rfl dX10_count_66 ?_
    rw [hQ]
    exact W.iret (v := (iv 6 1)) hx hb hr (fun t ht hW => ⟨(iv 6 1), rfl, by have zr : (iv 6 1).toInt = (0 : Int) := (fr0 hF_iv 6 1 (by decide)); have z0 := i_l0; have z1 := i_l1; omega, ht⟩) (fun q h => by cases h) dX10_count_69
  by_cases z_3 : a.toInt = 2
  · skip
    refine lv_tableIn (off := 69) (tgt := 70) hx hb dX10_count_1 (by rw [(rfl : a.toInt = a.toInt), z_3]; decide) (by rw [(rfl : a.toInt = a.toInt), z_3]; decide) (by rw [(rfl : a.toInt = a.toInt), z_3]; rfl) (by decide) ?_
    refine lv_aload_n hx hb dX10_count_70 rfl (lv_at hl 0 rfl) ?_
    refine va_get (D := D) (ci := 10) (v := .ref (ad 1)) (C := RX10) (T := TX10) (N := 6) hx hb hts inX10 hown hK hP 0 (g_at10 (Nat.le_of_ble_eq_true rfl) rfl) rfl 0 (by decide) lk0 (fun _ h9 => h9) rfl dX10_count_71 ?_
    refine g_callSi (va_runV (As := []) (rest := []) ⟨hx, hb, hml, hown, hts⟩ (f_X8_obstacleCount l D cy ad hI _ iv ar hF_iv) (cwV 0 hts gX10_count_X8_obstacleCount rfl rfl rfl (by decide +kernel) ⟨Nat.le_of_ble_eq_true rfl, Nat.le_of_ble_eq_true rfl⟩) (g_preV hP hK hSt hNw hS (g_at8 (Nat.le_of_ble_eq_true rfl) rfl) rfl) rfl rfl hl.1 rfl (lv_room (Nat.le_of_ble_eq_true rfl)) dX10_count_74 ⟨Nat.zero_le _, Nat.zero_le _⟩) (fun r_4 w_4 => ?_)
    try dsimp only at w_4
    rw [hQ]
    exact W.iret (v := r_4) hx hb hr (fun t ht hW => ⟨r_4, rfl, by have zr : r_4.toInt = (0 : Int) := w_4; have z0 := i_l0; have z1 := i_l1; omega, ht⟩) (fun q h => by cases h) dX10_count_77
  by_cases z_5 : a.toInt = 3
  · skip
    refine lv_tableIn (off := 77) (tgt := 78) hx hb dX10_count_1 (by rw [(rfl : a.toInt = a.toInt), z_5]; decide) (by rw [(rfl : a.toInt = a.toInt), z_5]; decide) (by rw [(rfl : a.toInt = a.toInt), z_5]; rfl) (by decide) ?_
    refine lv_aload_n hx hb dX10_count_78 rfl (lv_at hl 0 rfl) ?_
    refine va_get (D := D) (ci := 10) (v := .ref (ad 1)) (C := RX10) (T := TX10) (N := 6) hx hb hts inX10 hown hK hP 0 (g_at10 (Nat.le_of_ble_eq_true rfl) rfl) rfl 0 (by decide) lk0 (fun _ h9 => h9) rfl dX10_count_79 ?_
    refine g_callSi (va_runV (As := []) (rest := []) ⟨hx, hb, hml, hown, hts⟩ (f_X8_dronesAtSlots l D cy ad hI _ iv ar hF_iv) (cwV 0 hts gX10_count_X8_dronesAtSlots rfl rfl rfl (by decide +kernel) ⟨Nat.le_of_ble_eq_true rfl, Nat.le_of_ble_eq_true rfl⟩) (g_preV hP hK hSt hNw hS (g_at8 (Nat.le_of_ble_eq_true rfl) rfl) rfl) rfl rfl hl.1 rfl (lv_room (Nat.le_of_ble_eq_true rfl)) dX10_count_82 ⟨Nat.zero_le _, Nat.zero_le _⟩) (fun r_6 w_6 => ?_)
    try dsimp only at w_6
    rw [hQ]
    exact W.iret (v := r_6) hx hb hr (fun t ht hW => ⟨r_6, rfl, by have zr : r_6.toInt = (0 : Int) := w_6; have z0 := i_l0; have z1 := i_l1; omega, ht⟩) (fun q h => by cases h) dX10_count_85
  by_cases z_7 : a.toInt = 4
  · skip
    refine lv_tableIn (off := 85) (tgt := 86) hx hb dX10_count_1 (by rw [(rfl : a.toInt = a.toInt), z_7]; decide) (by rw [(rfl : a.toInt = a.toInt), z_7]; decide) (by rw [(rfl : a.toInt = a.toInt), z_7]; rfl) (by decide) ?_
    refine lv_aload_n hx hb dX10_count_86 rfl (lv_at hl 0 rfl) ?_
    refine va_get (D := D) (ci := 10) (v := .ref (ad 1)) (C := RX10) (T := TX10) (N := 6) hx hb hts inX10 hown hK hP 0 (g_at10 (Nat.le_of_ble_eq_true rfl) rfl) rfl 0 (by decide) lk0 (fun _ h9 => h9) rfl dX10_count_87 ?_
    refine va_get (D := D) (ci := 8) (v := .int (iv 1 4)) (C := RX8) (T := TX8) (N := 5) hx hb hts inX8 hown hK hP 1 (g_at8 (Nat.le_of_ble_eq_true rfl) rfl) rfl 4 (by decide) lk4 (fun _ h9 => h9) rfl dX10_count_90 ?_
    rw [hQ]
    exact W.iret (v := (iv 1 4)) hx hb hr (fun t ht hW => ⟨(iv 1 4), rfl, by have zr : (iv 1 4).toInt = (0 : Int) := (fr0 hF_iv 1 4 (by decide)); have z0 := i_l0; have z1 := i_l1; omega, ht⟩) (fun q h => by cases h) dX10_count_93
  by_cases z_8 : a.toInt = 5
  · skip
    refine lv_tableIn (off := 93) (tgt := 94) hx hb dX10_count_1 (by rw [(rfl : a.toInt = a.toInt), z_8]; decide) (by rw [(rfl : a.toInt = a.toInt), z_8]; decide) (by rw [(rfl : a.toInt = a.toInt), z_8]; rfl) (by decide) ?_
    refine lv_aload_n hx hb dX10_count_94 rfl (lv_at hl 0 rfl) ?_
    refine va_get (D := D) (ci := 10) (v := .ref (ad 8)) (C := RX10) (T := TX10) (N := 6) hx hb hts inX10 hown hK hP 0 (g_at10 (Nat.le_of_ble_eq_true rfl) rfl) rfl 1 (by decide) lk5 (fun _ h9 => h9) rfl dX10_count_95 ?_
    refine va_get (D := D) (ci := 3) (v := .int (iv 8 2)) (C := RX3) (T := TX3) (N := 3) hx hb hts inX3 hown hK hP 8 (g_at3 (Nat.le_of_ble_eq_true rfl) rfl) rfl 2 (by decide) lk6 (fun _ h9 => h9) rfl dX10_count_98 ?_
    rw [hQ]
    exact W.iret (v := (iv 8 2)) hx hb hr (fun t ht hW => ⟨(iv 8 2), rfl, by have zr : (iv 8 2).toInt = (0 : Int) := (fr0 hF_iv 8 2 (by decide)); have z0 := i_l0; have z1 := i_l1; omega, ht⟩) (fun q h => by cases h) dX10_count_101
  by_cases z_9 : a.toInt = 6
  · skip
    refine lv_tableIn (off := 101) (tgt := 102) hx hb dX10_count_1 (by rw [(rfl : a.toInt = a.toInt), z_9]; decide) (by rw [(rfl : a.toInt = a.toInt), z_9]; decide) (by rw [(rfl : a.toInt = a.toInt), z_9]; rfl) (by decide) ?_
    refine lv_aload_n hx hb dX10_count_102 rfl (lv_at hl 0 rfl) ?_
    refine va_get (D := D) (ci := 10) (v := .ref (ad 66)) (C := RX10) (T := TX10) (N := 6) hx hb hts inX10 hown hK hP 0 (g_at10 (Nat.le_of_ble_eq_true rfl) rfl) rfl 2 (by decide) lk7 (fun _ h9 => h9) rfl dX10_count_103 ?_
    refine va_get (D := D) (ci := 2) (v := .int (iv 66 2)) (C := RX2) (T := TX2) (N := 5) hx hb hts inX2 hown hK hP 66 (g_at2 (Nat.le_of_ble_eq_true rfl) rfl) rfl 2 (by decide) lk8 (fun _ h9 => h9) rfl dX10_count_106 ?_
    rw [hQ]
    exact W.iret (v := (iv 66 2)) hx hb hr (fun t ht hW => ⟨(iv 66 2), rfl, by have zr : (iv 66 2).toInt = (0 : Int) := (fr0 hF_iv 66 2 (by decide)); have z0 := i_l0; have z1 := i_l1; omega, ht⟩) (fun q h => by cases h) dX10_count_109
  by_cases z_10 : a.toInt = 7
  · skip
    refine lv_tableIn (off := 109) (tgt := 110) hx hb dX10_count_1 (by rw [(rfl : a.toInt = a.toInt), z_10]; decide) (by rw [(rfl : a.toInt = a.toInt), z_10]; decide) (by rw [(rfl : a.toInt = a.toInt), z_10]; rfl) (by decide) ?_
    refine lv_aload_n hx hb dX10_count_110 rfl (lv_at hl 0 rfl) ?_
    refine va_get (D := D) (ci := 10) (v := .ref (ad 90)) (C := RX10) (T := TX10) (N := 6) hx hb hts inX10 hown hK hP 0 (g_at10 (Nat.le_of_ble_eq_true rfl) rfl) rfl 5 (by decide) lk9 (fun _ h9 => h9) rfl dX10_count_111 ?_
    refine va_get (D := D) (ci := 6) (v := .int (iv 90 7)) (C := RX6) (T := TX6) (N := 11) hx hb hts inX6 hown hK hP 90 (g_at6 (Nat.le_of_ble_eq_true rfl) rfl) rfl 7 (by decide) lk10 (fun _ h9 => h9) rfl dX10_count_114 ?_
    refine lv_if_eq (tgt := 124) hx hb dX10_count_117 (by decide) (fun c_11 => ?_) (fun c_11 => ?_)
    · skip
      have q_11 : (0 : Int) = (0 : Int) := i_eq2 (fr0 hF_iv 90 7 (by decide)) (show (0 : Int32).toInt = (0 : Int) from rfl) c_11
      refine lv_iconst (v := 0) hx hb dX10_count_124 (by decide) ?_
      rw [hQ]
      exact W.iret (v := 0) hx hb hr (fun t ht hW => ⟨0, rfl, by have zr : (0 : Int32).toInt = (0 : Int) := (show (0 : Int32).toInt = (0 : Int) from rfl); have z0 := i_l0; have z1 := i_l1; omega, ht⟩) (fun q h => by cases h) dX10_count_125
    · skip
      have q_11 : (0 : Int) ≠ (0 : Int) := i_ne2 (fr0 hF_iv 90 7 (by decide)) (show (0 : Int32).toInt = (0 : Int) from rfl) c_11
      exfalso; omega
  refine lv_tableOut (tgt := 126) hx hb dX10_count_1 (by rw [(rfl : a.toInt = a.toInt)]; omega) (by decide) ?_
  refine lv_bipush (v := (-2)) hx hb dX10_count_126 (by decide) ?_
  rw [hQ]
  exact W.iret (v := (-2)) hx hb hr (fun t ht hW => ⟨(-2), rfl, by have zr : ((-2) : Int32).toInt = (-2 : Int) := (show ((-2) : Int32).toInt = (-2 : Int) from rfl); have z0 := i_l0; have z1 := i_l1; omega, ht⟩) (fun q h => by cases h) dX10_count_128
set_option maxHeartbeats 4000000 in
set_option maxRecDepth 100000 in
theorem c0_bringBack (l : Launch) (D : va_G) (cy : Nat → ClassId) (ad : Nat → Nat) (hI : gInj ad) (sz : Nat) (iv : gIv) (ar : gAr)  (h2 : (iv 8 2).toInt = 0) : Met l yX3_bringBack wsX3_bringBack ({ frames := 0, cells := 0, slots := 0, locals := 0 } : Room) (va_Pc [.ref (ad 8), .ref (ad 1)] (gPre D cy ad sz iv ar)) (vp_Si (fun r => r.toInt = 0)) 0 0 (fun _ => False) := by
  refine Met.ofW (cc := cX3_bringBack) (maxL := 2) (ret := (some .boolean)) (by decide) rfl ?_
  intro p e s m args below meth c s₁ B hml hv
  obtain ⟨rfl, rfl, hP, hK, hSt, hNw⟩ := hv
  have hx := B.exec
  have hb := B.bytes
  have hr := B.returns
  have hts := atoms_spec (ws := wsX3_bringBack) B.pre
  have hown : s.vm.findClass RX3 = some m.cls := findClass_of_methodNamed B.named
  have hlocks := B.notSynchronized
  have hS : va_S (gA ad s.heap.size) s.heap s.heap [] := va_S.rf
  have inX3 : ∀ w ∈ u_ws RX3 TX3 3, w ∈ wsX3_bringBack := by decide +kernel
  have lk0 := hts (.fieldLink RX3 32 "FormationPlanner$History" "size" "I") (by decide +kernel)
  have hl := lv_entry ([.ref (ad 8), .ref (ad 1)]) (n := 2) (Nat.le_of_ble_eq_true rfl)
  rw [lg_entry_eq]
  generalize (lg_sl ([.ref (ad 8), .ref (ad 1)]) ++ List.replicate (2 - (lg_sl ([.ref (ad 8), .ref (ad 1)])).length) Slot.unset).toArray = ls at hl ⊢
  have hl : lv_has ls 2 [(0, .ref (ad 8)), (1, .ref (ad 1))] := hl
  obtain ⟨Q, hQ⟩ : ∃ Q, Q = MQ below (vp_Si (fun r => r.toInt = 0)) (([.ref (ad 8), .ref (ad 1)] : List Value).toArray) s 0 0 (fun _ => False) := ⟨_, rfl⟩
  rw [← hQ]
  refine lv_aload_n hx hb dX3_bringBack_0 rfl (lv_at hl 0 rfl) ?_
  refine va_get (D := D) (ci := 3) (v := .int (iv 8 2)) (C := RX3) (T := TX3) (N := 3) hx hb hts inX3 hown hK hP 8 (g_at3 (Nat.le_of_ble_eq_true rfl) rfl) rfl 2 (by decide) lk0 (fun _ h9 => h9) rfl dX3_bringBack_1 ?_
  refine lv_if_ne (tgt := 9) hx hb dX3_bringBack_4 (by decide) (fun c_1 => ?_) (fun c_1 => ?_)
  · skip
    have q_1 : (0 : Int) ≠ (0 : Int) := i_ne2 h2 (show (0 : Int32).toInt = (0 : Int) from rfl) c_1
    exfalso; omega
  · skip
    have q_1 : (0 : Int) = (0 : Int) := i_eq2 h2 (show (0 : Int32).toInt = (0 : Int) from rfl) c_1
    refine lv_iconst (v := 0) hx hb dX3_bringBack_7 (by decide) ?_
    rw [hQ]
    exact W.zret (v := 0) hx hb hr rfl (fun t ht hW => ⟨0, rfl, by have z0 := i_l0; have z1 := i_l1; have zm := i_m1; have z2 := i_m2; omega, ht⟩) (fun q h => by cases h) dX3_bringBack_8
set_option maxHeartbeats 4000000 in
set_option maxRecDepth 100000 in
theorem f_X10_undo (l : Launch) (D : va_G) (cy : Nat → ClassId) (ad : Nat → Nat) (hI : gInj ad) (sz : Nat) (iv : gIv) (ar : gAr)  (hF_iv : gFr iv ar) : Met l yX10_undo wsX10_undo ({ frames := 1, cells := 0, slots := 0, locals := 21 } : Room) (va_Pc [.ref (ad 0)] (gPre D cy ad sz iv ar)) (va_Qi (fun (r : Int32) (u : gIv × gAr) => r.toInt = -1) (gPost D cy ad) (gA ad sz)) 0 0 (gA ad sz) := by
  refine Met.ofW (cc := cX10_undo) (maxL := 1) (ret := (some .int)) (by decide) rfl ?_
  intro p e s m args below meth c s₁ B hml hv
  obtain ⟨rfl, rfl, hP, hK, hSt, hNw⟩ := hv
  have hx := B.exec
  have hb := B.bytes
  have hr := B.returns
  have hts := atoms_spec (ws := wsX10_undo) B.pre
  have hown : s.vm.findClass RX10 = some m.cls := findClass_of_methodNamed B.named
  have hlocks := B.notSynchronized
  have hS : va_S (gA ad s.heap.size) s.heap s.heap [] := va_S.rf
  have inX10 : ∀ w ∈ u_ws RX10 TX10 6, w ∈ wsX10_undo := by decide +kernel
  have lk0 := hts (.fieldLink RX10 56 "FormationPlanner" "plan" "LFormationPlanner$Plan;") (by decide +kernel)
  have lk1 := hts (.fieldLink RX10 19 "FormationPlanner" "history" "LFormationPlanner$History;") (by decide +kernel)
  have lk2 := hts (.fieldLink RX10 12 "FormationPlanner" "scene" "LFormationPlanner$Scene;") (by decide +kernel)
  have hl := lv_entry ([.ref (ad 0)]) (n := 1) (Nat.le_of_ble_eq_true rfl)
  rw [lg_entry_eq]
  generalize (lg_sl ([.ref (ad 0)]) ++ List.replicate (1 - (lg_sl ([.ref (ad 0)])).length) Slot.unset).toArray = ls at hl ⊢
  have hl : lv_has ls 1 [(0, .ref (ad 0))] := hl
  obtain ⟨Q, hQ⟩ : ∃ Q, Q = MQ below (va_Qi (fun (r : Int32) (u : gIv × gAr) => r.toInt = -1) (gPost D cy ad) (gA ad s.heap.size)) (([.ref (ad 0)] : List Value).toArray) s 0 0 (gA ad s.heap.size) := ⟨_, rfl⟩
  rw [← hQ]
  refine lv_aload_n hx hb dX10_undo_0 rfl (lv_at hl 0 rfl) ?_
  refine va_get (D := D) (ci := 10) (v := .ref (ad 90)) (C := RX10) (T := TX10) (N := 6) hx hb hts inX10 hown hK hP 0 (g_at10 (Nat.le_of_ble_eq_true rfl) rfl) rfl 5 (by decide) lk0 (fun _ h9 => h9) rfl dX10_undo_1 ?_
  refine g_callv (va_runV (As := []) (rest := []) ⟨hx, hb, hml, hown, hts⟩ (c_X6_discard l D cy ad hI _ iv ar) (cwV 0 hts gX10_undo_X6_discard rfl rfl rfl (by decide +kernel) ⟨Nat.le_of_ble_eq_true rfl, Nat.le_of_ble_eq_true rfl⟩) (g_preV hP hK hSt hNw hS (g_at6 (Nat.le_of_ble_eq_true rfl) rfl) rfl) rfl rfl hl.1 rfl (lv_room (Nat.le_of_ble_eq_true rfl)) dX10_undo_4 ⟨Nat.zero_le _, Nat.zero_le _⟩) hS (fun iv_1 ar_1 H locs w_1 hP hS => ?_)
  try dsimp only at w_1
  obtain ⟨iv_2, eiv_2⟩ : ∃ z : gIv, z = u2 iv 90 7 0 := ⟨_, rfl⟩
  have eiv_1 : iv_1 = u2 iv_2 90 8 (-1) := by rw [eiv_2]; exact w_1.1
  have hh2 : (iv_1 8 2).toInt = 0 := by rw [w_1.1, u2_o (by omega), u2_o (by omega)]; exact fr0 hF_iv 8 2 (by decide)
  refine lv_aload_n hx hb dX10_undo_7 rfl (lv_at hl 0 rfl) ?_
  refine va_get (D := D) (ci := 10) (v := .ref (ad 8)) (C := RX10) (T := TX10) (N := 6) hx hb hts inX10 hown hK hP 0 (g_at10 (Nat.le_of_ble_eq_true rfl) rfl) rfl 1 (by decide) lk1 (fun _ h9 => h9) rfl dX10_undo_8 ?_
  refine lv_aload_n hx hb dX10_undo_11 rfl (lv_at hl 0 rfl) ?_
  refine va_get (D := D) (ci := 10) (v := .ref (ad 1)) (C := RX10) (T := TX10) (N := 6) hx hb hts inX10 hown hK hP 0 (g_at10 (Nat.le_of_ble_eq_true rfl) rfl) rfl 0 (by decide) lk2 (fun _ h9 => h9) rfl dX10_undo_12 ?_
  refine g_callSi (va_runV (As := [.ref (ad 1)]) (rest := []) ⟨hx, hb, hml, hown, hts⟩ (c0_bringBack l D cy ad hI _ iv_1 ar_1 hh2) (cwV 1 hts gX10_undo_X3_bringBack rfl rfl rfl (by decide +kernel) ⟨Nat.le_of_ble_eq_true rfl, Nat.le_of_ble_eq_true rfl⟩) (g_preV hP hK hSt hNw hS (g_at3 (Nat.le_of_ble_eq_true rfl) rfl) rfl) rfl rfl hl.1 rfl (lv_room (Nat.le_of_ble_eq_true rfl)) dX10_undo_15 ⟨Nat.zero_le _, Nat.zero_le _⟩) (fun r_3 w_3 => ?_)
  try dsimp only at w_3
  refine lv_if_eq (tgt := 31) hx hb dX10_undo_18 (by decide) (fun c_4 => ?_) (fun c_4 => ?_)
  · skip
    have q_4 : (0 : Int) = (0 : Int) := i_eq2 w_3 (show (0 : Int32).toInt = (0 : Int) from rfl) c_4
    refine lv_iconst (v := (-1)) hx hb dX10_undo_31 (by decide) ?_
    rw [hQ]
    exact W.iret (v := (-1)) hx hb hr (fun t ht hW => ⟨⟨(-1), (iv_1, ar_1), rfl, by have zr : ((-1) : Int32).toInt = (-1 : Int) := (show ((-1) : Int32).toInt = (-1 : Int) from rfl); have z0 := i_l0; have z1 := i_l1; omega, by show va_P _ _ _ _; rw [ht]; exact hP⟩, hS.F ht⟩) hS.2.2 dX10_undo_32
  · skip
    have q_4 : (0 : Int) ≠ (0 : Int) := i_ne2 w_3 (show (0 : Int32).toInt = (0 : Int) from rfl) c_4
    exfalso; omega
set_option maxHeartbeats 4000000 in
set_option maxRecDepth 100000 in
theorem c0_nextTrial (l : Launch) (D : va_G) (cy : Nat → ClassId) (ad : Nat → Nat) (hI : gInj ad) (sz : Nat) (iv : gIv) (ar : gAr)  (h4 : (iv 74 4).toInt = 0) : Met l yX0_nextTrial wsX0_nextTrial ({ frames := 1, cells := 0, slots := 0, locals := 13 } : Room) (va_Pc [.ref (ad 74)] (gPre D cy ad sz iv ar)) (vp_Si (fun r => r.toInt = 0)) 0 0 (fun _ => False) := by
  refine Met.ofW (cc := cX0_nextTrial) (maxL := 5) (ret := (some .boolean)) (by decide) rfl ?_
  intro p e s m args below meth c s₁ B hml hv
  obtain ⟨rfl, rfl, hP, hK, hSt, hNw⟩ := hv
  have hx := B.exec
  have hb := B.bytes
  have hr := B.returns
  have hts := atoms_spec (ws := wsX0_nextTrial) B.pre
  have hown : s.vm.findClass RX0 = some m.cls := findClass_of_methodNamed B.named
  have hlocks := B.notSynchronized
  have hS : va_S (gA ad s.heap.size) s.heap s.heap [] := va_S.rf
  have inX0 : ∀ w ∈ u_ws RX0 TX0 9, w ∈ wsX0_nextTrial := by decide +kernel
  have lk0 := hts (.fieldLink RX0 52 "FormationPlanner$Assigner" "size" "I") (by decide +kernel)
  have lk1 := hts (.methodLink RX0 46 Lib.Math.min.name) (by decide +kernel)
  have lk2 := hts (.static Lib.Math.min.name) (by decide +kernel)
  have lk3 := hts (.initialized "java/lang/Math") (by decide +kernel)
  have lk4 := hts (.code Lib.Math.min.name Lib.Math.min.code 2 (some .int)) (by decide +kernel)
  have hl := lv_entry ([.ref (ad 74)]) (n := 5) (Nat.le_of_ble_eq_true rfl)
  rw [lg_entry_eq]
  generalize (lg_sl ([.ref (ad 74)]) ++ List.replicate (5 - (lg_sl ([.ref (ad 74)])).length) Slot.unset).toArray = ls at hl ⊢
  have hl : lv_has ls 5 [(0, .ref (ad 74))] := hl
  obtain ⟨Q, hQ⟩ : ∃ Q, Q = MQ below (vp_Si (fun r => r.toInt = 0)) (([.ref (ad 74)] : List Value).toArray) s 0 0 (fun _ => False) := ⟨_, rfl⟩
  rw [← hQ]
  refine lv_aload_n hx hb dX0_nextTrial_0 rfl (lv_at hl 0 rfl) ?_
  refine va_get (D := D) (ci := 0) (v := .int (iv 74 4)) (C := RX0) (T := TX0) (N := 9) hx hb hts inX0 hown hK hP 74 (g_at0 (Nat.le_of_ble_eq_true rfl) rfl) rfl 4 (by decide) lk0 (fun _ h9 => h9) rfl dX0_nextTrial_1 ?_
  refine lv_bipush (v := 6) hx hb dX0_nextTrial_4 (by decide) ?_
  refine va_mmin (rest := []) hx hb (hml.trans hl.1.symm) hown lk1 lk2 lk3 lk4 (Nat.le_of_ble_eq_true rfl) (Nat.le_of_ble_eq_true rfl) (Nat.zero_le _) (Nat.zero_le _) dX0_nextTrial_6 ?_
  refine lv_topi (fun v_1 ev_1 => ?_)
  have tv_1 : v_1.toInt = min (0 : Int) (6 : Int) := i_min h4 (show (6 : Int32).toInt = (6 : Int) from rfl) ev_1
  refine lv_iconst (v := 2) hx hb dX0_nextTrial_9 (by decide) ?_
  refine lv_isub hx hb dX0_nextTrial_10 ?_
  refine lv_topi (fun v_2 ev_2 => ?_)
  have tv_2 : v_2.toInt = v_1.toInt - (2 : Int) := i_sub (rfl : v_1.toInt = v_1.toInt) (show (2 : Int32).toInt = (2 : Int) from rfl) (by omega) (by omega) ev_2
  refine lv_istore_n (lv' := [(1, .int v_2), (0, .ref (ad 74))]) hx hb dX0_nextTrial_11 rfl hl (by decide) rfl (fun ls hl => ?_)
  refine lv_iload_n hx hb dX0_nextTrial_12 rfl (lv_at hl 0 rfl) ?_
  refine lv_if_lt (tgt := 39) hx hb dX0_nextTrial_13 (by decide) (fun c_3 => ?_) (fun c_3 => ?_)
  · skip
    have q_3 : v_2.toInt < (0 : Int) := i_lt2 (rfl : v_2.toInt = v_2.toInt) (show (0 : Int32).toInt = (0 : Int) from rfl) c_3
    refine lv_iload_n hx hb dX0_nextTrial_39 rfl (lv_at hl 0 rfl) ?_
    refine lv_if_ge (tgt := 45) hx hb dX0_nextTrial_40 (by decide) (fun c_4 => ?_) (fun c_4 => ?_)
    · skip
      have q_4 : (0 : Int) ≤ v_2.toInt := i_le2 (show (0 : Int32).toInt = (0 : Int) from rfl) (rfl : v_2.toInt = v_2.toInt) c_4
      exfalso; omega
    · skip
      have q_4 : v_2.toInt < (0 : Int) := i_nle2 (show (0 : Int32).toInt = (0 : Int) from rfl) (rfl : v_2.toInt = v_2.toInt) c_4
      refine lv_iconst (v := 0) hx hb dX0_nextTrial_43 (by decide) ?_
      rw [hQ]
      exact W.zret (v := 0) hx hb hr rfl (fun t ht hW => ⟨0, rfl, by have z0 := i_l0; have z1 := i_l1; have zm := i_m1; have z2 := i_m2; omega, ht⟩) (fun q h => by cases h) dX0_nextTrial_44
  · skip
    have q_3 : (0 : Int) ≤ v_2.toInt := i_nlt2 (rfl : v_2.toInt = v_2.toInt) (show (0 : Int32).toInt = (0 : Int) from rfl) c_3
    exfalso; omega
set_option maxHeartbeats 4000000 in
set_option maxRecDepth 100000 in
theorem c_X0_take (l : Launch) (D : va_G) (cy : Nat → ClassId) (ad : Nat → Nat) (hI : gInj ad) (sz : Nat) (iv : gIv) (ar : gAr) (a : Int32) (b : Int32)  : Met l yX0_take wsX0_take ({ frames := 1, cells := 0, slots := 0, locals := 40 } : Room) (va_Pc [.ref (ad 74), .int a, .int b] (gPre D cy ad sz iv ar)) (va_Qv (fun (u : gIv × gAr) => u.1 = u2 (u2 iv 74 7 a) 74 8 b ∧ ∀ c, c ≠ 77 → u.2 c = ar c) (gPost D cy ad) (gA ad sz)) 0 0 (gA ad sz) := by
  refine Met.ofW (cc := cX0_take) (maxL := 3) (ret := none) (by decide) rfl ?_
  intro p e s m args below meth c s₁ B hml hv
  obtain ⟨rfl, rfl, hP, hK, hSt, hNw⟩ := hv
  have hx := B.exec
  have hb := B.bytes
  have hr := B.returns
  have hts := atoms_spec (ws := wsX0_take) B.pre
  have hown : s.vm.findClass RX0 = some m.cls := findClass_of_methodNamed B.named
  have hlocks := B.notSynchronized
  have hS : va_S (gA ad s.heap.size) s.heap s.heap [] := va_S.rf
  have inX0 : ∀ w ∈ u_ws RX0 TX0 9, w ∈ wsX0_take := by decide +kernel
  have lk0 := hts (.fieldLink RX0 83 "FormationPlanner$Assigner" "greatest" "I") (by decide +kernel)
  have lk1 := hts (.fieldLink RX0 93 "FormationPlanner$Assigner" "sum" "I") (by decide +kernel)
  have lk2 := hts (.fieldLink RX0 17 "FormationPlanner$Assigner" "trial" "[I") (by decide +kernel)
  have lk3 := hts (.fieldLink RX0 21 "FormationPlanner$Assigner" "best" "[I") (by decide +kernel)
  have lk4 := hts (.methodLink RX0 96 arraycopyName) (by decide +kernel)
  have lk5 := hts (.native arraycopyName) (by decide +kernel)
  have lk6 := hts (.static arraycopyName) (by decide +kernel)
  have lk7 := hts (.initialized "java/lang/System") (by decide +kernel)
  have hl := lv_entry ([.ref (ad 74), .int a, .int b]) (n := 3) (Nat.le_of_ble_eq_true rfl)
  rw [lg_entry_eq]
  generalize (lg_sl ([.ref (ad 74), .int a, .int b]) ++ List.replicate (3 - (lg_sl ([.ref (ad 74), .int a, .int b])).length) Slot.unset).toArray = ls at hl ⊢
  have hl : lv_has ls 3 [(0, .ref (ad 74)), (1, .int a), (2, .int b)] := hl
  obtain ⟨Q, hQ⟩ : ∃ Q, Q = MQ below (va_Qv (fun (u : gIv × gAr) => u.1 = u2 (u2 iv 74 7 a) 74 8 b ∧ ∀ c, c ≠ 77 → u.2 c = ar c) (gPost D cy ad) (gA ad s.heap.size)) (([.ref (ad 74), .int a, .int b] : List Value).toArray) s 0 0 (gA ad s.heap.size) := ⟨_, rfl⟩
  rw [← hQ]
  refine lv_aload_n hx hb dX0_take_0 rfl (lv_at hl 0 rfl) ?_
  refine lv_iload_n hx hb dX0_take_1 rfl (lv_at hl 1 rfl) ?_
  refine va_put (D := D) (ci := 0) (v := .int a) (ty := .int) (C := RX0) (T := TX0) (N := 9) hx hb hts inX0 tyX0 tyX0_ok nmX0 hown hK hP (gD hI) hS 74 (g_at0 (Nat.le_of_ble_eq_true rfl) rfl) rfl 7 (by decide) lk0 (fun _ h9 => h9) rfl (by decide +kernel) rfl rfl (Nat.le_of_ble_eq_true rfl) dX0_take_2 (fun H locs hP _ hS => ?_)
  have hP : va_P D vwCl (GW cy ad (u2 iv 74 7 a) ar) H := by rw [← g_pt0_7 (Nat.le_of_ble_eq_true rfl) rfl]; exact hP
  obtain ⟨iv_1, eiv_1⟩ : ∃ z : gIv, z = u2 iv 74 7 a := ⟨_, rfl⟩
  rw [← eiv_1] at hP
  refine lv_aload_n hx hb dX0_take_5 rfl (lv_at hl 0 rfl) ?_
  refine lv_iload_n hx hb dX0_take_6 rfl (lv_at hl 2 rfl) ?_
  refine va_put (D := D) (ci := 0) (v := .int b) (ty := .int) (C := RX0) (T := TX0) (N := 9) hx hb hts inX0 tyX0 tyX0_ok nmX0 hown hK hP (gD hI) hS 74 (g_at0 (Nat.le_of_ble_eq_true rfl) rfl) rfl 8 (by decide) lk1 (fun _ h9 => h9) rfl (by decide +kernel) rfl rfl (Nat.le_of_ble_eq_true rfl) dX0_take_7 (fun H locs hP _ hS => ?_)
  have hP : va_P D vwCl (GW cy ad (u2 iv_1 74 8 b) ar) H := by rw [← g_pt0_8 (Nat.le_of_ble_eq_true rfl) rfl]; exact hP
  obtain ⟨iv_2, eiv_2⟩ : ∃ z : gIv, z = u2 iv_1 74 8 b := ⟨_, rfl⟩
  rw [← eiv_2] at hP
  refine lv_aload_n hx hb dX0_take_10 rfl (lv_at hl 0 rfl) ?_
  refine va_get (D := D) (ci := 0) (v := .ref (ad 76)) (C := RX0) (T := TX0) (N := 9) hx hb hts inX0 hown hK hP 74 (g_at0 (Nat.le_of_ble_eq_true rfl) rfl) rfl 2 (by decide) lk2 (fun _ h9 => h9) rfl dX0_take_11 ?_
  refine lv_iconst (v := 0) hx hb dX0_take_14 (by decide) ?_
  refine lv_aload_n hx hb dX0_take_15 rfl (lv_at hl 0 rfl) ?_
  refine va_get (D := D) (ci := 0) (v := .ref (ad 77)) (C := RX0) (T := TX0) (N := 9) hx hb hts inX0 hown hK hP 74 (g_at0 (Nat.le_of_ble_eq_true rfl) rfl) rfl 3 (by decide) lk3 (fun _ h9 => h9) rfl dX0_take_16 ?_
  refine lv_iconst (v := 0) hx hb dX0_take_19 (by decide) ?_
  refine lv_bipush (v := 6) hx hb dX0_take_20 (by decide) ?_
  refine va_copyi (rest := []) hx hb (hml.trans hl.1.symm) hown lk4 lk5 lk6 lk7 hK hP (gD hI) hS 76 77 0 0 (g_at12 (Nat.le_of_ble_eq_true rfl) rfl) (g_at12 (Nat.le_of_ble_eq_true rfl) rfl) rfl rfl rfl (by decide) (by decide) (by decide) (g_le3 (N := 6) rfl (by decide)) (g_le3 (N := 6) rfl (by decide)) (fun i _ => rfl) (Nat.le_of_ble_eq_true rfl) (Nat.le_of_ble_eq_true rfl) dX0_take_22 (fun H locs hP _ hS => ?_)
  rw [g_pt12 (Nat.le_of_ble_eq_true rfl) rfl] at hP
  obtain ⟨ar_3, ear_3⟩ : ∃ z : gAr, z = va_up ar 77 (va_cpy (ar 76) (ar 77) 0 0 (6 : Int32).toNatClampNeg) := ⟨_, rfl⟩
  have hP : va_P D vwCl (GW cy ad iv_2 ar_3) H := by rw [ear_3]; exact hP
  rw [hQ]
  exact W.vret hx hb hr (fun t ht hW => ⟨⟨(iv_2, ar_3), rfl, ⟨by show iv_2 = _; rw [eiv_2, eiv_1], fun c h => by show ar_3 c = ar c; rw [ear_3, ua_o h]⟩, by show va_P _ _ _ _; rw [ht]; exact hP⟩, hS.F ht⟩) hS.2.2 dX0_take_25
set_option maxHeartbeats 4000000 in
set_option maxRecDepth 100000 in
theorem c0_weigh (l : Launch) (D : va_G) (cy : Nat → ClassId) (ad : Nat → Nat) (hI : gInj ad) (sz : Nat) (iv : gIv) (ar : gAr)  (h4 : (iv 74 4).toInt = 0) (h5 : (iv 74 5).toInt = 0) : Met l yX0_weigh wsX0_weigh ({ frames := 2, cells := 0, slots := 0, locals := 62 } : Room) (va_Pc [.ref (ad 74)] (gPre D cy ad sz iv ar)) (va_Qv (fun (u : gIv × gAr) => ((u.1 74 5).toInt = 1 ∧ (u.1 74 6).toInt = 1 ∧ (u.1 74 7).toInt = 0 ∧ (u.1 74 8).toInt = 0) ∧ (∀ a b, ¬ (a = 74 ∧ 5 ≤ b) → u.1 a b = iv a b) ∧ ∀ c, c ≠ 77 → u.2 c = ar c) (gPost D cy ad) (gA ad sz)) 0 0 (gA ad sz) := by
  refine Met.ofW (cc := cX0_weigh) (maxL := 5) (ret := none) (by decide) rfl ?_
  intro p e s m args below meth c s₁ B hml hv
  obtain ⟨rfl, rfl, hP, hK, hSt, hNw⟩ := hv
  have hx := B.exec
  have hb := B.bytes
  have hr := B.returns
  have hts := atoms_spec (ws := wsX0_weigh) B.pre
  have hown : s.vm.findClass RX0 = some m.cls := findClass_of_methodNamed B.named
  have hlocks := B.notSynchronized
  have hS : va_S (gA ad s.heap.size) s.heap s.heap [] := va_S.rf
  have inX0 : ∀ w ∈ u_ws RX0 TX0 9, w ∈ wsX0_weigh := by decide +kernel
  have lk0 := hts (.fieldLink RX0 52 "FormationPlanner$Assigner" "size" "I") (by decide +kernel)
  have lk1 := hts (.fieldLink RX0 53 "FormationPlanner$Assigner" "all" "I") (by decide +kernel)
  have lk2 := hts (.fieldLink RX0 86 "FormationPlanner$Assigner" "alike" "I") (by decide +kernel)
  have lk3 := hts (.fieldLink RX0 83 "FormationPlanner$Assigner" "greatest" "I") (by decide +kernel)
  have hl := lv_entry ([.ref (ad 74)]) (n := 5) (Nat.le_of_ble_eq_true rfl)
  rw [lg_entry_eq]
  generalize (lg_sl ([.ref (ad 74)]) ++ List.replicate (5 - (lg_sl ([.ref (ad 74)])).length) Slot.unset).toArray = ls at hl ⊢
  have hl : lv_has ls 5 [(0, .ref (ad 74))] := hl
  obtain ⟨Q, hQ⟩ : ∃ Q, Q = MQ below (va_Qv (fun (u : gIv × gAr) => ((u.1 74 5).toInt = 1 ∧ (u.1 74 6).toInt = 1 ∧ (u.1 74 7).toInt = 0 ∧ (u.1 74 8).toInt = 0) ∧ (∀ a b, ¬ (a = 74 ∧ 5 ≤ b) → u.1 a b = iv a b) ∧ ∀ c, c ≠ 77 → u.2 c = ar c) (gPost D cy ad) (gA ad s.heap.size)) (([.ref (ad 74)] : List Value).toArray) s 0 0 (gA ad s.heap.size) := ⟨_, rfl⟩
  rw [← hQ]
  refine lv_iconst (v := 0) hx hb dX0_weigh_0 (by decide) ?_
  refine lv_istore_n (lv' := [(1, .int 0), (0, .ref (ad 74))]) hx hb dX0_weigh_1 rfl hl (by decide) rfl (fun ls hl => ?_)
  refine lv_iconst (v := 0) hx hb dX0_weigh_2 (by decide) ?_
  refine lv_istore_n (lv' := [(2, .int 0), (1, .int 0), (0, .ref (ad 74))]) hx hb dX0_weigh_3 rfl hl (by decide) rfl (fun ls hl => ?_)
  refine lv_iconst (v := 0) hx hb dX0_weigh_4 (by decide) ?_
  refine lv_istore_n (lv' := [(3, .int 0), (2, .int 0), (1, .int 0), (0, .ref (ad 74))]) hx hb dX0_weigh_5 rfl hl (by decide) rfl (fun ls hl => ?_)
  refine lv_iload_n hx hb dX0_weigh_6 rfl (lv_at hl 0 rfl) ?_
  refine lv_aload_n hx hb dX0_weigh_7 rfl (lv_at hl 3 rfl) ?_
  refine va_get (D := D) (ci := 0) (v := .int (iv 74 4)) (C := RX0) (T := TX0) (N := 9) hx hb hts inX0 hown hK hP 74 (g_at0 (Nat.le_of_ble_eq_true rfl) rfl) rfl 4 (by decide) lk0 (fun _ h9 => h9) rfl dX0_weigh_8 ?_
  refine lv_icmp_ge (tgt := 58) hx hb dX0_weigh_11 (by decide) (fun c_1 => ?_) (fun c_1 => ?_)
  · skip
    have q_1 : (0 : Int) ≤ (0 : Int) := i_le2 h4 (show (0 : Int32).toInt = (0 : Int) from rfl) c_1
    refine lv_aload_n hx hb dX0_weigh_58 rfl (lv_at hl 3 rfl) ?_
    refine lv_dup hx hb dX0_weigh_59 rfl ?_
    refine va_get (D := D) (ci := 0) (v := .int (iv 74 5)) (C := RX0) (T := TX0) (N := 9) hx hb hts inX0 hown hK hP 74 (g_at0 (Nat.le_of_ble_eq_true rfl) rfl) rfl 5 (by decide) lk1 (fun _ h9 => h9) rfl dX0_weigh_60 ?_
    refine lv_iconst (v := 1) hx hb dX0_weigh_63 (by decide) ?_
    refine lv_iadd hx hb dX0_weigh_64 ?_
    refine lv_topi (fun v_2 ev_2 => ?_)
    have tv_2 : v_2.toInt = (0 : Int) + (1 : Int) := i_add h5 (show (1 : Int32).toInt = (1 : Int) from rfl) (by omega) (by omega) ev_2
    refine va_put (D := D) (ci := 0) (v := .int v_2) (ty := .int) (C := RX0) (T := TX0) (N := 9) hx hb hts inX0 tyX0 tyX0_ok nmX0 hown hK hP (gD hI) hS 74 (g_at0 (Nat.le_of_ble_eq_true rfl) rfl) rfl 5 (by decide) lk1 (fun _ h9 => h9) rfl (by decide +kernel) rfl rfl (Nat.le_of_ble_eq_true rfl) dX0_weigh_65 (fun H locs hP _ hS => ?_)
    have hP : va_P D vwCl (GW cy ad (u2 iv 74 5 v_2) ar) H := by rw [← g_pt0_5 (Nat.le_of_ble_eq_true rfl) rfl]; exact hP
    obtain ⟨iv_3, eiv_3⟩ : ∃ z : gIv, z = u2 iv 74 5 v_2 := ⟨_, rfl⟩
    rw [← eiv_3] at hP
    refine lv_aload_n hx hb dX0_weigh_68 rfl (lv_at hl 3 rfl) ?_
    refine va_get (D := D) (ci := 0) (v := .int (iv_3 74 5)) (C := RX0) (T := TX0) (N := 9) hx hb hts inX0 hown hK hP 74 (g_at0 (Nat.le_of_ble_eq_true rfl) rfl) rfl 5 (by decide) lk1 (fun _ h9 => h9) rfl dX0_weigh_69 ?_
    have f_4 : iv_3 74 5 = v_2 := by rw [eiv_3]; exact u2_s _ _ _ _
    refine lv_iconst (v := 1) hx hb dX0_weigh_72 (by decide) ?_
    refine lv_icmp_eq (tgt := 84) hx hb dX0_weigh_73 (by decide) (fun c_5 => ?_) (fun c_5 => ?_)
    · skip
      have q_5 : v_2.toInt = (1 : Int) := i_eq2 ((congrArg Int32.toInt f_4).trans (rfl : v_2.toInt = v_2.toInt)) (show (1 : Int32).toInt = (1 : Int) from rfl) c_5
      refine lv_aload_n hx hb dX0_weigh_84 rfl (lv_at hl 3 rfl) ?_
      refine lv_iconst (v := 0) hx hb dX0_weigh_85 (by decide) ?_
      refine va_put (D := D) (ci := 0) (v := .int 0) (ty := .int) (C := RX0) (T := TX0) (N := 9) hx hb hts inX0 tyX0 tyX0_ok nmX0 hown hK hP (gD hI) hS 74 (g_at0 (Nat.le_of_ble_eq_true rfl) rfl) rfl 6 (by decide) lk2 (fun _ h9 => h9) rfl (by decide +kernel) rfl rfl (Nat.le_of_ble_eq_true rfl) dX0_weigh_86 (fun H locs hP _ hS => ?_)
      have hP : va_P D vwCl (GW cy ad (u2 iv_3 74 6 0) ar) H := by rw [← g_pt0_6 (Nat.le_of_ble_eq_true rfl) rfl]; exact hP
      obtain ⟨iv_6, eiv_6⟩ : ∃ z : gIv, z = u2 iv_3 74 6 0 := ⟨_, rfl⟩
      rw [← eiv_6] at hP
      refine lv_aload_n hx hb dX0_weigh_89 rfl (lv_at hl 3 rfl) ?_
      refine lv_iload_n hx hb dX0_weigh_90 rfl (lv_at hl 2 rfl) ?_
      refine lv_iload_n hx hb dX0_weigh_91 rfl (lv_at hl 1 rfl) ?_
      have zl_7 : (0 : Int32).toInt = (0 : Int) := rfl
      have zl_8 : (0 : Int32).toInt = (0 : Int) := rfl
      refine g_callv (va_runV (As := [.int 0, .int 0]) (rest := []) ⟨hx, hb, hml, hown, hts⟩ (c_X0_take l D cy ad hI _ iv_6 ar 0 0) (cwV 2 hts gX0_weigh_X0_take rfl rfl rfl (by decide +kernel) ⟨Nat.le_of_ble_eq_true rfl, Nat.le_of_ble_eq_true rfl⟩) (g_preV hP hK hSt hNw hS (g_at0 (Nat.le_of_ble_eq_true rfl) rfl) rfl) rfl rfl hl.1 rfl (lv_room (Nat.le_of_ble_eq_true rfl)) dX0_weigh_92 ⟨Nat.zero_le _, Nat.zero_le _⟩) hS (fun iv_9 ar_9 H locs w_9 hP hS => ?_)
      try dsimp only at w_9
      obtain ⟨iv_10, eiv_10⟩ : ∃ z : gIv, z = u2 iv_6 74 7 0 := ⟨_, rfl⟩
      have eiv_9 : iv_9 = u2 iv_10 74 8 0 := by rw [eiv_10]; exact w_9.1
      refine lv_goto (tgt := 120) hx hb dX0_weigh_95 (by decide) ?_
      refine lv_iload_n hx hb dX0_weigh_120 rfl (lv_at hl 2 rfl) ?_
      refine lv_aload_n hx hb dX0_weigh_121 rfl (lv_at hl 3 rfl) ?_
      refine va_get (D := D) (ci := 0) (v := .int (iv_9 74 7)) (C := RX0) (T := TX0) (N := 9) hx hb hts inX0 hown hK hP 74 (g_at0 (Nat.le_of_ble_eq_true rfl) rfl) rfl 7 (by decide) lk3 (fun _ h9 => h9) rfl dX0_weigh_122 ?_
      have f_11 : iv_9 74 7 = 0 := by rw [eiv_9, u2_o (by omega)]; rw [eiv_10]; exact u2_s _ _ _ _
      refine lv_icmp_ne (tgt := 138) hx hb dX0_weigh_125 (by decide) (fun c_12 => ?_) (fun c_12 => ?_)
      · skip
        have q_12 : (0 : Int) ≠ (0 : Int) := i_ne2 (show (0 : Int32).toInt = (0 : Int) from rfl) ((congrArg Int32.toInt f_11).trans (show (0 : Int32).toInt = (0 : Int) from rfl)) c_12
        exfalso; omega
      · skip
        have q_12 : (0 : Int) = (0 : Int) := i_eq2 (show (0 : Int32).toInt = (0 : Int) from rfl) ((congrArg Int32.toInt f_11).trans (show (0 : Int32).toInt = (0 : Int) from rfl)) c_12
        refine lv_aload_n hx hb dX0_weigh_128 rfl (lv_at hl 3 rfl) ?_
        refine lv_dup hx hb dX0_weigh_129 rfl ?_
        refine va_get (D := D) (ci := 0) (v := .int (iv_9 74 6)) (C := RX0) (T := TX0) (N := 9) hx hb hts inX0 hown hK hP 74 (g_at0 (Nat.le_of_ble_eq_true rfl) rfl) rfl 6 (by decide) lk2 (fun _ h9 => h9) rfl dX0_weigh_130 ?_
        have f_13 : iv_9 74 6 = 0 := by rw [eiv_9, u2_o (by omega)]; rw [eiv_10, u2_o (by omega)]; rw [eiv_6]; exact u2_s _ _ _ _
        refine lv_iconst (v := 1) hx hb dX0_weigh_133 (by decide) ?_
        refine lv_iadd hx hb dX0_weigh_134 ?_
        refine lv_topi (fun v_14 ev_14 => ?_)
        have tv_14 : v_14.toInt = (0 : Int) + (1 : Int) := i_add ((congrArg Int32.toInt f_13).trans (show (0 : Int32).toInt = (0 : Int) from rfl)) (show (1 : Int32).toInt = (1 : Int) from rfl) (by omega) (by omega) ev_14
        refine va_put (D := D) (ci := 0) (v := .int v_14) (ty := .int) (C := RX0) (T := TX0) (N := 9) hx hb hts inX0 tyX0 tyX0_ok nmX0 hown hK hP (gD hI) hS 74 (g_at0 (Nat.le_of_ble_eq_true rfl) rfl) rfl 6 (by decide) lk2 (fun _ h9 => h9) rfl (by decide +kernel) rfl rfl (Nat.le_of_ble_eq_true rfl) dX0_weigh_135 (fun H locs hP _ hS => ?_)
        have hP : va_P D vwCl (GW cy ad (u2 iv_9 74 6 v_14) ar_9) H := by rw [← g_pt0_6 (Nat.le_of_ble_eq_true rfl) rfl]; exact hP
        obtain ⟨iv_15, eiv_15⟩ : ∃ z : gIv, z = u2 iv_9 74 6 v_14 := ⟨_, rfl⟩
        rw [← eiv_15] at hP
        have f_16 : iv_15 74 5 = v_2 := by rw [eiv_15, u2_o (by omega)]; rw [eiv_9, u2_o (by omega)]; rw [eiv_10, u2_o (by omega)]; rw [eiv_6, u2_o (by omega)]; rw [eiv_3]; exact u2_s _ _ _ _
        have f_17 : iv_15 74 6 = v_14 := by rw [eiv_15]; exact u2_s _ _ _ _
        have f_18 : iv_15 74 7 = 0 := by rw [eiv_15, u2_o (by omega)]; rw [eiv_9, u2_o (by omega)]; rw [eiv_10]; exact u2_s _ _ _ _
        have f_19 : iv_15 74 8 = 0 := by rw [eiv_15, u2_o (by omega)]; rw [eiv_9]; exact u2_s _ _ _ _
        rw [hQ]
        exact W.vret hx hb hr (fun t ht hW => ⟨⟨(iv_15, ar_9), rfl, ⟨⟨(((congrArg Int32.toInt f_16).trans (rfl : v_2.toInt = v_2.toInt))).trans (by omega), (((congrArg Int32.toInt f_17).trans (rfl : v_14.toInt = v_14.toInt))).trans (by omega), (((congrArg Int32.toInt f_18).trans (show (0 : Int32).toInt = (0 : Int) from rfl))), (((congrArg Int32.toInt f_19).trans (show (0 : Int32).toInt = (0 : Int) from rfl)))⟩, fun a b h => by show iv_15 a b = iv a b; rw [eiv_15, u2_o (by omega)]; rw [eiv_9, u2_o (by omega)]; rw [eiv_10, u2_o (by omega)]; rw [eiv_6, u2_o (by omega)]; rw [eiv_3, u2_o (by omega)], fun a h => by show ar_9 a = ar a; rw [w_9.2 a (by omega)]⟩, by show va_P _ _ _ _; rw [ht]; exact hP⟩, hS.F ht⟩) hS.2.2 dX0_weigh_138
    · skip
      have q_5 : v_2.toInt ≠ (1 : Int) := i_ne2 ((congrArg Int32.toInt f_4).trans (rfl : v_2.toInt = v_2.toInt)) (show (1 : Int32).toInt = (1 : Int) from rfl) c_5
      exfalso; omega
  · skip
    have q_1 : (0 : Int) < (0 : Int) := i_nle2 h4 (show (0 : Int32).toInt = (0 : Int) from rfl) c_1
    exfalso; omega
set_option maxHeartbeats 4000000 in
set_option maxRecDepth 100000 in
theorem c0_assign (l : Launch) (D : va_G) (cy : Nat → ClassId) (ad : Nat → Nat) (hI : gInj ad) (sz : Nat) (iv : gIv) (ar : gAr)  (h1 : (iv 4 1).toInt = 0) (h2 : (iv 6 1).toInt = 0) : Met l yX0_assign wsX0_assign ({ frames := 3, cells := 0, slots := 0, locals := 86 } : Room) (va_Pc [.ref (ad 74)] (gPre D cy ad sz iv ar)) (va_Qi (fun (r : Int32) (u : gIv × gAr) => r.toInt = 0 ∧ ((u.1 74 4).toInt = 0 ∧ (u.1 74 5).toInt = 1 ∧ (u.1 74 6).toInt = 1 ∧ (u.1 74 7).toInt = 0 ∧ (u.1 74 8).toInt = 0) ∧ (∀ a b, a ≠ 74 → u.1 a b = iv a b) ∧ ∀ c, c ≠ 77 → u.2 c = ar c) (gPost D cy ad) (gA ad sz)) 0 0 (gA ad sz) := by
  refine Met.ofW (cc := cX0_assign) (maxL := 3) (ret := (some .int)) (by decide) rfl ?_
  intro p e s m args below meth c s₁ B hml hv
  obtain ⟨rfl, rfl, hP, hK, hSt, hNw⟩ := hv
  have hx := B.exec
  have hb := B.bytes
  have hr := B.returns
  have hts := atoms_spec (ws := wsX0_assign) B.pre
  have hown : s.vm.findClass RX0 = some m.cls := findClass_of_methodNamed B.named
  have hlocks := B.notSynchronized
  have hS : va_S (gA ad s.heap.size) s.heap s.heap [] := va_S.rf
  have inX0 : ∀ w ∈ u_ws RX0 TX0 9, w ∈ wsX0_assign := by decide +kernel
  have inX5 : ∀ w ∈ u_ws RX5 TX5 2, w ∈ wsX0_assign := by decide +kernel
  have inX8 : ∀ w ∈ u_ws RX8 TX8 5, w ∈ wsX0_assign := by decide +kernel
  have lk0 := hts (.fieldLink RX0 24 "FormationPlanner$Assigner" "scene" "LFormationPlanner$Scene;") (by decide +kernel)
  have lk1 := hts (.fieldLink RX0 31 "FormationPlanner$Scene" "drones" "LFormationPlanner$Places;") (by decide +kernel)
  have lk2 := hts (.fieldLink RX0 37 "FormationPlanner$Places" "size" "I") (by decide +kernel)
  have lk3 := hts (.fieldLink RX0 43 "FormationPlanner$Scene" "slots" "LFormationPlanner$Places;") (by decide +kernel)
  have lk4 := hts (.methodLink RX0 46 Lib.Math.min.name) (by decide +kernel)
  have lk5 := hts (.static Lib.Math.min.name) (by decide +kernel)
  have lk6 := hts (.initialized "java/lang/Math") (by decide +kernel)
  have lk7 := hts (.code Lib.Math.min.name Lib.Math.min.code 2 (some .int)) (by decide +kernel)
  have lk8 := hts (.fieldLink RX0 52 "FormationPlanner$Assigner" "size" "I") (by decide +kernel)
  have lk9 := hts (.fieldLink RX0 53 "FormationPlanner$Assigner" "all" "I") (by decide +kernel)
  have hl := lv_entry ([.ref (ad 74)]) (n := 3) (Nat.le_of_ble_eq_true rfl)
  rw [lg_entry_eq]
  generalize (lg_sl ([.ref (ad 74)]) ++ List.replicate (3 - (lg_sl ([.ref (ad 74)])).length) Slot.unset).toArray = ls at hl ⊢
  have hl : lv_has ls 3 [(0, .ref (ad 74))] := hl
  obtain ⟨Q, hQ⟩ : ∃ Q, Q = MQ below (va_Qi (fun (r : Int32) (u : gIv × gAr) => r.toInt = 0 ∧ ((u.1 74 4).toInt = 0 ∧ (u.1 74 5).toInt = 1 ∧ (u.1 74 6).toInt = 1 ∧ (u.1 74 7).toInt = 0 ∧ (u.1 74 8).toInt = 0) ∧ (∀ a b, a ≠ 74 → u.1 a b = iv a b) ∧ ∀ c, c ≠ 77 → u.2 c = ar c) (gPost D cy ad) (gA ad s.heap.size)) (([.ref (ad 74)] : List Value).toArray) s 0 0 (gA ad s.heap.size) := ⟨_, rfl⟩
  rw [← hQ]
  refine lv_aload_n hx hb dX0_assign_0 rfl (lv_at hl 0 rfl) ?_
  refine va_get (D := D) (ci := 0) (v := .ref (ad 1)) (C := RX0) (T := TX0) (N := 9) hx hb hts inX0 hown hK hP 74 (g_at0 (Nat.le_of_ble_eq_true rfl) rfl) rfl 0 (by decide) lk0 (fun _ h9 => h9) rfl dX0_assign_1 ?_
  refine va_get (D := D) (ci := 8) (v := .ref (ad 4)) (C := RX8) (T := TX8) (N := 5) hx hb hts inX8 hown hK hP 1 (g_at8 (Nat.le_of_ble_eq_true rfl) rfl) rfl 2 (by decide) lk1 (fun _ h9 => h9) rfl dX0_assign_4 ?_
  refine va_get (D := D) (ci := 5) (v := .int (iv 4 1)) (C := RX5) (T := TX5) (N := 2) hx hb hts inX5 hown hK hP 4 (g_at5 (Nat.le_of_ble_eq_true rfl) rfl) rfl 1 (by decide) lk2 (fun _ h9 => h9) rfl dX0_assign_7 ?_
  refine lv_aload_n hx hb dX0_assign_10 rfl (lv_at hl 0 rfl) ?_
  refine va_get (D := D) (ci := 0) (v := .ref (ad 1)) (C := RX0) (T := TX0) (N := 9) hx hb hts inX0 hown hK hP 74 (g_at0 (Nat.le_of_ble_eq_true rfl) rfl) rfl 0 (by decide) lk0 (fun _ h9 => h9) rfl dX0_assign_11 ?_
  refine va_get (D := D) (ci := 8) (v := .ref (ad 6)) (C := RX8) (T := TX8) (N := 5) hx hb hts inX8 hown hK hP 1 (g_at8 (Nat.le_of_ble_eq_true rfl) rfl) rfl 3 (by decide) lk3 (fun _ h9 => h9) rfl dX0_assign_14 ?_
  refine va_get (D := D) (ci := 5) (v := .int (iv 6 1)) (C := RX5) (T := TX5) (N := 2) hx hb hts inX5 hown hK hP 6 (g_at5 (Nat.le_of_ble_eq_true rfl) rfl) rfl 1 (by decide) lk2 (fun _ h9 => h9) rfl dX0_assign_17 ?_
  refine lv_icmp_eq (tgt := 26) hx hb dX0_assign_20 (by decide) (fun c_1 => ?_) (fun c_1 => ?_)
  · skip
    have q_1 : (0 : Int) = (0 : Int) := i_eq2 h1 h2 c_1
    refine lv_aload_n hx hb dX0_assign_26 rfl (lv_at hl 0 rfl) ?_
    refine lv_aload_n hx hb dX0_assign_27 rfl (lv_at hl 0 rfl) ?_
    refine va_get (D := D) (ci := 0) (v := .ref (ad 1)) (C := RX0) (T := TX0) (N := 9) hx hb hts inX0 hown hK hP 74 (g_at0 (Nat.le_of_ble_eq_true rfl) rfl) rfl 0 (by decide) lk0 (fun _ h9 => h9) rfl dX0_assign_28 ?_
    refine va_get (D := D) (ci := 8) (v := .ref (ad 4)) (C := RX8) (T := TX8) (N := 5) hx hb hts inX8 hown hK hP 1 (g_at8 (Nat.le_of_ble_eq_true rfl) rfl) rfl 2 (by decide) lk1 (fun _ h9 => h9) rfl dX0_assign_31 ?_
    refine va_get (D := D) (ci := 5) (v := .int (iv 4 1)) (C := RX5) (T := TX5) (N := 2) hx hb hts inX5 hown hK hP 4 (g_at5 (Nat.le_of_ble_eq_true rfl) rfl) rfl 1 (by decide) lk2 (fun _ h9 => h9) rfl dX0_assign_34 ?_
    refine lv_bipush (v := 6) hx hb dX0_assign_37 (by decide) ?_
    refine va_mmin (rest := [.ref (ad 74)]) hx hb (hml.trans hl.1.symm) hown lk4 lk5 lk6 lk7 (Nat.le_of_ble_eq_true rfl) (Nat.le_of_ble_eq_true rfl) (Nat.zero_le _) (Nat.zero_le _) dX0_assign_39 ?_
    refine lv_topi (fun v_2 ev_2 => ?_)
    have tv_2 : v_2.toInt = min (0 : Int) (6 : Int) := i_min h1 (show (6 : Int32).toInt = (6 : Int) from rfl) ev_2
    refine va_put (D := D) (ci := 0) (v := .int v_2) (ty := .int) (C := RX0) (T := TX0) (N := 9) hx hb hts inX0 tyX0 tyX0_ok nmX0 hown hK hP (gD hI) hS 74 (g_at0 (Nat.le_of_ble_eq_true rfl) rfl) rfl 4 (by decide) lk8 (fun _ h9 => h9) rfl (by decide +kernel) rfl rfl (Nat.le_of_ble_eq_true rfl) dX0_assign_42 (fun H locs hP _ hS => ?_)
    have hP : va_P D vwCl (GW cy ad (u2 iv 74 4 v_2) ar) H := by rw [← g_pt0_4 (Nat.le_of_ble_eq_true rfl) rfl]; exact hP
    obtain ⟨iv_3, eiv_3⟩ : ∃ z : gIv, z = u2 iv 74 4 v_2 := ⟨_, rfl⟩
    rw [← eiv_3] at hP
    refine lv_aload_n hx hb dX0_assign_45 rfl (lv_at hl 0 rfl) ?_
    refine lv_iconst (v := 0) hx hb dX0_assign_46 (by decide) ?_
    refine va_put (D := D) (ci := 0) (v := .int 0) (ty := .int) (C := RX0) (T := TX0) (N := 9) hx hb hts inX0 tyX0 tyX0_ok nmX0 hown hK hP (gD hI) hS 74 (g_at0 (Nat.le_of_ble_eq_true rfl) rfl) rfl 5 (by decide) lk9 (fun _ h9 => h9) rfl (by decide +kernel) rfl rfl (Nat.le_of_ble_eq_true rfl) dX0_assign_47 (fun H locs hP _ hS => ?_)
    have hP : va_P D vwCl (GW cy ad (u2 iv_3 74 5 0) ar) H := by rw [← g_pt0_5 (Nat.le_of_ble_eq_true rfl) rfl]; exact hP
    obtain ⟨iv_4, eiv_4⟩ : ∃ z : gIv, z = u2 iv_3 74 5 0 := ⟨_, rfl⟩
    rw [← eiv_4] at hP
    refine lv_iconst (v := 0) hx hb dX0_assign_50 (by decide) ?_
    refine lv_istore_n (lv' := [(1, .int 0), (0, .ref (ad 74))]) hx hb dX0_assign_51 rfl hl (by decide) rfl (fun ls hl => ?_)
    refine lv_iload_n hx hb dX0_assign_52 rfl (lv_at hl 0 rfl) ?_
    refine lv_aload_n hx hb dX0_assign_53 rfl (lv_at hl 1 rfl) ?_
    refine va_get (D := D) (ci := 0) (v := .int (iv_4 74 4)) (C := RX0) (T := TX0) (N := 9) hx hb hts inX0 hown hK hP 74 (g_at0 (Nat.le_of_ble_eq_true rfl) rfl) rfl 4 (by decide) lk8 (fun _ h9 => h9) rfl dX0_assign_54 ?_
    have f_5 : iv_4 74 4 = v_2 := by rw [eiv_4, u2_o (by omega)]; rw [eiv_3]; exact u2_s _ _ _ _
    refine lv_icmp_ge (tgt := 99) hx hb dX0_assign_57 (by decide) (fun c_6 => ?_) (fun c_6 => ?_)
    · skip
      have q_6 : v_2.toInt ≤ (0 : Int) := i_le2 ((congrArg Int32.toInt f_5).trans (rfl : v_2.toInt = v_2.toInt)) (show (0 : Int32).toInt = (0 : Int) from rfl) c_6
      refine lv_iconst (v := 1) hx hb dX0_assign_99 (by decide) ?_
      refine lv_istore_n (lv' := [(1, .int 1), (0, .ref (ad 74))]) hx hb dX0_assign_100 rfl hl (by decide) rfl (fun ls hl => ?_)
      refine lv_iconst (v := 0) hx hb dX0_assign_101 (by decide) ?_
      refine lv_istore_n (lv' := [(2, .int 0), (1, .int 1), (0, .ref (ad 74))]) hx hb dX0_assign_102 rfl hl (by decide) rfl (fun ls hl => ?_)
      refine lv_iload_n hx hb dX0_assign_103 rfl (lv_at hl 0 rfl) ?_
      refine lv_sipush (v := 720) hx hb dX0_assign_104 (by decide) ?_
      refine lv_icmp_ge (tgt := 129) hx hb dX0_assign_107 (by decide) (fun c_7 => ?_) (fun c_7 => ?_)
      · skip
        have q_7 : (720 : Int) ≤ (0 : Int) := i_le2 (show (720 : Int32).toInt = (720 : Int) from rfl) (show (0 : Int32).toInt = (0 : Int) from rfl) c_7
        exfalso; omega
      · skip
        have q_7 : (0 : Int) < (720 : Int) := i_nle2 (show (720 : Int32).toInt = (720 : Int) from rfl) (show (0 : Int32).toInt = (0 : Int) from rfl) c_7
        refine lv_iload_n hx hb dX0_assign_110 rfl (lv_at hl 1 rfl) ?_
        refine lv_if_eq (tgt := 129) hx hb dX0_assign_111 (by decide) (fun c_8 => ?_) (fun c_8 => ?_)
        · skip
          have q_8 : (1 : Int) = (0 : Int) := i_eq2 (show (1 : Int32).toInt = (1 : Int) from rfl) (show (0 : Int32).toInt = (0 : Int) from rfl) c_8
          exfalso; omega
        · skip
          have q_8 : (1 : Int) ≠ (0 : Int) := i_ne2 (show (1 : Int32).toInt = (1 : Int) from rfl) (show (0 : Int32).toInt = (0 : Int) from rfl) c_8
          refine lv_aload_n hx hb dX0_assign_114 rfl (lv_at hl 2 rfl) ?_
          have f_9 : iv_4 74 4 = v_2 := by rw [eiv_4, u2_o (by omega)]; rw [eiv_3]; exact u2_s _ _ _ _
          have f_10 : iv_4 74 5 = 0 := by rw [eiv_4]; exact u2_s _ _ _ _
          have h4w : (iv_4 74 4).toInt = 0 := (((congrArg Int32.toInt f_9).trans (rfl : v_2.toInt = v_2.toInt))).trans (by omega)
          have h5w : (iv_4 74 5).toInt = 0 := ((congrArg Int32.toInt f_10).trans (show (0 : Int32).toInt = (0 : Int) from rfl))
          refine g_callv (va_runV (As := []) (rest := []) ⟨hx, hb, hml, hown, hts⟩ (c0_weigh l D cy ad hI _ iv_4 ar h4w h5w) (cwV 0 hts gX0_assign_X0_weigh rfl rfl rfl (by decide +kernel) ⟨Nat.le_of_ble_eq_true rfl, Nat.le_of_ble_eq_true rfl⟩) (g_preV hP hK hSt hNw hS (g_at0 (Nat.le_of_ble_eq_true rfl) rfl) rfl) rfl rfl hl.1 rfl (lv_room (Nat.le_of_ble_eq_true rfl)) dX0_assign_115 ⟨Nat.zero_le _, Nat.zero_le _⟩) hS (fun iv_11 ar_11 H locs w_11 hP hS => ?_)
          try dsimp only at w_11
          refine lv_aload_n hx hb dX0_assign_118 rfl (lv_at hl 2 rfl) ?_
          have h4t : (iv_11 74 4).toInt = 0 := by rw [w_11.2.1 74 4 (by omega)]; exact h4w
          have h5t : (iv_11 74 5).toInt = 1 := w_11.1.1
          refine g_callSi (va_runV (As := []) (rest := []) ⟨hx, hb, hml, hown, hts⟩ (c0_nextTrial l D cy ad hI _ iv_11 ar_11 h4t) (cwV 0 hts gX0_assign_X0_nextTrial rfl rfl rfl (by decide +kernel) ⟨Nat.le_of_ble_eq_true rfl, Nat.le_of_ble_eq_true rfl⟩) (g_preV hP hK hSt hNw hS (g_at0 (Nat.le_of_ble_eq_true rfl) rfl) rfl) rfl rfl hl.1 rfl (lv_room (Nat.le_of_ble_eq_true rfl)) dX0_assign_119 ⟨Nat.zero_le _, Nat.zero_le _⟩) (fun r_12 w_12 => ?_)
          try dsimp only at w_12
          refine lv_istore_n (lv' := [(1, .int r_12), (2, .int 0), (0, .ref (ad 74))]) hx hb dX0_assign_122 rfl hl (by decide) rfl (fun ls hl => ?_)
          obtain ⟨x2_13, ex2_13⟩ : ∃ y : Int32, y = 0 + 1 := ⟨_, rfl⟩
          have tx2_13 : x2_13.toInt = (0 : Int) + (1 : Int) := i_add (show (0 : Int32).toInt = (0 : Int) from rfl) (show (1 : Int32).toInt = (1 : Int) from rfl) (by omega) (by omega) ex2_13
          refine lv_iinc (v := x2_13) (lv' := [(2, .int x2_13), (1, .int r_12), (0, .ref (ad 74))]) hx hb dX0_assign_123 hl (k := 1) rfl (by rw [ex2_13]; rfl) (by decide) rfl (fun ls hl => ?_)
          refine lv_goto (tgt := 103) hx hb dX0_assign_126 (by decide) ?_
          refine lv_iload_n hx hb dX0_assign_103 rfl (lv_at hl 0 rfl) ?_
          refine lv_sipush (v := 720) hx hb dX0_assign_104 (by decide) ?_
          refine lv_icmp_ge (tgt := 129) hx hb dX0_assign_107 (by decide) (fun c_14 => ?_) (fun c_14 => ?_)
          · skip
            have q_14 : (720 : Int) ≤ x2_13.toInt := i_le2 (show (720 : Int32).toInt = (720 : Int) from rfl) (rfl : x2_13.toInt = x2_13.toInt) c_14
            exfalso; omega
          · skip
            have q_14 : x2_13.toInt < (720 : Int) := i_nle2 (show (720 : Int32).toInt = (720 : Int) from rfl) (rfl : x2_13.toInt = x2_13.toInt) c_14
            refine lv_iload_n hx hb dX0_assign_110 rfl (lv_at hl 1 rfl) ?_
            refine lv_if_eq (tgt := 129) hx hb dX0_assign_111 (by decide) (fun c_15 => ?_) (fun c_15 => ?_)
            · skip
              have q_15 : (0 : Int) = (0 : Int) := i_eq2 w_12 (show (0 : Int32).toInt = (0 : Int) from rfl) c_15
              refine lv_aload_n hx hb dX0_assign_129 rfl (lv_at hl 2 rfl) ?_
              refine va_get (D := D) (ci := 0) (v := .int (iv_11 74 5)) (C := RX0) (T := TX0) (N := 9) hx hb hts inX0 hown hK hP 74 (g_at0 (Nat.le_of_ble_eq_true rfl) rfl) rfl 5 (by decide) lk9 (fun _ h9 => h9) rfl dX0_assign_130 ?_
              refine lv_if_ne (tgt := 141) hx hb dX0_assign_133 (by decide) (fun c_16 => ?_) (fun c_16 => ?_)
              · skip
                have q_16 : (iv_11 74 5).toInt ≠ (0 : Int) := i_ne2 (rfl : (iv_11 74 5).toInt = (iv_11 74 5).toInt) (show (0 : Int32).toInt = (0 : Int) from rfl) c_16
                refine lv_iconst (v := 0) hx hb dX0_assign_141 (by decide) ?_
                rw [hQ]
                exact W.iret (v := 0) hx hb hr (fun t ht hW => ⟨⟨0, (iv_11, ar_11), rfl, ⟨by have z0 := i_l0; omega, ⟨h4t, w_11.1⟩, fun a b h => by show iv_11 a b = iv a b; rw [w_11.2.1 a b (by omega)]; rw [eiv_4, u2_o (by omega)]; rw [eiv_3, u2_o (by omega)], fun a h => by show ar_11 a = ar a; rw [w_11.2.2 a (by omega)]⟩, by show va_P _ _ _ _; rw [ht]; exact hP⟩, hS.F ht⟩) hS.2.2 dX0_assign_142
              · skip
                have q_16 : (iv_11 74 5).toInt = (0 : Int) := i_eq2 (rfl : (iv_11 74 5).toInt = (iv_11 74 5).toInt) (show (0 : Int32).toInt = (0 : Int) from rfl) c_16
                refine lv_bipush (v := (-6)) hx hb dX0_assign_136 (by decide) ?_
                refine lv_goto (tgt := 142) hx hb dX0_assign_138 (by decide) ?_
                rw [hQ]
                exact W.iret (v := (-6)) hx hb hr (fun t ht hW => ⟨⟨(-6), (iv_11, ar_11), rfl, ⟨by have z0 := i_l0; omega, ⟨h4t, w_11.1⟩, fun a b h => by show iv_11 a b = iv a b; rw [w_11.2.1 a b (by omega)]; rw [eiv_4, u2_o (by omega)]; rw [eiv_3, u2_o (by omega)], fun a h => by show ar_11 a = ar a; rw [w_11.2.2 a (by omega)]⟩, by show va_P _ _ _ _; rw [ht]; exact hP⟩, hS.F ht⟩) hS.2.2 dX0_assign_142
            · skip
              have q_15 : (0 : Int) ≠ (0 : Int) := i_ne2 w_12 (show (0 : Int32).toInt = (0 : Int) from rfl) c_15
              exfalso; omega
    · skip
      have q_6 : (0 : Int) < v_2.toInt := i_nle2 ((congrArg Int32.toInt f_5).trans (rfl : v_2.toInt = v_2.toInt)) (show (0 : Int32).toInt = (0 : Int) from rfl) c_6
      exfalso; omega
  · skip
    have q_1 : (0 : Int) ≠ (0 : Int) := i_ne2 h1 h2 c_1
    exfalso; omega
