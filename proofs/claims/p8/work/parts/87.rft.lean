set_option maxHeartbeats 4000000 in
set_option maxRecDepth 100000 in
theorem c_X11_flightTime (l : Launch) (D : va_G) (cy : Nat → ClassId) (ad : Nat → Nat) (hI : mInj ad) (sz : Nat) (iv : gIv) (ar : gAr) (a : Int32) (b : Int32) (hri : RI iv ar) : Met l yX11_flightTime wsX11_flightTime ({ frames := 4, cells := 0, slots := 0, locals := 96 } : Room) (va_Pc [.ref (ad 0), .int a, .int b] (mPre D cy ad sz iv ar)) (va_Qi (fun (r : Int32) (u : gIv × gAr) => RI u.1 u.2 ∧ u.1 0 4 = iv 0 4 ∧ u.1 0 17 = iv 0 17) (mPost D cy ad) (mA ad sz)) 0 0 (mA ad sz) := by
  refine Met.ofW (cc := cX11_flightTime) (maxL := 3) (ret := (some .int)) (by decide) rfl ?_
  intro p e s m args below meth c s₁ B hml hv
  obtain ⟨rfl, rfl, hP, hK, hSt, hNw⟩ := hv
  have hx := B.exec
  have hb := B.bytes
  have hr := B.returns
  have hts := atoms_spec (ws := wsX11_flightTime) B.pre
  have hown : s.vm.findClass RX11 = some m.cls := findClass_of_methodNamed B.named
  have hlocks := B.notSynchronized
  have hS : va_S (mA ad s.heap.size) s.heap s.heap [] := va_S.rf
  have lk0 := hts (.constant RX11 124 100000) (by decide +kernel)
  have hl := lv_entry ([.ref (ad 0), .int a, .int b]) (n := 3) (Nat.le_of_ble_eq_true rfl)
  rw [lg_entry_eq]
  generalize (lg_sl ([.ref (ad 0), .int a, .int b]) ++ List.replicate (3 - (lg_sl ([.ref (ad 0), .int a, .int b])).length) Slot.unset).toArray = ls at hl ⊢
  have hl : lv_has ls 3 [(0, .ref (ad 0)), (1, .int a), (2, .int b)] := hl
  obtain ⟨Q, hQ⟩ : ∃ Q, Q = MQ below (va_Qi (fun (r : Int32) (u : gIv × gAr) => RI u.1 u.2 ∧ u.1 0 4 = iv 0 4 ∧ u.1 0 17 = iv 0 17) (mPost D cy ad) (mA ad s.heap.size)) (([.ref (ad 0), .int a, .int b] : List Value).toArray) s 0 0 (mA ad s.heap.size) := ⟨_, rfl⟩
  rw [← hQ]
  refine lv_iload_n hx hb dX11_flightTime_0 rfl (lv_at hl 1 rfl) ?_
  refine g_callSi (va_runS (As := [.int a]) (rest := []) ⟨hx, hb, hml, hown, hts⟩ (c_X11_isCell l a) (va_cwS 1 hts gX11_flightTime_X11_isCell rfl rfl rfl (by decide +kernel) ⟨Nat.le_of_ble_eq_true rfl, Nat.le_of_ble_eq_true rfl⟩) (g_preT) rfl rfl hl.1 rfl (lv_room (Nat.le_of_ble_eq_true rfl)) dX11_flightTime_1 ⟨Nat.zero_le _, Nat.zero_le _⟩) (fun r_1 w_1 => ?_)
  try dsimp only at w_1
  refine lv_if_eq (tgt := 14) hx hb dX11_flightTime_4 (by decide) (fun c_2 => ?_) (fun c_2 => ?_)
  · skip
    have q_2 : r_1.toInt = (0 : Int) := i_eq2 (rfl : r_1.toInt = r_1.toInt) (show (0 : Int32).toInt = (0 : Int) from rfl) c_2
    refine lv_bipush (v := (-2)) hx hb dX11_flightTime_14 (by decide) ?_
    rw [hQ]
    exact W.iret (v := (-2)) hx hb hr (fun t ht hW => ⟨⟨(-2), (iv, ar), rfl, ⟨hri, rfl, rfl⟩, by show va_P _ _ _ _; rw [ht]; exact hP⟩, hS.F ht⟩) hS.2.2 dX11_flightTime_16
  · skip
    have q_2 : r_1.toInt ≠ (0 : Int) := i_ne2 (rfl : r_1.toInt = r_1.toInt) (show (0 : Int32).toInt = (0 : Int) from rfl) c_2
    refine lv_iload_n hx hb dX11_flightTime_7 rfl (lv_at hl 2 rfl) ?_
    refine g_callSi (va_runS (As := [.int b]) (rest := []) ⟨hx, hb, hml, hown, hts⟩ (c_X11_isCell l b) (va_cwS 1 hts gX11_flightTime_X11_isCell rfl rfl rfl (by decide +kernel) ⟨Nat.le_of_ble_eq_true rfl, Nat.le_of_ble_eq_true rfl⟩) (g_preT) rfl rfl hl.1 rfl (lv_room (Nat.le_of_ble_eq_true rfl)) dX11_flightTime_8 ⟨Nat.zero_le _, Nat.zero_le _⟩) (fun r_3 w_3 => ?_)
    try dsimp only at w_3
    refine lv_if_ne (tgt := 17) hx hb dX11_flightTime_11 (by decide) (fun c_4 => ?_) (fun c_4 => ?_)
    · skip
      have q_4 : r_3.toInt ≠ (0 : Int) := i_ne2 (rfl : r_3.toInt = r_3.toInt) (show (0 : Int32).toInt = (0 : Int) from rfl) c_4
      refine lv_aload_n hx hb dX11_flightTime_17 rfl (lv_at hl 0 rfl) ?_
      refine lv_iload_n hx hb dX11_flightTime_18 rfl (lv_at hl 1 rfl) ?_
      refine lv_iload_n hx hb dX11_flightTime_19 rfl (lv_at hl 2 rfl) ?_
      refine m_calli (va_runV (As := [.int a, .int b]) (rest := []) ⟨hx, hb, hml, hown, hts⟩ (c_X11_time l D cy ad hI _ iv ar a b (by omega) (by omega) hri.2.2.2.2.1) (cwV 2 hts gX11_flightTime_X11_time rfl rfl rfl (by decide +kernel) ⟨Nat.le_of_ble_eq_true rfl, Nat.le_of_ble_eq_true rfl⟩) (m_preV hP hK hSt hNw hS (m_at11 (Nat.le_of_ble_eq_true rfl) rfl) rfl) rfl rfl hl.1 rfl (lv_room (Nat.le_of_ble_eq_true rfl)) dX11_flightTime_20 ⟨Nat.zero_le _, Nat.zero_le _⟩) hS (fun r_5 iv_5 ar_5 H locs w_5 hP hS => ?_)
      try dsimp only at w_5
      have wi_5 := (w_5.2.1).symm
      subst wi_5
      obtain ⟨-, -, wf1, wk1, -, -⟩ := w_5
      have hri2 := hri.time wf1 wk1
      refine lv_ldc (v := 100000) hx hb hown lk0 dX11_flightTime_23 ?_
      refine lv_icmp_ge (tgt := 37) hx hb dX11_flightTime_25 (by decide) (fun c_6 => ?_) (fun c_6 => ?_)
      · skip
        have q_6 : (100000 : Int) ≤ r_5.toInt := i_le2 (show (100000 : Int32).toInt = (100000 : Int) from rfl) (rfl : r_5.toInt = r_5.toInt) c_6
        refine lv_iconst (v := (-1)) hx hb dX11_flightTime_37 (by decide) ?_
        rw [hQ]
        exact W.iret (v := (-1)) hx hb hr (fun t ht hW => ⟨⟨(-1), (iv, ar_5), rfl, ⟨hri2, rfl, rfl⟩, by show va_P _ _ _ _; rw [ht]; exact hP⟩, hS.F ht⟩) hS.2.2 dX11_flightTime_38
      · skip
        have q_6 : r_5.toInt < (100000 : Int) := i_nle2 (show (100000 : Int32).toInt = (100000 : Int) from rfl) (rfl : r_5.toInt = r_5.toInt) c_6
        refine lv_aload_n hx hb dX11_flightTime_28 rfl (lv_at hl 0 rfl) ?_
        refine lv_iload_n hx hb dX11_flightTime_29 rfl (lv_at hl 1 rfl) ?_
        refine lv_iload_n hx hb dX11_flightTime_30 rfl (lv_at hl 2 rfl) ?_
        refine m_calli (va_runV (As := [.int a, .int b]) (rest := []) ⟨hx, hb, hml, hown, hts⟩ (c_X11_time l D cy ad hI _ iv ar_5 a b (by omega) (by omega) wk1) (cwV 2 hts gX11_flightTime_X11_time rfl rfl rfl (by decide +kernel) ⟨Nat.le_of_ble_eq_true rfl, Nat.le_of_ble_eq_true rfl⟩) (m_preV hP hK hSt hNw hS (m_at11 (Nat.le_of_ble_eq_true rfl) rfl) rfl) rfl rfl hl.1 rfl (lv_room (Nat.le_of_ble_eq_true rfl)) dX11_flightTime_31 ⟨Nat.zero_le _, Nat.zero_le _⟩) hS (fun r_7 iv_7 ar_7 H locs w_7 hP hS => ?_)
        try dsimp only at w_7
        have wi_7 := (w_7.2.1).symm
        subst wi_7
        obtain ⟨-, -, wf2, wk2, -, -⟩ := w_7
        have hri2 := hri2.time wf2 wk2
        refine lv_goto (tgt := 38) hx hb dX11_flightTime_34 (by decide) ?_
        rw [hQ]
        exact W.iret (v := r_7) hx hb hr (fun t ht hW => ⟨⟨r_7, (iv, ar_7), rfl, ⟨hri2, rfl, rfl⟩, by show va_P _ _ _ _; rw [ht]; exact hP⟩, hS.F ht⟩) hS.2.2 dX11_flightTime_38
    · skip
      have q_4 : r_3.toInt = (0 : Int) := i_eq2 (rfl : r_3.toInt = r_3.toInt) (show (0 : Int32).toInt = (0 : Int) from rfl) c_4
      refine lv_bipush (v := (-2)) hx hb dX11_flightTime_14 (by decide) ?_
      rw [hQ]
      exact W.iret (v := (-2)) hx hb hr (fun t ht hW => ⟨⟨(-2), (iv, ar), rfl, ⟨hri, rfl, rfl⟩, by show va_P _ _ _ _; rw [ht]; exact hP⟩, hS.F ht⟩) hS.2.2 dX11_flightTime_16
set_option maxHeartbeats 4000000 in
set_option maxRecDepth 100000 in
theorem c_X11_stuck (l : Launch) (D : va_G) (cy : Nat → ClassId) (ad : Nat → Nat) (hI : mInj ad) (sz : Nat) (iv : gIv) (ar : gAr)   : Met l yX11_stuck wsX11_stuck ({ frames := 0, cells := 0, slots := 0, locals := 0 } : Room) (va_Pc [.ref (ad 0)] (mPre D cy ad sz iv ar)) (vp_Si (fun r => True)) 0 0 (fun _ => False) := by
  refine Met.ofW (cc := cX11_stuck) (maxL := 1) (ret := (some .int)) (by decide) rfl ?_
  intro p e s m args below meth c s₁ B hml hv
  obtain ⟨rfl, rfl, hP, hK, hSt, hNw⟩ := hv
  have hx := B.exec
  have hb := B.bytes
  have hr := B.returns
  have hts := atoms_spec (ws := wsX11_stuck) B.pre
  have hown : s.vm.findClass RX11 = some m.cls := findClass_of_methodNamed B.named
  have hlocks := B.notSynchronized
  have hS : va_S (mA ad s.heap.size) s.heap s.heap [] := va_S.rf
  have inX11 : ∀ w ∈ u_ws RX11 TX11 30, w ∈ wsX11_stuck := by decide +kernel
  have lk0 := hts (.fieldLink RX11 35 "FormationPlannerModel" "stuck" "I") (by decide +kernel)
  have hl := lv_entry ([.ref (ad 0)]) (n := 1) (Nat.le_of_ble_eq_true rfl)
  rw [lg_entry_eq]
  generalize (lg_sl ([.ref (ad 0)]) ++ List.replicate (1 - (lg_sl ([.ref (ad 0)])).length) Slot.unset).toArray = ls at hl ⊢
  have hl : lv_has ls 1 [(0, .ref (ad 0))] := hl
  obtain ⟨Q, hQ⟩ : ∃ Q, Q = MQ below (vp_Si (fun r => True)) (([.ref (ad 0)] : List Value).toArray) s 0 0 (fun _ => False) := ⟨_, rfl⟩
  rw [← hQ]
  refine lv_aload_n hx hb dX11_stuck_0 rfl (lv_at hl 0 rfl) ?_
  refine va_get (D := D) (ci := 11) (v := .int (iv 0 16)) (C := RX11) (T := TX11) (N := 30) hx hb hts inX11 hown hK hP 0 (m_at11 (Nat.le_of_ble_eq_true rfl) rfl) rfl 16 (by decide) lk0 (fun _ h9 => h9) rfl dX11_stuck_1 ?_
  rw [hQ]
  exact W.iret (v := (iv 0 16)) hx hb hr (fun t ht hW => ⟨(iv 0 16), rfl, trivial, ht⟩) (fun q h => by cases h) dX11_stuck_4
set_option maxHeartbeats 4000000 in
set_option maxRecDepth 100000 in
theorem c_X11_look (l : Launch) (D : va_G) (cy : Nat → ClassId) (ad : Nat → Nat) (hI : mInj ad) (sz : Nat) (iv : gIv) (ar : gAr) (a : Int32) (hri : RI iv ar) : Met l yX11_look wsX11_look ({ frames := 2, cells := 0, slots := 0, locals := 42 } : Room) (va_Pc [.ref (ad 0), .int a] (mPre D cy ad sz iv ar)) (vp_Si (fun r => True)) 0 0 (fun _ => False) := by
  refine Met.ofW (cc := cX11_look) (maxL := 2) (ret := (some .int)) (by decide) rfl ?_
  intro p e s m args below meth c s₁ B hml hv
  obtain ⟨rfl, rfl, hP, hK, hSt, hNw⟩ := hv
  have hx := B.exec
  have hb := B.bytes
  have hr := B.returns
  have hts := atoms_spec (ws := wsX11_look) B.pre
  have hown : s.vm.findClass RX11 = some m.cls := findClass_of_methodNamed B.named
  have hlocks := B.notSynchronized
  have hS : va_S (mA ad s.heap.size) s.heap s.heap [] := va_S.rf
  have hl := lv_entry ([.ref (ad 0), .int a]) (n := 2) (Nat.le_of_ble_eq_true rfl)
  rw [lg_entry_eq]
  generalize (lg_sl ([.ref (ad 0), .int a]) ++ List.replicate (2 - (lg_sl ([.ref (ad 0), .int a])).length) Slot.unset).toArray = ls at hl ⊢
  have hl : lv_has ls 2 [(0, .ref (ad 0)), (1, .int a)] := hl
  obtain ⟨Q, hQ⟩ : ∃ Q, Q = MQ below (vp_Si (fun r => True)) (([.ref (ad 0), .int a] : List Value).toArray) s 0 0 (fun _ => False) := ⟨_, rfl⟩
  rw [← hQ]
  refine lv_iload_n hx hb dX11_look_0 rfl (lv_at hl 1 rfl) ?_
  refine g_callSi (va_runS (As := [.int a]) (rest := []) ⟨hx, hb, hml, hown, hts⟩ (c_X11_isCell l a) (va_cwS 1 hts gX11_look_X11_isCell rfl rfl rfl (by decide +kernel) ⟨Nat.le_of_ble_eq_true rfl, Nat.le_of_ble_eq_true rfl⟩) (g_preT) rfl rfl hl.1 rfl (lv_room (Nat.le_of_ble_eq_true rfl)) dX11_look_1 ⟨Nat.zero_le _, Nat.zero_le _⟩) (fun r_1 w_1 => ?_)
  try dsimp only at w_1
  refine lv_if_ne (tgt := 10) hx hb dX11_look_4 (by decide) (fun c_2 => ?_) (fun c_2 => ?_)
  · skip
    have q_2 : r_1.toInt ≠ (0 : Int) := i_ne2 (rfl : r_1.toInt = r_1.toInt) (show (0 : Int32).toInt = (0 : Int) from rfl) c_2
    refine lv_aload_n hx hb dX11_look_10 rfl (lv_at hl 0 rfl) ?_
    refine lv_iload_n hx hb dX11_look_11 rfl (lv_at hl 1 rfl) ?_
    refine g_callSi (va_runV (As := [.int a]) (rest := []) ⟨hx, hb, hml, hown, hts⟩ (c_X11_isObstacle l D cy ad hI _ iv ar a (by omega)) (cwV 1 hts gX11_look_X11_isObstacle rfl rfl rfl (by decide +kernel) ⟨Nat.le_of_ble_eq_true rfl, Nat.le_of_ble_eq_true rfl⟩) (m_preV hP hK hSt hNw hS (m_at11 (Nat.le_of_ble_eq_true rfl) rfl) rfl) rfl rfl hl.1 rfl (lv_room (Nat.le_of_ble_eq_true rfl)) dX11_look_12 ⟨Nat.zero_le _, Nat.zero_le _⟩) (fun r_3 w_3 => ?_)
    try dsimp only at w_3
    refine lv_if_eq (tgt := 22) hx hb dX11_look_15 (by decide) (fun c_4 => ?_) (fun c_4 => ?_)
    · skip
      have q_4 : r_3.toInt = (0 : Int) := i_eq2 (rfl : r_3.toInt = r_3.toInt) (show (0 : Int32).toInt = (0 : Int) from rfl) c_4
      refine lv_bipush (v := 10) hx hb dX11_look_22 (by decide) ?_
      refine lv_aload_n hx hb dX11_look_24 rfl (lv_at hl 0 rfl) ?_
      refine lv_iload_n hx hb dX11_look_25 rfl (lv_at hl 1 rfl) ?_
      refine g_callSi (va_runV (As := [.int a]) (rest := [.int 10]) ⟨hx, hb, hml, hown, hts⟩ (c_X11_droneAt l D cy ad hI _ iv ar a ⟨hri.1.1.1, hri.1.1.2.1⟩) (cwV 1 hts gX11_look_X11_droneAt rfl rfl rfl (by decide +kernel) ⟨Nat.le_of_ble_eq_true rfl, Nat.le_of_ble_eq_true rfl⟩) (m_preV hP hK hSt hNw hS (m_at11 (Nat.le_of_ble_eq_true rfl) rfl) rfl) rfl rfl hl.1 rfl (lv_room (Nat.le_of_ble_eq_true rfl)) dX11_look_26 ⟨Nat.zero_le _, Nat.zero_le _⟩) (fun r_5 w_5 => ?_)
      try dsimp only at w_5
      refine lv_iconst (v := 1) hx hb dX11_look_29 (by decide) ?_
      refine lv_iadd hx hb dX11_look_30 ?_
      refine lv_topi (fun v_6 ev_6 => ?_)
      have tv_6 : v_6.toInt = r_5.toInt + (1 : Int) := i_add (rfl : r_5.toInt = r_5.toInt) (show (1 : Int32).toInt = (1 : Int) from rfl) (by omega) (by omega) ev_6
      refine lv_imul hx hb dX11_look_31 ?_
      refine lv_topi (fun v_7 ev_7 => ?_)
      refine lv_bipush (v := 100) hx hb dX11_look_32 (by decide) ?_
      refine lv_aload_n hx hb dX11_look_34 rfl (lv_at hl 0 rfl) ?_
      refine lv_iload_n hx hb dX11_look_35 rfl (lv_at hl 1 rfl) ?_
      refine g_callSi (va_runV (As := [.int a]) (rest := [.int 100, .int v_7]) ⟨hx, hb, hml, hown, hts⟩ (c_X11_slotAt l D cy ad hI _ iv ar a ⟨hri.1.1.2.2.1, hri.1.1.2.2.2.1⟩) (cwV 1 hts gX11_look_X11_slotAt rfl rfl rfl (by decide +kernel) ⟨Nat.le_of_ble_eq_true rfl, Nat.le_of_ble_eq_true rfl⟩) (m_preV hP hK hSt hNw hS (m_at11 (Nat.le_of_ble_eq_true rfl) rfl) rfl) rfl rfl hl.1 rfl (lv_room (Nat.le_of_ble_eq_true rfl)) dX11_look_36 ⟨Nat.zero_le _, Nat.zero_le _⟩) (fun r_8 w_8 => ?_)
      try dsimp only at w_8
      refine lv_iconst (v := 1) hx hb dX11_look_39 (by decide) ?_
      refine lv_iadd hx hb dX11_look_40 ?_
      refine lv_topi (fun v_9 ev_9 => ?_)
      have tv_9 : v_9.toInt = r_8.toInt + (1 : Int) := i_add (rfl : r_8.toInt = r_8.toInt) (show (1 : Int32).toInt = (1 : Int) from rfl) (by omega) (by omega) ev_9
      refine lv_imul hx hb dX11_look_41 ?_
      refine lv_topi (fun v_10 ev_10 => ?_)
      refine lv_iadd hx hb dX11_look_42 ?_
      refine lv_topi (fun v_11 ev_11 => ?_)
      rw [hQ]
      exact W.iret (v := v_11) hx hb hr (fun t ht hW => ⟨v_11, rfl, trivial, ht⟩) (fun q h => by cases h) dX11_look_43
    · skip
      have q_4 : r_3.toInt ≠ (0 : Int) := i_ne2 (rfl : r_3.toInt = r_3.toInt) (show (0 : Int32).toInt = (0 : Int) from rfl) c_4
      refine lv_iconst (v := 1) hx hb dX11_look_18 (by decide) ?_
      refine lv_goto (tgt := 43) hx hb dX11_look_19 (by decide) ?_
      rw [hQ]
      exact W.iret (v := 1) hx hb hr (fun t ht hW => ⟨1, rfl, trivial, ht⟩) (fun q h => by cases h) dX11_look_43
  · skip
    have q_2 : r_1.toInt = (0 : Int) := i_eq2 (rfl : r_1.toInt = r_1.toInt) (show (0 : Int32).toInt = (0 : Int) from rfl) c_2
    refine lv_bipush (v := (-2)) hx hb dX11_look_7 (by decide) ?_
    rw [hQ]
    exact W.iret (v := (-2)) hx hb hr (fun t ht hW => ⟨(-2), rfl, trivial, ht⟩) (fun q h => by cases h) dX11_look_9
