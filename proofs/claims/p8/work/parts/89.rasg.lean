set_option maxHeartbeats 4000000 in
set_option maxRecDepth 100000 in
theorem c_X11_assigned (l : Launch) (D : va_G) (cy : Nat → ClassId) (ad : Nat → Nat) (hI : mInj ad) (sz : Nat) (iv : gIv) (ar : gAr) (a : Int32) (hri : RI iv ar) : Met l yX11_assigned wsX11_assigned ({ frames := 11, cells := 0, slots := 0, locals := 272 } : Room) (va_Pc [.ref (ad 0), .int a] (mPre D cy ad sz iv ar)) (va_Qi (fun (r : Int32) (u : gIv × gAr) => RI u.1 u.2 ∧ u.1 0 4 = iv 0 4 ∧ u.1 0 17 = iv 0 17) (mPost D cy ad) (mA ad sz)) 0 0 (mA ad sz) := by
  refine Met.ofW (cc := cX11_assigned) (maxL := 3) (ret := (some .int)) (by decide) rfl ?_
  intro p e s m args below meth c s₁ B hml hv
  obtain ⟨rfl, rfl, hP, hK, hSt, hNw⟩ := hv
  have hx := B.exec
  have hb := B.bytes
  have hr := B.returns
  have hts := atoms_spec (ws := wsX11_assigned) B.pre
  have hown : s.vm.findClass RX11 = some m.cls := findClass_of_methodNamed B.named
  have hlocks := B.notSynchronized
  have hS : va_S (mA ad s.heap.size) s.heap s.heap [] := va_S.rf
  have inX11 : ∀ w ∈ u_ws RX11 TX11 30, w ∈ wsX11_assigned := by decide +kernel
  have lk0 := hts (.fieldLink RX11 32 "FormationPlannerModel" "best" "[I") (by decide +kernel)
  have hl := lv_entry ([.ref (ad 0), .int a]) (n := 3) (Nat.le_of_ble_eq_true rfl)
  rw [lg_entry_eq]
  generalize (lg_sl ([.ref (ad 0), .int a]) ++ List.replicate (3 - (lg_sl ([.ref (ad 0), .int a])).length) Slot.unset).toArray = ls at hl ⊢
  have hl : lv_has ls 3 [(0, .ref (ad 0)), (1, .int a)] := hl
  obtain ⟨Q, hQ⟩ : ∃ Q, Q = MQ below (va_Qi (fun (r : Int32) (u : gIv × gAr) => RI u.1 u.2 ∧ u.1 0 4 = iv 0 4 ∧ u.1 0 17 = iv 0 17) (mPost D cy ad) (mA ad s.heap.size)) (([.ref (ad 0), .int a] : List Value).toArray) s 0 0 (mA ad s.heap.size) := ⟨_, rfl⟩
  rw [← hQ]
  obtain ⟨⟨hs1, hs2, -, -, -⟩, -⟩ := id hri.1
  refine lv_aload_n hx hb dX11_assigned_0 rfl (lv_at hl 0 rfl) ?_
  refine lv_iload_n hx hb dX11_assigned_1 rfl (lv_at hl 1 rfl) ?_
  refine g_callSi (va_runV (As := [.int a]) (rest := []) ⟨hx, hb, hml, hown, hts⟩ (c_X11_isDrone l D cy ad hI _ iv ar a ⟨hri.1.1.1, hri.1.1.2.1⟩) (cwV 1 hts gX11_assigned_X11_isDrone rfl rfl rfl (by decide +kernel) ⟨Nat.le_of_ble_eq_true rfl, Nat.le_of_ble_eq_true rfl⟩) (m_preV hP hK hSt hNw hS (m_at11 (Nat.le_of_ble_eq_true rfl) rfl) rfl) rfl rfl hl.1 rfl (lv_room (Nat.le_of_ble_eq_true rfl)) dX11_assigned_2 ⟨Nat.zero_le _, Nat.zero_le _⟩) (fun r_1 w_1 => ?_)
  try dsimp only at w_1
  refine lv_if_ne (tgt := 10) hx hb dX11_assigned_5 (by decide) (fun c_2 => ?_) (fun c_2 => ?_)
  · skip
    have q_2 : r_1.toInt ≠ (0 : Int) := i_ne2 (rfl : r_1.toInt = r_1.toInt) (show (0 : Int32).toInt = (0 : Int) from rfl) c_2
    refine lv_aload_n hx hb dX11_assigned_10 rfl (lv_at hl 0 rfl) ?_
    refine m_calli (va_runV (As := []) (rest := []) ⟨hx, hb, hml, hown, hts⟩ (c_X11_assigns l D cy ad hI _ iv ar hri.1.1 hri.2.2.2.2.1 hri.2.2.2.2.2.1) (cwV 0 hts gX11_assigned_X11_assigns rfl rfl rfl (by decide +kernel) ⟨Nat.le_of_ble_eq_true rfl, Nat.le_of_ble_eq_true rfl⟩) (m_preV hP hK hSt hNw hS (m_at11 (Nat.le_of_ble_eq_true rfl) rfl) rfl) rfl rfl hl.1 rfl (lv_room (Nat.le_of_ble_eq_true rfl)) dX11_assigned_11 ⟨Nat.zero_le _, Nat.zero_le _⟩) hS (fun r_3 iv_3 ar_3 H locs w_3 hP hS => ?_)
    try dsimp only at w_3
    obtain ⟨wi, wa, wk, wt⟩ := id w_3
    have hri2 := hri.asg wi wa wk wt
    refine lv_istore_n (lv' := [(2, .int r_3), (0, .ref (ad 0)), (1, .int a)]) hx hb dX11_assigned_14 rfl hl (by decide) rfl (fun ls hl => ?_)
    refine lv_iload_n hx hb dX11_assigned_15 rfl (lv_at hl 0 rfl) ?_
    refine lv_if_eq (tgt := 23) hx hb dX11_assigned_16 (by decide) (fun c_4 => ?_) (fun c_4 => ?_)
    · skip
      have q_4 : r_3.toInt = (0 : Int) := i_eq2 (rfl : r_3.toInt = r_3.toInt) (show (0 : Int32).toInt = (0 : Int) from rfl) c_4
      refine lv_aload_n hx hb dX11_assigned_23 rfl (lv_at hl 1 rfl) ?_
      refine va_get (D := D) (ci := 11) (v := .ref (ad 8)) (C := RX11) (T := TX11) (N := 30) hx hb hts inX11 hown hK hP 0 (m_at11 (Nat.le_of_ble_eq_true rfl) rfl) rfl 10 (by decide) lk0 (fun _ h9 => h9) rfl dX11_assigned_24 ?_
      refine lv_iload_n hx hb dX11_assigned_27 rfl (lv_at hl 2 rfl) ?_
      refine va_iald hx hb hK hP 8 0 (m_at12 (Nat.le_of_ble_eq_true rfl) rfl) rfl (g_in (N := 6) (rfl : a.toInt = a.toInt) rfl (by omega) (by omega)) dX11_assigned_28 ?_
      refine lv_topi (fun v_5 ev_5 => ?_)
      rw [hQ]
      exact W.iret (v := v_5) hx hb hr (fun t ht hW => ⟨⟨v_5, (iv_3, ar_3), rfl, ⟨hri2, wi 0 4 (by omega), wi 0 17 (by omega)⟩, by show va_P _ _ _ _; rw [ht]; exact hP⟩, hS.F ht⟩) hS.2.2 dX11_assigned_29
    · skip
      have q_4 : r_3.toInt ≠ (0 : Int) := i_ne2 (rfl : r_3.toInt = r_3.toInt) (show (0 : Int32).toInt = (0 : Int) from rfl) c_4
      refine lv_iload_n hx hb dX11_assigned_19 rfl (lv_at hl 0 rfl) ?_
      refine lv_goto (tgt := 29) hx hb dX11_assigned_20 (by decide) ?_
      rw [hQ]
      exact W.iret (v := r_3) hx hb hr (fun t ht hW => ⟨⟨r_3, (iv_3, ar_3), rfl, ⟨hri2, wi 0 4 (by omega), wi 0 17 (by omega)⟩, by show va_P _ _ _ _; rw [ht]; exact hP⟩, hS.F ht⟩) hS.2.2 dX11_assigned_29
  · skip
    have q_2 : r_1.toInt = (0 : Int) := i_eq2 (rfl : r_1.toInt = r_1.toInt) (show (0 : Int32).toInt = (0 : Int) from rfl) c_2
    refine lv_iconst (v := (-1)) hx hb dX11_assigned_8 (by decide) ?_
    rw [hQ]
    exact W.iret (v := (-1)) hx hb hr (fun t ht hW => ⟨⟨(-1), (iv, ar), rfl, ⟨hri, rfl, rfl⟩, by show va_P _ _ _ _; rw [ht]; exact hP⟩, hS.F ht⟩) hS.2.2 dX11_assigned_9
set_option maxHeartbeats 4000000 in
set_option maxRecDepth 100000 in
theorem c_X11_assignment (l : Launch) (D : va_G) (cy : Nat → ClassId) (ad : Nat → Nat) (hI : mInj ad) (sz : Nat) (iv : gIv) (ar : gAr) (a : Int32) (hri : RI iv ar) : Met l yX11_assignment wsX11_assignment ({ frames := 11, cells := 0, slots := 0, locals := 272 } : Room) (va_Pc [.ref (ad 0), .int a] (mPre D cy ad sz iv ar)) (va_Qi (fun (r : Int32) (u : gIv × gAr) => RI u.1 u.2 ∧ u.1 0 4 = iv 0 4 ∧ u.1 0 17 = iv 0 17) (mPost D cy ad) (mA ad sz)) 0 0 (mA ad sz) := by
  refine Met.ofW (cc := cX11_assignment) (maxL := 3) (ret := (some .int)) (by decide) rfl ?_
  intro p e s m args below meth c s₁ B hml hv
  obtain ⟨rfl, rfl, hP, hK, hSt, hNw⟩ := hv
  have hx := B.exec
  have hb := B.bytes
  have hr := B.returns
  have hts := atoms_spec (ws := wsX11_assignment) B.pre
  have hown : s.vm.findClass RX11 = some m.cls := findClass_of_methodNamed B.named
  have hlocks := B.notSynchronized
  have hS : va_S (mA ad s.heap.size) s.heap s.heap [] := va_S.rf
  have inX11 : ∀ w ∈ u_ws RX11 TX11 30, w ∈ wsX11_assignment := by decide +kernel
  have lk0 := hts (.fieldLink RX11 139 "FormationPlannerModel" "assignments" "I") (by decide +kernel)
  have lk1 := hts (.fieldLink RX11 148 "FormationPlannerModel" "withGreatest" "I") (by decide +kernel)
  have lk2 := hts (.fieldLink RX11 145 "FormationPlannerModel" "sum" "I") (by decide +kernel)
  have lk3 := hts (.fieldLink RX11 142 "FormationPlannerModel" "greatest" "I") (by decide +kernel)
  have hl := lv_entry ([.ref (ad 0), .int a]) (n := 3) (Nat.le_of_ble_eq_true rfl)
  rw [lg_entry_eq]
  generalize (lg_sl ([.ref (ad 0), .int a]) ++ List.replicate (3 - (lg_sl ([.ref (ad 0), .int a])).length) Slot.unset).toArray = ls at hl ⊢
  have hl : lv_has ls 3 [(0, .ref (ad 0)), (1, .int a)] := hl
  obtain ⟨Q, hQ⟩ : ∃ Q, Q = MQ below (va_Qi (fun (r : Int32) (u : gIv × gAr) => RI u.1 u.2 ∧ u.1 0 4 = iv 0 4 ∧ u.1 0 17 = iv 0 17) (mPost D cy ad) (mA ad s.heap.size)) (([.ref (ad 0), .int a] : List Value).toArray) s 0 0 (mA ad s.heap.size) := ⟨_, rfl⟩
  rw [← hQ]
  obtain ⟨⟨hs1, hs2, -, -, -⟩, -⟩ := id hri.1
  refine lv_iload_n hx hb dX11_assignment_0 rfl (lv_at hl 1 rfl) ?_
  refine lv_iconst (v := 0) hx hb dX11_assignment_1 (by decide) ?_
  refine lv_iconst (v := 3) hx hb dX11_assignment_2 (by decide) ?_
  have zl_1 : (0 : Int32).toInt = (0 : Int) := rfl
  have zl_2 : (3 : Int32).toInt = (3 : Int) := rfl
  refine g_callSi (va_runS (As := [.int a, .int 0, .int 3]) (rest := []) ⟨hx, hb, hml, hown, hts⟩ (c_X11_isIn l a 0 3) (va_cwS 3 hts gX11_assignment_X11_isIn rfl rfl rfl (by decide +kernel) ⟨Nat.le_of_ble_eq_true rfl, Nat.le_of_ble_eq_true rfl⟩) (g_preT) rfl rfl hl.1 rfl (lv_room (Nat.le_of_ble_eq_true rfl)) dX11_assignment_3 ⟨Nat.zero_le _, Nat.zero_le _⟩) (fun r_3 w_3 => ?_)
  try dsimp only at w_3
  refine lv_if_ne (tgt := 12) hx hb dX11_assignment_6 (by decide) (fun c_4 => ?_) (fun c_4 => ?_)
  · skip
    have q_4 : r_3.toInt ≠ (0 : Int) := i_ne2 (rfl : r_3.toInt = r_3.toInt) (show (0 : Int32).toInt = (0 : Int) from rfl) c_4
    refine lv_aload_n hx hb dX11_assignment_12 rfl (lv_at hl 0 rfl) ?_
    refine m_calli (va_runV (As := []) (rest := []) ⟨hx, hb, hml, hown, hts⟩ (c_X11_assigns l D cy ad hI _ iv ar hri.1.1 hri.2.2.2.2.1 hri.2.2.2.2.2.1) (cwV 0 hts gX11_assignment_X11_assigns rfl rfl rfl (by decide +kernel) ⟨Nat.le_of_ble_eq_true rfl, Nat.le_of_ble_eq_true rfl⟩) (m_preV hP hK hSt hNw hS (m_at11 (Nat.le_of_ble_eq_true rfl) rfl) rfl) rfl rfl hl.1 rfl (lv_room (Nat.le_of_ble_eq_true rfl)) dX11_assignment_13 ⟨Nat.zero_le _, Nat.zero_le _⟩) hS (fun r_5 iv_5 ar_5 H locs w_5 hP hS => ?_)
    try dsimp only at w_5
    obtain ⟨wi, wa, wk, wt⟩ := id w_5
    have hri2 := hri.asg wi wa wk wt
    refine lv_istore_n (lv' := [(2, .int r_5), (0, .ref (ad 0)), (1, .int a)]) hx hb dX11_assignment_16 rfl hl (by decide) rfl (fun ls hl => ?_)
    refine lv_iload_n hx hb dX11_assignment_17 rfl (lv_at hl 0 rfl) ?_
    refine lv_if_eq (tgt := 25) hx hb dX11_assignment_18 (by decide) (fun c_6 => ?_) (fun c_6 => ?_)
    · skip
      have q_6 : r_5.toInt = (0 : Int) := i_eq2 (rfl : r_5.toInt = r_5.toInt) (show (0 : Int32).toInt = (0 : Int) from rfl) c_6
      refine lv_iload_n hx hb dX11_assignment_25 rfl (lv_at hl 2 rfl) ?_
      refine lv_if_ne (tgt := 36) hx hb dX11_assignment_26 (by decide) (fun c_7 => ?_) (fun c_7 => ?_)
      · skip
        have q_7 : a.toInt ≠ (0 : Int) := i_ne2 (rfl : a.toInt = a.toInt) (show (0 : Int32).toInt = (0 : Int) from rfl) c_7
        refine lv_iload_n hx hb dX11_assignment_36 rfl (lv_at hl 2 rfl) ?_
        refine lv_iconst (v := 1) hx hb dX11_assignment_37 (by decide) ?_
        refine lv_icmp_ne (tgt := 48) hx hb dX11_assignment_38 (by decide) (fun c_8 => ?_) (fun c_8 => ?_)
        · skip
          have q_8 : a.toInt ≠ (1 : Int) := i_ne2 (rfl : a.toInt = a.toInt) (show (1 : Int32).toInt = (1 : Int) from rfl) c_8
          refine lv_iload_n hx hb dX11_assignment_48 rfl (lv_at hl 2 rfl) ?_
          refine lv_iconst (v := 2) hx hb dX11_assignment_49 (by decide) ?_
          refine lv_icmp_ne (tgt := 60) hx hb dX11_assignment_50 (by decide) (fun c_9 => ?_) (fun c_9 => ?_)
          · skip
            have q_9 : a.toInt ≠ (2 : Int) := i_ne2 (rfl : a.toInt = a.toInt) (show (2 : Int32).toInt = (2 : Int) from rfl) c_9
            refine lv_aload_n hx hb dX11_assignment_60 rfl (lv_at hl 1 rfl) ?_
            refine va_get (D := D) (ci := 11) (v := .int (iv_5 0 14)) (C := RX11) (T := TX11) (N := 30) hx hb hts inX11 hown hK hP 0 (m_at11 (Nat.le_of_ble_eq_true rfl) rfl) rfl 14 (by decide) lk0 (fun _ h9 => h9) rfl dX11_assignment_61 ?_
            rw [hQ]
            exact W.iret (v := (iv_5 0 14)) hx hb hr (fun t ht hW => ⟨⟨(iv_5 0 14), (iv_5, ar_5), rfl, ⟨hri2, wi 0 4 (by omega), wi 0 17 (by omega)⟩, by show va_P _ _ _ _; rw [ht]; exact hP⟩, hS.F ht⟩) hS.2.2 dX11_assignment_64
          · skip
            have q_9 : a.toInt = (2 : Int) := i_eq2 (rfl : a.toInt = a.toInt) (show (2 : Int32).toInt = (2 : Int) from rfl) c_9
            refine lv_aload_n hx hb dX11_assignment_53 rfl (lv_at hl 1 rfl) ?_
            refine va_get (D := D) (ci := 11) (v := .int (iv_5 0 13)) (C := RX11) (T := TX11) (N := 30) hx hb hts inX11 hown hK hP 0 (m_at11 (Nat.le_of_ble_eq_true rfl) rfl) rfl 13 (by decide) lk1 (fun _ h9 => h9) rfl dX11_assignment_54 ?_
            refine lv_goto (tgt := 64) hx hb dX11_assignment_57 (by decide) ?_
            rw [hQ]
            exact W.iret (v := (iv_5 0 13)) hx hb hr (fun t ht hW => ⟨⟨(iv_5 0 13), (iv_5, ar_5), rfl, ⟨hri2, wi 0 4 (by omega), wi 0 17 (by omega)⟩, by show va_P _ _ _ _; rw [ht]; exact hP⟩, hS.F ht⟩) hS.2.2 dX11_assignment_64
        · skip
          have q_8 : a.toInt = (1 : Int) := i_eq2 (rfl : a.toInt = a.toInt) (show (1 : Int32).toInt = (1 : Int) from rfl) c_8
          refine lv_aload_n hx hb dX11_assignment_41 rfl (lv_at hl 1 rfl) ?_
          refine va_get (D := D) (ci := 11) (v := .int (iv_5 0 12)) (C := RX11) (T := TX11) (N := 30) hx hb hts inX11 hown hK hP 0 (m_at11 (Nat.le_of_ble_eq_true rfl) rfl) rfl 12 (by decide) lk2 (fun _ h9 => h9) rfl dX11_assignment_42 ?_
          refine lv_goto (tgt := 64) hx hb dX11_assignment_45 (by decide) ?_
          rw [hQ]
          exact W.iret (v := (iv_5 0 12)) hx hb hr (fun t ht hW => ⟨⟨(iv_5 0 12), (iv_5, ar_5), rfl, ⟨hri2, wi 0 4 (by omega), wi 0 17 (by omega)⟩, by show va_P _ _ _ _; rw [ht]; exact hP⟩, hS.F ht⟩) hS.2.2 dX11_assignment_64
      · skip
        have q_7 : a.toInt = (0 : Int) := i_eq2 (rfl : a.toInt = a.toInt) (show (0 : Int32).toInt = (0 : Int) from rfl) c_7
        refine lv_aload_n hx hb dX11_assignment_29 rfl (lv_at hl 1 rfl) ?_
        refine va_get (D := D) (ci := 11) (v := .int (iv_5 0 11)) (C := RX11) (T := TX11) (N := 30) hx hb hts inX11 hown hK hP 0 (m_at11 (Nat.le_of_ble_eq_true rfl) rfl) rfl 11 (by decide) lk3 (fun _ h9 => h9) rfl dX11_assignment_30 ?_
        refine lv_goto (tgt := 64) hx hb dX11_assignment_33 (by decide) ?_
        rw [hQ]
        exact W.iret (v := (iv_5 0 11)) hx hb hr (fun t ht hW => ⟨⟨(iv_5 0 11), (iv_5, ar_5), rfl, ⟨hri2, wi 0 4 (by omega), wi 0 17 (by omega)⟩, by show va_P _ _ _ _; rw [ht]; exact hP⟩, hS.F ht⟩) hS.2.2 dX11_assignment_64
    · skip
      have q_6 : r_5.toInt ≠ (0 : Int) := i_ne2 (rfl : r_5.toInt = r_5.toInt) (show (0 : Int32).toInt = (0 : Int) from rfl) c_6
      refine lv_iload_n hx hb dX11_assignment_21 rfl (lv_at hl 0 rfl) ?_
      refine lv_goto (tgt := 64) hx hb dX11_assignment_22 (by decide) ?_
      rw [hQ]
      exact W.iret (v := r_5) hx hb hr (fun t ht hW => ⟨⟨r_5, (iv_5, ar_5), rfl, ⟨hri2, wi 0 4 (by omega), wi 0 17 (by omega)⟩, by show va_P _ _ _ _; rw [ht]; exact hP⟩, hS.F ht⟩) hS.2.2 dX11_assignment_64
  · skip
    have q_4 : r_3.toInt = (0 : Int) := i_eq2 (rfl : r_3.toInt = r_3.toInt) (show (0 : Int32).toInt = (0 : Int) from rfl) c_4
    refine lv_bipush (v := (-2)) hx hb dX11_assignment_9 (by decide) ?_
    rw [hQ]
    exact W.iret (v := (-2)) hx hb hr (fun t ht hW => ⟨⟨(-2), (iv, ar), rfl, ⟨hri, rfl, rfl⟩, by show va_P _ _ _ _; rw [ht]; exact hP⟩, hS.F ht⟩) hS.2.2 dX11_assignment_11
