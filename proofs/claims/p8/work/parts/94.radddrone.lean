set_option maxHeartbeats 4000000 in
set_option maxRecDepth 100000 in
theorem c_X11_addDrone (l : Launch) (D : va_G) (cy : Nat → ClassId) (ad : Nat → Nat) (hI : mInj ad) (sz : Nat) (iv : gIv) (ar : gAr) (a : Int32) (hri : RI iv ar) : Met l yX11_addDrone wsX11_addDrone ({ frames := 2, cells := 0, slots := 0, locals := 42 } : Room) (va_Pc [.ref (ad 0), .int a] (mPre D cy ad sz iv ar)) (va_Qi (fun (r : Int32) (u : gIv × gAr) => RI u.1 u.2 ∧ u.1 0 4 = iv 0 4 ∧ u.1 0 17 = iv 0 17) (mPost D cy ad) (mA ad sz)) 0 0 (mA ad sz) := by
  refine Met.ofW (cc := cX11_addDrone) (maxL := 2) (ret := (some .int)) (by decide) rfl ?_
  intro p e s m args below meth c s₁ B hml hv
  obtain ⟨rfl, rfl, hP, hK, hSt, hNw⟩ := hv
  have hx := B.exec
  have hb := B.bytes
  have hr := B.returns
  have hts := atoms_spec (ws := wsX11_addDrone) B.pre
  have hown : s.vm.findClass RX11 = some m.cls := findClass_of_methodNamed B.named
  have hlocks := B.notSynchronized
  have hS : va_S (mA ad s.heap.size) s.heap s.heap [] := va_S.rf
  have inX11 : ∀ w ∈ u_ws RX11 TX11 30, w ∈ wsX11_addDrone := by decide +kernel
  have lk0 := hts (.fieldLink RX11 9 "FormationPlannerModel" "s" "[I") (by decide +kernel)
  have hl := lv_entry ([.ref (ad 0), .int a]) (n := 2) (Nat.le_of_ble_eq_true rfl)
  rw [lg_entry_eq]
  generalize (lg_sl ([.ref (ad 0), .int a]) ++ List.replicate (2 - (lg_sl ([.ref (ad 0), .int a])).length) Slot.unset).toArray = ls at hl ⊢
  have hl : lv_has ls 2 [(0, .ref (ad 0)), (1, .int a)] := hl
  obtain ⟨Q, hQ⟩ : ∃ Q, Q = MQ below (va_Qi (fun (r : Int32) (u : gIv × gAr) => RI u.1 u.2 ∧ u.1 0 4 = iv 0 4 ∧ u.1 0 17 = iv 0 17) (mPost D cy ad) (mA ad s.heap.size)) (([.ref (ad 0), .int a] : List Value).toArray) s 0 0 (mA ad s.heap.size) := ⟨_, rfl⟩
  rw [← hQ]
  obtain ⟨⟨hs1, hs2, hs3, hs4, -⟩, -⟩ := id hri.1
  refine lv_iload_n hx hb dX11_addDrone_0 rfl (lv_at hl 1 rfl) ?_
  refine g_callSi (va_runS (As := [.int a]) (rest := []) ⟨hx, hb, hml, hown, hts⟩ (c_X11_isCell l a) (va_cwS 1 hts gX11_addDrone_X11_isCell rfl rfl rfl (by decide +kernel) ⟨Nat.le_of_ble_eq_true rfl, Nat.le_of_ble_eq_true rfl⟩) (g_preT) rfl rfl hl.1 rfl (lv_room (Nat.le_of_ble_eq_true rfl)) dX11_addDrone_1 ⟨Nat.zero_le _, Nat.zero_le _⟩) (fun r_1 w_1 => ?_)
  try dsimp only at w_1
  refine lv_if_ne (tgt := 10) hx hb dX11_addDrone_4 (by decide) (fun c_2 => ?_) (fun c_2 => ?_)
  · skip
    have q_2 : r_1.toInt ≠ (0 : Int) := i_ne2 (rfl : r_1.toInt = r_1.toInt) (show (0 : Int32).toInt = (0 : Int) from rfl) c_2
    refine lv_aload_n hx hb dX11_addDrone_10 rfl (lv_at hl 0 rfl) ?_
    refine va_get (D := D) (ci := 11) (v := .ref (ad 1)) (C := RX11) (T := TX11) (N := 30) hx hb hts inX11 hown hK hP 0 (m_at11 (Nat.le_of_ble_eq_true rfl) rfl) rfl 0 (by decide) lk0 (fun _ h9 => h9) rfl dX11_addDrone_11 ?_
    refine lv_bipush (v := 111) hx hb dX11_addDrone_14 (by decide) ?_
    refine va_iald hx hb hK hP 1 0 (m_at12 (Nat.le_of_ble_eq_true rfl) rfl) rfl (g_in (N := 126) (show (111 : Int32).toInt = (111 : Int) from rfl) rfl (by omega) (by omega)) dX11_addDrone_16 ?_
    refine lv_topi (fun v_3 ev_3 => ?_)
    have hv0 : v_3.toInt = (ar 1 111).toInt := by rw [ev_3]; rfl
    refine lv_bipush (v := 6) hx hb dX11_addDrone_17 (by decide) ?_
    refine lv_icmp_ne (tgt := 25) hx hb dX11_addDrone_19 (by decide) (fun c_4 => ?_) (fun c_4 => ?_)
    · skip
      have q_4 : v_3.toInt ≠ (6 : Int) := i_ne2 (rfl : v_3.toInt = v_3.toInt) (show (6 : Int32).toInt = (6 : Int) from rfl) c_4
      refine lv_aload_n hx hb dX11_addDrone_25 rfl (lv_at hl 0 rfl) ?_
      refine lv_iload_n hx hb dX11_addDrone_26 rfl (lv_at hl 1 rfl) ?_
      refine g_callSi (va_runV (As := [.int a]) (rest := []) ⟨hx, hb, hml, hown, hts⟩ (c_X11_isObstacle l D cy ad hI _ iv ar a (by omega)) (cwV 1 hts gX11_addDrone_X11_isObstacle rfl rfl rfl (by decide +kernel) ⟨Nat.le_of_ble_eq_true rfl, Nat.le_of_ble_eq_true rfl⟩) (m_preV hP hK hSt hNw hS (m_at11 (Nat.le_of_ble_eq_true rfl) rfl) rfl) rfl rfl hl.1 rfl (lv_room (Nat.le_of_ble_eq_true rfl)) dX11_addDrone_27 ⟨Nat.zero_le _, Nat.zero_le _⟩) (fun r_5 w_5 => ?_)
      try dsimp only at w_5
      refine lv_if_ne (tgt := 41) hx hb dX11_addDrone_30 (by decide) (fun c_6 => ?_) (fun c_6 => ?_)
      · skip
        have q_6 : r_5.toInt ≠ (0 : Int) := i_ne2 (rfl : r_5.toInt = r_5.toInt) (show (0 : Int32).toInt = (0 : Int) from rfl) c_6
        refine lv_bipush (v := (-4)) hx hb dX11_addDrone_41 (by decide) ?_
        rw [hQ]
        exact W.iret (v := (-4)) hx hb hr (fun t ht hW => ⟨⟨(-4), (iv, ar), rfl, ⟨hri, rfl, rfl⟩, by show va_P _ _ _ _; rw [ht]; exact hP⟩, hS.F ht⟩) hS.2.2 dX11_addDrone_43
      · skip
        have q_6 : r_5.toInt = (0 : Int) := i_eq2 (rfl : r_5.toInt = r_5.toInt) (show (0 : Int32).toInt = (0 : Int) from rfl) c_6
        refine lv_aload_n hx hb dX11_addDrone_33 rfl (lv_at hl 0 rfl) ?_
        refine lv_iload_n hx hb dX11_addDrone_34 rfl (lv_at hl 1 rfl) ?_
        refine g_callSi (va_runV (As := [.int a]) (rest := []) ⟨hx, hb, hml, hown, hts⟩ (c_X11_droneAt l D cy ad hI _ iv ar a ⟨hri.1.1.1, hri.1.1.2.1⟩) (cwV 1 hts gX11_addDrone_X11_droneAt rfl rfl rfl (by decide +kernel) ⟨Nat.le_of_ble_eq_true rfl, Nat.le_of_ble_eq_true rfl⟩) (m_preV hP hK hSt hNw hS (m_at11 (Nat.le_of_ble_eq_true rfl) rfl) rfl) rfl rfl hl.1 rfl (lv_room (Nat.le_of_ble_eq_true rfl)) dX11_addDrone_35 ⟨Nat.zero_le _, Nat.zero_le _⟩) (fun r_7 w_7 => ?_)
        try dsimp only at w_7
        refine lv_if_lt (tgt := 44) hx hb dX11_addDrone_38 (by decide) (fun c_8 => ?_) (fun c_8 => ?_)
        · skip
          have q_8 : r_7.toInt < (0 : Int) := i_lt2 (rfl : r_7.toInt = r_7.toInt) (show (0 : Int32).toInt = (0 : Int) from rfl) c_8
          refine lv_aload_n hx hb dX11_addDrone_44 rfl (lv_at hl 0 rfl) ?_
          refine m_callv (va_runV (As := []) (rest := []) ⟨hx, hb, hml, hown, hts⟩ (c_X11_changes l D cy ad hI _ iv ar hri.2.1 hri.2.2.1 hri.1) (cwV 0 hts gX11_addDrone_X11_changes rfl rfl rfl (by decide +kernel) ⟨Nat.le_of_ble_eq_true rfl, Nat.le_of_ble_eq_true rfl⟩) (m_preV hP hK hSt hNw hS (m_at11 (Nat.le_of_ble_eq_true rfl) rfl) rfl) rfl rfl hl.1 rfl (lv_room (Nat.le_of_ble_eq_true rfl)) dX11_addDrone_45 ⟨Nat.zero_le _, Nat.zero_le _⟩) hS (fun iv_9 ar_9 H locs w_9 hP hS => ?_)
          try dsimp only at w_9
          obtain ⟨ci, ca, c3, cpa, cz, c15⟩ := id w_9
          refine lv_aload_n hx hb dX11_addDrone_48 rfl (lv_at hl 0 rfl) ?_
          refine va_get (D := D) (ci := 11) (v := .ref (ad 1)) (C := RX11) (T := TX11) (N := 30) hx hb hts inX11 hown hK hP 0 (m_at11 (Nat.le_of_ble_eq_true rfl) rfl) rfl 0 (by decide) lk0 (fun _ h9 => h9) rfl dX11_addDrone_49 ?_
          refine lv_bipush (v := 112) hx hb dX11_addDrone_52 (by decide) ?_
          refine lv_aload_n hx hb dX11_addDrone_54 rfl (lv_at hl 0 rfl) ?_
          refine va_get (D := D) (ci := 11) (v := .ref (ad 1)) (C := RX11) (T := TX11) (N := 30) hx hb hts inX11 hown hK hP 0 (m_at11 (Nat.le_of_ble_eq_true rfl) rfl) rfl 0 (by decide) lk0 (fun _ h9 => h9) rfl dX11_addDrone_55 ?_
          refine lv_bipush (v := 111) hx hb dX11_addDrone_58 (by decide) ?_
          refine va_iald hx hb hK hP 1 0 (m_at12 (Nat.le_of_ble_eq_true rfl) rfl) rfl (g_in (N := 126) (show (111 : Int32).toInt = (111 : Int) from rfl) rfl (by omega) (by omega)) dX11_addDrone_60 ?_
          refine lv_topi (fun v_10 ev_10 => ?_)
          have hv1 : v_10.toInt = (ar 1 111).toInt := by rw [ev_10, ca 1 (by omega) (by omega)]; rfl
          refine lv_iadd hx hb dX11_addDrone_61 ?_
          refine lv_topi (fun v_11 ev_11 => ?_)
          have tv_11 : v_11.toInt = (112 : Int) + v_10.toInt := i_add (show (112 : Int32).toInt = (112 : Int) from rfl) (rfl : v_10.toInt = v_10.toInt) (by omega) (by omega) ev_11
          refine lv_iload_n hx hb dX11_addDrone_62 rfl (lv_at hl 1 rfl) ?_
          refine va_iast hx hb hK hP (mD hI) hS 1 0 (m_at12 (Nat.le_of_ble_eq_true rfl) rfl) rfl (g_in (N := 126) (rfl : v_11.toInt = v_11.toInt) rfl (by omega) (by omega)) dX11_addDrone_63 (fun H locs hP _ hS => ?_)
          rw [m_pt12 (Nat.le_of_ble_eq_true rfl) rfl] at hP
          obtain ⟨ar_12, ear_12⟩ : ∃ z : gAr, z = va_up ar_9 1 (upd (ar_9 1) v_11.toNatClampNeg a) := ⟨_, rfl⟩
          rw [← ear_12] at hP
          have har1 : ar_12 1 = upd (ar 1) (112 + (ar 1 111).toInt.toNat) a := by rw [ear_12, ua_s, g_cN (rfl : v_11.toInt = _), show (v_11.toInt).toNat = 112 + (ar 1 111).toInt.toNat from by omega, ca 1 (by omega) (by omega)]
          have hfr1 : ∀ c, c ≠ 1 → ar_12 c = ar_9 c := fun c h => by rw [ear_12, ua_o h]
          refine lv_aload_n hx hb dX11_addDrone_64 rfl (lv_at hl 0 rfl) ?_
          refine va_get (D := D) (ci := 11) (v := .ref (ad 1)) (C := RX11) (T := TX11) (N := 30) hx hb hts inX11 hown hK hP 0 (m_at11 (Nat.le_of_ble_eq_true rfl) rfl) rfl 0 (by decide) lk0 (fun _ h9 => h9) rfl dX11_addDrone_65 ?_
          refine lv_bipush (v := 111) hx hb dX11_addDrone_68 (by decide) ?_
          refine lv_dup2_11 hx hb dX11_addDrone_70 rfl rfl ?_
          refine va_iald hx hb hK hP 1 0 (m_at12 (Nat.le_of_ble_eq_true rfl) rfl) rfl (g_in (N := 126) (show (111 : Int32).toInt = (111 : Int) from rfl) rfl (by omega) (by omega)) dX11_addDrone_71 ?_
          refine lv_topi (fun v_13 ev_13 => ?_)
          have hv2 : v_13.toInt = (ar 1 111).toInt := by rw [ev_13, show (111 : Int32).toNatClampNeg = 111 from rfl, har1, pk_un (show 111 ≠ 112 + (ar 1 111).toInt.toNat from by omega)]
          refine lv_iconst (v := 1) hx hb dX11_addDrone_72 (by decide) ?_
          refine lv_iadd hx hb dX11_addDrone_73 ?_
          refine lv_topi (fun v_14 ev_14 => ?_)
          have tv_14 : v_14.toInt = v_13.toInt + (1 : Int) := i_add (rfl : v_13.toInt = v_13.toInt) (show (1 : Int32).toInt = (1 : Int) from rfl) (by omega) (by omega) ev_14
          refine va_iast hx hb hK hP (mD hI) hS 1 0 (m_at12 (Nat.le_of_ble_eq_true rfl) rfl) rfl (g_in (N := 126) (show (111 : Int32).toInt = (111 : Int) from rfl) rfl (by omega) (by omega)) dX11_addDrone_74 (fun H locs hP _ hS => ?_)
          rw [m_pt12 (Nat.le_of_ble_eq_true rfl) rfl] at hP
          obtain ⟨ar_15, ear_15⟩ : ∃ z : gAr, z = va_up ar_12 1 (upd (ar_12 1) (111 : Int32).toNatClampNeg v_14) := ⟨_, rfl⟩
          rw [← ear_15] at hP
          have hri2 : RI iv_9 ar_15 := RI.chg hri (by rw [ear_15, ua_s, show (111 : Int32).toNatClampNeg = 111 from rfl, har1]; exact SI.addD hri.1 (by omega) (by omega) (by omega) (by omega) (by omega)) c3 (fun k hk => SI.of (cpa k hk) (fun i hi => by show ar_15 2 _ = _; rw [ear_15, ua_o (by omega), hfr1 2 (by omega)])) (fun g hg => by rw [ear_15, ua_o (by omega), hfr1 6 (by omega)]; exact cz g hg) c15 (ci 0 4 (by omega)) (ci 0 17 (by omega)) (by rw [ear_15, ua_o (by omega), hfr1 7 (by omega)]; exact ca 7 (by omega) (by omega)) (by rw [ear_15, ua_o (by omega), hfr1 8 (by omega)]; exact ca 8 (by omega) (by omega))
          refine lv_aload_n hx hb dX11_addDrone_75 rfl (lv_at hl 0 rfl) ?_
          refine va_get (D := D) (ci := 11) (v := .ref (ad 1)) (C := RX11) (T := TX11) (N := 30) hx hb hts inX11 hown hK hP 0 (m_at11 (Nat.le_of_ble_eq_true rfl) rfl) rfl 0 (by decide) lk0 (fun _ h9 => h9) rfl dX11_addDrone_76 ?_
          refine lv_bipush (v := 111) hx hb dX11_addDrone_79 (by decide) ?_
          refine va_iald hx hb hK hP 1 0 (m_at12 (Nat.le_of_ble_eq_true rfl) rfl) rfl (g_in (N := 126) (show (111 : Int32).toInt = (111 : Int) from rfl) rfl (by omega) (by omega)) dX11_addDrone_81 ?_
          refine lv_topi (fun v_16 ev_16 => ?_)
          have f_17 : v_16 = v_14 := by rw [ev_16]; rw [ear_15, ua_s]; exact pk_us
          refine lv_iconst (v := 1) hx hb dX11_addDrone_82 (by decide) ?_
          refine lv_isub hx hb dX11_addDrone_83 ?_
          refine lv_topi (fun v_18 ev_18 => ?_)
          rw [hQ]
          exact W.iret (v := v_18) hx hb hr (fun t ht hW => ⟨⟨v_18, (iv_9, ar_15), rfl, ⟨hri2, ci 0 4 (by omega), ci 0 17 (by omega)⟩, by show va_P _ _ _ _; rw [ht]; exact hP⟩, hS.F ht⟩) hS.2.2 dX11_addDrone_84
        · skip
          have q_8 : (0 : Int) ≤ r_7.toInt := i_nlt2 (rfl : r_7.toInt = r_7.toInt) (show (0 : Int32).toInt = (0 : Int) from rfl) c_8
          refine lv_bipush (v := (-4)) hx hb dX11_addDrone_41 (by decide) ?_
          rw [hQ]
          exact W.iret (v := (-4)) hx hb hr (fun t ht hW => ⟨⟨(-4), (iv, ar), rfl, ⟨hri, rfl, rfl⟩, by show va_P _ _ _ _; rw [ht]; exact hP⟩, hS.F ht⟩) hS.2.2 dX11_addDrone_43
    · skip
      have q_4 : v_3.toInt = (6 : Int) := i_eq2 (rfl : v_3.toInt = v_3.toInt) (show (6 : Int32).toInt = (6 : Int) from rfl) c_4
      refine lv_bipush (v := (-3)) hx hb dX11_addDrone_22 (by decide) ?_
      rw [hQ]
      exact W.iret (v := (-3)) hx hb hr (fun t ht hW => ⟨⟨(-3), (iv, ar), rfl, ⟨hri, rfl, rfl⟩, by show va_P _ _ _ _; rw [ht]; exact hP⟩, hS.F ht⟩) hS.2.2 dX11_addDrone_24
  · skip
    have q_2 : r_1.toInt = (0 : Int) := i_eq2 (rfl : r_1.toInt = r_1.toInt) (show (0 : Int32).toInt = (0 : Int) from rfl) c_2
    refine lv_bipush (v := (-2)) hx hb dX11_addDrone_7 (by decide) ?_
    rw [hQ]
    exact W.iret (v := (-2)) hx hb hr (fun t ht hW => ⟨⟨(-2), (iv, ar), rfl, ⟨hri, rfl, rfl⟩, by show va_P _ _ _ _; rw [ht]; exact hP⟩, hS.F ht⟩) hS.2.2 dX11_addDrone_9
