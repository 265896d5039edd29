set_option maxHeartbeats 4000000 in
set_option maxRecDepth 100000 in
theorem c_X11_setObstacle (l : Launch) (D : va_G) (cy : Nat → ClassId) (ad : Nat → Nat) (hI : mInj ad) (sz : Nat) (iv : gIv) (ar : gAr) (a : Int32) (b : Int32) (hri : RI iv ar) : Met l yX11_setObstacle wsX11_setObstacle ({ frames := 2, cells := 0, slots := 0, locals := 42 } : Room) (va_Pc [.ref (ad 0), .int a, .int b] (mPre D cy ad sz iv ar)) (va_Qi (fun (r : Int32) (u : gIv × gAr) => RI u.1 u.2 ∧ u.1 0 4 = iv 0 4 ∧ u.1 0 17 = iv 0 17) (mPost D cy ad) (mA ad sz)) 0 0 (mA ad sz) := by
  refine Met.ofW (cc := cX11_setObstacle) (maxL := 4) (ret := (some .int)) (by decide) rfl ?_
  intro p e s m args below meth c s₁ B hml hv
  obtain ⟨rfl, rfl, hP, hK, hSt, hNw⟩ := hv
  have hx := B.exec
  have hb := B.bytes
  have hr := B.returns
  have hts := atoms_spec (ws := wsX11_setObstacle) B.pre
  have hown : s.vm.findClass RX11 = some m.cls := findClass_of_methodNamed B.named
  have hlocks := B.notSynchronized
  have hS : va_S (mA ad s.heap.size) s.heap s.heap [] := va_S.rf
  have inX11 : ∀ w ∈ u_ws RX11 TX11 30, w ∈ wsX11_setObstacle := by decide +kernel
  have lk0 := hts (.fieldLink RX11 9 "FormationPlannerModel" "s" "[I") (by decide +kernel)
  have hl := lv_entry ([.ref (ad 0), .int a, .int b]) (n := 4) (Nat.le_of_ble_eq_true rfl)
  rw [lg_entry_eq]
  generalize (lg_sl ([.ref (ad 0), .int a, .int b]) ++ List.replicate (4 - (lg_sl ([.ref (ad 0), .int a, .int b])).length) Slot.unset).toArray = ls at hl ⊢
  have hl : lv_has ls 4 [(0, .ref (ad 0)), (1, .int a), (2, .int b)] := hl
  obtain ⟨Q, hQ⟩ : ∃ Q, Q = MQ below (va_Qi (fun (r : Int32) (u : gIv × gAr) => RI u.1 u.2 ∧ u.1 0 4 = iv 0 4 ∧ u.1 0 17 = iv 0 17) (mPost D cy ad) (mA ad s.heap.size)) (([.ref (ad 0), .int a, .int b] : List Value).toArray) s 0 0 (mA ad s.heap.size) := ⟨_, rfl⟩
  rw [← hQ]
  refine lv_iload_n hx hb dX11_setObstacle_0 rfl (lv_at hl 1 rfl) ?_
  refine g_callSi (va_runS (As := [.int a]) (rest := []) ⟨hx, hb, hml, hown, hts⟩ (c_X11_isCell l a) (va_cwS 1 hts gX11_setObstacle_X11_isCell rfl rfl rfl (by decide +kernel) ⟨Nat.le_of_ble_eq_true rfl, Nat.le_of_ble_eq_true rfl⟩) (g_preT) rfl rfl hl.1 rfl (lv_room (Nat.le_of_ble_eq_true rfl)) dX11_setObstacle_1 ⟨Nat.zero_le _, Nat.zero_le _⟩) (fun r_1 w_1 => ?_)
  try dsimp only at w_1
  refine lv_if_eq (tgt := 16) hx hb dX11_setObstacle_4 (by decide) (fun c_2 => ?_) (fun c_2 => ?_)
  · skip
    have q_2 : r_1.toInt = (0 : Int) := i_eq2 (rfl : r_1.toInt = r_1.toInt) (show (0 : Int32).toInt = (0 : Int) from rfl) c_2
    refine lv_bipush (v := (-2)) hx hb dX11_setObstacle_16 (by decide) ?_
    rw [hQ]
    exact W.iret (v := (-2)) hx hb hr (fun t ht hW => ⟨⟨(-2), (iv, ar), rfl, ⟨hri, rfl, rfl⟩, by show va_P _ _ _ _; rw [ht]; exact hP⟩, hS.F ht⟩) hS.2.2 dX11_setObstacle_18
  · skip
    have q_2 : r_1.toInt ≠ (0 : Int) := i_ne2 (rfl : r_1.toInt = r_1.toInt) (show (0 : Int32).toInt = (0 : Int) from rfl) c_2
    refine lv_iload_n hx hb dX11_setObstacle_7 rfl (lv_at hl 2 rfl) ?_
    refine lv_iconst (v := 0) hx hb dX11_setObstacle_8 (by decide) ?_
    refine lv_iconst (v := 1) hx hb dX11_setObstacle_9 (by decide) ?_
    have zl_3 : (0 : Int32).toInt = (0 : Int) := rfl
    have zl_4 : (1 : Int32).toInt = (1 : Int) := rfl
    refine g_callSi (va_runS (As := [.int b, .int 0, .int 1]) (rest := []) ⟨hx, hb, hml, hown, hts⟩ (c_X11_isIn l b 0 1) (va_cwS 3 hts gX11_setObstacle_X11_isIn rfl rfl rfl (by decide +kernel) ⟨Nat.le_of_ble_eq_true rfl, Nat.le_of_ble_eq_true rfl⟩) (g_preT) rfl rfl hl.1 rfl (lv_room (Nat.le_of_ble_eq_true rfl)) dX11_setObstacle_10 ⟨Nat.zero_le _, Nat.zero_le _⟩) (fun r_5 w_5 => ?_)
    try dsimp only at w_5
    refine lv_if_ne (tgt := 19) hx hb dX11_setObstacle_13 (by decide) (fun c_6 => ?_) (fun c_6 => ?_)
    · skip
      have q_6 : r_5.toInt ≠ (0 : Int) := i_ne2 (rfl : r_5.toInt = r_5.toInt) (show (0 : Int32).toInt = (0 : Int) from rfl) c_6
      refine lv_iload_n hx hb dX11_setObstacle_19 rfl (lv_at hl 2 rfl) ?_
      refine lv_iconst (v := 1) hx hb dX11_setObstacle_20 (by decide) ?_
      refine lv_icmp_ne (tgt := 43) hx hb dX11_setObstacle_21 (by decide) (fun c_7 => ?_) (fun c_7 => ?_)
      · skip
        have q_7 : b.toInt ≠ (1 : Int) := i_ne2 (rfl : b.toInt = b.toInt) (show (1 : Int32).toInt = (1 : Int) from rfl) c_7
        refine lv_aload_n hx hb dX11_setObstacle_43 rfl (lv_at hl 0 rfl) ?_
        refine m_callv (va_runV (As := []) (rest := []) ⟨hx, hb, hml, hown, hts⟩ (c_X11_changes l D cy ad hI _ iv ar hri.2.1 hri.2.2.1 hri.1) (cwV 0 hts gX11_setObstacle_X11_changes rfl rfl rfl (by decide +kernel) ⟨Nat.le_of_ble_eq_true rfl, Nat.le_of_ble_eq_true rfl⟩) (m_preV hP hK hSt hNw hS (m_at11 (Nat.le_of_ble_eq_true rfl) rfl) rfl) rfl rfl hl.1 rfl (lv_room (Nat.le_of_ble_eq_true rfl)) dX11_setObstacle_44 ⟨Nat.zero_le _, Nat.zero_le _⟩) hS (fun iv_8 ar_8 H locs w_8 hP hS => ?_)
        try dsimp only at w_8
        obtain ⟨ci, ca, c3, cpa, cz, c15⟩ := id w_8
        refine lv_aload_n hx hb dX11_setObstacle_47 rfl (lv_at hl 0 rfl) ?_
        refine va_get (D := D) (ci := 11) (v := .ref (ad 1)) (C := RX11) (T := TX11) (N := 30) hx hb hts inX11 hown hK hP 0 (m_at11 (Nat.le_of_ble_eq_true rfl) rfl) rfl 0 (by decide) lk0 (fun _ h9 => h9) rfl dX11_setObstacle_48 ?_
        refine lv_iconst (v := 3) hx hb dX11_setObstacle_51 (by decide) ?_
        refine lv_iload_n hx hb dX11_setObstacle_52 rfl (lv_at hl 1 rfl) ?_
        refine lv_iadd hx hb dX11_setObstacle_53 ?_
        refine lv_topi (fun v_9 ev_9 => ?_)
        have rg_10 := i_rng a
        have tv_9 : v_9.toInt = (3 : Int) + a.toInt := i_add (show (3 : Int32).toInt = (3 : Int) from rfl) (rfl : a.toInt = a.toInt) (by omega) (by omega) ev_9
        refine va_iald hx hb hK hP 1 0 (m_at12 (Nat.le_of_ble_eq_true rfl) rfl) rfl (g_in (N := 126) (rfl : v_9.toInt = v_9.toInt) rfl (by omega) (by omega)) dX11_setObstacle_54 ?_
        refine lv_topi (fun v_11 ev_11 => ?_)
        refine lv_istore_n (lv' := [(3, .int v_11), (0, .ref (ad 0)), (1, .int a), (2, .int b)]) hx hb dX11_setObstacle_55 rfl hl (by decide) rfl (fun ls hl => ?_)
        refine lv_aload_n hx hb dX11_setObstacle_56 rfl (lv_at hl 1 rfl) ?_
        refine va_get (D := D) (ci := 11) (v := .ref (ad 1)) (C := RX11) (T := TX11) (N := 30) hx hb hts inX11 hown hK hP 0 (m_at11 (Nat.le_of_ble_eq_true rfl) rfl) rfl 0 (by decide) lk0 (fun _ h9 => h9) rfl dX11_setObstacle_57 ?_
        refine lv_iconst (v := 3) hx hb dX11_setObstacle_60 (by decide) ?_
        refine lv_iload_n hx hb dX11_setObstacle_61 rfl (lv_at hl 2 rfl) ?_
        refine lv_iadd hx hb dX11_setObstacle_62 ?_
        refine lv_topi (fun v_12 ev_12 => ?_)
        have rg_13 := i_rng a
        have tv_12 : v_12.toInt = (3 : Int) + a.toInt := i_add (show (3 : Int32).toInt = (3 : Int) from rfl) (rfl : a.toInt = a.toInt) (by omega) (by omega) ev_12
        refine lv_iload_n hx hb dX11_setObstacle_63 rfl (lv_at hl 3 rfl) ?_
        refine va_iast hx hb hK hP (mD hI) hS 1 0 (m_at12 (Nat.le_of_ble_eq_true rfl) rfl) rfl (g_in (N := 126) (rfl : v_12.toInt = v_12.toInt) rfl (by omega) (by omega)) dX11_setObstacle_64 (fun H locs hP _ hS => ?_)
        rw [m_pt12 (Nat.le_of_ble_eq_true rfl) rfl] at hP
        obtain ⟨ar_14, ear_14⟩ : ∃ z : gAr, z = va_up ar_8 1 (upd (ar_8 1) v_12.toNatClampNeg b) := ⟨_, rfl⟩
        rw [← ear_14] at hP
        have hri2 : RI iv_8 ar_14 := RI.chg hri (by rw [ear_14, ua_s, g_cN (rfl : v_12.toInt = _), show (v_12.toInt).toNat = 3 + a.toInt.toNat from by omega, ca 1 (by omega) (by omega)]; exact SI.ob hri.1 (by omega) (by first | exact Or.inl (by omega) | exact Or.inr (fun i hi => by have := hno i hi; omega))) c3 (fun k hk => SI.of (cpa k hk) (fun i hi => by show ar_14 2 _ = _; rw [ear_14, ua_o (by omega)])) (fun g hg => by rw [ear_14, ua_o (by omega)]; exact cz g hg) c15 (ci 0 4 (by omega)) (ci 0 17 (by omega)) (by rw [ear_14, ua_o (by omega)]; exact ca 7 (by omega) (by omega)) (by rw [ear_14, ua_o (by omega)]; exact ca 8 (by omega) (by omega))
        refine lv_iload_n hx hb dX11_setObstacle_65 rfl (lv_at hl 0 rfl) ?_
        rw [hQ]
        exact W.iret (v := v_11) hx hb hr (fun t ht hW => ⟨⟨v_11, (iv_8, ar_14), rfl, ⟨hri2, ci 0 4 (by omega), ci 0 17 (by omega)⟩, by show va_P _ _ _ _; rw [ht]; exact hP⟩, hS.F ht⟩) hS.2.2 dX11_setObstacle_66
      · skip
        have q_7 : b.toInt = (1 : Int) := i_eq2 (rfl : b.toInt = b.toInt) (show (1 : Int32).toInt = (1 : Int) from rfl) c_7
        refine lv_aload_n hx hb dX11_setObstacle_24 rfl (lv_at hl 0 rfl) ?_
        refine lv_iload_n hx hb dX11_setObstacle_25 rfl (lv_at hl 1 rfl) ?_
        refine g_callSi (va_runV (As := [.int a]) (rest := []) ⟨hx, hb, hml, hown, hts⟩ (c_X11_droneAt l D cy ad hI _ iv ar a ⟨hri.1.1.1, hri.1.1.2.1⟩) (cwV 1 hts gX11_setObstacle_X11_droneAt rfl rfl rfl (by decide +kernel) ⟨Nat.le_of_ble_eq_true rfl, Nat.le_of_ble_eq_true rfl⟩) (m_preV hP hK hSt hNw hS (m_at11 (Nat.le_of_ble_eq_true rfl) rfl) rfl) rfl rfl hl.1 rfl (lv_room (Nat.le_of_ble_eq_true rfl)) dX11_setObstacle_26 ⟨Nat.zero_le _, Nat.zero_le _⟩) (fun r_15 w_15 => ?_)
        try dsimp only at w_15
        refine lv_if_ge (tgt := 40) hx hb dX11_setObstacle_29 (by decide) (fun c_16 => ?_) (fun c_16 => ?_)
        · skip
          have q_16 : (0 : Int) ≤ r_15.toInt := i_le2 (show (0 : Int32).toInt = (0 : Int) from rfl) (rfl : r_15.toInt = r_15.toInt) c_16
          refine lv_bipush (v := (-4)) hx hb dX11_setObstacle_40 (by decide) ?_
          rw [hQ]
          exact W.iret (v := (-4)) hx hb hr (fun t ht hW => ⟨⟨(-4), (iv, ar), rfl, ⟨hri, rfl, rfl⟩, by show va_P _ _ _ _; rw [ht]; exact hP⟩, hS.F ht⟩) hS.2.2 dX11_setObstacle_42
        · skip
          have q_16 : r_15.toInt < (0 : Int) := i_nle2 (show (0 : Int32).toInt = (0 : Int) from rfl) (rfl : r_15.toInt = r_15.toInt) c_16
          have hno : ∀ i : Nat, (i : Int) < (ar 1 111).toInt → (ar 1 (112 + i)).toInt ≠ a.toInt := by
            rcases w_15 with z | z
            · exact z.2
            · exfalso; omega
          refine lv_aload_n hx hb dX11_setObstacle_32 rfl (lv_at hl 0 rfl) ?_
          refine lv_iload_n hx hb dX11_setObstacle_33 rfl (lv_at hl 1 rfl) ?_
          refine g_callSi (va_runV (As := [.int a]) (rest := []) ⟨hx, hb, hml, hown, hts⟩ (c_X11_slotAt l D cy ad hI _ iv ar a ⟨hri.1.1.2.2.1, hri.1.1.2.2.2.1⟩) (cwV 1 hts gX11_setObstacle_X11_slotAt rfl rfl rfl (by decide +kernel) ⟨Nat.le_of_ble_eq_true rfl, Nat.le_of_ble_eq_true rfl⟩) (m_preV hP hK hSt hNw hS (m_at11 (Nat.le_of_ble_eq_true rfl) rfl) rfl) rfl rfl hl.1 rfl (lv_room (Nat.le_of_ble_eq_true rfl)) dX11_setObstacle_34 ⟨Nat.zero_le _, Nat.zero_le _⟩) (fun r_17 w_17 => ?_)
          try dsimp only at w_17
          refine lv_if_lt (tgt := 43) hx hb dX11_setObstacle_37 (by decide) (fun c_18 => ?_) (fun c_18 => ?_)
          · skip
            have q_18 : r_17.toInt < (0 : Int) := i_lt2 (rfl : r_17.toInt = r_17.toInt) (show (0 : Int32).toInt = (0 : Int) from rfl) c_18
            refine lv_aload_n hx hb dX11_setObstacle_43 rfl (lv_at hl 0 rfl) ?_
            refine m_callv (va_runV (As := []) (rest := []) ⟨hx, hb, hml, hown, hts⟩ (c_X11_changes l D cy ad hI _ iv ar hri.2.1 hri.2.2.1 hri.1) (cwV 0 hts gX11_setObstacle_X11_changes rfl rfl rfl (by decide +kernel) ⟨Nat.le_of_ble_eq_true rfl, Nat.le_of_ble_eq_true rfl⟩) (m_preV hP hK hSt hNw hS (m_at11 (Nat.le_of_ble_eq_true rfl) rfl) rfl) rfl rfl hl.1 rfl (lv_room (Nat.le_of_ble_eq_true rfl)) dX11_setObstacle_44 ⟨Nat.zero_le _, Nat.zero_le _⟩) hS (fun iv_19 ar_19 H locs w_19 hP hS => ?_)
            try dsimp only at w_19
            obtain ⟨ci, ca, c3, cpa, cz, c15⟩ := id w_19
            refine lv_aload_n hx hb dX11_setObstacle_47 rfl (lv_at hl 0 rfl) ?_
            refine va_get (D := D) (ci := 11) (v := .ref (ad 1)) (C := RX11) (T := TX11) (N := 30) hx hb hts inX11 hown hK hP 0 (m_at11 (Nat.le_of_ble_eq_true rfl) rfl) rfl 0 (by decide) lk0 (fun _ h9 => h9) rfl dX11_setObstacle_48 ?_
            refine lv_iconst (v := 3) hx hb dX11_setObstacle_51 (by decide) ?_
            refine lv_iload_n hx hb dX11_setObstacle_52 rfl (lv_at hl 1 rfl) ?_
            refine lv_iadd hx hb dX11_setObstacle_53 ?_
            refine lv_topi (fun v_20 ev_20 => ?_)
            have rg_21 := i_rng a
            have tv_20 : v_20.toInt = (3 : Int) + a.toInt := i_add (show (3 : Int32).toInt = (3 : Int) from rfl) (rfl : a.toInt = a.toInt) (by omega) (by omega) ev_20
            refine va_iald hx hb hK hP 1 0 (m_at12 (Nat.le_of_ble_eq_true rfl) rfl) rfl (g_in (N := 126) (rfl : v_20.toInt = v_20.toInt) rfl (by omega) (by omega)) dX11_setObstacle_54 ?_
            refine lv_topi (fun v_22 ev_22 => ?_)
            refine lv_istore_n (lv' := [(3, .int v_22), (0, .ref (ad 0)), (1, .int a), (2, .int b)]) hx hb dX11_setObstacle_55 rfl hl (by decide) rfl (fun ls hl => ?_)
            refine lv_aload_n hx hb dX11_setObstacle_56 rfl (lv_at hl 1 rfl) ?_
            refine va_get (D := D) (ci := 11) (v := .ref (ad 1)) (C := RX11) (T := TX11) (N := 30) hx hb hts inX11 hown hK hP 0 (m_at11 (Nat.le_of_ble_eq_true rfl) rfl) rfl 0 (by decide) lk0 (fun _ h9 => h9) rfl dX11_setObstacle_57 ?_
            refine lv_iconst (v := 3) hx hb dX11_setObstacle_60 (by decide) ?_
            refine lv_iload_n hx hb dX11_setObstacle_61 rfl (lv_at hl 2 rfl) ?_
            refine lv_iadd hx hb dX11_setObstacle_62 ?_
            refine lv_topi (fun v_23 ev_23 => ?_)
            have rg_24 := i_rng a
            have tv_23 : v_23.toInt = (3 : Int) + a.toInt := i_add (show (3 : Int32).toInt = (3 : Int) from rfl) (rfl : a.toInt = a.toInt) (by omega) (by omega) ev_23
            refine lv_iload_n hx hb dX11_setObstacle_63 rfl (lv_at hl 3 rfl) ?_
            refine va_iast hx hb hK hP (mD hI) hS 1 0 (m_at12 (Nat.le_of_ble_eq_true rfl) rfl) rfl (g_in (N := 126) (rfl : v_23.toInt = v_23.toInt) rfl (by omega) (by omega)) dX11_setObstacle_64 (fun H locs hP _ hS => ?_)
            rw [m_pt12 (Nat.le_of_ble_eq_true rfl) rfl] at hP
            obtain ⟨ar_25, ear_25⟩ : ∃ z : gAr, z = va_up ar_19 1 (upd (ar_19 1) v_23.toNatClampNeg b) := ⟨_, rfl⟩
            rw [← ear_25] at hP
            have hri2 : RI iv_19 ar_25 := RI.chg hri (by rw [ear_25, ua_s, g_cN (rfl : v_23.toInt = _), show (v_23.toInt).toNat = 3 + a.toInt.toNat from by omega, ca 1 (by omega) (by omega)]; exact SI.ob hri.1 (by omega) (by first | exact Or.inl (by omega) | exact Or.inr (fun i hi => by have := hno i hi; omega))) c3 (fun k hk => SI.of (cpa k hk) (fun i hi => by show ar_25 2 _ = _; rw [ear_25, ua_o (by omega)])) (fun g hg => by rw [ear_25, ua_o (by omega)]; exact cz g hg) c15 (ci 0 4 (by omega)) (ci 0 17 (by omega)) (by rw [ear_25, ua_o (by omega)]; exact ca 7 (by omega) (by omega)) (by rw [ear_25, ua_o (by omega)]; exact ca 8 (by omega) (by omega))
            refine lv_iload_n hx hb dX11_setObstacle_65 rfl (lv_at hl 0 rfl) ?_
            rw [hQ]
            exact W.iret (v := v_22) hx hb hr (fun t ht hW => ⟨⟨v_22, (iv_19, ar_25), rfl, ⟨hri2, ci 0 4 (by omega), ci 0 17 (by omega)⟩, by show va_P _ _ _ _; rw [ht]; exact hP⟩, hS.F ht⟩) hS.2.2 dX11_setObstacle_66
          · skip
            have q_18 : (0 : Int) ≤ r_17.toInt := i_nlt2 (rfl : r_17.toInt = r_17.toInt) (show (0 : Int32).toInt = (0 : Int) from rfl) c_18
            refine lv_bipush (v := (-4)) hx hb dX11_setObstacle_40 (by decide) ?_
            rw [hQ]
            exact W.iret (v := (-4)) hx hb hr (fun t ht hW => ⟨⟨(-4), (iv, ar), rfl, ⟨hri, rfl, rfl⟩, by show va_P _ _ _ _; rw [ht]; exact hP⟩, hS.F ht⟩) hS.2.2 dX11_setObstacle_42
    · skip
      have q_6 : r_5.toInt = (0 : Int) := i_eq2 (rfl : r_5.toInt = r_5.toInt) (show (0 : Int32).toInt = (0 : Int) from rfl) c_6
      refine lv_bipush (v := (-2)) hx hb dX11_setObstacle_16 (by decide) ?_
      rw [hQ]
      exact W.iret (v := (-2)) hx hb hr (fun t ht hW => ⟨⟨(-2), (iv, ar), rfl, ⟨hri, rfl, rfl⟩, by show va_P _ _ _ _; rw [ht]; exact hP⟩, hS.F ht⟩) hS.2.2 dX11_setObstacle_18
set_option maxHeartbeats 4000000 in
set_option maxRecDepth 100000 in
theorem c_X11_clearSlots (l : Launch) (D : va_G) (cy : Nat → ClassId) (ad : Nat → Nat) (hI : mInj ad) (sz : Nat) (iv : gIv) (ar : gAr)  (hri : RI iv ar) : Met l yX11_clearSlots wsX11_clearSlots ({ frames := 2, cells := 0, slots := 0, locals := 41 } : Room) (va_Pc [.ref (ad 0)] (mPre D cy ad sz iv ar)) (va_Qi (fun (r : Int32) (u : gIv × gAr) => RI u.1 u.2 ∧ u.1 0 4 = iv 0 4 ∧ u.1 0 17 = iv 0 17) (mPost D cy ad) (mA ad sz)) 0 0 (mA ad sz) := by
  refine Met.ofW (cc := cX11_clearSlots) (maxL := 2) (ret := (some .int)) (by decide) rfl ?_
  intro p e s m args below meth c s₁ B hml hv
  obtain ⟨rfl, rfl, hP, hK, hSt, hNw⟩ := hv
  have hx := B.exec
  have hb := B.bytes
  have hr := B.returns
  have hts := atoms_spec (ws := wsX11_clearSlots) B.pre
  have hown : s.vm.findClass RX11 = some m.cls := findClass_of_methodNamed B.named
  have hlocks := B.notSynchronized
  have hS : va_S (mA ad s.heap.size) s.heap s.heap [] := va_S.rf
  have inX11 : ∀ w ∈ u_ws RX11 TX11 30, w ∈ wsX11_clearSlots := by decide +kernel
  have lk0 := hts (.fieldLink RX11 9 "FormationPlannerModel" "s" "[I") (by decide +kernel)
  have hl := lv_entry ([.ref (ad 0)]) (n := 2) (Nat.le_of_ble_eq_true rfl)
  rw [lg_entry_eq]
  generalize (lg_sl ([.ref (ad 0)]) ++ List.replicate (2 - (lg_sl ([.ref (ad 0)])).length) Slot.unset).toArray = ls at hl ⊢
  have hl : lv_has ls 2 [(0, .ref (ad 0))] := hl
  obtain ⟨Q, hQ⟩ : ∃ Q, Q = MQ below (va_Qi (fun (r : Int32) (u : gIv × gAr) => RI u.1 u.2 ∧ u.1 0 4 = iv 0 4 ∧ u.1 0 17 = iv 0 17) (mPost D cy ad) (mA ad s.heap.size)) (([.ref (ad 0)] : List Value).toArray) s 0 0 (mA ad s.heap.size) := ⟨_, rfl⟩
  rw [← hQ]
  refine lv_aload_n hx hb dX11_clearSlots_0 rfl (lv_at hl 0 rfl) ?_
  refine m_callv (va_runV (As := []) (rest := []) ⟨hx, hb, hml, hown, hts⟩ (c_X11_changes l D cy ad hI _ iv ar hri.2.1 hri.2.2.1 hri.1) (cwV 0 hts gX11_clearSlots_X11_changes rfl rfl rfl (by decide +kernel) ⟨Nat.le_of_ble_eq_true rfl, Nat.le_of_ble_eq_true rfl⟩) (m_preV hP hK hSt hNw hS (m_at11 (Nat.le_of_ble_eq_true rfl) rfl) rfl) rfl rfl hl.1 rfl (lv_room (Nat.le_of_ble_eq_true rfl)) dX11_clearSlots_1 ⟨Nat.zero_le _, Nat.zero_le _⟩) hS (fun iv_1 ar_1 H locs w_1 hP hS => ?_)
  try dsimp only at w_1
  obtain ⟨ci, ca, c3, cpa, cz, c15⟩ := id w_1
  refine lv_aload_n hx hb dX11_clearSlots_4 rfl (lv_at hl 0 rfl) ?_
  refine va_get (D := D) (ci := 11) (v := .ref (ad 1)) (C := RX11) (T := TX11) (N := 30) hx hb hts inX11 hown hK hP 0 (m_at11 (Nat.le_of_ble_eq_true rfl) rfl) rfl 0 (by decide) lk0 (fun _ h9 => h9) rfl dX11_clearSlots_5 ?_
  refine lv_bipush (v := 118) hx hb dX11_clearSlots_8 (by decide) ?_
  refine va_iald hx hb hK hP 1 0 (m_at12 (Nat.le_of_ble_eq_true rfl) rfl) rfl (g_in (N := 126) (show (118 : Int32).toInt = (118 : Int) from rfl) rfl (by omega) (by omega)) dX11_clearSlots_10 ?_
  refine lv_topi (fun v_2 ev_2 => ?_)
  refine lv_istore_n (lv' := [(1, .int v_2), (0, .ref (ad 0))]) hx hb dX11_clearSlots_11 rfl hl (by decide) rfl (fun ls hl => ?_)
  refine lv_aload_n hx hb dX11_clearSlots_12 rfl (lv_at hl 1 rfl) ?_
  refine va_get (D := D) (ci := 11) (v := .ref (ad 1)) (C := RX11) (T := TX11) (N := 30) hx hb hts inX11 hown hK hP 0 (m_at11 (Nat.le_of_ble_eq_true rfl) rfl) rfl 0 (by decide) lk0 (fun _ h9 => h9) rfl dX11_clearSlots_13 ?_
  refine lv_bipush (v := 118) hx hb dX11_clearSlots_16 (by decide) ?_
  refine lv_iconst (v := 0) hx hb dX11_clearSlots_18 (by decide) ?_
  refine va_iast hx hb hK hP (mD hI) hS 1 0 (m_at12 (Nat.le_of_ble_eq_true rfl) rfl) rfl (g_in (N := 126) (show (118 : Int32).toInt = (118 : Int) from rfl) rfl (by omega) (by omega)) dX11_clearSlots_19 (fun H locs hP _ hS => ?_)
  rw [m_pt12 (Nat.le_of_ble_eq_true rfl) rfl] at hP
  obtain ⟨ar_3, ear_3⟩ : ∃ z : gAr, z = va_up ar_1 1 (upd (ar_1 1) (118 : Int32).toNatClampNeg 0) := ⟨_, rfl⟩
  rw [← ear_3] at hP
  have hri2 : RI iv_1 ar_3 := RI.chg hri (by rw [ear_3, ua_s, show (118 : Int32).toNatClampNeg = 118 from rfl, ca 1 (by omega) (by omega)]; exact SI.sl hri.1 (by have z0 := i_l0; omega)) c3 (fun k hk => SI.of (cpa k hk) (fun i hi => by show ar_3 2 _ = _; rw [ear_3, ua_o (by omega)])) (fun g hg => by rw [ear_3, ua_o (by omega)]; exact cz g hg) c15 (ci 0 4 (by omega)) (ci 0 17 (by omega)) (by rw [ear_3, ua_o (by omega)]; exact ca 7 (by omega) (by omega)) (by rw [ear_3, ua_o (by omega)]; exact ca 8 (by omega) (by omega))
  refine lv_iload_n hx hb dX11_clearSlots_20 rfl (lv_at hl 0 rfl) ?_
  rw [hQ]
  exact W.iret (v := v_2) hx hb hr (fun t ht hW => ⟨⟨v_2, (iv_1, ar_3), rfl, ⟨hri2, ci 0 4 (by omega), ci 0 17 (by omega)⟩, by show va_P _ _ _ _; rw [ht]; exact hP⟩, hS.F ht⟩) hS.2.2 dX11_clearSlots_21
