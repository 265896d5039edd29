set_option maxHeartbeats 4000000 in
set_option maxRecDepth 100000 in
theorem c_X11_setWind (l : Launch) (D : va_G) (cy : Nat → ClassId) (ad : Nat → Nat) (hI : mInj ad) (sz : Nat) (iv : gIv) (ar : gAr) (a : Int32) (b : Int32) (hri : RI iv ar) : Met l yX11_setWind wsX11_setWind ({ frames := 2, cells := 0, slots := 0, locals := 41 } : Room) (va_Pc [.ref (ad 0), .int a, .int b] (mPre D cy ad sz iv ar)) (va_Qi (fun (r : Int32) (u : gIv × gAr) => RI u.1 u.2 ∧ u.1 0 4 = iv 0 4 ∧ u.1 0 17 = iv 0 17) (mPost D cy ad) (mA ad sz)) 0 0 (mA ad sz) := by
  refine Met.ofW (cc := cX11_setWind) (maxL := 4) (ret := (some .int)) (by decide) rfl ?_
  intro p e s m args below meth c s₁ B hml hv
  obtain ⟨rfl, rfl, hP, hK, hSt, hNw⟩ := hv
  have hx := B.exec
  have hb := B.bytes
  have hr := B.returns
  have hts := atoms_spec (ws := wsX11_setWind) B.pre
  have hown : s.vm.findClass RX11 = some m.cls := findClass_of_methodNamed B.named
  have hlocks := B.notSynchronized
  have hS : va_S (mA ad s.heap.size) s.heap s.heap [] := va_S.rf
  have inX11 : ∀ w ∈ u_ws RX11 TX11 30, w ∈ wsX11_setWind := by decide +kernel
  have lk0 := hts (.fieldLink RX11 9 "FormationPlannerModel" "s" "[I") (by decide +kernel)
  have hl := lv_entry ([.ref (ad 0), .int a, .int b]) (n := 4) (Nat.le_of_ble_eq_true rfl)
  rw [lg_entry_eq]
  generalize (lg_sl ([.ref (ad 0), .int a, .int b]) ++ List.replicate (4 - (lg_sl ([.ref (ad 0), .int a, .int b])).length) Slot.unset).toArray = ls at hl ⊢
  have hl : lv_has ls 4 [(0, .ref (ad 0)), (1, .int a), (2, .int b)] := hl
  obtain ⟨Q, hQ⟩ : ∃ Q, Q = MQ below (va_Qi (fun (r : Int32) (u : gIv × gAr) => RI u.1 u.2 ∧ u.1 0 4 = iv 0 4 ∧ u.1 0 17 = iv 0 17) (mPost D cy ad) (mA ad s.heap.size)) (([.ref (ad 0), .int a, .int b] : List Value).toArray) s 0 0 (mA ad s.heap.size) := ⟨_, rfl⟩
  rw [← hQ]
  refine lv_iload_n hx hb dX11_setWind_0 rfl (lv_at hl 1 rfl) ?_
  refine lv_iconst (v := 0) hx hb dX11_setWind_1 (by decide) ?_
  refine lv_iconst (v := 2) hx hb dX11_setWind_2 (by decide) ?_
  have zl_1 : (0 : Int32).toInt = (0 : Int) := rfl
  have zl_2 : (2 : Int32).toInt = (2 : Int) := rfl
  refine g_callSi (va_runS (As := [.int a, .int 0, .int 2]) (rest := []) ⟨hx, hb, hml, hown, hts⟩ (c_X11_isIn l a 0 2) (va_cwS 3 hts gX11_setWind_X11_isIn rfl rfl rfl (by decide +kernel) ⟨Nat.le_of_ble_eq_true rfl, Nat.le_of_ble_eq_true rfl⟩) (g_preT) rfl rfl hl.1 rfl (lv_room (Nat.le_of_ble_eq_true rfl)) dX11_setWind_3 ⟨Nat.zero_le _, Nat.zero_le _⟩) (fun r_3 w_3 => ?_)
  try dsimp only at w_3
  refine lv_if_eq (tgt := 18) hx hb dX11_setWind_6 (by decide) (fun c_4 => ?_) (fun c_4 => ?_)
  · skip
    have q_4 : r_3.toInt = (0 : Int) := i_eq2 (rfl : r_3.toInt = r_3.toInt) (show (0 : Int32).toInt = (0 : Int) from rfl) c_4
    refine lv_bipush (v := (-2)) hx hb dX11_setWind_18 (by decide) ?_
    rw [hQ]
    exact W.iret (v := (-2)) hx hb hr (fun t ht hW => ⟨⟨(-2), (iv, ar), rfl, ⟨hri, rfl, rfl⟩, by show va_P _ _ _ _; rw [ht]; exact hP⟩, hS.F ht⟩) hS.2.2 dX11_setWind_20
  · skip
    have q_4 : r_3.toInt ≠ (0 : Int) := i_ne2 (rfl : r_3.toInt = r_3.toInt) (show (0 : Int32).toInt = (0 : Int) from rfl) c_4
    refine lv_iload_n hx hb dX11_setWind_9 rfl (lv_at hl 2 rfl) ?_
    refine lv_iconst (v := 0) hx hb dX11_setWind_10 (by decide) ?_
    refine lv_iconst (v := 4) hx hb dX11_setWind_11 (by decide) ?_
    have zl_5 : (0 : Int32).toInt = (0 : Int) := rfl
    have zl_6 : (4 : Int32).toInt = (4 : Int) := rfl
    refine g_callSi (va_runS (As := [.int b, .int 0, .int 4]) (rest := []) ⟨hx, hb, hml, hown, hts⟩ (c_X11_isIn l b 0 4) (va_cwS 3 hts gX11_setWind_X11_isIn rfl rfl rfl (by decide +kernel) ⟨Nat.le_of_ble_eq_true rfl, Nat.le_of_ble_eq_true rfl⟩) (g_preT) rfl rfl hl.1 rfl (lv_room (Nat.le_of_ble_eq_true rfl)) dX11_setWind_12 ⟨Nat.zero_le _, Nat.zero_le _⟩) (fun r_7 w_7 => ?_)
    try dsimp only at w_7
    refine lv_if_ne (tgt := 21) hx hb dX11_setWind_15 (by decide) (fun c_8 => ?_) (fun c_8 => ?_)
    · skip
      have q_8 : r_7.toInt ≠ (0 : Int) := i_ne2 (rfl : r_7.toInt = r_7.toInt) (show (0 : Int32).toInt = (0 : Int) from rfl) c_8
      refine lv_aload_n hx hb dX11_setWind_21 rfl (lv_at hl 0 rfl) ?_
      refine m_callv (va_runV (As := []) (rest := []) ⟨hx, hb, hml, hown, hts⟩ (c_X11_changes l D cy ad hI _ iv ar hri.2.1 hri.2.2.1 hri.1) (cwV 0 hts gX11_setWind_X11_changes rfl rfl rfl (by decide +kernel) ⟨Nat.le_of_ble_eq_true rfl, Nat.le_of_ble_eq_true rfl⟩) (m_preV hP hK hSt hNw hS (m_at11 (Nat.le_of_ble_eq_true rfl) rfl) rfl) rfl rfl hl.1 rfl (lv_room (Nat.le_of_ble_eq_true rfl)) dX11_setWind_22 ⟨Nat.zero_le _, Nat.zero_le _⟩) hS (fun iv_9 ar_9 H locs w_9 hP hS => ?_)
      try dsimp only at w_9
      obtain ⟨ci, ca, c3, cpa, cz, c15⟩ := id w_9
      refine lv_aload_n hx hb dX11_setWind_25 rfl (lv_at hl 0 rfl) ?_
      refine va_get (D := D) (ci := 11) (v := .ref (ad 1)) (C := RX11) (T := TX11) (N := 30) hx hb hts inX11 hown hK hP 0 (m_at11 (Nat.le_of_ble_eq_true rfl) rfl) rfl 0 (by decide) lk0 (fun _ h9 => h9) rfl dX11_setWind_26 ?_
      refine lv_iconst (v := 0) hx hb dX11_setWind_29 (by decide) ?_
      refine lv_iload_n hx hb dX11_setWind_30 rfl (lv_at hl 1 rfl) ?_
      refine lv_iadd hx hb dX11_setWind_31 ?_
      refine lv_topi (fun v_10 ev_10 => ?_)
      have tv_10 : v_10.toInt = (0 : Int) + a.toInt := i_add (show (0 : Int32).toInt = (0 : Int) from rfl) (rfl : a.toInt = a.toInt) (by omega) (by omega) ev_10
      refine va_iald hx hb hK hP 1 0 (m_at12 (Nat.le_of_ble_eq_true rfl) rfl) rfl (g_in (N := 126) (rfl : v_10.toInt = v_10.toInt) rfl (by omega) (by omega)) dX11_setWind_32 ?_
      refine lv_topi (fun v_11 ev_11 => ?_)
      refine lv_istore_n (lv' := [(3, .int v_11), (0, .ref (ad 0)), (1, .int a), (2, .int b)]) hx hb dX11_setWind_33 rfl hl (by decide) rfl (fun ls hl => ?_)
      refine lv_aload_n hx hb dX11_setWind_34 rfl (lv_at hl 1 rfl) ?_
      refine va_get (D := D) (ci := 11) (v := .ref (ad 1)) (C := RX11) (T := TX11) (N := 30) hx hb hts inX11 hown hK hP 0 (m_at11 (Nat.le_of_ble_eq_true rfl) rfl) rfl 0 (by decide) lk0 (fun _ h9 => h9) rfl dX11_setWind_35 ?_
      refine lv_iconst (v := 0) hx hb dX11_setWind_38 (by decide) ?_
      refine lv_iload_n hx hb dX11_setWind_39 rfl (lv_at hl 2 rfl) ?_
      refine lv_iadd hx hb dX11_setWind_40 ?_
      refine lv_topi (fun v_12 ev_12 => ?_)
      have tv_12 : v_12.toInt = (0 : Int) + a.toInt := i_add (show (0 : Int32).toInt = (0 : Int) from rfl) (rfl : a.toInt = a.toInt) (by omega) (by omega) ev_12
      refine lv_iload_n hx hb dX11_setWind_41 rfl (lv_at hl 3 rfl) ?_
      refine va_iast hx hb hK hP (mD hI) hS 1 0 (m_at12 (Nat.le_of_ble_eq_true rfl) rfl) rfl (g_in (N := 126) (rfl : v_12.toInt = v_12.toInt) rfl (by omega) (by omega)) dX11_setWind_42 (fun H locs hP _ hS => ?_)
      rw [m_pt12 (Nat.le_of_ble_eq_true rfl) rfl] at hP
      obtain ⟨ar_13, ear_13⟩ : ∃ z : gAr, z = va_up ar_9 1 (upd (ar_9 1) v_12.toNatClampNeg b) := ⟨_, rfl⟩
      rw [← ear_13] at hP
      have hri2 : RI iv_9 ar_13 := RI.chg hri (SI.ge3 hri.1 (fun i h3 hi => by rw [ear_13, ua_s, pk_un (show i ≠ v_12.toNatClampNeg from by rw [g_cN (rfl : v_12.toInt = _)]; omega), ca 1 (by omega) (by omega)])) c3 (fun k hk => SI.of (cpa k hk) (fun i hi => by show ar_13 2 _ = _; rw [ear_13, ua_o (by omega)])) (fun g hg => by rw [ear_13, ua_o (by omega)]; exact cz g hg) c15 (ci 0 4 (by omega)) (ci 0 17 (by omega)) (by rw [ear_13, ua_o (by omega)]; exact ca 7 (by omega) (by omega)) (by rw [ear_13, ua_o (by omega)]; exact ca 8 (by omega) (by omega))
      refine lv_iload_n hx hb dX11_setWind_43 rfl (lv_at hl 0 rfl) ?_
      rw [hQ]
      exact W.iret (v := v_11) hx hb hr (fun t ht hW => ⟨⟨v_11, (iv_9, ar_13), rfl, ⟨hri2, ci 0 4 (by omega), ci 0 17 (by omega)⟩, by show va_P _ _ _ _; rw [ht]; exact hP⟩, hS.F ht⟩) hS.2.2 dX11_setWind_44
    · skip
      have q_8 : r_7.toInt = (0 : Int) := i_eq2 (rfl : r_7.toInt = r_7.toInt) (show (0 : Int32).toInt = (0 : Int) from rfl) c_8
      refine lv_bipush (v := (-2)) hx hb dX11_setWind_18 (by decide) ?_
      rw [hQ]
      exact W.iret (v := (-2)) hx hb hr (fun t ht hW => ⟨⟨(-2), (iv, ar), rfl, ⟨hri, rfl, rfl⟩, by show va_P _ _ _ _; rw [ht]; exact hP⟩, hS.F ht⟩) hS.2.2 dX11_setWind_20
