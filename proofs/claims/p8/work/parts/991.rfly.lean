set_option maxHeartbeats 4000000 in
set_option maxRecDepth 100000 in
theorem c_X11_greatestWith (l : Launch) (D : va_G) (cy : Nat → ClassId) (ad : Nat → Nat) (hI : mInj ad) (sz : Nat) (iv : gIv) (ar : gAr) (a : Int32) (b : Int32) (hri : RI iv ar) : Met l yX11_greatestWith wsX11_greatestWith ({ frames := 11, cells := 0, slots := 0, locals := 272 } : Room) (va_Pc [.ref (ad 0), .int a, .int b] (mPre D cy ad sz iv ar)) (va_Qi (fun (r : Int32) (u : gIv × gAr) => RI u.1 u.2 ∧ u.1 0 4 = iv 0 4 ∧ u.1 0 17 = iv 0 17) (mPost D cy ad) (mA ad sz)) 0 0 (mA ad sz) := by
  refine Met.ofW (cc := cX11_greatestWith) (maxL := 5) (ret := (some .int)) (by decide) rfl ?_
  intro p e s m args below meth c s₁ B hml hv
  obtain ⟨rfl, rfl, hP, hK, hSt, hNw⟩ := hv
  have hx := B.exec
  have hb := B.bytes
  have hr := B.returns
  have hts := atoms_spec (ws := wsX11_greatestWith) B.pre
  have hown : s.vm.findClass RX11 = some m.cls := findClass_of_methodNamed B.named
  have hlocks := B.notSynchronized
  have hS : va_S (mA ad s.heap.size) s.heap s.heap [] := va_S.rf
  have inX11 : ∀ w ∈ u_ws RX11 TX11 30, w ∈ wsX11_greatestWith := by decide +kernel
  have lk0 := hts (.fieldLink RX11 9 "FormationPlannerModel" "s" "[I") (by decide +kernel)
  have lk1 := hts (.fieldLink RX11 142 "FormationPlannerModel" "greatest" "I") (by decide +kernel)
  have hl := lv_entry ([.ref (ad 0), .int a, .int b]) (n := 5) (Nat.le_of_ble_eq_true rfl)
  rw [lg_entry_eq]
  generalize (lg_sl ([.ref (ad 0), .int a, .int b]) ++ List.replicate (5 - (lg_sl ([.ref (ad 0), .int a, .int b])).length) Slot.unset).toArray = ls at hl ⊢
  have hl : lv_has ls 5 [(0, .ref (ad 0)), (1, .int a), (2, .int b)] := hl
  obtain ⟨Q, hQ⟩ : ∃ Q, Q = MQ below (va_Qi (fun (r : Int32) (u : gIv × gAr) => RI u.1 u.2 ∧ u.1 0 4 = iv 0 4 ∧ u.1 0 17 = iv 0 17) (mPost D cy ad) (mA ad s.heap.size)) (([.ref (ad 0), .int a, .int b] : List Value).toArray) s 0 0 (mA ad s.heap.size) := ⟨_, rfl⟩
  rw [← hQ]
  refine lv_iload_n hx hb dX11_greatestWith_0 rfl (lv_at hl 1 rfl) ?_
  refine lv_iconst (v := 0) hx hb dX11_greatestWith_1 (by decide) ?_
  refine lv_iconst (v := 2) hx hb dX11_greatestWith_2 (by decide) ?_
  have zl_1 : (0 : Int32).toInt = (0 : Int) := rfl
  have zl_2 : (2 : Int32).toInt = (2 : Int) := rfl
  refine g_callSi (va_runS (As := [.int a, .int 0, .int 2]) (rest := []) ⟨hx, hb, hml, hown, hts⟩ (c_X11_isIn l a 0 2) (va_cwS 3 hts gX11_greatestWith_X11_isIn rfl rfl rfl (by decide +kernel) ⟨Nat.le_of_ble_eq_true rfl, Nat.le_of_ble_eq_true rfl⟩) (g_preT) rfl rfl hl.1 rfl (lv_room (Nat.le_of_ble_eq_true rfl)) dX11_greatestWith_3 ⟨Nat.zero_le _, Nat.zero_le _⟩) (fun r_3 w_3 => ?_)
  try dsimp only at w_3
  refine lv_if_eq (tgt := 18) hx hb dX11_greatestWith_6 (by decide) (fun c_4 => ?_) (fun c_4 => ?_)
  · skip
    have q_4 : r_3.toInt = (0 : Int) := i_eq2 (rfl : r_3.toInt = r_3.toInt) (show (0 : Int32).toInt = (0 : Int) from rfl) c_4
    refine lv_bipush (v := (-2)) hx hb dX11_greatestWith_18 (by decide) ?_
    rw [hQ]
    exact W.iret (v := (-2)) hx hb hr (fun t ht hW => ⟨⟨(-2), (iv, ar), rfl, ⟨hri, rfl, rfl⟩, by show va_P _ _ _ _; rw [ht]; exact hP⟩, hS.F ht⟩) hS.2.2 dX11_greatestWith_20
  · skip
    have q_4 : r_3.toInt ≠ (0 : Int) := i_ne2 (rfl : r_3.toInt = r_3.toInt) (show (0 : Int32).toInt = (0 : Int) from rfl) c_4
    refine lv_iload_n hx hb dX11_greatestWith_9 rfl (lv_at hl 2 rfl) ?_
    refine lv_iconst (v := 0) hx hb dX11_greatestWith_10 (by decide) ?_
    refine lv_iconst (v := 4) hx hb dX11_greatestWith_11 (by decide) ?_
    have zl_5 : (0 : Int32).toInt = (0 : Int) := rfl
    have zl_6 : (4 : Int32).toInt = (4 : Int) := rfl
    refine g_callSi (va_runS (As := [.int b, .int 0, .int 4]) (rest := []) ⟨hx, hb, hml, hown, hts⟩ (c_X11_isIn l b 0 4) (va_cwS 3 hts gX11_greatestWith_X11_isIn rfl rfl rfl (by decide +kernel) ⟨Nat.le_of_ble_eq_true rfl, Nat.le_of_ble_eq_true rfl⟩) (g_preT) rfl rfl hl.1 rfl (lv_room (Nat.le_of_ble_eq_true rfl)) dX11_greatestWith_12 ⟨Nat.zero_le _, Nat.zero_le _⟩) (fun r_7 w_7 => ?_)
    try dsimp only at w_7
    refine lv_if_ne (tgt := 21) hx hb dX11_greatestWith_15 (by decide) (fun c_8 => ?_) (fun c_8 => ?_)
    · skip
      have q_8 : r_7.toInt ≠ (0 : Int) := i_ne2 (rfl : r_7.toInt = r_7.toInt) (show (0 : Int32).toInt = (0 : Int) from rfl) c_8
      refine lv_aload_n hx hb dX11_greatestWith_21 rfl (lv_at hl 0 rfl) ?_
      refine va_get (D := D) (ci := 11) (v := .ref (ad 1)) (C := RX11) (T := TX11) (N := 30) hx hb hts inX11 hown hK hP 0 (m_at11 (Nat.le_of_ble_eq_true rfl) rfl) rfl 0 (by decide) lk0 (fun _ h9 => h9) rfl dX11_greatestWith_22 ?_
      refine lv_iconst (v := 0) hx hb dX11_greatestWith_25 (by decide) ?_
      refine lv_iload_n hx hb dX11_greatestWith_26 rfl (lv_at hl 1 rfl) ?_
      refine lv_iadd hx hb dX11_greatestWith_27 ?_
      refine lv_topi (fun v_9 ev_9 => ?_)
      have tv_9 : v_9.toInt = (0 : Int) + a.toInt := i_add (show (0 : Int32).toInt = (0 : Int) from rfl) (rfl : a.toInt = a.toInt) (by omega) (by omega) ev_9
      refine va_iald hx hb hK hP 1 0 (m_at12 (Nat.le_of_ble_eq_true rfl) rfl) rfl (g_in (N := 126) (rfl : v_9.toInt = v_9.toInt) rfl (by omega) (by omega)) dX11_greatestWith_28 ?_
      refine lv_topi (fun v_10 ev_10 => ?_)
      have hv1 : v_10 = ar 1 a.toInt.toNat := by rw [ev_10, g_cN (rfl : v_9.toInt = _), show (v_9.toInt).toNat = a.toInt.toNat from by omega]
      refine lv_istore_n (lv' := [(3, .int v_10), (0, .ref (ad 0)), (1, .int a), (2, .int b)]) hx hb dX11_greatestWith_29 rfl hl (by decide) rfl (fun ls hl => ?_)
      refine lv_aload_n hx hb dX11_greatestWith_30 rfl (lv_at hl 1 rfl) ?_
      refine va_get (D := D) (ci := 11) (v := .ref (ad 1)) (C := RX11) (T := TX11) (N := 30) hx hb hts inX11 hown hK hP 0 (m_at11 (Nat.le_of_ble_eq_true rfl) rfl) rfl 0 (by decide) lk0 (fun _ h9 => h9) rfl dX11_greatestWith_31 ?_
      refine lv_iconst (v := 0) hx hb dX11_greatestWith_34 (by decide) ?_
      refine lv_iload_n hx hb dX11_greatestWith_35 rfl (lv_at hl 2 rfl) ?_
      refine lv_iadd hx hb dX11_greatestWith_36 ?_
      refine lv_topi (fun v_11 ev_11 => ?_)
      have tv_11 : v_11.toInt = (0 : Int) + a.toInt := i_add (show (0 : Int32).toInt = (0 : Int) from rfl) (rfl : a.toInt = a.toInt) (by omega) (by omega) ev_11
      refine lv_iload_n hx hb dX11_greatestWith_37 rfl (lv_at hl 3 rfl) ?_
      refine va_iast hx hb hK hP (mD hI) hS 1 0 (m_at12 (Nat.le_of_ble_eq_true rfl) rfl) rfl (g_in (N := 126) (rfl : v_11.toInt = v_11.toInt) rfl (by omega) (by omega)) dX11_greatestWith_38 (fun H locs hP _ hS => ?_)
      rw [m_pt12 (Nat.le_of_ble_eq_true rfl) rfl] at hP
      obtain ⟨ar_12, ear_12⟩ : ∃ z : gAr, z = va_up ar 1 (upd (ar 1) v_11.toNatClampNeg b) := ⟨_, rfl⟩
      rw [← ear_12] at hP
      have har1 : ar_12 1 = upd (ar 1) a.toInt.toNat b := by rw [ear_12, ua_s, g_cN (rfl : v_11.toInt = _), show (v_11.toInt).toNat = a.toInt.toNat from by omega]
      have hn1 : ∀ c, c ≠ 1 → ar_12 c = ar c := fun c h => by rw [ear_12, ua_o h]
      refine lv_aload_n hx hb dX11_greatestWith_39 rfl (lv_at hl 1 rfl) ?_
      refine m_callv (va_runV (As := []) (rest := []) ⟨hx, hb, hml, hown, hts⟩ (c_X11_forgets l D cy ad hI _ iv ar_12) (cwV 0 hts gX11_greatestWith_X11_forgets rfl rfl rfl (by decide +kernel) ⟨Nat.le_of_ble_eq_true rfl, Nat.le_of_ble_eq_true rfl⟩) (m_preV hP hK hSt hNw hS (m_at11 (Nat.le_of_ble_eq_true rfl) rfl) rfl) rfl rfl hl.1 rfl (lv_room (Nat.le_of_ble_eq_true rfl)) dX11_greatestWith_40 ⟨Nat.zero_le _, Nat.zero_le _⟩) hS (fun iv_13 ar_13 H locs w_13 hP hS => ?_)
      try dsimp only at w_13
      have wi_13 := (w_13.1).symm
      subst wi_13
      have f1 := w_13.2.1
      have f2 := w_13.2.2
      have hs1 : SI (ar_13 1) := by rw [f1 1 (by omega), har1]; exact SI.ge3 hri.1 (fun i h3 hi => pk_un (show i ≠ a.toInt.toNat from by omega))
      have hk1 : KA ar_13 := fun g hg k => absurd (f2 g hg) k
      have ht1 : TR ar_13 := hri.2.2.2.2.2.1.fr (by rw [f1 7 (by omega), hn1 7 (by omega)]) (by rw [f1 8 (by omega), hn1 8 (by omega)])
      refine lv_aload_n hx hb dX11_greatestWith_43 rfl (lv_at hl 1 rfl) ?_
      refine m_calli (va_runV (As := []) (rest := []) ⟨hx, hb, hml, hown, hts⟩ (c_X11_assigns l D cy ad hI _ iv ar_13 hs1.1 hk1 ht1) (cwV 0 hts gX11_greatestWith_X11_assigns rfl rfl rfl (by decide +kernel) ⟨Nat.le_of_ble_eq_true rfl, Nat.le_of_ble_eq_true rfl⟩) (m_preV hP hK hSt hNw hS (m_at11 (Nat.le_of_ble_eq_true rfl) rfl) rfl) rfl rfl hl.1 rfl (lv_room (Nat.le_of_ble_eq_true rfl)) dX11_greatestWith_44 ⟨Nat.zero_le _, Nat.zero_le _⟩) hS (fun r_14 iv_14 ar_14 H locs w_14 hP hS => ?_)
      try dsimp only at w_14
      obtain ⟨wi, wa, -, wt⟩ := id w_14
      refine lv_istore (lv' := [(4, .int r_14), (3, .int v_10), (0, .ref (ad 0)), (1, .int a), (2, .int b)]) hx hb dX11_greatestWith_47 hl (by decide) rfl (fun ls hl => ?_)
      refine lv_aload_n hx hb dX11_greatestWith_49 rfl (lv_at hl 2 rfl) ?_
      refine va_get (D := D) (ci := 11) (v := .ref (ad 1)) (C := RX11) (T := TX11) (N := 30) hx hb hts inX11 hown hK hP 0 (m_at11 (Nat.le_of_ble_eq_true rfl) rfl) rfl 0 (by decide) lk0 (fun _ h9 => h9) rfl dX11_greatestWith_50 ?_
      refine lv_iconst (v := 0) hx hb dX11_greatestWith_53 (by decide) ?_
      refine lv_iload_n hx hb dX11_greatestWith_54 rfl (lv_at hl 3 rfl) ?_
      refine lv_iadd hx hb dX11_greatestWith_55 ?_
      refine lv_topi (fun v_15 ev_15 => ?_)
      have tv_15 : v_15.toInt = (0 : Int) + a.toInt := i_add (show (0 : Int32).toInt = (0 : Int) from rfl) (rfl : a.toInt = a.toInt) (by omega) (by omega) ev_15
      refine lv_iload_n hx hb dX11_greatestWith_56 rfl (lv_at hl 1 rfl) ?_
      refine va_iast hx hb hK hP (mD hI) hS 1 0 (m_at12 (Nat.le_of_ble_eq_true rfl) rfl) rfl (g_in (N := 126) (rfl : v_15.toInt = v_15.toInt) rfl (by omega) (by omega)) dX11_greatestWith_57 (fun H locs hP _ hS => ?_)
      rw [m_pt12 (Nat.le_of_ble_eq_true rfl) rfl] at hP
      obtain ⟨ar_16, ear_16⟩ : ∃ z : gAr, z = va_up ar_14 1 (upd (ar_14 1) v_15.toNatClampNeg v_10) := ⟨_, rfl⟩
      rw [← ear_16] at hP
      have har2 : ar_16 1 = ar 1 := by rw [ear_16, ua_s, g_cN (rfl : v_15.toInt = _), show (v_15.toInt).toNat = a.toInt.toNat from by omega, wa 1 (by omega) (by omega) (by omega) (by omega), f1 1 (by omega), har1, hv1]; exact upd_back
      have hn2 : ∀ c, c ≠ 1 → c ≠ 5 → c ≠ 6 → c ≠ 7 → c ≠ 8 → ar_16 c = ar c := fun c h1 h5 h6 h7 h8 => by rw [ear_16, ua_o h1, wa c h5 h6 h7 h8, f1 c h6, hn1 c h1]
      have ht2 : TR ar_16 := wt.fr (by rw [ear_16, ua_o (by omega)]) (by rw [ear_16, ua_o (by omega)])
      refine lv_aload_n hx hb dX11_greatestWith_58 rfl (lv_at hl 2 rfl) ?_
      refine m_callv (va_runV (As := []) (rest := []) ⟨hx, hb, hml, hown, hts⟩ (c_X11_forgets l D cy ad hI _ iv_14 ar_16) (cwV 0 hts gX11_greatestWith_X11_forgets rfl rfl rfl (by decide +kernel) ⟨Nat.le_of_ble_eq_true rfl, Nat.le_of_ble_eq_true rfl⟩) (m_preV hP hK hSt hNw hS (m_at11 (Nat.le_of_ble_eq_true rfl) rfl) rfl) rfl rfl hl.1 rfl (lv_room (Nat.le_of_ble_eq_true rfl)) dX11_greatestWith_59 ⟨Nat.zero_le _, Nat.zero_le _⟩) hS (fun iv_17 ar_17 H locs w_17 hP hS => ?_)
      try dsimp only at w_17
      have wi_17 := (w_17.1).symm
      subst wi_17
      have f3 := w_17.2.1
      have f4 := w_17.2.2
      have hri2 : RI iv_14 ar_17 := hri.asg wi (fun c h5 h6 h7 h8 => by
        rw [f3 c h6]
        by_cases h1 : c = 1
        · rw [h1]; exact har2
        · exact hn2 c h1 h5 h6 h7 h8) (fun g hg k => absurd (f4 g hg) k) (ht2.fr (f3 7 (by omega)) (f3 8 (by omega)))
      refine lv_iload hx hb dX11_greatestWith_62 (lv_at hl 0 rfl) ?_
      refine lv_if_eq (tgt := 72) hx hb dX11_greatestWith_64 (by decide) (fun c_18 => ?_) (fun c_18 => ?_)
      · skip
        have q_18 : r_14.toInt = (0 : Int) := i_eq2 (rfl : r_14.toInt = r_14.toInt) (show (0 : Int32).toInt = (0 : Int) from rfl) c_18
        refine lv_aload_n hx hb dX11_greatestWith_72 rfl (lv_at hl 2 rfl) ?_
        refine va_get (D := D) (ci := 11) (v := .int (iv_14 0 11)) (C := RX11) (T := TX11) (N := 30) hx hb hts inX11 hown hK hP 0 (m_at11 (Nat.le_of_ble_eq_true rfl) rfl) rfl 11 (by decide) lk1 (fun _ h9 => h9) rfl dX11_greatestWith_73 ?_
        rw [hQ]
        exact W.iret (v := (iv_14 0 11)) hx hb hr (fun t ht hW => ⟨⟨(iv_14 0 11), (iv_14, ar_17), rfl, ⟨hri2, wi 0 4 (by omega), wi 0 17 (by omega)⟩, by show va_P _ _ _ _; rw [ht]; exact hP⟩, hS.F ht⟩) hS.2.2 dX11_greatestWith_76
      · skip
        have q_18 : r_14.toInt ≠ (0 : Int) := i_ne2 (rfl : r_14.toInt = r_14.toInt) (show (0 : Int32).toInt = (0 : Int) from rfl) c_18
        refine lv_iload hx hb dX11_greatestWith_67 (lv_at hl 0 rfl) ?_
        refine lv_goto (tgt := 76) hx hb dX11_greatestWith_69 (by decide) ?_
        rw [hQ]
        exact W.iret (v := r_14) hx hb hr (fun t ht hW => ⟨⟨r_14, (iv_14, ar_17), rfl, ⟨hri2, wi 0 4 (by omega), wi 0 17 (by omega)⟩, by show va_P _ _ _ _; rw [ht]; exact hP⟩, hS.F ht⟩) hS.2.2 dX11_greatestWith_76
    · skip
      have q_8 : r_7.toInt = (0 : Int) := i_eq2 (rfl : r_7.toInt = r_7.toInt) (show (0 : Int32).toInt = (0 : Int) from rfl) c_8
      refine lv_bipush (v := (-2)) hx hb dX11_greatestWith_18 (by decide) ?_
      rw [hQ]
      exact W.iret (v := (-2)) hx hb hr (fun t ht hW => ⟨⟨(-2), (iv, ar), rfl, ⟨hri, rfl, rfl⟩, by show va_P _ _ _ _; rw [ht]; exact hP⟩, hS.F ht⟩) hS.2.2 dX11_greatestWith_20
set_option maxHeartbeats 4000000 in
set_option maxRecDepth 100000 in
theorem c_X11_fly (l : Launch) (D : va_G) (cy : Nat → ClassId) (ad : Nat → Nat) (hI : mInj ad) (sz : Nat) (iv : gIv) (ar : gAr) (a : Int32) (hri : RI iv ar) (hpr : (iv 0 17).toInt ≤ 1000000) : Met l yX11_fly wsX11_fly ({ frames := 2, cells := 0, slots := 0, locals := 37 } : Room) (va_Pc [.ref (ad 0), .int a] (mPre D cy ad sz iv ar)) (va_Qi (fun (r : Int32) (u : gIv × gAr) => RI u.1 u.2 ∧ u.1 0 4 = iv 0 4 ∧ (u.1 0 17).toInt ≤ (iv 0 17).toInt + 60) (mPost D cy ad) (mA ad sz)) 0 0 (mA ad sz) := by
  refine Met.ofW (cc := cX11_fly) (maxL := 4) (ret := (some .int)) (by decide) rfl ?_
  intro p e s m args below meth c s₁ B hml hv
  obtain ⟨rfl, rfl, hP, hK, hSt, hNw⟩ := hv
  have hx := B.exec
  have hb := B.bytes
  have hr := B.returns
  have hts := atoms_spec (ws := wsX11_fly) B.pre
  have hown : s.vm.findClass RX11 = some m.cls := findClass_of_methodNamed B.named
  have hlocks := B.notSynchronized
  have hS : va_S (mA ad s.heap.size) s.heap s.heap [] := va_S.rf
  have inX11 : ∀ w ∈ u_ws RX11 TX11 30, w ∈ wsX11_fly := by decide +kernel
  have lk0 := hts (.fieldLink RX11 69 "FormationPlannerModel" "hasPlan" "Z") (by decide +kernel)
  have lk1 := hts (.fieldLink RX11 192 "FormationPlannerModel" "present" "I") (by decide +kernel)
  have lk2 := hts (.fieldLink RX11 9 "FormationPlannerModel" "s" "[I") (by decide +kernel)
  have lk3 := hts (.fieldLink RX11 45 "FormationPlannerModel" "arrival" "[I") (by decide +kernel)
  have hl := lv_entry ([.ref (ad 0), .int a]) (n := 4) (Nat.le_of_ble_eq_true rfl)
  rw [lg_entry_eq]
  generalize (lg_sl ([.ref (ad 0), .int a]) ++ List.replicate (4 - (lg_sl ([.ref (ad 0), .int a])).length) Slot.unset).toArray = ls at hl ⊢
  have hl : lv_has ls 4 [(0, .ref (ad 0)), (1, .int a)] := hl
  obtain ⟨Q, hQ⟩ : ∃ Q, Q = MQ below (va_Qi (fun (r : Int32) (u : gIv × gAr) => RI u.1 u.2 ∧ u.1 0 4 = iv 0 4 ∧ (u.1 0 17).toInt ≤ (iv 0 17).toInt + 60) (mPost D cy ad) (mA ad s.heap.size)) (([.ref (ad 0), .int a] : List Value).toArray) s 0 0 (mA ad s.heap.size) := ⟨_, rfl⟩
  rw [← hQ]
  obtain ⟨⟨hs1, hs2, hs3, hs4, hs5⟩, hs6⟩ := id hri.1
  have hp0 := hri.2.2.2.2.2.2.1
  refine lv_iload_n hx hb dX11_fly_0 rfl (lv_at hl 1 rfl) ?_
  refine lv_iconst (v := 1) hx hb dX11_fly_1 (by decide) ?_
  refine lv_bipush (v := 60) hx hb dX11_fly_2 (by decide) ?_
  have zl_1 : (1 : Int32).toInt = (1 : Int) := rfl
  have zl_2 : (60 : Int32).toInt = (60 : Int) := rfl
  refine g_callSi (va_runS (As := [.int a, .int 1, .int 60]) (rest := []) ⟨hx, hb, hml, hown, hts⟩ (c_X11_isIn l a 1 60) (va_cwS 3 hts gX11_fly_X11_isIn rfl rfl rfl (by decide +kernel) ⟨Nat.le_of_ble_eq_true rfl, Nat.le_of_ble_eq_true rfl⟩) (g_preT) rfl rfl hl.1 rfl (lv_room (Nat.le_of_ble_eq_true rfl)) dX11_fly_4 ⟨Nat.zero_le _, Nat.zero_le _⟩) (fun r_3 w_3 => ?_)
  try dsimp only at w_3
  refine lv_if_ne (tgt := 13) hx hb dX11_fly_7 (by decide) (fun c_4 => ?_) (fun c_4 => ?_)
  · skip
    have q_4 : r_3.toInt ≠ (0 : Int) := i_ne2 (rfl : r_3.toInt = r_3.toInt) (show (0 : Int32).toInt = (0 : Int) from rfl) c_4
    refine lv_aload_n hx hb dX11_fly_13 rfl (lv_at hl 0 rfl) ?_
    refine va_get (D := D) (ci := 11) (v := .int (iv 0 15)) (C := RX11) (T := TX11) (N := 30) hx hb hts inX11 hown hK hP 0 (m_at11 (Nat.le_of_ble_eq_true rfl) rfl) rfl 15 (by decide) lk0 (fun _ h9 => h9) rfl dX11_fly_14 ?_
    refine lv_if_ne (tgt := 23) hx hb dX11_fly_17 (by decide) (fun c_5 => ?_) (fun c_5 => ?_)
    · skip
      have q_5 : (iv 0 15).toInt ≠ (0 : Int) := i_ne2 (rfl : (iv 0 15).toInt = (iv 0 15).toInt) (show (0 : Int32).toInt = (0 : Int) from rfl) c_5
      have hpl0 : PL ar := hri.2.2.2.2.2.2.2 (by omega)
      refine lv_aload_n hx hb dX11_fly_23 rfl (lv_at hl 0 rfl) ?_
      refine m_callv (va_runV (As := []) (rest := []) ⟨hx, hb, hml, hown, hts⟩ (c_X11_keeps l D cy ad hI _ iv ar hri.2.1 hri.2.2.1 hri.1) (cwV 0 hts gX11_fly_X11_keeps rfl rfl rfl (by decide +kernel) ⟨Nat.le_of_ble_eq_true rfl, Nat.le_of_ble_eq_true rfl⟩) (m_preV hP hK hSt hNw hS (m_at11 (Nat.le_of_ble_eq_true rfl) rfl) rfl) rfl rfl hl.1 rfl (lv_room (Nat.le_of_ble_eq_true rfl)) dX11_fly_24 ⟨Nat.zero_le _, Nat.zero_le _⟩) hS (fun iv_6 ar_6 H locs w_6 hP hS => ?_)
      try dsimp only at w_6
      obtain ⟨ki, ka, k3, kp⟩ := id w_6
      have hp1 : (iv_6 0 17).toInt = (iv 0 17).toInt := by rw [ki 0 17 (by omega)]
      refine lv_aload_n hx hb dX11_fly_27 rfl (lv_at hl 0 rfl) ?_
      refine lv_dup hx hb dX11_fly_28 rfl ?_
      refine va_get (D := D) (ci := 11) (v := .int (iv_6 0 17)) (C := RX11) (T := TX11) (N := 30) hx hb hts inX11 hown hK hP 0 (m_at11 (Nat.le_of_ble_eq_true rfl) rfl) rfl 17 (by decide) lk1 (fun _ h9 => h9) rfl dX11_fly_29 ?_
      have f_7 : iv_6 0 17 = iv 0 17 := by rw [w_6.1 0 17 (by omega)]
      refine lv_iload_n hx hb dX11_fly_32 rfl (lv_at hl 1 rfl) ?_
      refine lv_iadd hx hb dX11_fly_33 ?_
      refine lv_topi (fun v_8 ev_8 => ?_)
      have rg_9 := i_rng a
      have tv_8 : v_8.toInt = ((iv 0 17).toInt) + a.toInt := i_add ((congrArg Int32.toInt f_7).trans (rfl : (iv 0 17).toInt = (iv 0 17).toInt)) (rfl : a.toInt = a.toInt) (by omega) (by omega) ev_8
      refine va_put (D := D) (ci := 11) (v := .int v_8) (ty := .int) (C := RX11) (T := TX11) (N := 30) hx hb hts inX11 tyX11 tyX11_ok nmX11 hown hK hP (mD hI) hS 0 (m_at11 (Nat.le_of_ble_eq_true rfl) rfl) rfl 17 (by decide) lk1 (fun _ h9 => h9) rfl (by decide +kernel) rfl rfl (Nat.le_of_ble_eq_true rfl) dX11_fly_34 (fun H locs hP _ hS => ?_)
      have hP : va_P D vwCl (MW cy ad (u2 iv_6 0 17 v_8) ar_6) H := by rw [← m_pt11_17 (Nat.le_of_ble_eq_true rfl) rfl]; exact hP
      obtain ⟨iv_10, eiv_10⟩ : ∃ z : gIv, z = u2 iv_6 0 17 v_8 := ⟨_, rfl⟩
      rw [← eiv_10] at hP
      have hp2 : (iv_10 0 17).toInt = (iv 0 17).toInt + a.toInt := by rw [eiv_10, u2_s]; omega
      have hi2 : ∀ x y, ¬ (x = 0 ∧ y = 3) → ¬ (x = 0 ∧ y = 17) → iv_10 x y = iv x y := fun x y h1 h2 => by rw [eiv_10, u2_o (by omega)]; exact ki x y h1
      have hi3 : iv_10 0 3 = iv_6 0 3 := by rw [eiv_10, u2_o (by omega)]
      refine lv_aload_n hx hb dX11_fly_37 rfl (lv_at hl 0 rfl) ?_
      refine va_get (D := D) (ci := 11) (v := .ref (ad 1)) (C := RX11) (T := TX11) (N := 30) hx hb hts inX11 hown hK hP 0 (m_at11 (Nat.le_of_ble_eq_true rfl) rfl) rfl 0 (by decide) lk2 (fun _ h9 => h9) rfl dX11_fly_38 ?_
      refine lv_bipush (v := 125) hx hb dX11_fly_41 (by decide) ?_
      refine lv_dup2_11 hx hb dX11_fly_43 rfl rfl ?_
      refine va_iald hx hb hK hP 1 0 (m_at12 (Nat.le_of_ble_eq_true rfl) rfl) rfl (g_in (N := 126) (show (125 : Int32).toInt = (125 : Int) from rfl) rfl (by omega) (by omega)) dX11_fly_44 ?_
      refine lv_topi (fun v_11 ev_11 => ?_)
      refine lv_iload_n hx hb dX11_fly_45 rfl (lv_at hl 1 rfl) ?_
      refine lv_iadd hx hb dX11_fly_46 ?_
      refine lv_topi (fun v_12 ev_12 => ?_)
      refine va_iast hx hb hK hP (mD hI) hS 1 0 (m_at12 (Nat.le_of_ble_eq_true rfl) rfl) rfl (g_in (N := 126) (show (125 : Int32).toInt = (125 : Int) from rfl) rfl (by omega) (by omega)) dX11_fly_47 (fun H locs hP _ hS => ?_)
      rw [m_pt12 (Nat.le_of_ble_eq_true rfl) rfl] at hP
      obtain ⟨ar_13, ear_13⟩ : ∃ z : gAr, z = va_up ar_6 1 (upd (ar_6 1) (125 : Int32).toNatClampNeg v_12) := ⟨_, rfl⟩
      rw [← ear_13] at hP
      have hga0 : ∀ c, c ≠ 1 → ar_13 c = ar_6 c := fun c h => by rw [ear_13, ua_o h]
      have hge0 : ∀ j, j ≠ 125 → ar_13 1 j = ar 1 j := fun j h => by rw [ear_13, ua_s, show (125 : Int32).toNatClampNeg = 125 from rfl, pk_un h, ka 1 (by omega)]
      refine lv_iconst (v := 0) hx hb dX11_fly_48 (by decide) ?_
      refine lv_istore_n (lv' := [(2, .int 0), (0, .ref (ad 0)), (1, .int a)]) hx hb dX11_fly_49 rfl hl (by decide) rfl (fun ls hl => ?_)
      refine lv_iconst (v := 0) hx hb dX11_fly_50 (by decide) ?_
      refine lv_istore_n (lv' := [(3, .int 0), (2, .int 0), (0, .ref (ad 0)), (1, .int a)]) hx hb dX11_fly_51 rfl hl (by decide) rfl (fun ls hl => ?_)
      have loop17 : ∀ (n : Nat) (x3_14 : Int32) (x2_15 : Int32) (ar_16 : gAr) (H : Heap) (locs : List Loc) (ls : Array Slot), ((6 - (x3_14.toInt)).toNat) < n → (0 ≤ (x3_14.toInt) ∧ (x3_14.toInt) ≤ 6) → (∀ c, c ≠ 1 → ar_16 c = ar_6 c) → (∀ j, j < 125 → ¬ (112 ≤ j ∧ j < 118) → ar_16 1 j = ar 1 j) → (∀ i : Nat, i < 6 → 0 ≤ (ar_16 1 (112 + i)).toInt ∧ (ar_16 1 (112 + i)).toInt < 108 ∧ ((i : Int) < (ar 1 111).toInt → (ar 1 (3 + (ar_16 1 (112 + i)).toInt.toNat)).toInt ≠ 1)) → va_P D vwCl (MW cy ad iv_10 ar_16) H → va_S (mA ad s.heap.size) s.heap H locs → lv_has ls 4 [(3, .int x3_14), (2, .int x2_15), (0, .ref (ad 0)), (1, .int a)] → W p l e (headSpec wsX11_fly (({ frames := 2, cells := 0, slots := 0, locals := 37 } : Room))).room s m (([.ref (ad 0), .int a] : List Value).toArray) below meth c H locs 0 0 Q (F0 m 52 ls []) := by
        intro n
        induction n with
        | zero => intro x3_14 x2_15 ar_16 H locs ls hm; omega
        | succ n ih17 =>
          intro x3_14 x2_15 ar_16 H locs ls hm hg0 hga hge hgx hP hS hl
          refine lv_iload_n hx hb dX11_fly_52 rfl (lv_at hl 0 rfl) ?_
          refine lv_aload_n hx hb dX11_fly_53 rfl (lv_at hl 2 rfl) ?_
          refine va_get (D := D) (ci := 11) (v := .ref (ad 1)) (C := RX11) (T := TX11) (N := 30) hx hb hts inX11 hown hK hP 0 (m_at11 (Nat.le_of_ble_eq_true rfl) rfl) rfl 0 (by decide) lk2 (fun _ h9 => h9) rfl dX11_fly_54 ?_
          refine lv_bipush (v := 111) hx hb dX11_fly_57 (by decide) ?_
          refine va_iald hx hb hK hP 1 0 (m_at12 (Nat.le_of_ble_eq_true rfl) rfl) rfl (g_in (N := 126) (show (111 : Int32).toInt = (111 : Int) from rfl) rfl (by omega) (by omega)) dX11_fly_59 ?_
          refine lv_topi (fun v_18 ev_18 => ?_)
          have hv1 : v_18.toInt = (ar 1 111).toInt := by rw [ev_18, show (111 : Int32).toNatClampNeg = 111 from rfl, hge 111 (by omega) (by omega)]
          refine lv_icmp_ge (tgt := 108) hx hb dX11_fly_60 (by decide) (fun c_19 => ?_) (fun c_19 => ?_)
          · skip
            have q_19 : v_18.toInt ≤ x3_14.toInt := i_le2 (rfl : v_18.toInt = v_18.toInt) (rfl : x3_14.toInt = x3_14.toInt) c_19
            have hri2 : RI iv_10 ar_16 := RI.fly hri (SI.drs hri.1 hge hgx) (by rw [hi3]; exact k3) (fun k hk => SI.of (kp k (by rw [← hi3]; exact hk)) (fun i hi => by show ar_16 2 _ = _; rw [hga 2 (by omega)])) (fun c h1 h2 => (hga c h1).trans (ka c h2)) (fun j hj => by
              exact hge j (by omega) (by omega)) (hi2 0 4 (by omega) (by omega)) (hi2 0 15 (by omega) (by omega)) (by omega)
            refine lv_iload_n hx hb dX11_fly_108 rfl (lv_at hl 1 rfl) ?_
            rw [hQ]
            exact W.iret (v := x2_15) hx hb hr (fun t ht hW => ⟨⟨x2_15, (iv_10, ar_16), rfl, ⟨hri2, hi2 0 4 (by omega) (by omega), by show (iv_10 0 17).toInt ≤ _; omega⟩, by show va_P _ _ _ _; rw [ht]; exact hP⟩, hS.F ht⟩) hS.2.2 dX11_fly_109
          · skip
            have q_19 : x3_14.toInt < v_18.toInt := i_nle2 (rfl : v_18.toInt = v_18.toInt) (rfl : x3_14.toInt = x3_14.toInt) c_19
            refine lv_aload_n hx hb dX11_fly_63 rfl (lv_at hl 2 rfl) ?_
            refine va_get (D := D) (ci := 11) (v := .ref (ad 1)) (C := RX11) (T := TX11) (N := 30) hx hb hts inX11 hown hK hP 0 (m_at11 (Nat.le_of_ble_eq_true rfl) rfl) rfl 0 (by decide) lk2 (fun _ h9 => h9) rfl dX11_fly_64 ?_
            refine lv_bipush (v := 112) hx hb dX11_fly_67 (by decide) ?_
            refine lv_iload_n hx hb dX11_fly_69 rfl (lv_at hl 0 rfl) ?_
            refine lv_iadd hx hb dX11_fly_70 ?_
            refine lv_topi (fun v_20 ev_20 => ?_)
            have tv_20 : v_20.toInt = (112 : Int) + x3_14.toInt := i_add (show (112 : Int32).toInt = (112 : Int) from rfl) (rfl : x3_14.toInt = x3_14.toInt) (by omega) (by omega) ev_20
            refine lv_aload_n hx hb dX11_fly_71 rfl (lv_at hl 2 rfl) ?_
            refine lv_iload_n hx hb dX11_fly_72 rfl (lv_at hl 0 rfl) ?_
            refine lv_aload_n hx hb dX11_fly_73 rfl (lv_at hl 2 rfl) ?_
            refine va_get (D := D) (ci := 11) (v := .int (iv_10 0 17)) (C := RX11) (T := TX11) (N := 30) hx hb hts inX11 hown hK hP 0 (m_at11 (Nat.le_of_ble_eq_true rfl) rfl) rfl 17 (by decide) lk1 (fun _ h9 => h9) rfl dX11_fly_74 ?_
            have f_21 : iv_10 0 17 = v_8 := by rw [eiv_10]; exact u2_s _ _ _ _
            refine g_callSi (va_runV (As := [.int x3_14, .int (iv_10 0 17)]) (rest := [.int v_20, .ref (ad 1)]) ⟨hx, hb, hml, hown, hts⟩ (c_X11_cell l D cy ad hI _ iv_10 ar_16 x3_14 (iv_10 0 17) (by omega) (by omega)) (cwV 2 hts gX11_fly_X11_cell rfl rfl rfl (by decide +kernel) ⟨Nat.le_of_ble_eq_true rfl, Nat.le_of_ble_eq_true rfl⟩) (m_preV hP hK hSt hNw hS (m_at11 (Nat.le_of_ble_eq_true rfl) rfl) rfl) rfl rfl hl.1 rfl (lv_room (Nat.le_of_ble_eq_true rfl)) dX11_fly_77 ⟨Nat.zero_le _, Nat.zero_le _⟩) (fun r_22 w_22 => ?_)
            try dsimp only at w_22
            have h9 := w_22
            rw [hga 9 (by omega), ka 9 (by omega)] at h9
            have h8 := (hpl0 (x3_14.toInt).toNat (by omega)).2.2.2.2 (if 60 < (iv_10 0 17).toInt then 60 else (iv_10 0 17).toInt.toNat) (by split <;> omega)
            rw [← h9] at h8
            have h6 := h8.2.2.2.1
            have h7 : 0 ≤ r_22.toInt ∧ r_22.toInt < 108 := ⟨h8.1, h8.2.1⟩
            clear h8
            refine va_iast hx hb hK hP (mD hI) hS 1 0 (m_at12 (Nat.le_of_ble_eq_true rfl) rfl) rfl (g_in (N := 126) (rfl : v_20.toInt = v_20.toInt) rfl (by omega) (by omega)) dX11_fly_80 (fun H locs hP _ hS => ?_)
            rw [m_pt12 (Nat.le_of_ble_eq_true rfl) rfl] at hP
            obtain ⟨ar_23, ear_23⟩ : ∃ z : gAr, z = va_up ar_16 1 (upd (ar_16 1) v_20.toNatClampNeg r_22) := ⟨_, rfl⟩
            rw [← ear_23] at hP
            have har : ar_23 1 = upd (ar_16 1) (112 + (x3_14.toInt).toNat) r_22 := by rw [ear_23, ua_s, g_cN (rfl : v_20.toInt = _), show (v_20.toInt).toNat = 112 + (x3_14.toInt).toNat from by omega]
            have hga2 : ∀ c, c ≠ 1 → ar_23 c = ar_6 c := fun c h => by rw [ear_23, ua_o h]; exact hga c h
            have hge2 : ∀ j, j < 125 → ¬ (112 ≤ j ∧ j < 118) → ar_23 1 j = ar 1 j := fun j h h2 => by rw [har, pk_un (show j ≠ 112 + (x3_14.toInt).toNat from by omega)]; exact hge j h h2
            have hgx2 : ∀ i : Nat, i < 6 → 0 ≤ (ar_23 1 (112 + i)).toInt ∧ (ar_23 1 (112 + i)).toInt < 108 ∧ ((i : Int) < (ar 1 111).toInt → (ar 1 (3 + (ar_23 1 (112 + i)).toInt.toNat)).toInt ≠ 1) := fun i hi => by
              rw [har]
              by_cases e : i = (x3_14.toInt).toNat
              · rw [e, pk_us]; exact ⟨h7.1, h7.2, fun _ => h6⟩
              · rw [pk_un (show 112 + i ≠ 112 + (x3_14.toInt).toNat from by omega)]; exact hgx i hi
            refine lv_iload_n hx hb dX11_fly_81 rfl (lv_at hl 1 rfl) ?_
            refine lv_aload_n hx hb dX11_fly_82 rfl (lv_at hl 2 rfl) ?_
            refine va_get (D := D) (ci := 11) (v := .ref (ad 11)) (C := RX11) (T := TX11) (N := 30) hx hb hts inX11 hown hK hP 0 (m_at11 (Nat.le_of_ble_eq_true rfl) rfl) rfl 21 (by decide) lk3 (fun _ h9 => h9) rfl dX11_fly_83 ?_
            refine lv_iload_n hx hb dX11_fly_86 rfl (lv_at hl 0 rfl) ?_
            refine va_iald hx hb hK hP 11 0 (m_at12 (Nat.le_of_ble_eq_true rfl) rfl) rfl (g_in (N := 6) (rfl : x3_14.toInt = x3_14.toInt) rfl (by omega) (by omega)) dX11_fly_87 ?_
            refine lv_topi (fun v_24 ev_24 => ?_)
            refine lv_aload_n hx hb dX11_fly_88 rfl (lv_at hl 2 rfl) ?_
            refine va_get (D := D) (ci := 11) (v := .int (iv_10 0 17)) (C := RX11) (T := TX11) (N := 30) hx hb hts inX11 hown hK hP 0 (m_at11 (Nat.le_of_ble_eq_true rfl) rfl) rfl 17 (by decide) lk1 (fun _ h9 => h9) rfl dX11_fly_89 ?_
            have f_25 : iv_10 0 17 = v_8 := by rw [eiv_10]; exact u2_s _ _ _ _
            refine lv_icmp_gt (tgt := 99) hx hb dX11_fly_92 (by decide) (fun c_26 => ?_) (fun c_26 => ?_)
            · skip
              have q_26 : v_8.toInt < v_24.toInt := i_lt2 ((congrArg Int32.toInt f_25).trans (rfl : v_8.toInt = v_8.toInt)) (rfl : v_24.toInt = v_24.toInt) c_26
              refine lv_iconst (v := 0) hx hb dX11_fly_99 (by decide) ?_
              refine lv_iadd hx hb dX11_fly_100 ?_
              refine lv_topi (fun v_27 ev_27 => ?_)
              refine lv_istore_n (lv' := [(2, .int v_27), (3, .int x3_14), (0, .ref (ad 0)), (1, .int a)]) hx hb dX11_fly_101 rfl hl (by decide) rfl (fun ls hl => ?_)
              obtain ⟨x3_28, ex3_28⟩ : ∃ y : Int32, y = x3_14 + 1 := ⟨_, rfl⟩
              have tx3_28 : x3_28.toInt = x3_14.toInt + (1 : Int) := i_add (rfl : x3_14.toInt = x3_14.toInt) (show (1 : Int32).toInt = (1 : Int) from rfl) (by omega) (by omega) ex3_28
              refine lv_iinc (v := x3_28) (lv' := [(3, .int x3_28), (2, .int v_27), (0, .ref (ad 0)), (1, .int a)]) hx hb dX11_fly_102 hl (k := 1) rfl (by rw [ex3_28]; rfl) (by decide) rfl (fun ls hl => ?_)
              refine lv_goto (tgt := 52) hx hb dX11_fly_105 (by decide) ?_
              exact ih17 x3_28 v_27 ar_23 _ _ _ (by omega) (by omega) hga2 hge2 hgx2 hP hS (lv_sub hl [0, 1, 2, 3] rfl)
            · skip
              have q_26 : v_24.toInt ≤ v_8.toInt := i_nlt2 ((congrArg Int32.toInt f_25).trans (rfl : v_8.toInt = v_8.toInt)) (rfl : v_24.toInt = v_24.toInt) c_26
              refine lv_iconst (v := 1) hx hb dX11_fly_95 (by decide) ?_
              refine lv_goto (tgt := 100) hx hb dX11_fly_96 (by decide) ?_
              refine lv_iadd hx hb dX11_fly_100 ?_
              refine lv_topi (fun v_29 ev_29 => ?_)
              refine lv_istore_n (lv' := [(2, .int v_29), (3, .int x3_14), (0, .ref (ad 0)), (1, .int a)]) hx hb dX11_fly_101 rfl hl (by decide) rfl (fun ls hl => ?_)
              obtain ⟨x3_30, ex3_30⟩ : ∃ y : Int32, y = x3_14 + 1 := ⟨_, rfl⟩
              have tx3_30 : x3_30.toInt = x3_14.toInt + (1 : Int) := i_add (rfl : x3_14.toInt = x3_14.toInt) (show (1 : Int32).toInt = (1 : Int) from rfl) (by omega) (by omega) ex3_30
              refine lv_iinc (v := x3_30) (lv' := [(3, .int x3_30), (2, .int v_29), (0, .ref (ad 0)), (1, .int a)]) hx hb dX11_fly_102 hl (k := 1) rfl (by rw [ex3_30]; rfl) (by decide) rfl (fun ls hl => ?_)
              refine lv_goto (tgt := 52) hx hb dX11_fly_105 (by decide) ?_
              exact ih17 x3_30 v_29 ar_23 _ _ _ (by omega) (by omega) hga2 hge2 hgx2 hP hS (lv_sub hl [0, 1, 2, 3] rfl)
      have zl_31 : (0 : Int32).toInt = (0 : Int) := rfl
      have zl_32 : (0 : Int32).toInt = (0 : Int) := rfl
      exact loop17 (((6 - ((0 : Int))).toNat) + 1) 0 0 ar_13 _ _ _ (by omega) (by omega) hga0 (fun j h _ => hge0 j (by omega)) (fun i hi => by rw [hge0 (112 + i) (by omega)]; exact ⟨(hs5 i hi).1, (hs5 i hi).2.1, hs6 i hi⟩) hP hS (lv_sub hl [0, 1, 2, 3] rfl)
    · skip
      have q_5 : (iv 0 15).toInt = (0 : Int) := i_eq2 (rfl : (iv 0 15).toInt = (iv 0 15).toInt) (show (0 : Int32).toInt = (0 : Int) from rfl) c_5
      refine lv_bipush (v := (-7)) hx hb dX11_fly_20 (by decide) ?_
      rw [hQ]
      exact W.iret (v := (-7)) hx hb hr (fun t ht hW => ⟨⟨(-7), (iv, ar), rfl, ⟨hri, rfl, by show (iv 0 17).toInt ≤ _; omega⟩, by show va_P _ _ _ _; rw [ht]; exact hP⟩, hS.F ht⟩) hS.2.2 dX11_fly_22
  · skip
    have q_4 : r_3.toInt = (0 : Int) := i_eq2 (rfl : r_3.toInt = r_3.toInt) (show (0 : Int32).toInt = (0 : Int) from rfl) c_4
    refine lv_bipush (v := (-2)) hx hb dX11_fly_10 (by decide) ?_
    rw [hQ]
    exact W.iret (v := (-2)) hx hb hr (fun t ht hW => ⟨⟨(-2), (iv, ar), rfl, ⟨hri, rfl, by show (iv 0 17).toInt ≤ _; omega⟩, by show va_P _ _ _ _; rw [ht]; exact hP⟩, hS.F ht⟩) hS.2.2 dX11_fly_12
set_option maxHeartbeats 4000000 in
set_option maxRecDepth 100000 in
theorem c_X11_actionOf (l : Launch) (D : va_G) (cy : Nat → ClassId) (ad : Nat → Nat) (hI : mInj ad) (sz : Nat) (iv : gIv) (ar : gAr) (a : Int32) (b : Int32) (hd : 0 ≤ a.toInt ∧ a.toInt < 6) (ht : 0 ≤ b.toInt) (hla : (ar 11 a.toInt.toNat).toInt ≤ 60) : Met l yX11_actionOf wsX11_actionOf ({ frames := 0, cells := 0, slots := 0, locals := 0 } : Room) (va_Pc [.ref (ad 0), .int a, .int b] (mPre D cy ad sz iv ar)) (vp_Si (fun r => True)) 0 0 (fun _ => False) := by
  refine Met.ofW (cc := cX11_actionOf) (maxL := 3) (ret := (some .int)) (by decide) rfl ?_
  intro p e s m args below meth c s₁ B hml hv
  obtain ⟨rfl, rfl, hP, hK, hSt, hNw⟩ := hv
  have hx := B.exec
  have hb := B.bytes
  have hr := B.returns
  have hts := atoms_spec (ws := wsX11_actionOf) B.pre
  have hown : s.vm.findClass RX11 = some m.cls := findClass_of_methodNamed B.named
  have hlocks := B.notSynchronized
  have hS : va_S (mA ad s.heap.size) s.heap s.heap [] := va_S.rf
  have inX11 : ∀ w ∈ u_ws RX11 TX11 30, w ∈ wsX11_actionOf := by decide +kernel
  have lk0 := hts (.fieldLink RX11 45 "FormationPlannerModel" "arrival" "[I") (by decide +kernel)
  have lk1 := hts (.fieldLink RX11 42 "FormationPlannerModel" "actionAt" "[I") (by decide +kernel)
  have hl := lv_entry ([.ref (ad 0), .int a, .int b]) (n := 3) (Nat.le_of_ble_eq_true rfl)
  rw [lg_entry_eq]
  generalize (lg_sl ([.ref (ad 0), .int a, .int b]) ++ List.replicate (3 - (lg_sl ([.ref (ad 0), .int a, .int b])).length) Slot.unset).toArray = ls at hl ⊢
  have hl : lv_has ls 3 [(0, .ref (ad 0)), (1, .int a), (2, .int b)] := hl
  obtain ⟨Q, hQ⟩ : ∃ Q, Q = MQ below (vp_Si (fun r => True)) (([.ref (ad 0), .int a, .int b] : List Value).toArray) s 0 0 (fun _ => False) := ⟨_, rfl⟩
  rw [← hQ]
  refine lv_iload_n hx hb dX11_actionOf_0 rfl (lv_at hl 2 rfl) ?_
  refine lv_aload_n hx hb dX11_actionOf_1 rfl (lv_at hl 0 rfl) ?_
  refine va_get (D := D) (ci := 11) (v := .ref (ad 11)) (C := RX11) (T := TX11) (N := 30) hx hb hts inX11 hown hK hP 0 (m_at11 (Nat.le_of_ble_eq_true rfl) rfl) rfl 21 (by decide) lk0 (fun _ h9 => h9) rfl dX11_actionOf_2 ?_
  refine lv_iload_n hx hb dX11_actionOf_5 rfl (lv_at hl 1 rfl) ?_
  refine va_iald hx hb hK hP 11 0 (m_at12 (Nat.le_of_ble_eq_true rfl) rfl) rfl (g_in (N := 6) (rfl : a.toInt = a.toInt) rfl (by omega) (by omega)) dX11_actionOf_6 ?_
  refine lv_topi (fun v_1 ev_1 => ?_)
  have hv1 : v_1.toInt = (ar 11 a.toInt.toNat).toInt := by rw [ev_1, g_cN (rfl : a.toInt = _)]
  refine lv_icmp_lt (tgt := 14) hx hb dX11_actionOf_7 (by decide) (fun c_2 => ?_) (fun c_2 => ?_)
  · skip
    have q_2 : b.toInt < v_1.toInt := i_lt2 (rfl : b.toInt = b.toInt) (rfl : v_1.toInt = v_1.toInt) c_2
    refine lv_aload_n hx hb dX11_actionOf_14 rfl (lv_at hl 0 rfl) ?_
    refine va_get (D := D) (ci := 11) (v := .ref (ad 10)) (C := RX11) (T := TX11) (N := 30) hx hb hts inX11 hown hK hP 0 (m_at11 (Nat.le_of_ble_eq_true rfl) rfl) rfl 20 (by decide) lk1 (fun _ h9 => h9) rfl dX11_actionOf_15 ?_
    refine lv_bipush (v := 61) hx hb dX11_actionOf_18 (by decide) ?_
    refine lv_iload_n hx hb dX11_actionOf_20 rfl (lv_at hl 1 rfl) ?_
    refine lv_imul hx hb dX11_actionOf_21 ?_
    refine lv_topi (fun v_3 ev_3 => ?_)
    have tv_3 : v_3.toInt = (61 : Int) * a.toInt := i_mul (show (61 : Int32).toInt = (61 : Int) from rfl) (rfl : a.toInt = a.toInt) (by omega) (by omega) ev_3
    refine lv_iload_n hx hb dX11_actionOf_22 rfl (lv_at hl 2 rfl) ?_
    refine lv_iadd hx hb dX11_actionOf_23 ?_
    refine lv_topi (fun v_4 ev_4 => ?_)
    have tv_4 : v_4.toInt = v_3.toInt + b.toInt := i_add (rfl : v_3.toInt = v_3.toInt) (rfl : b.toInt = b.toInt) (by omega) (by omega) ev_4
    refine va_iald hx hb hK hP 10 0 (m_at12 (Nat.le_of_ble_eq_true rfl) rfl) rfl (g_in (N := 366) (rfl : v_4.toInt = v_4.toInt) rfl (by omega) (by omega)) dX11_actionOf_24 ?_
    refine lv_topi (fun v_5 ev_5 => ?_)
    rw [hQ]
    exact W.iret (v := v_5) hx hb hr (fun t ht hW => ⟨v_5, rfl, trivial, ht⟩) (fun q h => by cases h) dX11_actionOf_25
  · skip
    have q_2 : v_1.toInt ≤ b.toInt := i_nlt2 (rfl : b.toInt = b.toInt) (rfl : v_1.toInt = v_1.toInt) c_2
    refine lv_iconst (v := 0) hx hb dX11_actionOf_10 (by decide) ?_
    refine lv_goto (tgt := 25) hx hb dX11_actionOf_11 (by decide) ?_
    rw [hQ]
    exact W.iret (v := 0) hx hb hr (fun t ht hW => ⟨0, rfl, trivial, ht⟩) (fun q h => by cases h) dX11_actionOf_25
set_option maxHeartbeats 4000000 in
set_option maxRecDepth 100000 in
theorem c_X11_at (l : Launch) (D : va_G) (cy : Nat → ClassId) (ad : Nat → Nat) (hI : mInj ad) (sz : Nat) (iv : gIv) (ar : gAr) (a : Int32) (b : Int32) (hri : RI iv ar) (hpr : (iv 0 17).toInt ≤ 1000000) : Met l yX11_at wsX11_at ({ frames := 2, cells := 0, slots := 0, locals := 43 } : Room) (va_Pc [.ref (ad 0), .int a, .int b] (mPre D cy ad sz iv ar)) (vp_Si (fun r => True)) 0 0 (fun _ => False) := by
  refine Met.ofW (cc := cX11_at) (maxL := 3) (ret := (some .int)) (by decide) rfl ?_
  intro p e s m args below meth c s₁ B hml hv
  obtain ⟨rfl, rfl, hP, hK, hSt, hNw⟩ := hv
  have hx := B.exec
  have hb := B.bytes
  have hr := B.returns
  have hts := atoms_spec (ws := wsX11_at) B.pre
  have hown : s.vm.findClass RX11 = some m.cls := findClass_of_methodNamed B.named
  have hlocks := B.notSynchronized
  have hS : va_S (mA ad s.heap.size) s.heap s.heap [] := va_S.rf
  have inX11 : ∀ w ∈ u_ws RX11 TX11 30, w ∈ wsX11_at := by decide +kernel
  have lk0 := hts (.fieldLink RX11 69 "FormationPlannerModel" "hasPlan" "Z") (by decide +kernel)
  have lk1 := hts (.fieldLink RX11 192 "FormationPlannerModel" "present" "I") (by decide +kernel)
  have hl := lv_entry ([.ref (ad 0), .int a, .int b]) (n := 3) (Nat.le_of_ble_eq_true rfl)
  rw [lg_entry_eq]
  generalize (lg_sl ([.ref (ad 0), .int a, .int b]) ++ List.replicate (3 - (lg_sl ([.ref (ad 0), .int a, .int b])).length) Slot.unset).toArray = ls at hl ⊢
  have hl : lv_has ls 3 [(0, .ref (ad 0)), (1, .int a), (2, .int b)] := hl
  obtain ⟨Q, hQ⟩ : ∃ Q, Q = MQ below (vp_Si (fun r => True)) (([.ref (ad 0), .int a, .int b] : List Value).toArray) s 0 0 (fun _ => False) := ⟨_, rfl⟩
  rw [← hQ]
  obtain ⟨⟨hs1, hs2, hs3, hs4, -⟩, -⟩ := id hri.1
  have hp0 := hri.2.2.2.2.2.2.1
  refine lv_aload_n hx hb dX11_at_0 rfl (lv_at hl 0 rfl) ?_
  refine lv_iload_n hx hb dX11_at_1 rfl (lv_at hl 1 rfl) ?_
  refine g_callSi (va_runV (As := [.int a]) (rest := []) ⟨hx, hb, hml, hown, hts⟩ (c_X11_isDrone l D cy ad hI _ iv ar a ⟨hri.1.1.1, hri.1.1.2.1⟩) (cwV 1 hts gX11_at_X11_isDrone rfl rfl rfl (by decide +kernel) ⟨Nat.le_of_ble_eq_true rfl, Nat.le_of_ble_eq_true rfl⟩) (m_preV hP hK hSt hNw hS (m_at11 (Nat.le_of_ble_eq_true rfl) rfl) rfl) rfl rfl hl.1 rfl (lv_room (Nat.le_of_ble_eq_true rfl)) dX11_at_2 ⟨Nat.zero_le _, Nat.zero_le _⟩) (fun r_1 w_1 => ?_)
  try dsimp only at w_1
  refine lv_if_ne (tgt := 10) hx hb dX11_at_5 (by decide) (fun c_2 => ?_) (fun c_2 => ?_)
  · skip
    have q_2 : r_1.toInt ≠ (0 : Int) := i_ne2 (rfl : r_1.toInt = r_1.toInt) (show (0 : Int32).toInt = (0 : Int) from rfl) c_2
    refine lv_iload_n hx hb dX11_at_10 rfl (lv_at hl 2 rfl) ?_
    refine lv_iconst (v := 0) hx hb dX11_at_11 (by decide) ?_
    refine lv_bipush (v := 60) hx hb dX11_at_12 (by decide) ?_
    have zl_3 : (0 : Int32).toInt = (0 : Int) := rfl
    have zl_4 : (60 : Int32).toInt = (60 : Int) := rfl
    refine g_callSi (va_runS (As := [.int b, .int 0, .int 60]) (rest := []) ⟨hx, hb, hml, hown, hts⟩ (c_X11_isIn l b 0 60) (va_cwS 3 hts gX11_at_X11_isIn rfl rfl rfl (by decide +kernel) ⟨Nat.le_of_ble_eq_true rfl, Nat.le_of_ble_eq_true rfl⟩) (g_preT) rfl rfl hl.1 rfl (lv_room (Nat.le_of_ble_eq_true rfl)) dX11_at_14 ⟨Nat.zero_le _, Nat.zero_le _⟩) (fun r_5 w_5 => ?_)
    try dsimp only at w_5
    refine lv_if_ne (tgt := 23) hx hb dX11_at_17 (by decide) (fun c_6 => ?_) (fun c_6 => ?_)
    · skip
      have q_6 : r_5.toInt ≠ (0 : Int) := i_ne2 (rfl : r_5.toInt = r_5.toInt) (show (0 : Int32).toInt = (0 : Int) from rfl) c_6
      refine lv_aload_n hx hb dX11_at_23 rfl (lv_at hl 0 rfl) ?_
      refine va_get (D := D) (ci := 11) (v := .int (iv 0 15)) (C := RX11) (T := TX11) (N := 30) hx hb hts inX11 hown hK hP 0 (m_at11 (Nat.le_of_ble_eq_true rfl) rfl) rfl 15 (by decide) lk0 (fun _ h9 => h9) rfl dX11_at_24 ?_
      refine lv_if_eq (tgt := 44) hx hb dX11_at_27 (by decide) (fun c_7 => ?_) (fun c_7 => ?_)
      · skip
        have q_7 : (iv 0 15).toInt = (0 : Int) := i_eq2 (rfl : (iv 0 15).toInt = (iv 0 15).toInt) (show (0 : Int32).toInt = (0 : Int) from rfl) c_7
        refine lv_bipush (v := (-7)) hx hb dX11_at_44 (by decide) ?_
        rw [hQ]
        exact W.iret (v := (-7)) hx hb hr (fun t ht hW => ⟨(-7), rfl, trivial, ht⟩) (fun q h => by cases h) dX11_at_46
      · skip
        have q_7 : (iv 0 15).toInt ≠ (0 : Int) := i_ne2 (rfl : (iv 0 15).toInt = (iv 0 15).toInt) (show (0 : Int32).toInt = (0 : Int) from rfl) c_7
        have hpl0 := hri.2.2.2.2.2.2.2 (by omega) a.toInt.toNat (by omega)
        refine lv_aload_n hx hb dX11_at_30 rfl (lv_at hl 0 rfl) ?_
        refine lv_iload_n hx hb dX11_at_31 rfl (lv_at hl 1 rfl) ?_
        refine lv_aload_n hx hb dX11_at_32 rfl (lv_at hl 0 rfl) ?_
        refine va_get (D := D) (ci := 11) (v := .int (iv 0 17)) (C := RX11) (T := TX11) (N := 30) hx hb hts inX11 hown hK hP 0 (m_at11 (Nat.le_of_ble_eq_true rfl) rfl) rfl 17 (by decide) lk1 (fun _ h9 => h9) rfl dX11_at_33 ?_
        refine lv_iload_n hx hb dX11_at_36 rfl (lv_at hl 2 rfl) ?_
        refine lv_iadd hx hb dX11_at_37 ?_
        refine lv_topi (fun v_8 ev_8 => ?_)
        have rg_9 := i_rng b
        have tv_8 : v_8.toInt = ((iv 0 17).toInt) + b.toInt := i_add (rfl : (iv 0 17).toInt = (iv 0 17).toInt) (rfl : b.toInt = b.toInt) (by omega) (by omega) ev_8
        refine g_callSi (va_runV (As := [.int a, .int v_8]) (rest := []) ⟨hx, hb, hml, hown, hts⟩ (c_X11_cell l D cy ad hI _ iv ar a v_8 (by omega) (by omega)) (cwV 2 hts gX11_at_X11_cell rfl rfl rfl (by decide +kernel) ⟨Nat.le_of_ble_eq_true rfl, Nat.le_of_ble_eq_true rfl⟩) (m_preV hP hK hSt hNw hS (m_at11 (Nat.le_of_ble_eq_true rfl) rfl) rfl) rfl rfl hl.1 rfl (lv_room (Nat.le_of_ble_eq_true rfl)) dX11_at_38 ⟨Nat.zero_le _, Nat.zero_le _⟩) (fun r_10 w_10 => ?_)
        try dsimp only at w_10
        refine lv_goto (tgt := 46) hx hb dX11_at_41 (by decide) ?_
        rw [hQ]
        exact W.iret (v := r_10) hx hb hr (fun t ht hW => ⟨r_10, rfl, trivial, ht⟩) (fun q h => by cases h) dX11_at_46
    · skip
      have q_6 : r_5.toInt = (0 : Int) := i_eq2 (rfl : r_5.toInt = r_5.toInt) (show (0 : Int32).toInt = (0 : Int) from rfl) c_6
      refine lv_bipush (v := (-2)) hx hb dX11_at_20 (by decide) ?_
      rw [hQ]
      exact W.iret (v := (-2)) hx hb hr (fun t ht hW => ⟨(-2), rfl, trivial, ht⟩) (fun q h => by cases h) dX11_at_22
  · skip
    have q_2 : r_1.toInt = (0 : Int) := i_eq2 (rfl : r_1.toInt = r_1.toInt) (show (0 : Int32).toInt = (0 : Int) from rfl) c_2
    refine lv_iconst (v := (-1)) hx hb dX11_at_8 (by decide) ?_
    rw [hQ]
    exact W.iret (v := (-1)) hx hb hr (fun t ht hW => ⟨(-1), rfl, trivial, ht⟩) (fun q h => by cases h) dX11_at_9
set_option maxHeartbeats 4000000 in
set_option maxRecDepth 100000 in
theorem c_X11_action (l : Launch) (D : va_G) (cy : Nat → ClassId) (ad : Nat → Nat) (hI : mInj ad) (sz : Nat) (iv : gIv) (ar : gAr) (a : Int32) (b : Int32) (hri : RI iv ar) (hpr : (iv 0 17).toInt ≤ 1000000) : Met l yX11_action wsX11_action ({ frames := 2, cells := 0, slots := 0, locals := 43 } : Room) (va_Pc [.ref (ad 0), .int a, .int b] (mPre D cy ad sz iv ar)) (vp_Si (fun r => True)) 0 0 (fun _ => False) := by
  refine Met.ofW (cc := cX11_action) (maxL := 3) (ret := (some .int)) (by decide) rfl ?_
  intro p e s m args below meth c s₁ B hml hv
  obtain ⟨rfl, rfl, hP, hK, hSt, hNw⟩ := hv
  have hx := B.exec
  have hb := B.bytes
  have hr := B.returns
  have hts := atoms_spec (ws := wsX11_action) B.pre
  have hown : s.vm.findClass RX11 = some m.cls := findClass_of_methodNamed B.named
  have hlocks := B.notSynchronized
  have hS : va_S (mA ad s.heap.size) s.heap s.heap [] := va_S.rf
  have inX11 : ∀ w ∈ u_ws RX11 TX11 30, w ∈ wsX11_action := by decide +kernel
  have lk0 := hts (.fieldLink RX11 69 "FormationPlannerModel" "hasPlan" "Z") (by decide +kernel)
  have lk1 := hts (.fieldLink RX11 192 "FormationPlannerModel" "present" "I") (by decide +kernel)
  have hl := lv_entry ([.ref (ad 0), .int a, .int b]) (n := 3) (Nat.le_of_ble_eq_true rfl)
  rw [lg_entry_eq]
  generalize (lg_sl ([.ref (ad 0), .int a, .int b]) ++ List.replicate (3 - (lg_sl ([.ref (ad 0), .int a, .int b])).length) Slot.unset).toArray = ls at hl ⊢
  have hl : lv_has ls 3 [(0, .ref (ad 0)), (1, .int a), (2, .int b)] := hl
  obtain ⟨Q, hQ⟩ : ∃ Q, Q = MQ below (vp_Si (fun r => True)) (([.ref (ad 0), .int a, .int b] : List Value).toArray) s 0 0 (fun _ => False) := ⟨_, rfl⟩
  rw [← hQ]
  obtain ⟨⟨hs1, hs2, hs3, hs4, -⟩, -⟩ := id hri.1
  have hp0 := hri.2.2.2.2.2.2.1
  refine lv_aload_n hx hb dX11_action_0 rfl (lv_at hl 0 rfl) ?_
  refine lv_iload_n hx hb dX11_action_1 rfl (lv_at hl 1 rfl) ?_
  refine g_callSi (va_runV (As := [.int a]) (rest := []) ⟨hx, hb, hml, hown, hts⟩ (c_X11_isDrone l D cy ad hI _ iv ar a ⟨hri.1.1.1, hri.1.1.2.1⟩) (cwV 1 hts gX11_action_X11_isDrone rfl rfl rfl (by decide +kernel) ⟨Nat.le_of_ble_eq_true rfl, Nat.le_of_ble_eq_true rfl⟩) (m_preV hP hK hSt hNw hS (m_at11 (Nat.le_of_ble_eq_true rfl) rfl) rfl) rfl rfl hl.1 rfl (lv_room (Nat.le_of_ble_eq_true rfl)) dX11_action_2 ⟨Nat.zero_le _, Nat.zero_le _⟩) (fun r_1 w_1 => ?_)
  try dsimp only at w_1
  refine lv_if_ne (tgt := 10) hx hb dX11_action_5 (by decide) (fun c_2 => ?_) (fun c_2 => ?_)
  · skip
    have q_2 : r_1.toInt ≠ (0 : Int) := i_ne2 (rfl : r_1.toInt = r_1.toInt) (show (0 : Int32).toInt = (0 : Int) from rfl) c_2
    refine lv_iload_n hx hb dX11_action_10 rfl (lv_at hl 2 rfl) ?_
    refine lv_iconst (v := 0) hx hb dX11_action_11 (by decide) ?_
    refine lv_bipush (v := 59) hx hb dX11_action_12 (by decide) ?_
    have zl_3 : (0 : Int32).toInt = (0 : Int) := rfl
    have zl_4 : (59 : Int32).toInt = (59 : Int) := rfl
    refine g_callSi (va_runS (As := [.int b, .int 0, .int 59]) (rest := []) ⟨hx, hb, hml, hown, hts⟩ (c_X11_isIn l b 0 59) (va_cwS 3 hts gX11_action_X11_isIn rfl rfl rfl (by decide +kernel) ⟨Nat.le_of_ble_eq_true rfl, Nat.le_of_ble_eq_true rfl⟩) (g_preT) rfl rfl hl.1 rfl (lv_room (Nat.le_of_ble_eq_true rfl)) dX11_action_14 ⟨Nat.zero_le _, Nat.zero_le _⟩) (fun r_5 w_5 => ?_)
    try dsimp only at w_5
    refine lv_if_ne (tgt := 23) hx hb dX11_action_17 (by decide) (fun c_6 => ?_) (fun c_6 => ?_)
    · skip
      have q_6 : r_5.toInt ≠ (0 : Int) := i_ne2 (rfl : r_5.toInt = r_5.toInt) (show (0 : Int32).toInt = (0 : Int) from rfl) c_6
      refine lv_aload_n hx hb dX11_action_23 rfl (lv_at hl 0 rfl) ?_
      refine va_get (D := D) (ci := 11) (v := .int (iv 0 15)) (C := RX11) (T := TX11) (N := 30) hx hb hts inX11 hown hK hP 0 (m_at11 (Nat.le_of_ble_eq_true rfl) rfl) rfl 15 (by decide) lk0 (fun _ h9 => h9) rfl dX11_action_24 ?_
      refine lv_if_eq (tgt := 44) hx hb dX11_action_27 (by decide) (fun c_7 => ?_) (fun c_7 => ?_)
      · skip
        have q_7 : (iv 0 15).toInt = (0 : Int) := i_eq2 (rfl : (iv 0 15).toInt = (iv 0 15).toInt) (show (0 : Int32).toInt = (0 : Int) from rfl) c_7
        refine lv_bipush (v := (-7)) hx hb dX11_action_44 (by decide) ?_
        rw [hQ]
        exact W.iret (v := (-7)) hx hb hr (fun t ht hW => ⟨(-7), rfl, trivial, ht⟩) (fun q h => by cases h) dX11_action_46
      · skip
        have q_7 : (iv 0 15).toInt ≠ (0 : Int) := i_ne2 (rfl : (iv 0 15).toInt = (iv 0 15).toInt) (show (0 : Int32).toInt = (0 : Int) from rfl) c_7
        have hpl0 := hri.2.2.2.2.2.2.2 (by omega) a.toInt.toNat (by omega)
        refine lv_aload_n hx hb dX11_action_30 rfl (lv_at hl 0 rfl) ?_
        refine lv_iload_n hx hb dX11_action_31 rfl (lv_at hl 1 rfl) ?_
        refine lv_aload_n hx hb dX11_action_32 rfl (lv_at hl 0 rfl) ?_
        refine va_get (D := D) (ci := 11) (v := .int (iv 0 17)) (C := RX11) (T := TX11) (N := 30) hx hb hts inX11 hown hK hP 0 (m_at11 (Nat.le_of_ble_eq_true rfl) rfl) rfl 17 (by decide) lk1 (fun _ h9 => h9) rfl dX11_action_33 ?_
        refine lv_iload_n hx hb dX11_action_36 rfl (lv_at hl 2 rfl) ?_
        refine lv_iadd hx hb dX11_action_37 ?_
        refine lv_topi (fun v_8 ev_8 => ?_)
        have rg_9 := i_rng b
        have tv_8 : v_8.toInt = ((iv 0 17).toInt) + b.toInt := i_add (rfl : (iv 0 17).toInt = (iv 0 17).toInt) (rfl : b.toInt = b.toInt) (by omega) (by omega) ev_8
        refine g_callSi (va_runV (As := [.int a, .int v_8]) (rest := []) ⟨hx, hb, hml, hown, hts⟩ (c_X11_actionOf l D cy ad hI _ iv ar a v_8 (by omega) (by omega) hpl0.2.2.2.1) (cwV 2 hts gX11_action_X11_actionOf rfl rfl rfl (by decide +kernel) ⟨Nat.le_of_ble_eq_true rfl, Nat.le_of_ble_eq_true rfl⟩) (m_preV hP hK hSt hNw hS (m_at11 (Nat.le_of_ble_eq_true rfl) rfl) rfl) rfl rfl hl.1 rfl (lv_room (Nat.le_of_ble_eq_true rfl)) dX11_action_38 ⟨Nat.zero_le _, Nat.zero_le _⟩) (fun r_10 w_10 => ?_)
        try dsimp only at w_10
        refine lv_goto (tgt := 46) hx hb dX11_action_41 (by decide) ?_
        rw [hQ]
        exact W.iret (v := r_10) hx hb hr (fun t ht hW => ⟨r_10, rfl, trivial, ht⟩) (fun q h => by cases h) dX11_action_46
    · skip
      have q_6 : r_5.toInt = (0 : Int) := i_eq2 (rfl : r_5.toInt = r_5.toInt) (show (0 : Int32).toInt = (0 : Int) from rfl) c_6
      refine lv_bipush (v := (-2)) hx hb dX11_action_20 (by decide) ?_
      rw [hQ]
      exact W.iret (v := (-2)) hx hb hr (fun t ht hW => ⟨(-2), rfl, trivial, ht⟩) (fun q h => by cases h) dX11_action_22
  · skip
    have q_2 : r_1.toInt = (0 : Int) := i_eq2 (rfl : r_1.toInt = r_1.toInt) (show (0 : Int32).toInt = (0 : Int) from rfl) c_2
    refine lv_iconst (v := (-1)) hx hb dX11_action_8 (by decide) ?_
    rw [hQ]
    exact W.iret (v := (-1)) hx hb hr (fun t ht hW => ⟨(-1), rfl, trivial, ht⟩) (fun q h => by cases h) dX11_action_9
set_option maxHeartbeats 4000000 in
set_option maxRecDepth 100000 in
theorem c_X11_waits (l : Launch) (D : va_G) (cy : Nat → ClassId) (ad : Nat → Nat) (hI : mInj ad) (sz : Nat) (iv : gIv) (ar : gAr) (a : Int32) (hd : 0 ≤ a.toInt ∧ a.toInt < 6) (hpr : 0 ≤ (iv 0 17).toInt ∧ (iv 0 17).toInt ≤ 1000000) (hla : (ar 11 a.toInt.toNat).toInt ≤ 60) : Met l yX11_waits wsX11_waits ({ frames := 1, cells := 0, slots := 0, locals := 22 } : Room) (va_Pc [.ref (ad 0), .int a] (mPre D cy ad sz iv ar)) (vp_Si (fun r => True)) 0 0 (fun _ => False) := by
  refine Met.ofW (cc := cX11_waits) (maxL := 4) (ret := (some .int)) (by decide) rfl ?_
  intro p e s m args below meth c s₁ B hml hv
  obtain ⟨rfl, rfl, hP, hK, hSt, hNw⟩ := hv
  have hx := B.exec
  have hb := B.bytes
  have hr := B.returns
  have hts := atoms_spec (ws := wsX11_waits) B.pre
  have hown : s.vm.findClass RX11 = some m.cls := findClass_of_methodNamed B.named
  have hlocks := B.notSynchronized
  have hS : va_S (mA ad s.heap.size) s.heap s.heap [] := va_S.rf
  have inX11 : ∀ w ∈ u_ws RX11 TX11 30, w ∈ wsX11_waits := by decide +kernel
  have lk0 := hts (.fieldLink RX11 192 "FormationPlannerModel" "present" "I") (by decide +kernel)
  have lk1 := hts (.fieldLink RX11 45 "FormationPlannerModel" "arrival" "[I") (by decide +kernel)
  have hl := lv_entry ([.ref (ad 0), .int a]) (n := 4) (Nat.le_of_ble_eq_true rfl)
  rw [lg_entry_eq]
  generalize (lg_sl ([.ref (ad 0), .int a]) ++ List.replicate (4 - (lg_sl ([.ref (ad 0), .int a])).length) Slot.unset).toArray = ls at hl ⊢
  have hl : lv_has ls 4 [(0, .ref (ad 0)), (1, .int a)] := hl
  obtain ⟨Q, hQ⟩ : ∃ Q, Q = MQ below (vp_Si (fun r => True)) (([.ref (ad 0), .int a] : List Value).toArray) s 0 0 (fun _ => False) := ⟨_, rfl⟩
  rw [← hQ]
  refine lv_iconst (v := 0) hx hb dX11_waits_0 (by decide) ?_
  refine lv_istore_n (lv' := [(2, .int 0), (0, .ref (ad 0)), (1, .int a)]) hx hb dX11_waits_1 rfl hl (by decide) rfl (fun ls hl => ?_)
  refine lv_aload_n hx hb dX11_waits_2 rfl (lv_at hl 1 rfl) ?_
  refine va_get (D := D) (ci := 11) (v := .int (iv 0 17)) (C := RX11) (T := TX11) (N := 30) hx hb hts inX11 hown hK hP 0 (m_at11 (Nat.le_of_ble_eq_true rfl) rfl) rfl 17 (by decide) lk0 (fun _ h9 => h9) rfl dX11_waits_3 ?_
  refine lv_istore_n (lv' := [(3, .int (iv 0 17)), (2, .int 0), (0, .ref (ad 0)), (1, .int a)]) hx hb dX11_waits_6 rfl hl (by decide) rfl (fun ls hl => ?_)
  have loop3 : ∀ (n : Nat) (x3_1 : Int32) (x2_2 : Int32) (ls : Array Slot), ((1000100 - (x3_1.toInt)).toNat) < n → (0 ≤ (x3_1.toInt) ∧ (x3_1.toInt) ≤ 1000000) → lv_has ls 4 [(3, .int x3_1), (2, .int x2_2), (0, .ref (ad 0)), (1, .int a)] → W p l e (headSpec wsX11_waits (({ frames := 1, cells := 0, slots := 0, locals := 22 } : Room))).room s m (([.ref (ad 0), .int a] : List Value).toArray) below meth c s.heap [] 0 0 Q (F0 m 7 ls []) := by
    intro n
    induction n with
    | zero => intro x3_1 x2_2 ls hm; omega
    | succ n ih3 =>
      intro x3_1 x2_2 ls hm hg0 hl
      refine lv_iload_n hx hb dX11_waits_7 rfl (lv_at hl 0 rfl) ?_
      refine lv_aload_n hx hb dX11_waits_8 rfl (lv_at hl 2 rfl) ?_
      refine va_get (D := D) (ci := 11) (v := .ref (ad 11)) (C := RX11) (T := TX11) (N := 30) hx hb hts inX11 hown hK hP 0 (m_at11 (Nat.le_of_ble_eq_true rfl) rfl) rfl 21 (by decide) lk1 (fun _ h9 => h9) rfl dX11_waits_9 ?_
      refine lv_iload_n hx hb dX11_waits_12 rfl (lv_at hl 3 rfl) ?_
      refine va_iald hx hb hK hP 11 0 (m_at12 (Nat.le_of_ble_eq_true rfl) rfl) rfl (g_in (N := 6) (rfl : a.toInt = a.toInt) rfl (by omega) (by omega)) dX11_waits_13 ?_
      refine lv_topi (fun v_4 ev_4 => ?_)
      have hv1 : v_4.toInt = (ar 11 a.toInt.toNat).toInt := by rw [ev_4, g_cN (rfl : a.toInt = _)]
      refine lv_icmp_ge (tgt := 40) hx hb dX11_waits_14 (by decide) (fun c_5 => ?_) (fun c_5 => ?_)
      · skip
        have q_5 : v_4.toInt ≤ x3_1.toInt := i_le2 (rfl : v_4.toInt = v_4.toInt) (rfl : x3_1.toInt = x3_1.toInt) c_5
        refine lv_iload_n hx hb dX11_waits_40 rfl (lv_at hl 1 rfl) ?_
        rw [hQ]
        exact W.iret (v := x2_2) hx hb hr (fun t ht hW => ⟨x2_2, rfl, trivial, ht⟩) (fun q h => by cases h) dX11_waits_41
      · skip
        have q_5 : x3_1.toInt < v_4.toInt := i_nle2 (rfl : v_4.toInt = v_4.toInt) (rfl : x3_1.toInt = x3_1.toInt) c_5
        refine lv_iload_n hx hb dX11_waits_17 rfl (lv_at hl 1 rfl) ?_
        refine lv_aload_n hx hb dX11_waits_18 rfl (lv_at hl 2 rfl) ?_
        refine lv_iload_n hx hb dX11_waits_19 rfl (lv_at hl 3 rfl) ?_
        refine lv_iload_n hx hb dX11_waits_20 rfl (lv_at hl 0 rfl) ?_
        refine g_callSi (va_runV (As := [.int a, .int x3_1]) (rest := [.int x2_2]) ⟨hx, hb, hml, hown, hts⟩ (c_X11_actionOf l D cy ad hI _ iv ar a x3_1 (by omega) (by omega) hla) (cwV 2 hts gX11_waits_X11_actionOf rfl rfl rfl (by decide +kernel) ⟨Nat.le_of_ble_eq_true rfl, Nat.le_of_ble_eq_true rfl⟩) (m_preV hP hK hSt hNw hS (m_at11 (Nat.le_of_ble_eq_true rfl) rfl) rfl) rfl rfl hl.1 rfl (lv_room (Nat.le_of_ble_eq_true rfl)) dX11_waits_21 ⟨Nat.zero_le _, Nat.zero_le _⟩) (fun r_6 w_6 => ?_)
        try dsimp only at w_6
        refine lv_if_ne (tgt := 31) hx hb dX11_waits_24 (by decide) (fun c_7 => ?_) (fun c_7 => ?_)
        · skip
          have q_7 : r_6.toInt ≠ (0 : Int) := i_ne2 (rfl : r_6.toInt = r_6.toInt) (show (0 : Int32).toInt = (0 : Int) from rfl) c_7
          refine lv_iconst (v := 0) hx hb dX11_waits_31 (by decide) ?_
          refine lv_iadd hx hb dX11_waits_32 ?_
          refine lv_topi (fun v_8 ev_8 => ?_)
          refine lv_istore_n (lv' := [(2, .int v_8), (3, .int x3_1), (0, .ref (ad 0)), (1, .int a)]) hx hb dX11_waits_33 rfl hl (by decide) rfl (fun ls hl => ?_)
          obtain ⟨x3_9, ex3_9⟩ : ∃ y : Int32, y = x3_1 + 1 := ⟨_, rfl⟩
          have tx3_9 : x3_9.toInt = x3_1.toInt + (1 : Int) := i_add (rfl : x3_1.toInt = x3_1.toInt) (show (1 : Int32).toInt = (1 : Int) from rfl) (by omega) (by omega) ex3_9
          refine lv_iinc (v := x3_9) (lv' := [(3, .int x3_9), (2, .int v_8), (0, .ref (ad 0)), (1, .int a)]) hx hb dX11_waits_34 hl (k := 1) rfl (by rw [ex3_9]; rfl) (by decide) rfl (fun ls hl => ?_)
          refine lv_goto (tgt := 7) hx hb dX11_waits_37 (by decide) ?_
          exact ih3 x3_9 v_8 _ (by omega) (by omega) (lv_sub hl [0, 1, 2, 3] rfl)
        · skip
          have q_7 : r_6.toInt = (0 : Int) := i_eq2 (rfl : r_6.toInt = r_6.toInt) (show (0 : Int32).toInt = (0 : Int) from rfl) c_7
          refine lv_iconst (v := 1) hx hb dX11_waits_27 (by decide) ?_
          refine lv_goto (tgt := 32) hx hb dX11_waits_28 (by decide) ?_
          refine lv_iadd hx hb dX11_waits_32 ?_
          refine lv_topi (fun v_10 ev_10 => ?_)
          refine lv_istore_n (lv' := [(2, .int v_10), (3, .int x3_1), (0, .ref (ad 0)), (1, .int a)]) hx hb dX11_waits_33 rfl hl (by decide) rfl (fun ls hl => ?_)
          obtain ⟨x3_11, ex3_11⟩ : ∃ y : Int32, y = x3_1 + 1 := ⟨_, rfl⟩
          have tx3_11 : x3_11.toInt = x3_1.toInt + (1 : Int) := i_add (rfl : x3_1.toInt = x3_1.toInt) (show (1 : Int32).toInt = (1 : Int) from rfl) (by omega) (by omega) ex3_11
          refine lv_iinc (v := x3_11) (lv' := [(3, .int x3_11), (2, .int v_10), (0, .ref (ad 0)), (1, .int a)]) hx hb dX11_waits_34 hl (k := 1) rfl (by rw [ex3_11]; rfl) (by decide) rfl (fun ls hl => ?_)
          refine lv_goto (tgt := 7) hx hb dX11_waits_37 (by decide) ?_
          exact ih3 x3_11 v_10 _ (by omega) (by omega) (lv_sub hl [0, 1, 2, 3] rfl)
  have zl_12 : (0 : Int32).toInt = (0 : Int) := rfl
  exact loop3 (((1000100 - ((iv 0 17).toInt)).toNat) + 1) (iv 0 17) 0 _ (by omega) (by omega) (lv_sub hl [0, 1, 2, 3] rfl)
set_option maxHeartbeats 4000000 in
set_option maxRecDepth 100000 in
theorem c_X11_flight (l : Launch) (D : va_G) (cy : Nat → ClassId) (ad : Nat → Nat) (hI : mInj ad) (sz : Nat) (iv : gIv) (ar : gAr) (a : Int32) (b : Int32) (hri : RI iv ar) (hpr : (iv 0 17).toInt ≤ 1000000) : Met l yX11_flight wsX11_flight ({ frames := 4, cells := 0, slots := 0, locals := 96 } : Room) (va_Pc [.ref (ad 0), .int a, .int b] (mPre D cy ad sz iv ar)) (va_Qi (fun (r : Int32) (u : gIv × gAr) => RI u.1 u.2 ∧ u.1 0 4 = iv 0 4 ∧ u.1 0 17 = iv 0 17) (mPost D cy ad) (mA ad sz)) 0 0 (mA ad sz) := by
  refine Met.ofW (cc := cX11_flight) (maxL := 3) (ret := (some .int)) (by decide) rfl ?_
  intro p e s m args below meth c s₁ B hml hv
  obtain ⟨rfl, rfl, hP, hK, hSt, hNw⟩ := hv
  have hx := B.exec
  have hb := B.bytes
  have hr := B.returns
  have hts := atoms_spec (ws := wsX11_flight) B.pre
  have hown : s.vm.findClass RX11 = some m.cls := findClass_of_methodNamed B.named
  have hlocks := B.notSynchronized
  have hS : va_S (mA ad s.heap.size) s.heap s.heap [] := va_S.rf
  have inX11 : ∀ w ∈ u_ws RX11 TX11 30, w ∈ wsX11_flight := by decide +kernel
  have lk0 := hts (.fieldLink RX11 69 "FormationPlannerModel" "hasPlan" "Z") (by decide +kernel)
  have lk1 := hts (.fieldLink RX11 45 "FormationPlannerModel" "arrival" "[I") (by decide +kernel)
  have lk2 := hts (.fieldLink RX11 192 "FormationPlannerModel" "present" "I") (by decide +kernel)
  have lk3 := hts (.methodLink RX11 151 Lib.Math.max.name) (by decide +kernel)
  have lk4 := hts (.static Lib.Math.max.name) (by decide +kernel)
  have lk5 := hts (.initialized "java/lang/Math") (by decide +kernel)
  have lk6 := hts (.code Lib.Math.max.name Lib.Math.max.code 2 (some .int)) (by decide +kernel)
  have lk7 := hts (.fieldLink RX11 54 "FormationPlannerModel" "goal" "[I") (by decide +kernel)
  have lk8 := hts (.fieldLink RX11 48 "FormationPlannerModel" "position" "[I") (by decide +kernel)
  have hl := lv_entry ([.ref (ad 0), .int a, .int b]) (n := 3) (Nat.le_of_ble_eq_true rfl)
  rw [lg_entry_eq]
  generalize (lg_sl ([.ref (ad 0), .int a, .int b]) ++ List.replicate (3 - (lg_sl ([.ref (ad 0), .int a, .int b])).length) Slot.unset).toArray = ls at hl ⊢
  have hl : lv_has ls 3 [(0, .ref (ad 0)), (1, .int a), (2, .int b)] := hl
  obtain ⟨Q, hQ⟩ : ∃ Q, Q = MQ below (va_Qi (fun (r : Int32) (u : gIv × gAr) => RI u.1 u.2 ∧ u.1 0 4 = iv 0 4 ∧ u.1 0 17 = iv 0 17) (mPost D cy ad) (mA ad s.heap.size)) (([.ref (ad 0), .int a, .int b] : List Value).toArray) s 0 0 (mA ad s.heap.size) := ⟨_, rfl⟩
  rw [← hQ]
  obtain ⟨⟨hs1, hs2, hs3, hs4, -⟩, -⟩ := id hri.1
  have hp0 := hri.2.2.2.2.2.2.1
  refine lv_aload_n hx hb dX11_flight_0 rfl (lv_at hl 0 rfl) ?_
  refine lv_iload_n hx hb dX11_flight_1 rfl (lv_at hl 1 rfl) ?_
  refine g_callSi (va_runV (As := [.int a]) (rest := []) ⟨hx, hb, hml, hown, hts⟩ (c_X11_isDrone l D cy ad hI _ iv ar a ⟨hri.1.1.1, hri.1.1.2.1⟩) (cwV 1 hts gX11_flight_X11_isDrone rfl rfl rfl (by decide +kernel) ⟨Nat.le_of_ble_eq_true rfl, Nat.le_of_ble_eq_true rfl⟩) (m_preV hP hK hSt hNw hS (m_at11 (Nat.le_of_ble_eq_true rfl) rfl) rfl) rfl rfl hl.1 rfl (lv_room (Nat.le_of_ble_eq_true rfl)) dX11_flight_2 ⟨Nat.zero_le _, Nat.zero_le _⟩) (fun r_1 w_1 => ?_)
  try dsimp only at w_1
  refine lv_if_ne (tgt := 10) hx hb dX11_flight_5 (by decide) (fun c_2 => ?_) (fun c_2 => ?_)
  · skip
    have q_2 : r_1.toInt ≠ (0 : Int) := i_ne2 (rfl : r_1.toInt = r_1.toInt) (show (0 : Int32).toInt = (0 : Int) from rfl) c_2
    refine lv_iload_n hx hb dX11_flight_10 rfl (lv_at hl 2 rfl) ?_
    refine lv_iconst (v := 0) hx hb dX11_flight_11 (by decide) ?_
    refine lv_iconst (v := 4) hx hb dX11_flight_12 (by decide) ?_
    have zl_3 : (0 : Int32).toInt = (0 : Int) := rfl
    have zl_4 : (4 : Int32).toInt = (4 : Int) := rfl
    refine g_callSi (va_runS (As := [.int b, .int 0, .int 4]) (rest := []) ⟨hx, hb, hml, hown, hts⟩ (c_X11_isIn l b 0 4) (va_cwS 3 hts gX11_flight_X11_isIn rfl rfl rfl (by decide +kernel) ⟨Nat.le_of_ble_eq_true rfl, Nat.le_of_ble_eq_true rfl⟩) (g_preT) rfl rfl hl.1 rfl (lv_room (Nat.le_of_ble_eq_true rfl)) dX11_flight_13 ⟨Nat.zero_le _, Nat.zero_le _⟩) (fun r_5 w_5 => ?_)
    try dsimp only at w_5
    refine lv_if_ne (tgt := 22) hx hb dX11_flight_16 (by decide) (fun c_6 => ?_) (fun c_6 => ?_)
    · skip
      have q_6 : r_5.toInt ≠ (0 : Int) := i_ne2 (rfl : r_5.toInt = r_5.toInt) (show (0 : Int32).toInt = (0 : Int) from rfl) c_6
      refine lv_aload_n hx hb dX11_flight_22 rfl (lv_at hl 0 rfl) ?_
      refine va_get (D := D) (ci := 11) (v := .int (iv 0 15)) (C := RX11) (T := TX11) (N := 30) hx hb hts inX11 hown hK hP 0 (m_at11 (Nat.le_of_ble_eq_true rfl) rfl) rfl 15 (by decide) lk0 (fun _ h9 => h9) rfl dX11_flight_23 ?_
      refine lv_if_ne (tgt := 32) hx hb dX11_flight_26 (by decide) (fun c_7 => ?_) (fun c_7 => ?_)
      · skip
        have q_7 : (iv 0 15).toInt ≠ (0 : Int) := i_ne2 (rfl : (iv 0 15).toInt = (iv 0 15).toInt) (show (0 : Int32).toInt = (0 : Int) from rfl) c_7
        have hpl0 := hri.2.2.2.2.2.2.2 (by omega) a.toInt.toNat (by omega)
        have hpa := hpl0.2.2.1
        have hpb := hpl0.2.2.2.1
        have hpg := hpl0.1
        have hph := hpl0.2.1
        refine lv_iload_n hx hb dX11_flight_32 rfl (lv_at hl 2 rfl) ?_
        by_cases z_8 : b.toInt = 0
        · skip
          refine lv_tableIn (off := 31) (tgt := 64) hx hb dX11_flight_33 (by rw [(rfl : b.toInt = b.toInt), z_8]; decide) (by rw [(rfl : b.toInt = b.toInt), z_8]; decide) (by rw [(rfl : b.toInt = b.toInt), z_8]; rfl) (by decide) ?_
          refine lv_iconst (v := 0) hx hb dX11_flight_64 (by decide) ?_
          refine lv_aload_n hx hb dX11_flight_65 rfl (lv_at hl 0 rfl) ?_
          refine va_get (D := D) (ci := 11) (v := .ref (ad 11)) (C := RX11) (T := TX11) (N := 30) hx hb hts inX11 hown hK hP 0 (m_at11 (Nat.le_of_ble_eq_true rfl) rfl) rfl 21 (by decide) lk1 (fun _ h9 => h9) rfl dX11_flight_66 ?_
          refine lv_iload_n hx hb dX11_flight_69 rfl (lv_at hl 1 rfl) ?_
          refine va_iald hx hb hK hP 11 0 (m_at12 (Nat.le_of_ble_eq_true rfl) rfl) rfl (g_in (N := 6) (rfl : a.toInt = a.toInt) rfl (by omega) (by omega)) dX11_flight_70 ?_
          refine lv_topi (fun v_9 ev_9 => ?_)
          have hv1 : v_9.toInt = (ar 11 a.toInt.toNat).toInt := by rw [ev_9, g_cN (rfl : a.toInt = _)]
          refine lv_aload_n hx hb dX11_flight_71 rfl (lv_at hl 0 rfl) ?_
          refine va_get (D := D) (ci := 11) (v := .int (iv 0 17)) (C := RX11) (T := TX11) (N := 30) hx hb hts inX11 hown hK hP 0 (m_at11 (Nat.le_of_ble_eq_true rfl) rfl) rfl 17 (by decide) lk2 (fun _ h9 => h9) rfl dX11_flight_72 ?_
          refine lv_isub hx hb dX11_flight_75 ?_
          refine lv_topi (fun v_10 ev_10 => ?_)
          have tv_10 : v_10.toInt = v_9.toInt - ((iv 0 17).toInt) := i_sub (rfl : v_9.toInt = v_9.toInt) (rfl : (iv 0 17).toInt = (iv 0 17).toInt) (by omega) (by omega) ev_10
          refine va_mmax (rest := []) hx hb (hml.trans hl.1.symm) hown lk3 lk4 lk5 lk6 (Nat.le_of_ble_eq_true rfl) (Nat.le_of_ble_eq_true rfl) (Nat.zero_le _) (Nat.zero_le _) dX11_flight_76 ?_
          refine lv_topi (fun v_11 ev_11 => ?_)
          have tv_11 : v_11.toInt = max (0 : Int) v_10.toInt := i_max (show (0 : Int32).toInt = (0 : Int) from rfl) (rfl : v_10.toInt = v_10.toInt) ev_11
          rw [hQ]
          exact W.iret (v := v_11) hx hb hr (fun t ht hW => ⟨⟨v_11, (iv, ar), rfl, ⟨hri, rfl, rfl⟩, by show va_P _ _ _ _; rw [ht]; exact hP⟩, hS.F ht⟩) hS.2.2 dX11_flight_79
        by_cases z_12 : b.toInt = 1
        · skip
          refine lv_tableIn (off := 47) (tgt := 80) hx hb dX11_flight_33 (by rw [(rfl : b.toInt = b.toInt), z_12]; decide) (by rw [(rfl : b.toInt = b.toInt), z_12]; decide) (by rw [(rfl : b.toInt = b.toInt), z_12]; rfl) (by decide) ?_
          refine lv_aload_n hx hb dX11_flight_80 rfl (lv_at hl 0 rfl) ?_
          refine lv_iload_n hx hb dX11_flight_81 rfl (lv_at hl 1 rfl) ?_
          refine g_callSi (va_runV (As := [.int a]) (rest := []) ⟨hx, hb, hml, hown, hts⟩ (c_X11_waits l D cy ad hI _ iv ar a (by omega) (by omega) hpl0.2.2.2.1) (cwV 1 hts gX11_flight_X11_waits rfl rfl rfl (by decide +kernel) ⟨Nat.le_of_ble_eq_true rfl, Nat.le_of_ble_eq_true rfl⟩) (m_preV hP hK hSt hNw hS (m_at11 (Nat.le_of_ble_eq_true rfl) rfl) rfl) rfl rfl hl.1 rfl (lv_room (Nat.le_of_ble_eq_true rfl)) dX11_flight_82 ⟨Nat.zero_le _, Nat.zero_le _⟩) (fun r_13 w_13 => ?_)
          try dsimp only at w_13
          rw [hQ]
          exact W.iret (v := r_13) hx hb hr (fun t ht hW => ⟨⟨r_13, (iv, ar), rfl, ⟨hri, rfl, rfl⟩, by show va_P _ _ _ _; rw [ht]; exact hP⟩, hS.F ht⟩) hS.2.2 dX11_flight_85
        by_cases z_14 : b.toInt = 2
        · skip
          refine lv_tableIn (off := 53) (tgt := 86) hx hb dX11_flight_33 (by rw [(rfl : b.toInt = b.toInt), z_14]; decide) (by rw [(rfl : b.toInt = b.toInt), z_14]; decide) (by rw [(rfl : b.toInt = b.toInt), z_14]; rfl) (by decide) ?_
          refine lv_aload_n hx hb dX11_flight_86 rfl (lv_at hl 0 rfl) ?_
          refine lv_aload_n hx hb dX11_flight_87 rfl (lv_at hl 0 rfl) ?_
          refine lv_iload_n hx hb dX11_flight_88 rfl (lv_at hl 1 rfl) ?_
          refine lv_aload_n hx hb dX11_flight_89 rfl (lv_at hl 0 rfl) ?_
          refine va_get (D := D) (ci := 11) (v := .int (iv 0 17)) (C := RX11) (T := TX11) (N := 30) hx hb hts inX11 hown hK hP 0 (m_at11 (Nat.le_of_ble_eq_true rfl) rfl) rfl 17 (by decide) lk2 (fun _ h9 => h9) rfl dX11_flight_90 ?_
          refine g_callSi (va_runV (As := [.int a, .int (iv 0 17)]) (rest := [.ref (ad 0)]) ⟨hx, hb, hml, hown, hts⟩ (c_X11_cell l D cy ad hI _ iv ar a (iv 0 17) (by omega) (by omega)) (cwV 2 hts gX11_flight_X11_cell rfl rfl rfl (by decide +kernel) ⟨Nat.le_of_ble_eq_true rfl, Nat.le_of_ble_eq_true rfl⟩) (m_preV hP hK hSt hNw hS (m_at11 (Nat.le_of_ble_eq_true rfl) rfl) rfl) rfl rfl hl.1 rfl (lv_room (Nat.le_of_ble_eq_true rfl)) dX11_flight_93 ⟨Nat.zero_le _, Nat.zero_le _⟩) (fun r_15 w_15 => ?_)
          try dsimp only at w_15
          have h9 := w_15
          have h8 := hpl0.2.2.2.2 (if 60 < (iv 0 17).toInt then 60 else (iv 0 17).toInt.toNat) (by split <;> omega)
          rw [← h9] at h8
          have h7 : 0 ≤ r_15.toInt ∧ r_15.toInt < 108 := ⟨h8.1, h8.2.1⟩
          clear h8
          refine lv_aload_n hx hb dX11_flight_96 rfl (lv_at hl 0 rfl) ?_
          refine va_get (D := D) (ci := 11) (v := .ref (ad 14)) (C := RX11) (T := TX11) (N := 30) hx hb hts inX11 hown hK hP 0 (m_at11 (Nat.le_of_ble_eq_true rfl) rfl) rfl 24 (by decide) lk7 (fun _ h9 => h9) rfl dX11_flight_97 ?_
          refine lv_iload_n hx hb dX11_flight_100 rfl (lv_at hl 1 rfl) ?_
          refine va_iald hx hb hK hP 14 0 (m_at12 (Nat.le_of_ble_eq_true rfl) rfl) rfl (g_in (N := 6) (rfl : a.toInt = a.toInt) rfl (by omega) (by omega)) dX11_flight_101 ?_
          refine lv_topi (fun v_16 ev_16 => ?_)
          have hv2 : v_16.toInt = (ar 14 a.toInt.toNat).toInt := by rw [ev_16, g_cN (rfl : a.toInt = _)]
          refine m_calli (va_runV (As := [.int r_15, .int v_16]) (rest := []) ⟨hx, hb, hml, hown, hts⟩ (c_X11_time l D cy ad hI _ iv ar r_15 v_16 (by omega) (by omega) hri.2.2.2.2.1) (cwV 2 hts gX11_flight_X11_time rfl rfl rfl (by decide +kernel) ⟨Nat.le_of_ble_eq_true rfl, Nat.le_of_ble_eq_true rfl⟩) (m_preV hP hK hSt hNw hS (m_at11 (Nat.le_of_ble_eq_true rfl) rfl) rfl) rfl rfl hl.1 rfl (lv_room (Nat.le_of_ble_eq_true rfl)) dX11_flight_102 ⟨Nat.zero_le _, Nat.zero_le _⟩) hS (fun r_17 iv_17 ar_17 H locs w_17 hP hS => ?_)
          try dsimp only at w_17
          have wi_17 := (w_17.2.1).symm
          subst wi_17
          obtain ⟨-, -, wf1, wk1, -, -⟩ := w_17
          have hri2 := hri.time wf1 wk1
          rw [hQ]
          exact W.iret (v := r_17) hx hb hr (fun t ht hW => ⟨⟨r_17, (iv, ar_17), rfl, ⟨hri2, rfl, rfl⟩, by show va_P _ _ _ _; rw [ht]; exact hP⟩, hS.F ht⟩) hS.2.2 dX11_flight_105
        by_cases z_18 : b.toInt = 3
        · skip
          refine lv_tableIn (off := 73) (tgt := 106) hx hb dX11_flight_33 (by rw [(rfl : b.toInt = b.toInt), z_18]; decide) (by rw [(rfl : b.toInt = b.toInt), z_18]; decide) (by rw [(rfl : b.toInt = b.toInt), z_18]; rfl) (by decide) ?_
          refine lv_aload_n hx hb dX11_flight_106 rfl (lv_at hl 0 rfl) ?_
          refine va_get (D := D) (ci := 11) (v := .ref (ad 12)) (C := RX11) (T := TX11) (N := 30) hx hb hts inX11 hown hK hP 0 (m_at11 (Nat.le_of_ble_eq_true rfl) rfl) rfl 22 (by decide) lk8 (fun _ h9 => h9) rfl dX11_flight_107 ?_
          refine lv_iload_n hx hb dX11_flight_110 rfl (lv_at hl 1 rfl) ?_
          refine va_iald hx hb hK hP 12 0 (m_at12 (Nat.le_of_ble_eq_true rfl) rfl) rfl (g_in (N := 6) (rfl : a.toInt = a.toInt) rfl (by omega) (by omega)) dX11_flight_111 ?_
          refine lv_topi (fun v_19 ev_19 => ?_)
          rw [hQ]
          exact W.iret (v := v_19) hx hb hr (fun t ht hW => ⟨⟨v_19, (iv, ar), rfl, ⟨hri, rfl, rfl⟩, by show va_P _ _ _ _; rw [ht]; exact hP⟩, hS.F ht⟩) hS.2.2 dX11_flight_112
        refine lv_tableOut (tgt := 113) hx hb dX11_flight_33 (by rw [(rfl : b.toInt = b.toInt)]; omega) (by decide) ?_
        refine lv_aload_n hx hb dX11_flight_113 rfl (lv_at hl 0 rfl) ?_
        refine lv_aload_n hx hb dX11_flight_114 rfl (lv_at hl 0 rfl) ?_
        refine va_get (D := D) (ci := 11) (v := .ref (ad 14)) (C := RX11) (T := TX11) (N := 30) hx hb hts inX11 hown hK hP 0 (m_at11 (Nat.le_of_ble_eq_true rfl) rfl) rfl 24 (by decide) lk7 (fun _ h9 => h9) rfl dX11_flight_115 ?_
        refine lv_iload_n hx hb dX11_flight_118 rfl (lv_at hl 1 rfl) ?_
        refine va_iald hx hb hK hP 14 0 (m_at12 (Nat.le_of_ble_eq_true rfl) rfl) rfl (g_in (N := 6) (rfl : a.toInt = a.toInt) rfl (by omega) (by omega)) dX11_flight_119 ?_
        refine lv_topi (fun v_20 ev_20 => ?_)
        have hv2 : v_20.toInt = (ar 14 a.toInt.toNat).toInt := by rw [ev_20, g_cN (rfl : a.toInt = _)]
        refine g_callSi (va_runV (As := [.int v_20]) (rest := []) ⟨hx, hb, hml, hown, hts⟩ (c_X11_slotAt l D cy ad hI _ iv ar v_20 ⟨hri.1.1.2.2.1, hri.1.1.2.2.2.1⟩) (cwV 1 hts gX11_flight_X11_slotAt rfl rfl rfl (by decide +kernel) ⟨Nat.le_of_ble_eq_true rfl, Nat.le_of_ble_eq_true rfl⟩) (m_preV hP hK hSt hNw hS (m_at11 (Nat.le_of_ble_eq_true rfl) rfl) rfl) rfl rfl hl.1 rfl (lv_room (Nat.le_of_ble_eq_true rfl)) dX11_flight_120 ⟨Nat.zero_le _, Nat.zero_le _⟩) (fun r_21 w_21 => ?_)
        try dsimp only at w_21
        rw [hQ]
        exact W.iret (v := r_21) hx hb hr (fun t ht hW => ⟨⟨r_21, (iv, ar), rfl, ⟨hri, rfl, rfl⟩, by show va_P _ _ _ _; rw [ht]; exact hP⟩, hS.F ht⟩) hS.2.2 dX11_flight_123
      · skip
        have q_7 : (iv 0 15).toInt = (0 : Int) := i_eq2 (rfl : (iv 0 15).toInt = (iv 0 15).toInt) (show (0 : Int32).toInt = (0 : Int) from rfl) c_7
        refine lv_bipush (v := (-7)) hx hb dX11_flight_29 (by decide) ?_
        rw [hQ]
        exact W.iret (v := (-7)) hx hb hr (fun t ht hW => ⟨⟨(-7), (iv, ar), rfl, ⟨hri, rfl, rfl⟩, by show va_P _ _ _ _; rw [ht]; exact hP⟩, hS.F ht⟩) hS.2.2 dX11_flight_31
    · skip
      have q_6 : r_5.toInt = (0 : Int) := i_eq2 (rfl : r_5.toInt = r_5.toInt) (show (0 : Int32).toInt = (0 : Int) from rfl) c_6
      refine lv_bipush (v := (-2)) hx hb dX11_flight_19 (by decide) ?_
      rw [hQ]
      exact W.iret (v := (-2)) hx hb hr (fun t ht hW => ⟨⟨(-2), (iv, ar), rfl, ⟨hri, rfl, rfl⟩, by show va_P _ _ _ _; rw [ht]; exact hP⟩, hS.F ht⟩) hS.2.2 dX11_flight_21
  · skip
    have q_2 : r_1.toInt = (0 : Int) := i_eq2 (rfl : r_1.toInt = r_1.toInt) (show (0 : Int32).toInt = (0 : Int) from rfl) c_2
    refine lv_iconst (v := (-1)) hx hb dX11_flight_8 (by decide) ?_
    rw [hQ]
    exact W.iret (v := (-1)) hx hb hr (fun t ht hW => ⟨⟨(-1), (iv, ar), rfl, ⟨hri, rfl, rfl⟩, by show va_P _ _ _ _; rw [ht]; exact hP⟩, hS.F ht⟩) hS.2.2 dX11_flight_9
set_option maxHeartbeats 4000000 in
set_option maxRecDepth 100000 in
theorem c_X11_isMetBy (l : Launch) (D : va_G) (cy : Nat → ClassId) (ad : Nat → Nat) (hI : mInj ad) (sz : Nat) (iv : gIv) (ar : gAr) (a : Int32) (b : Int32) (d : Int32) (f : Int32) (ho : 0 ≤ a.toInt ∧ a.toInt < 6) (hcc : 0 ≤ b.toInt ∧ b.toInt < 108) (hq : 0 ≤ d.toInt ∧ d.toInt < 7) (ht : 0 ≤ f.toInt ∧ f.toInt ≤ 1000100) : Met l yX11_isMetBy wsX11_isMetBy ({ frames := 2, cells := 0, slots := 0, locals := 48 } : Room) (va_Pc [.ref (ad 0), .int a, .int b, .int d, .int f] (mPre D cy ad sz iv ar)) (vp_Si (fun r => True)) 0 0 (fun _ => False) := by
  refine Met.ofW (cc := cX11_isMetBy) (maxL := 8) (ret := (some .boolean)) (by decide) rfl ?_
  intro p e s m args below meth c s₁ B hml hv
  obtain ⟨rfl, rfl, hP, hK, hSt, hNw⟩ := hv
  have hx := B.exec
  have hb := B.bytes
  have hr := B.returns
  have hts := atoms_spec (ws := wsX11_isMetBy) B.pre
  have hown : s.vm.findClass RX11 = some m.cls := findClass_of_methodNamed B.named
  have hlocks := B.notSynchronized
  have hS : va_S (mA ad s.heap.size) s.heap s.heap [] := va_S.rf
  have hl := lv_entry ([.ref (ad 0), .int a, .int b, .int d, .int f]) (n := 8) (Nat.le_of_ble_eq_true rfl)
  rw [lg_entry_eq]
  generalize (lg_sl ([.ref (ad 0), .int a, .int b, .int d, .int f]) ++ List.replicate (8 - (lg_sl ([.ref (ad 0), .int a, .int b, .int d, .int f])).length) Slot.unset).toArray = ls at hl ⊢
  have hl : lv_has ls 8 [(0, .ref (ad 0)), (1, .int a), (2, .int b), (3, .int d), (4, .int f)] := hl
  obtain ⟨Q, hQ⟩ : ∃ Q, Q = MQ below (vp_Si (fun r => True)) (([.ref (ad 0), .int a, .int b, .int d, .int f] : List Value).toArray) s 0 0 (fun _ => False) := ⟨_, rfl⟩
  rw [← hQ]
  refine lv_aload_n hx hb dX11_isMetBy_0 rfl (lv_at hl 0 rfl) ?_
  refine lv_iload_n hx hb dX11_isMetBy_1 rfl (lv_at hl 2 rfl) ?_
  refine lv_iload_n hx hb dX11_isMetBy_2 rfl (lv_at hl 3 rfl) ?_
  refine g_callSi (va_runV (As := [.int b, .int d]) (rest := []) ⟨hx, hb, hml, hown, hts⟩ (c_X11_ticks l D cy ad hI _ iv ar b d (by omega) (by omega)) (cwV 2 hts gX11_isMetBy_X11_ticks rfl rfl rfl (by decide +kernel) ⟨Nat.le_of_ble_eq_true rfl, Nat.le_of_ble_eq_true rfl⟩) (m_preV hP hK hSt hNw hS (m_at11 (Nat.le_of_ble_eq_true rfl) rfl) rfl) rfl rfl hl.1 rfl (lv_room (Nat.le_of_ble_eq_true rfl)) dX11_isMetBy_3 ⟨Nat.zero_le _, Nat.zero_le _⟩) (fun r_1 w_1 => ?_)
  try dsimp only at w_1
  have htb := TK_b (f := ar 1) (c := b.toInt.toNat) (q := d.toInt.toNat)
  refine lv_istore (lv' := [(5, .int r_1), (0, .ref (ad 0)), (1, .int a), (2, .int b), (3, .int d), (4, .int f)]) hx hb dX11_isMetBy_6 hl (by decide) rfl (fun ls hl => ?_)
  refine lv_aload_n hx hb dX11_isMetBy_8 rfl (lv_at hl 1 rfl) ?_
  refine lv_iload_n hx hb dX11_isMetBy_9 rfl (lv_at hl 3 rfl) ?_
  refine lv_iload_n hx hb dX11_isMetBy_10 rfl (lv_at hl 4 rfl) ?_
  refine g_callSi (va_runV (As := [.int b, .int d]) (rest := []) ⟨hx, hb, hml, hown, hts⟩ (c_X11_next l D cy ad hI _ iv ar b d (by omega) (by omega)) (cwV 2 hts gX11_isMetBy_X11_next rfl rfl rfl (by decide +kernel) ⟨Nat.le_of_ble_eq_true rfl, Nat.le_of_ble_eq_true rfl⟩) (m_preV hP hK hSt hNw hS (m_at11 (Nat.le_of_ble_eq_true rfl) rfl) rfl) rfl rfl hl.1 rfl (lv_room (Nat.le_of_ble_eq_true rfl)) dX11_isMetBy_11 ⟨Nat.zero_le _, Nat.zero_le _⟩) (fun r_2 w_2 => ?_)
  try dsimp only at w_2
  refine lv_istore (lv' := [(6, .int r_2), (5, .int r_1), (0, .ref (ad 0)), (1, .int a), (2, .int b), (3, .int d), (4, .int f)]) hx hb dX11_isMetBy_14 hl (by decide) rfl (fun ls hl => ?_)
  refine lv_iload hx hb dX11_isMetBy_16 (lv_at hl 1 rfl) ?_
  refine lv_iconst (v := 2) hx hb dX11_isMetBy_18 (by decide) ?_
  refine lv_icmp_ne (tgt := 35) hx hb dX11_isMetBy_19 (by decide) (fun c_3 => ?_) (fun c_3 => ?_)
  · skip
    have q_3 : r_1.toInt ≠ (2 : Int) := i_ne2 (rfl : r_1.toInt = r_1.toInt) (show (2 : Int32).toInt = (2 : Int) from rfl) c_3
    refine lv_aload_n hx hb dX11_isMetBy_35 rfl (lv_at hl 2 rfl) ?_
    refine lv_iload_n hx hb dX11_isMetBy_36 rfl (lv_at hl 3 rfl) ?_
    refine lv_iload hx hb dX11_isMetBy_37 (lv_at hl 6 rfl) ?_
    refine lv_iload hx hb dX11_isMetBy_39 (lv_at hl 1 rfl) ?_
    refine lv_iadd hx hb dX11_isMetBy_41 ?_
    refine lv_topi (fun v_4 ev_4 => ?_)
    have tv_4 : v_4.toInt = f.toInt + r_1.toInt := i_add (rfl : f.toInt = f.toInt) (rfl : r_1.toInt = r_1.toInt) (by omega) (by omega) ev_4
    refine g_callSi (va_runV (As := [.int a, .int v_4]) (rest := []) ⟨hx, hb, hml, hown, hts⟩ (c_X11_cell l D cy ad hI _ iv ar a v_4 (by omega) (by omega)) (cwV 2 hts gX11_isMetBy_X11_cell rfl rfl rfl (by decide +kernel) ⟨Nat.le_of_ble_eq_true rfl, Nat.le_of_ble_eq_true rfl⟩) (m_preV hP hK hSt hNw hS (m_at11 (Nat.le_of_ble_eq_true rfl) rfl) rfl) rfl rfl hl.1 rfl (lv_room (Nat.le_of_ble_eq_true rfl)) dX11_isMetBy_42 ⟨Nat.zero_le _, Nat.zero_le _⟩) (fun r_5 w_5 => ?_)
    try dsimp only at w_5
    refine lv_iload hx hb dX11_isMetBy_45 (lv_at hl 0 rfl) ?_
    refine lv_icmp_ne (tgt := 54) hx hb dX11_isMetBy_47 (by decide) (fun c_6 => ?_) (fun c_6 => ?_)
    · skip
      have q_6 : r_5.toInt ≠ r_2.toInt := i_ne2 (rfl : r_5.toInt = r_5.toInt) (rfl : r_2.toInt = r_2.toInt) c_6
      refine lv_iconst (v := 0) hx hb dX11_isMetBy_54 (by decide) ?_
      refine lv_istore (lv' := [(7, .int 0), (6, .int r_2), (5, .int r_1), (0, .ref (ad 0)), (1, .int a), (2, .int b), (3, .int d), (4, .int f)]) hx hb dX11_isMetBy_55 hl (by decide) rfl (fun ls hl => ?_)
      refine lv_iload hx hb dX11_isMetBy_57 (lv_at hl 0 rfl) ?_
      refine lv_if_ne (tgt := 93) hx hb dX11_isMetBy_59 (by decide) (fun c_7 => ?_) (fun c_7 => ?_)
      · skip
        have q_7 : (0 : Int) ≠ (0 : Int) := i_ne2 (show (0 : Int32).toInt = (0 : Int) from rfl) (show (0 : Int32).toInt = (0 : Int) from rfl) c_7
        exfalso; omega
      · skip
        have q_7 : (0 : Int) = (0 : Int) := i_eq2 (show (0 : Int32).toInt = (0 : Int) from rfl) (show (0 : Int32).toInt = (0 : Int) from rfl) c_7
        refine lv_aload_n hx hb dX11_isMetBy_62 rfl (lv_at hl 3 rfl) ?_
        refine lv_iload_n hx hb dX11_isMetBy_63 rfl (lv_at hl 4 rfl) ?_
        refine lv_iload hx hb dX11_isMetBy_64 (lv_at hl 7 rfl) ?_
        refine lv_iload hx hb dX11_isMetBy_66 (lv_at hl 2 rfl) ?_
        refine lv_iadd hx hb dX11_isMetBy_68 ?_
        refine lv_topi (fun v_8 ev_8 => ?_)
        have tv_8 : v_8.toInt = f.toInt + r_1.toInt := i_add (rfl : f.toInt = f.toInt) (rfl : r_1.toInt = r_1.toInt) (by omega) (by omega) ev_8
        refine lv_iconst (v := 1) hx hb dX11_isMetBy_69 (by decide) ?_
        refine lv_isub hx hb dX11_isMetBy_70 ?_
        refine lv_topi (fun v_9 ev_9 => ?_)
        have tv_9 : v_9.toInt = v_8.toInt - (1 : Int) := i_sub (rfl : v_8.toInt = v_8.toInt) (show (1 : Int32).toInt = (1 : Int) from rfl) (by omega) (by omega) ev_9
        refine g_callSi (va_runV (As := [.int a, .int v_9]) (rest := []) ⟨hx, hb, hml, hown, hts⟩ (c_X11_cell l D cy ad hI _ iv ar a v_9 (by omega) (by omega)) (cwV 2 hts gX11_isMetBy_X11_cell rfl rfl rfl (by decide +kernel) ⟨Nat.le_of_ble_eq_true rfl, Nat.le_of_ble_eq_true rfl⟩) (m_preV hP hK hSt hNw hS (m_at11 (Nat.le_of_ble_eq_true rfl) rfl) rfl) rfl rfl hl.1 rfl (lv_room (Nat.le_of_ble_eq_true rfl)) dX11_isMetBy_71 ⟨Nat.zero_le _, Nat.zero_le _⟩) (fun r_10 w_10 => ?_)
        try dsimp only at w_10
        refine lv_iload hx hb dX11_isMetBy_74 (lv_at hl 1 rfl) ?_
        refine lv_icmp_ne (tgt := 97) hx hb dX11_isMetBy_76 (by decide) (fun c_11 => ?_) (fun c_11 => ?_)
        · skip
          have q_11 : r_10.toInt ≠ r_2.toInt := i_ne2 (rfl : r_10.toInt = r_10.toInt) (rfl : r_2.toInt = r_2.toInt) c_11
          refine lv_iconst (v := 0) hx hb dX11_isMetBy_97 (by decide) ?_
          rw [hQ]
          exact W.zret (v := 0) hx hb hr rfl (fun t ht hW => ⟨0, rfl, trivial, ht⟩) (fun q h => by cases h) dX11_isMetBy_98
        · skip
          have q_11 : r_10.toInt = r_2.toInt := i_eq2 (rfl : r_10.toInt = r_10.toInt) (rfl : r_2.toInt = r_2.toInt) c_11
          refine lv_aload_n hx hb dX11_isMetBy_79 rfl (lv_at hl 3 rfl) ?_
          refine lv_iload_n hx hb dX11_isMetBy_80 rfl (lv_at hl 4 rfl) ?_
          refine lv_iload hx hb dX11_isMetBy_81 (lv_at hl 7 rfl) ?_
          refine lv_iload hx hb dX11_isMetBy_83 (lv_at hl 2 rfl) ?_
          refine lv_iadd hx hb dX11_isMetBy_85 ?_
          refine lv_topi (fun v_12 ev_12 => ?_)
          have tv_12 : v_12.toInt = f.toInt + r_1.toInt := i_add (rfl : f.toInt = f.toInt) (rfl : r_1.toInt = r_1.toInt) (by omega) (by omega) ev_12
          refine g_callSi (va_runV (As := [.int a, .int v_12]) (rest := []) ⟨hx, hb, hml, hown, hts⟩ (c_X11_cell l D cy ad hI _ iv ar a v_12 (by omega) (by omega)) (cwV 2 hts gX11_isMetBy_X11_cell rfl rfl rfl (by decide +kernel) ⟨Nat.le_of_ble_eq_true rfl, Nat.le_of_ble_eq_true rfl⟩) (m_preV hP hK hSt hNw hS (m_at11 (Nat.le_of_ble_eq_true rfl) rfl) rfl) rfl rfl hl.1 rfl (lv_room (Nat.le_of_ble_eq_true rfl)) dX11_isMetBy_86 ⟨Nat.zero_le _, Nat.zero_le _⟩) (fun r_13 w_13 => ?_)
          try dsimp only at w_13
          refine lv_iload_n hx hb dX11_isMetBy_89 rfl (lv_at hl 5 rfl) ?_
          refine lv_icmp_ne (tgt := 97) hx hb dX11_isMetBy_90 (by decide) (fun c_14 => ?_) (fun c_14 => ?_)
          · skip
            have q_14 : r_13.toInt ≠ b.toInt := i_ne2 (rfl : r_13.toInt = r_13.toInt) (rfl : b.toInt = b.toInt) c_14
            refine lv_iconst (v := 0) hx hb dX11_isMetBy_97 (by decide) ?_
            rw [hQ]
            exact W.zret (v := 0) hx hb hr rfl (fun t ht hW => ⟨0, rfl, trivial, ht⟩) (fun q h => by cases h) dX11_isMetBy_98
          · skip
            have q_14 : r_13.toInt = b.toInt := i_eq2 (rfl : r_13.toInt = r_13.toInt) (rfl : b.toInt = b.toInt) c_14
            refine lv_iconst (v := 1) hx hb dX11_isMetBy_93 (by decide) ?_
            refine lv_goto (tgt := 98) hx hb dX11_isMetBy_94 (by decide) ?_
            rw [hQ]
            exact W.zret (v := 1) hx hb hr rfl (fun t ht hW => ⟨1, rfl, trivial, ht⟩) (fun q h => by cases h) dX11_isMetBy_98
    · skip
      have q_6 : r_5.toInt = r_2.toInt := i_eq2 (rfl : r_5.toInt = r_5.toInt) (rfl : r_2.toInt = r_2.toInt) c_6
      refine lv_iconst (v := 1) hx hb dX11_isMetBy_50 (by decide) ?_
      refine lv_goto (tgt := 55) hx hb dX11_isMetBy_51 (by decide) ?_
      refine lv_istore (lv' := [(7, .int 1), (6, .int r_2), (5, .int r_1), (0, .ref (ad 0)), (1, .int a), (2, .int b), (3, .int d), (4, .int f)]) hx hb dX11_isMetBy_55 hl (by decide) rfl (fun ls hl => ?_)
      refine lv_iload hx hb dX11_isMetBy_57 (lv_at hl 0 rfl) ?_
      refine lv_if_ne (tgt := 93) hx hb dX11_isMetBy_59 (by decide) (fun c_15 => ?_) (fun c_15 => ?_)
      · skip
        have q_15 : (1 : Int) ≠ (0 : Int) := i_ne2 (show (1 : Int32).toInt = (1 : Int) from rfl) (show (0 : Int32).toInt = (0 : Int) from rfl) c_15
        refine lv_iconst (v := 1) hx hb dX11_isMetBy_93 (by decide) ?_
        refine lv_goto (tgt := 98) hx hb dX11_isMetBy_94 (by decide) ?_
        rw [hQ]
        exact W.zret (v := 1) hx hb hr rfl (fun t ht hW => ⟨1, rfl, trivial, ht⟩) (fun q h => by cases h) dX11_isMetBy_98
      · skip
        have q_15 : (1 : Int) = (0 : Int) := i_eq2 (show (1 : Int32).toInt = (1 : Int) from rfl) (show (0 : Int32).toInt = (0 : Int) from rfl) c_15
        exfalso; omega
  · skip
    have q_3 : r_1.toInt = (2 : Int) := i_eq2 (rfl : r_1.toInt = r_1.toInt) (show (2 : Int32).toInt = (2 : Int) from rfl) c_3
    refine lv_aload_n hx hb dX11_isMetBy_22 rfl (lv_at hl 2 rfl) ?_
    refine lv_iload_n hx hb dX11_isMetBy_23 rfl (lv_at hl 3 rfl) ?_
    refine lv_iload hx hb dX11_isMetBy_24 (lv_at hl 6 rfl) ?_
    refine lv_iconst (v := 1) hx hb dX11_isMetBy_26 (by decide) ?_
    refine lv_iadd hx hb dX11_isMetBy_27 ?_
    refine lv_topi (fun v_16 ev_16 => ?_)
    have tv_16 : v_16.toInt = f.toInt + (1 : Int) := i_add (rfl : f.toInt = f.toInt) (show (1 : Int32).toInt = (1 : Int) from rfl) (by omega) (by omega) ev_16
    refine g_callSi (va_runV (As := [.int a, .int v_16]) (rest := []) ⟨hx, hb, hml, hown, hts⟩ (c_X11_cell l D cy ad hI _ iv ar a v_16 (by omega) (by omega)) (cwV 2 hts gX11_isMetBy_X11_cell rfl rfl rfl (by decide +kernel) ⟨Nat.le_of_ble_eq_true rfl, Nat.le_of_ble_eq_true rfl⟩) (m_preV hP hK hSt hNw hS (m_at11 (Nat.le_of_ble_eq_true rfl) rfl) rfl) rfl rfl hl.1 rfl (lv_room (Nat.le_of_ble_eq_true rfl)) dX11_isMetBy_28 ⟨Nat.zero_le _, Nat.zero_le _⟩) (fun r_17 w_17 => ?_)
    try dsimp only at w_17
    refine lv_iload_n hx hb dX11_isMetBy_31 rfl (lv_at hl 4 rfl) ?_
    refine lv_icmp_eq (tgt := 50) hx hb dX11_isMetBy_32 (by decide) (fun c_18 => ?_) (fun c_18 => ?_)
    · skip
      have q_18 : r_17.toInt = b.toInt := i_eq2 (rfl : r_17.toInt = r_17.toInt) (rfl : b.toInt = b.toInt) c_18
      refine lv_iconst (v := 1) hx hb dX11_isMetBy_50 (by decide) ?_
      refine lv_goto (tgt := 55) hx hb dX11_isMetBy_51 (by decide) ?_
      refine lv_istore (lv' := [(7, .int 1), (6, .int r_2), (5, .int r_1), (0, .ref (ad 0)), (1, .int a), (2, .int b), (3, .int d), (4, .int f)]) hx hb dX11_isMetBy_55 hl (by decide) rfl (fun ls hl => ?_)
      refine lv_iload hx hb dX11_isMetBy_57 (lv_at hl 0 rfl) ?_
      refine lv_if_ne (tgt := 93) hx hb dX11_isMetBy_59 (by decide) (fun c_19 => ?_) (fun c_19 => ?_)
      · skip
        have q_19 : (1 : Int) ≠ (0 : Int) := i_ne2 (show (1 : Int32).toInt = (1 : Int) from rfl) (show (0 : Int32).toInt = (0 : Int) from rfl) c_19
        refine lv_iconst (v := 1) hx hb dX11_isMetBy_93 (by decide) ?_
        refine lv_goto (tgt := 98) hx hb dX11_isMetBy_94 (by decide) ?_
        rw [hQ]
        exact W.zret (v := 1) hx hb hr rfl (fun t ht hW => ⟨1, rfl, trivial, ht⟩) (fun q h => by cases h) dX11_isMetBy_98
      · skip
        have q_19 : (1 : Int) = (0 : Int) := i_eq2 (show (1 : Int32).toInt = (1 : Int) from rfl) (show (0 : Int32).toInt = (0 : Int) from rfl) c_19
        exfalso; omega
    · skip
      have q_18 : r_17.toInt ≠ b.toInt := i_ne2 (rfl : r_17.toInt = r_17.toInt) (rfl : b.toInt = b.toInt) c_18
      refine lv_aload_n hx hb dX11_isMetBy_35 rfl (lv_at hl 2 rfl) ?_
      refine lv_iload_n hx hb dX11_isMetBy_36 rfl (lv_at hl 3 rfl) ?_
      refine lv_iload hx hb dX11_isMetBy_37 (lv_at hl 6 rfl) ?_
      refine lv_iload hx hb dX11_isMetBy_39 (lv_at hl 1 rfl) ?_
      refine lv_iadd hx hb dX11_isMetBy_41 ?_
      refine lv_topi (fun v_20 ev_20 => ?_)
      have tv_20 : v_20.toInt = f.toInt + r_1.toInt := i_add (rfl : f.toInt = f.toInt) (rfl : r_1.toInt = r_1.toInt) (by omega) (by omega) ev_20
      refine g_callSi (va_runV (As := [.int a, .int v_20]) (rest := []) ⟨hx, hb, hml, hown, hts⟩ (c_X11_cell l D cy ad hI _ iv ar a v_20 (by omega) (by omega)) (cwV 2 hts gX11_isMetBy_X11_cell rfl rfl rfl (by decide +kernel) ⟨Nat.le_of_ble_eq_true rfl, Nat.le_of_ble_eq_true rfl⟩) (m_preV hP hK hSt hNw hS (m_at11 (Nat.le_of_ble_eq_true rfl) rfl) rfl) rfl rfl hl.1 rfl (lv_room (Nat.le_of_ble_eq_true rfl)) dX11_isMetBy_42 ⟨Nat.zero_le _, Nat.zero_le _⟩) (fun r_21 w_21 => ?_)
      try dsimp only at w_21
      refine lv_iload hx hb dX11_isMetBy_45 (lv_at hl 0 rfl) ?_
      refine lv_icmp_ne (tgt := 54) hx hb dX11_isMetBy_47 (by decide) (fun c_22 => ?_) (fun c_22 => ?_)
      · skip
        have q_22 : r_21.toInt ≠ r_2.toInt := i_ne2 (rfl : r_21.toInt = r_21.toInt) (rfl : r_2.toInt = r_2.toInt) c_22
        refine lv_iconst (v := 0) hx hb dX11_isMetBy_54 (by decide) ?_
        refine lv_istore (lv' := [(7, .int 0), (6, .int r_2), (5, .int r_1), (0, .ref (ad 0)), (1, .int a), (2, .int b), (3, .int d), (4, .int f)]) hx hb dX11_isMetBy_55 hl (by decide) rfl (fun ls hl => ?_)
        refine lv_iload hx hb dX11_isMetBy_57 (lv_at hl 0 rfl) ?_
        refine lv_if_ne (tgt := 93) hx hb dX11_isMetBy_59 (by decide) (fun c_23 => ?_) (fun c_23 => ?_)
        · skip
          have q_23 : (0 : Int) ≠ (0 : Int) := i_ne2 (show (0 : Int32).toInt = (0 : Int) from rfl) (show (0 : Int32).toInt = (0 : Int) from rfl) c_23
          exfalso; omega
        · skip
          have q_23 : (0 : Int) = (0 : Int) := i_eq2 (show (0 : Int32).toInt = (0 : Int) from rfl) (show (0 : Int32).toInt = (0 : Int) from rfl) c_23
          refine lv_aload_n hx hb dX11_isMetBy_62 rfl (lv_at hl 3 rfl) ?_
          refine lv_iload_n hx hb dX11_isMetBy_63 rfl (lv_at hl 4 rfl) ?_
          refine lv_iload hx hb dX11_isMetBy_64 (lv_at hl 7 rfl) ?_
          refine lv_iload hx hb dX11_isMetBy_66 (lv_at hl 2 rfl) ?_
          refine lv_iadd hx hb dX11_isMetBy_68 ?_
          refine lv_topi (fun v_24 ev_24 => ?_)
          have tv_24 : v_24.toInt = f.toInt + r_1.toInt := i_add (rfl : f.toInt = f.toInt) (rfl : r_1.toInt = r_1.toInt) (by omega) (by omega) ev_24
          refine lv_iconst (v := 1) hx hb dX11_isMetBy_69 (by decide) ?_
          refine lv_isub hx hb dX11_isMetBy_70 ?_
          refine lv_topi (fun v_25 ev_25 => ?_)
          have tv_25 : v_25.toInt = v_24.toInt - (1 : Int) := i_sub (rfl : v_24.toInt = v_24.toInt) (show (1 : Int32).toInt = (1 : Int) from rfl) (by omega) (by omega) ev_25
          refine g_callSi (va_runV (As := [.int a, .int v_25]) (rest := []) ⟨hx, hb, hml, hown, hts⟩ (c_X11_cell l D cy ad hI _ iv ar a v_25 (by omega) (by omega)) (cwV 2 hts gX11_isMetBy_X11_cell rfl rfl rfl (by decide +kernel) ⟨Nat.le_of_ble_eq_true rfl, Nat.le_of_ble_eq_true rfl⟩) (m_preV hP hK hSt hNw hS (m_at11 (Nat.le_of_ble_eq_true rfl) rfl) rfl) rfl rfl hl.1 rfl (lv_room (Nat.le_of_ble_eq_true rfl)) dX11_isMetBy_71 ⟨Nat.zero_le _, Nat.zero_le _⟩) (fun r_26 w_26 => ?_)
          try dsimp only at w_26
          refine lv_iload hx hb dX11_isMetBy_74 (lv_at hl 1 rfl) ?_
          refine lv_icmp_ne (tgt := 97) hx hb dX11_isMetBy_76 (by decide) (fun c_27 => ?_) (fun c_27 => ?_)
          · skip
            have q_27 : r_26.toInt ≠ r_2.toInt := i_ne2 (rfl : r_26.toInt = r_26.toInt) (rfl : r_2.toInt = r_2.toInt) c_27
            refine lv_iconst (v := 0) hx hb dX11_isMetBy_97 (by decide) ?_
            rw [hQ]
            exact W.zret (v := 0) hx hb hr rfl (fun t ht hW => ⟨0, rfl, trivial, ht⟩) (fun q h => by cases h) dX11_isMetBy_98
          · skip
            have q_27 : r_26.toInt = r_2.toInt := i_eq2 (rfl : r_26.toInt = r_26.toInt) (rfl : r_2.toInt = r_2.toInt) c_27
            refine lv_aload_n hx hb dX11_isMetBy_79 rfl (lv_at hl 3 rfl) ?_
            refine lv_iload_n hx hb dX11_isMetBy_80 rfl (lv_at hl 4 rfl) ?_
            refine lv_iload hx hb dX11_isMetBy_81 (lv_at hl 7 rfl) ?_
            refine lv_iload hx hb dX11_isMetBy_83 (lv_at hl 2 rfl) ?_
            refine lv_iadd hx hb dX11_isMetBy_85 ?_
            refine lv_topi (fun v_28 ev_28 => ?_)
            have tv_28 : v_28.toInt = f.toInt + r_1.toInt := i_add (rfl : f.toInt = f.toInt) (rfl : r_1.toInt = r_1.toInt) (by omega) (by omega) ev_28
            refine g_callSi (va_runV (As := [.int a, .int v_28]) (rest := []) ⟨hx, hb, hml, hown, hts⟩ (c_X11_cell l D cy ad hI _ iv ar a v_28 (by omega) (by omega)) (cwV 2 hts gX11_isMetBy_X11_cell rfl rfl rfl (by decide +kernel) ⟨Nat.le_of_ble_eq_true rfl, Nat.le_of_ble_eq_true rfl⟩) (m_preV hP hK hSt hNw hS (m_at11 (Nat.le_of_ble_eq_true rfl) rfl) rfl) rfl rfl hl.1 rfl (lv_room (Nat.le_of_ble_eq_true rfl)) dX11_isMetBy_86 ⟨Nat.zero_le _, Nat.zero_le _⟩) (fun r_29 w_29 => ?_)
            try dsimp only at w_29
            refine lv_iload_n hx hb dX11_isMetBy_89 rfl (lv_at hl 5 rfl) ?_
            refine lv_icmp_ne (tgt := 97) hx hb dX11_isMetBy_90 (by decide) (fun c_30 => ?_) (fun c_30 => ?_)
            · skip
              have q_30 : r_29.toInt ≠ b.toInt := i_ne2 (rfl : r_29.toInt = r_29.toInt) (rfl : b.toInt = b.toInt) c_30
              refine lv_iconst (v := 0) hx hb dX11_isMetBy_97 (by decide) ?_
              rw [hQ]
              exact W.zret (v := 0) hx hb hr rfl (fun t ht hW => ⟨0, rfl, trivial, ht⟩) (fun q h => by cases h) dX11_isMetBy_98
            · skip
              have q_30 : r_29.toInt = b.toInt := i_eq2 (rfl : r_29.toInt = r_29.toInt) (rfl : b.toInt = b.toInt) c_30
              refine lv_iconst (v := 1) hx hb dX11_isMetBy_93 (by decide) ?_
              refine lv_goto (tgt := 98) hx hb dX11_isMetBy_94 (by decide) ?_
              rw [hQ]
              exact W.zret (v := 1) hx hb hr rfl (fun t ht hW => ⟨1, rfl, trivial, ht⟩) (fun q h => by cases h) dX11_isMetBy_98
      · skip
        have q_22 : r_21.toInt = r_2.toInt := i_eq2 (rfl : r_21.toInt = r_21.toInt) (rfl : r_2.toInt = r_2.toInt) c_22
        refine lv_iconst (v := 1) hx hb dX11_isMetBy_50 (by decide) ?_
        refine lv_goto (tgt := 55) hx hb dX11_isMetBy_51 (by decide) ?_
        refine lv_istore (lv' := [(7, .int 1), (6, .int r_2), (5, .int r_1), (0, .ref (ad 0)), (1, .int a), (2, .int b), (3, .int d), (4, .int f)]) hx hb dX11_isMetBy_55 hl (by decide) rfl (fun ls hl => ?_)
        refine lv_iload hx hb dX11_isMetBy_57 (lv_at hl 0 rfl) ?_
        refine lv_if_ne (tgt := 93) hx hb dX11_isMetBy_59 (by decide) (fun c_31 => ?_) (fun c_31 => ?_)
        · skip
          have q_31 : (1 : Int) ≠ (0 : Int) := i_ne2 (show (1 : Int32).toInt = (1 : Int) from rfl) (show (0 : Int32).toInt = (0 : Int) from rfl) c_31
          refine lv_iconst (v := 1) hx hb dX11_isMetBy_93 (by decide) ?_
          refine lv_goto (tgt := 98) hx hb dX11_isMetBy_94 (by decide) ?_
          rw [hQ]
          exact W.zret (v := 1) hx hb hr rfl (fun t ht hW => ⟨1, rfl, trivial, ht⟩) (fun q h => by cases h) dX11_isMetBy_98
        · skip
          have q_31 : (1 : Int) = (0 : Int) := i_eq2 (show (1 : Int32).toInt = (1 : Int) from rfl) (show (0 : Int32).toInt = (0 : Int) from rfl) c_31
          exfalso; omega
set_option maxHeartbeats 4000000 in
set_option maxRecDepth 100000 in
theorem c_X11_explain (l : Launch) (D : va_G) (cy : Nat → ClassId) (ad : Nat → Nat) (hI : mInj ad) (sz : Nat) (iv : gIv) (ar : gAr) (a : Int32) (b : Int32) (hri : RI iv ar) (hpr : (iv 0 17).toInt ≤ 1000000) : Met l yX11_explain wsX11_explain ({ frames := 5, cells := 0, slots := 0, locals := 120 } : Room) (va_Pc [.ref (ad 0), .int a, .int b] (mPre D cy ad sz iv ar)) (va_Qi (fun (r : Int32) (u : gIv × gAr) => RI u.1 u.2 ∧ u.1 0 4 = iv 0 4 ∧ u.1 0 17 = iv 0 17) (mPost D cy ad) (mA ad sz)) 0 0 (mA ad sz) := by
  refine Met.ofW (cc := cX11_explain) (maxL := 7) (ret := (some .int)) (by decide) rfl ?_
  intro p e s m args below meth c s₁ B hml hv
  obtain ⟨rfl, rfl, hP, hK, hSt, hNw⟩ := hv
  have hx := B.exec
  have hb := B.bytes
  have hr := B.returns
  have hts := atoms_spec (ws := wsX11_explain) B.pre
  have hown : s.vm.findClass RX11 = some m.cls := findClass_of_methodNamed B.named
  have hlocks := B.notSynchronized
  have hS : va_S (mA ad s.heap.size) s.heap s.heap [] := va_S.rf
  have inX11 : ∀ w ∈ u_ws RX11 TX11 30, w ∈ wsX11_explain := by decide +kernel
  have lk0 := hts (.fieldLink RX11 69 "FormationPlannerModel" "hasPlan" "Z") (by decide +kernel)
  have lk1 := hts (.fieldLink RX11 192 "FormationPlannerModel" "present" "I") (by decide +kernel)
  have lk2 := hts (.fieldLink RX11 45 "FormationPlannerModel" "arrival" "[I") (by decide +kernel)
  have lk3 := hts (.fieldLink RX11 54 "FormationPlannerModel" "goal" "[I") (by decide +kernel)
  have lk4 := hts (.fieldLink RX11 9 "FormationPlannerModel" "s" "[I") (by decide +kernel)
  have lk5 := hts (.fieldLink RX11 48 "FormationPlannerModel" "position" "[I") (by decide +kernel)
  have hl := lv_entry ([.ref (ad 0), .int a, .int b]) (n := 7) (Nat.le_of_ble_eq_true rfl)
  rw [lg_entry_eq]
  generalize (lg_sl ([.ref (ad 0), .int a, .int b]) ++ List.replicate (7 - (lg_sl ([.ref (ad 0), .int a, .int b])).length) Slot.unset).toArray = ls at hl ⊢
  have hl : lv_has ls 7 [(0, .ref (ad 0)), (1, .int a), (2, .int b)] := hl
  obtain ⟨Q, hQ⟩ : ∃ Q, Q = MQ below (va_Qi (fun (r : Int32) (u : gIv × gAr) => RI u.1 u.2 ∧ u.1 0 4 = iv 0 4 ∧ u.1 0 17 = iv 0 17) (mPost D cy ad) (mA ad s.heap.size)) (([.ref (ad 0), .int a, .int b] : List Value).toArray) s 0 0 (mA ad s.heap.size) := ⟨_, rfl⟩
  rw [← hQ]
  obtain ⟨⟨hs1, hs2, hs3, hs4, -⟩, -⟩ := id hri.1
  have hp0 := hri.2.2.2.2.2.2.1
  refine lv_aload_n hx hb dX11_explain_0 rfl (lv_at hl 0 rfl) ?_
  refine lv_iload_n hx hb dX11_explain_1 rfl (lv_at hl 1 rfl) ?_
  refine g_callSi (va_runV (As := [.int a]) (rest := []) ⟨hx, hb, hml, hown, hts⟩ (c_X11_isDrone l D cy ad hI _ iv ar a ⟨hri.1.1.1, hri.1.1.2.1⟩) (cwV 1 hts gX11_explain_X11_isDrone rfl rfl rfl (by decide +kernel) ⟨Nat.le_of_ble_eq_true rfl, Nat.le_of_ble_eq_true rfl⟩) (m_preV hP hK hSt hNw hS (m_at11 (Nat.le_of_ble_eq_true rfl) rfl) rfl) rfl rfl hl.1 rfl (lv_room (Nat.le_of_ble_eq_true rfl)) dX11_explain_2 ⟨Nat.zero_le _, Nat.zero_le _⟩) (fun r_1 w_1 => ?_)
  try dsimp only at w_1
  refine lv_if_ne (tgt := 10) hx hb dX11_explain_5 (by decide) (fun c_2 => ?_) (fun c_2 => ?_)
  · skip
    have q_2 : r_1.toInt ≠ (0 : Int) := i_ne2 (rfl : r_1.toInt = r_1.toInt) (show (0 : Int32).toInt = (0 : Int) from rfl) c_2
    refine lv_iload_n hx hb dX11_explain_10 rfl (lv_at hl 2 rfl) ?_
    refine lv_iconst (v := 0) hx hb dX11_explain_11 (by decide) ?_
    refine lv_bipush (v := 59) hx hb dX11_explain_12 (by decide) ?_
    have zl_3 : (0 : Int32).toInt = (0 : Int) := rfl
    have zl_4 : (59 : Int32).toInt = (59 : Int) := rfl
    refine g_callSi (va_runS (As := [.int b, .int 0, .int 59]) (rest := []) ⟨hx, hb, hml, hown, hts⟩ (c_X11_isIn l b 0 59) (va_cwS 3 hts gX11_explain_X11_isIn rfl rfl rfl (by decide +kernel) ⟨Nat.le_of_ble_eq_true rfl, Nat.le_of_ble_eq_true rfl⟩) (g_preT) rfl rfl hl.1 rfl (lv_room (Nat.le_of_ble_eq_true rfl)) dX11_explain_14 ⟨Nat.zero_le _, Nat.zero_le _⟩) (fun r_5 w_5 => ?_)
    try dsimp only at w_5
    refine lv_if_ne (tgt := 23) hx hb dX11_explain_17 (by decide) (fun c_6 => ?_) (fun c_6 => ?_)
    · skip
      have q_6 : r_5.toInt ≠ (0 : Int) := i_ne2 (rfl : r_5.toInt = r_5.toInt) (show (0 : Int32).toInt = (0 : Int) from rfl) c_6
      refine lv_aload_n hx hb dX11_explain_23 rfl (lv_at hl 0 rfl) ?_
      refine va_get (D := D) (ci := 11) (v := .int (iv 0 15)) (C := RX11) (T := TX11) (N := 30) hx hb hts inX11 hown hK hP 0 (m_at11 (Nat.le_of_ble_eq_true rfl) rfl) rfl 15 (by decide) lk0 (fun _ h9 => h9) rfl dX11_explain_24 ?_
      refine lv_if_ne (tgt := 33) hx hb dX11_explain_27 (by decide) (fun c_7 => ?_) (fun c_7 => ?_)
      · skip
        have q_7 : (iv 0 15).toInt ≠ (0 : Int) := i_ne2 (rfl : (iv 0 15).toInt = (iv 0 15).toInt) (show (0 : Int32).toInt = (0 : Int) from rfl) c_7
        have hpl0 := hri.2.2.2.2.2.2.2 (by omega) a.toInt.toNat (by omega)
        have hpa := hpl0.2.2.1
        have hpb := hpl0.2.2.2.1
        have hpg := hpl0.1
        have hph := hpl0.2.1
        refine lv_aload_n hx hb dX11_explain_33 rfl (lv_at hl 0 rfl) ?_
        refine va_get (D := D) (ci := 11) (v := .int (iv 0 17)) (C := RX11) (T := TX11) (N := 30) hx hb hts inX11 hown hK hP 0 (m_at11 (Nat.le_of_ble_eq_true rfl) rfl) rfl 17 (by decide) lk1 (fun _ h9 => h9) rfl dX11_explain_34 ?_
        refine lv_iload_n hx hb dX11_explain_37 rfl (lv_at hl 2 rfl) ?_
        refine lv_iadd hx hb dX11_explain_38 ?_
        refine lv_topi (fun v_8 ev_8 => ?_)
        have rg_9 := i_rng b
        have tv_8 : v_8.toInt = ((iv 0 17).toInt) + b.toInt := i_add (rfl : (iv 0 17).toInt = (iv 0 17).toInt) (rfl : b.toInt = b.toInt) (by omega) (by omega) ev_8
        refine lv_istore_n (lv' := [(3, .int v_8), (0, .ref (ad 0)), (1, .int a), (2, .int b)]) hx hb dX11_explain_39 rfl hl (by decide) rfl (fun ls hl => ?_)
        refine lv_iload_n hx hb dX11_explain_40 rfl (lv_at hl 0 rfl) ?_
        refine lv_aload_n hx hb dX11_explain_41 rfl (lv_at hl 1 rfl) ?_
        refine va_get (D := D) (ci := 11) (v := .ref (ad 11)) (C := RX11) (T := TX11) (N := 30) hx hb hts inX11 hown hK hP 0 (m_at11 (Nat.le_of_ble_eq_true rfl) rfl) rfl 21 (by decide) lk2 (fun _ h9 => h9) rfl dX11_explain_42 ?_
        refine lv_iload_n hx hb dX11_explain_45 rfl (lv_at hl 2 rfl) ?_
        refine va_iald hx hb hK hP 11 0 (m_at12 (Nat.le_of_ble_eq_true rfl) rfl) rfl (g_in (N := 6) (rfl : a.toInt = a.toInt) rfl (by omega) (by omega)) dX11_explain_46 ?_
        refine lv_topi (fun v_10 ev_10 => ?_)
        have hv1 : v_10.toInt = (ar 11 a.toInt.toNat).toInt := by rw [ev_10, g_cN (rfl : a.toInt = _)]
        refine lv_icmp_ge (tgt := 59) hx hb dX11_explain_47 (by decide) (fun c_11 => ?_) (fun c_11 => ?_)
        · skip
          have q_11 : v_10.toInt ≤ v_8.toInt := i_le2 (rfl : v_10.toInt = v_10.toInt) (rfl : v_8.toInt = v_8.toInt) c_11
          refine lv_iconst (v := (-1)) hx hb dX11_explain_59 (by decide) ?_
          rw [hQ]
          exact W.iret (v := (-1)) hx hb hr (fun t ht hW => ⟨⟨(-1), (iv, ar), rfl, ⟨hri, rfl, rfl⟩, by show va_P _ _ _ _; rw [ht]; exact hP⟩, hS.F ht⟩) hS.2.2 dX11_explain_60
        · skip
          have q_11 : v_8.toInt < v_10.toInt := i_nle2 (rfl : v_10.toInt = v_10.toInt) (rfl : v_8.toInt = v_8.toInt) c_11
          refine lv_aload_n hx hb dX11_explain_50 rfl (lv_at hl 1 rfl) ?_
          refine lv_iload_n hx hb dX11_explain_51 rfl (lv_at hl 2 rfl) ?_
          refine lv_iload_n hx hb dX11_explain_52 rfl (lv_at hl 0 rfl) ?_
          refine g_callSi (va_runV (As := [.int a, .int v_8]) (rest := []) ⟨hx, hb, hml, hown, hts⟩ (c_X11_actionOf l D cy ad hI _ iv ar a v_8 (by omega) (by omega) hpl0.2.2.2.1) (cwV 2 hts gX11_explain_X11_actionOf rfl rfl rfl (by decide +kernel) ⟨Nat.le_of_ble_eq_true rfl, Nat.le_of_ble_eq_true rfl⟩) (m_preV hP hK hSt hNw hS (m_at11 (Nat.le_of_ble_eq_true rfl) rfl) rfl) rfl rfl hl.1 rfl (lv_room (Nat.le_of_ble_eq_true rfl)) dX11_explain_53 ⟨Nat.zero_le _, Nat.zero_le _⟩) (fun r_12 w_12 => ?_)
          try dsimp only at w_12
          refine lv_if_eq (tgt := 61) hx hb dX11_explain_56 (by decide) (fun c_13 => ?_) (fun c_13 => ?_)
          · skip
            have q_13 : r_12.toInt = (0 : Int) := i_eq2 (rfl : r_12.toInt = r_12.toInt) (show (0 : Int32).toInt = (0 : Int) from rfl) c_13
            refine lv_aload_n hx hb dX11_explain_61 rfl (lv_at hl 1 rfl) ?_
            refine lv_iload_n hx hb dX11_explain_62 rfl (lv_at hl 2 rfl) ?_
            refine lv_iload_n hx hb dX11_explain_63 rfl (lv_at hl 0 rfl) ?_
            refine g_callSi (va_runV (As := [.int a, .int v_8]) (rest := []) ⟨hx, hb, hml, hown, hts⟩ (c_X11_cell l D cy ad hI _ iv ar a v_8 (by omega) (by omega)) (cwV 2 hts gX11_explain_X11_cell rfl rfl rfl (by decide +kernel) ⟨Nat.le_of_ble_eq_true rfl, Nat.le_of_ble_eq_true rfl⟩) (m_preV hP hK hSt hNw hS (m_at11 (Nat.le_of_ble_eq_true rfl) rfl) rfl) rfl rfl hl.1 rfl (lv_room (Nat.le_of_ble_eq_true rfl)) dX11_explain_64 ⟨Nat.zero_le _, Nat.zero_le _⟩) (fun r_14 w_14 => ?_)
            try dsimp only at w_14
            have h9 := w_14
            have h8 := hpl0.2.2.2.2 (if 60 < (v_8.toInt) then 60 else (v_8.toInt).toNat) (by split <;> omega)
            rw [← h9] at h8
            have h7 : 0 ≤ r_14.toInt ∧ r_14.toInt < 108 := ⟨h8.1, h8.2.1⟩
            clear h8
            refine lv_istore (lv' := [(4, .int r_14), (3, .int v_8), (0, .ref (ad 0)), (1, .int a), (2, .int b)]) hx hb dX11_explain_67 hl (by decide) rfl (fun ls hl => ?_)
            refine lv_aload_n hx hb dX11_explain_69 rfl (lv_at hl 2 rfl) ?_
            refine lv_iload hx hb dX11_explain_70 (lv_at hl 0 rfl) ?_
            refine lv_aload_n hx hb dX11_explain_72 rfl (lv_at hl 2 rfl) ?_
            refine va_get (D := D) (ci := 11) (v := .ref (ad 14)) (C := RX11) (T := TX11) (N := 30) hx hb hts inX11 hown hK hP 0 (m_at11 (Nat.le_of_ble_eq_true rfl) rfl) rfl 24 (by decide) lk3 (fun _ h9 => h9) rfl dX11_explain_73 ?_
            refine lv_iload_n hx hb dX11_explain_76 rfl (lv_at hl 3 rfl) ?_
            refine va_iald hx hb hK hP 14 0 (m_at12 (Nat.le_of_ble_eq_true rfl) rfl) rfl (g_in (N := 6) (rfl : a.toInt = a.toInt) rfl (by omega) (by omega)) dX11_explain_77 ?_
            refine lv_topi (fun v_15 ev_15 => ?_)
            have hv2 : v_15.toInt = (ar 14 a.toInt.toNat).toInt := by rw [ev_15, g_cN (rfl : a.toInt = _)]
            refine m_calli (va_runV (As := [.int r_14, .int v_15]) (rest := []) ⟨hx, hb, hml, hown, hts⟩ (c_X11_firstAction l D cy ad hI _ iv ar r_14 v_15 (by omega) (by omega) hri.2.2.2.2.1) (cwV 2 hts gX11_explain_X11_firstAction rfl rfl rfl (by decide +kernel) ⟨Nat.le_of_ble_eq_true rfl, Nat.le_of_ble_eq_true rfl⟩) (m_preV hP hK hSt hNw hS (m_at11 (Nat.le_of_ble_eq_true rfl) rfl) rfl) rfl rfl hl.1 rfl (lv_room (Nat.le_of_ble_eq_true rfl)) dX11_explain_78 ⟨Nat.zero_le _, Nat.zero_le _⟩) hS (fun r_16 iv_16 ar_16 H locs w_16 hP hS => ?_)
            try dsimp only at w_16
            have wi_16 := (w_16.1).symm
            subst wi_16
            obtain ⟨-, wf1, wk1, -, wr1⟩ := w_16
            have hr1 : 0 ≤ r_16.toInt ∧ r_16.toInt < 7 := by
              rcases wr1 with z | z
              · exact ⟨by omega, z.2.1⟩
              · exact ⟨by omega, by omega⟩
            clear wr1
            have hri2 := hri.time wf1 wk1
            refine lv_istore (lv' := [(5, .int r_16), (4, .int r_14), (3, .int v_8), (0, .ref (ad 0)), (1, .int a), (2, .int b)]) hx hb dX11_explain_81 hl (by decide) rfl (fun ls hl => ?_)
            refine lv_iconst (v := 0) hx hb dX11_explain_83 (by decide) ?_
            refine lv_istore (lv' := [(6, .int 0), (5, .int r_16), (4, .int r_14), (3, .int v_8), (0, .ref (ad 0)), (1, .int a), (2, .int b)]) hx hb dX11_explain_84 hl (by decide) rfl (fun ls hl => ?_)
            have loop18 : ∀ (n : Nat) (x6_17 : Int32) (ls : Array Slot), ((6 - (x6_17.toInt)).toNat) < n → (0 ≤ (x6_17.toInt) ∧ (x6_17.toInt) ≤ 6) → lv_has ls 7 [(6, .int x6_17), (5, .int r_16), (4, .int r_14), (3, .int v_8), (0, .ref (ad 0)), (1, .int a), (2, .int b)] → W p l e (headSpec wsX11_explain (({ frames := 5, cells := 0, slots := 0, locals := 120 } : Room))).room s m (([.ref (ad 0), .int a, .int b] : List Value).toArray) below meth c H locs 0 0 Q (F0 m 86 ls []) := by
              intro n
              induction n with
              | zero => intro x6_17 ls hm; omega
              | succ n ih18 =>
                intro x6_17 ls hm hg0 hl
                refine lv_iload hx hb dX11_explain_86 (lv_at hl 0 rfl) ?_
                refine lv_aload_n hx hb dX11_explain_88 rfl (lv_at hl 4 rfl) ?_
                refine va_get (D := D) (ci := 11) (v := .ref (ad 1)) (C := RX11) (T := TX11) (N := 30) hx hb hts inX11 hown hK hP 0 (m_at11 (Nat.le_of_ble_eq_true rfl) rfl) rfl 0 (by decide) lk4 (fun _ h9 => h9) rfl dX11_explain_89 ?_
                refine lv_bipush (v := 111) hx hb dX11_explain_92 (by decide) ?_
                refine va_iald hx hb hK hP 1 0 (m_at12 (Nat.le_of_ble_eq_true rfl) rfl) rfl (g_in (N := 126) (show (111 : Int32).toInt = (111 : Int) from rfl) rfl (by omega) (by omega)) dX11_explain_94 ?_
                refine lv_topi (fun v_19 ev_19 => ?_)
                have hv3 : v_19.toInt = (ar 1 111).toInt := by rw [ev_19, wf1 1 (by omega) (by omega)]; rfl
                refine lv_icmp_ge (tgt := 142) hx hb dX11_explain_95 (by decide) (fun c_20 => ?_) (fun c_20 => ?_)
                · skip
                  have q_20 : v_19.toInt ≤ x6_17.toInt := i_le2 (rfl : v_19.toInt = v_19.toInt) (rfl : x6_17.toInt = x6_17.toInt) c_20
                  refine lv_iconst (v := (-1)) hx hb dX11_explain_142 (by decide) ?_
                  rw [hQ]
                  exact W.iret (v := (-1)) hx hb hr (fun t ht hW => ⟨⟨(-1), (iv, ar_16), rfl, ⟨hri2, rfl, rfl⟩, by show va_P _ _ _ _; rw [ht]; exact hP⟩, hS.F ht⟩) hS.2.2 dX11_explain_143
                · skip
                  have q_20 : x6_17.toInt < v_19.toInt := i_nle2 (rfl : v_19.toInt = v_19.toInt) (rfl : x6_17.toInt = x6_17.toInt) c_20
                  refine lv_iload hx hb dX11_explain_98 (lv_at hl 1 rfl) ?_
                  refine lv_if_eq (tgt := 142) hx hb dX11_explain_100 (by decide) (fun c_21 => ?_) (fun c_21 => ?_)
                  · skip
                    have q_21 : r_16.toInt = (0 : Int) := i_eq2 (rfl : r_16.toInt = r_16.toInt) (show (0 : Int32).toInt = (0 : Int) from rfl) c_21
                    refine lv_iconst (v := (-1)) hx hb dX11_explain_142 (by decide) ?_
                    rw [hQ]
                    exact W.iret (v := (-1)) hx hb hr (fun t ht hW => ⟨⟨(-1), (iv, ar_16), rfl, ⟨hri2, rfl, rfl⟩, by show va_P _ _ _ _; rw [ht]; exact hP⟩, hS.F ht⟩) hS.2.2 dX11_explain_143
                  · skip
                    have q_21 : r_16.toInt ≠ (0 : Int) := i_ne2 (rfl : r_16.toInt = r_16.toInt) (show (0 : Int32).toInt = (0 : Int) from rfl) c_21
                    refine lv_aload_n hx hb dX11_explain_103 rfl (lv_at hl 4 rfl) ?_
                    refine va_get (D := D) (ci := 11) (v := .ref (ad 12)) (C := RX11) (T := TX11) (N := 30) hx hb hts inX11 hown hK hP 0 (m_at11 (Nat.le_of_ble_eq_true rfl) rfl) rfl 22 (by decide) lk5 (fun _ h9 => h9) rfl dX11_explain_104 ?_
                    refine lv_iload hx hb dX11_explain_107 (lv_at hl 0 rfl) ?_
                    refine va_iald hx hb hK hP 12 0 (m_at12 (Nat.le_of_ble_eq_true rfl) rfl) rfl (g_in (N := 6) (rfl : x6_17.toInt = x6_17.toInt) rfl (by omega) (by omega)) dX11_explain_109 ?_
                    refine lv_topi (fun v_22 ev_22 => ?_)
                    refine lv_aload_n hx hb dX11_explain_110 rfl (lv_at hl 4 rfl) ?_
                    refine va_get (D := D) (ci := 11) (v := .ref (ad 12)) (C := RX11) (T := TX11) (N := 30) hx hb hts inX11 hown hK hP 0 (m_at11 (Nat.le_of_ble_eq_true rfl) rfl) rfl 22 (by decide) lk5 (fun _ h9 => h9) rfl dX11_explain_111 ?_
                    refine lv_iload_n hx hb dX11_explain_114 rfl (lv_at hl 5 rfl) ?_
                    refine va_iald hx hb hK hP 12 0 (m_at12 (Nat.le_of_ble_eq_true rfl) rfl) rfl (g_in (N := 6) (rfl : a.toInt = a.toInt) rfl (by omega) (by omega)) dX11_explain_115 ?_
                    refine lv_topi (fun v_23 ev_23 => ?_)
                    refine lv_icmp_ge (tgt := 136) hx hb dX11_explain_116 (by decide) (fun c_24 => ?_) (fun c_24 => ?_)
                    · skip
                      have q_24 : v_23.toInt ≤ v_22.toInt := i_le2 (rfl : v_23.toInt = v_23.toInt) (rfl : v_22.toInt = v_22.toInt) c_24
                      obtain ⟨x6_25, ex6_25⟩ : ∃ y : Int32, y = x6_17 + 1 := ⟨_, rfl⟩
                      have tx6_25 : x6_25.toInt = x6_17.toInt + (1 : Int) := i_add (rfl : x6_17.toInt = x6_17.toInt) (show (1 : Int32).toInt = (1 : Int) from rfl) (by omega) (by omega) ex6_25
                      refine lv_iinc (v := x6_25) (lv' := [(6, .int x6_25), (5, .int r_16), (4, .int r_14), (3, .int v_8), (0, .ref (ad 0)), (1, .int a), (2, .int b)]) hx hb dX11_explain_136 hl (k := 0) rfl (by rw [ex6_25]; rfl) (by decide) rfl (fun ls hl => ?_)
                      refine lv_goto (tgt := 86) hx hb dX11_explain_139 (by decide) ?_
                      exact ih18 x6_25 _ (by omega) (by omega) (lv_sub hl [0, 1, 2, 3, 4, 5, 6] rfl)
                    · skip
                      have q_24 : v_22.toInt < v_23.toInt := i_nle2 (rfl : v_23.toInt = v_23.toInt) (rfl : v_22.toInt = v_22.toInt) c_24
                      refine lv_aload_n hx hb dX11_explain_119 rfl (lv_at hl 4 rfl) ?_
                      refine lv_iload hx hb dX11_explain_120 (lv_at hl 0 rfl) ?_
                      refine lv_iload hx hb dX11_explain_122 (lv_at hl 2 rfl) ?_
                      refine lv_iload hx hb dX11_explain_124 (lv_at hl 1 rfl) ?_
                      refine lv_iload_n hx hb dX11_explain_126 rfl (lv_at hl 3 rfl) ?_
                      refine g_callSi (va_runV (As := [.int x6_17, .int r_14, .int r_16, .int v_8]) (rest := []) ⟨hx, hb, hml, hown, hts⟩ (c_X11_isMetBy l D cy ad hI _ iv ar_16 x6_17 r_14 r_16 v_8 (by omega) (by omega) (by omega) (by omega)) (cwV 4 hts gX11_explain_X11_isMetBy rfl rfl rfl (by decide +kernel) ⟨Nat.le_of_ble_eq_true rfl, Nat.le_of_ble_eq_true rfl⟩) (m_preV hP hK hSt hNw hS (m_at11 (Nat.le_of_ble_eq_true rfl) rfl) rfl) rfl rfl hl.1 rfl (lv_room (Nat.le_of_ble_eq_true rfl)) dX11_explain_127 ⟨Nat.zero_le _, Nat.zero_le _⟩) (fun r_26 w_26 => ?_)
                      try dsimp only at w_26
                      refine lv_if_eq (tgt := 136) hx hb dX11_explain_130 (by decide) (fun c_27 => ?_) (fun c_27 => ?_)
                      · skip
                        have q_27 : r_26.toInt = (0 : Int) := i_eq2 (rfl : r_26.toInt = r_26.toInt) (show (0 : Int32).toInt = (0 : Int) from rfl) c_27
                        obtain ⟨x6_28, ex6_28⟩ : ∃ y : Int32, y = x6_17 + 1 := ⟨_, rfl⟩
                        have tx6_28 : x6_28.toInt = x6_17.toInt + (1 : Int) := i_add (rfl : x6_17.toInt = x6_17.toInt) (show (1 : Int32).toInt = (1 : Int) from rfl) (by omega) (by omega) ex6_28
                        refine lv_iinc (v := x6_28) (lv' := [(6, .int x6_28), (5, .int r_16), (4, .int r_14), (3, .int v_8), (0, .ref (ad 0)), (1, .int a), (2, .int b)]) hx hb dX11_explain_136 hl (k := 0) rfl (by rw [ex6_28]; rfl) (by decide) rfl (fun ls hl => ?_)
                        refine lv_goto (tgt := 86) hx hb dX11_explain_139 (by decide) ?_
                        exact ih18 x6_28 _ (by omega) (by omega) (lv_sub hl [0, 1, 2, 3, 4, 5, 6] rfl)
                      · skip
                        have q_27 : r_26.toInt ≠ (0 : Int) := i_ne2 (rfl : r_26.toInt = r_26.toInt) (show (0 : Int32).toInt = (0 : Int) from rfl) c_27
                        refine lv_iload hx hb dX11_explain_133 (lv_at hl 0 rfl) ?_
                        rw [hQ]
                        exact W.iret (v := x6_17) hx hb hr (fun t ht hW => ⟨⟨x6_17, (iv, ar_16), rfl, ⟨hri2, rfl, rfl⟩, by show va_P _ _ _ _; rw [ht]; exact hP⟩, hS.F ht⟩) hS.2.2 dX11_explain_135
            have zl_29 : (0 : Int32).toInt = (0 : Int) := rfl
            exact loop18 (((6 - ((0 : Int))).toNat) + 1) 0 _ (by omega) (by omega) (lv_sub hl [0, 1, 2, 3, 4, 5, 6] rfl)
          · skip
            have q_13 : r_12.toInt ≠ (0 : Int) := i_ne2 (rfl : r_12.toInt = r_12.toInt) (show (0 : Int32).toInt = (0 : Int) from rfl) c_13
            refine lv_iconst (v := (-1)) hx hb dX11_explain_59 (by decide) ?_
            rw [hQ]
            exact W.iret (v := (-1)) hx hb hr (fun t ht hW => ⟨⟨(-1), (iv, ar), rfl, ⟨hri, rfl, rfl⟩, by show va_P _ _ _ _; rw [ht]; exact hP⟩, hS.F ht⟩) hS.2.2 dX11_explain_60
      · skip
        have q_7 : (iv 0 15).toInt = (0 : Int) := i_eq2 (rfl : (iv 0 15).toInt = (iv 0 15).toInt) (show (0 : Int32).toInt = (0 : Int) from rfl) c_7
        refine lv_bipush (v := (-7)) hx hb dX11_explain_30 (by decide) ?_
        rw [hQ]
        exact W.iret (v := (-7)) hx hb hr (fun t ht hW => ⟨⟨(-7), (iv, ar), rfl, ⟨hri, rfl, rfl⟩, by show va_P _ _ _ _; rw [ht]; exact hP⟩, hS.F ht⟩) hS.2.2 dX11_explain_32
    · skip
      have q_6 : r_5.toInt = (0 : Int) := i_eq2 (rfl : r_5.toInt = r_5.toInt) (show (0 : Int32).toInt = (0 : Int) from rfl) c_6
      refine lv_bipush (v := (-2)) hx hb dX11_explain_20 (by decide) ?_
      rw [hQ]
      exact W.iret (v := (-2)) hx hb hr (fun t ht hW => ⟨⟨(-2), (iv, ar), rfl, ⟨hri, rfl, rfl⟩, by show va_P _ _ _ _; rw [ht]; exact hP⟩, hS.F ht⟩) hS.2.2 dX11_explain_22
  · skip
    have q_2 : r_1.toInt = (0 : Int) := i_eq2 (rfl : r_1.toInt = r_1.toInt) (show (0 : Int32).toInt = (0 : Int) from rfl) c_2
    refine lv_iconst (v := (-1)) hx hb dX11_explain_8 (by decide) ?_
    rw [hQ]
    exact W.iret (v := (-1)) hx hb hr (fun t ht hW => ⟨⟨(-1), (iv, ar), rfl, ⟨hri, rfl, rfl⟩, by show va_P _ _ _ _; rw [ht]; exact hP⟩, hS.F ht⟩) hS.2.2 dX11_explain_9
