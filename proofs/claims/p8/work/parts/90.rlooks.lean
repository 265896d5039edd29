set_option maxHeartbeats 4000000 in
set_option maxRecDepth 100000 in
theorem c_X11_cellOf (l : Launch) (D : va_G) (cy : Nat → ClassId) (ad : Nat → Nat) (hI : mInj ad) (sz : Nat) (iv : gIv) (ar : gAr) (a : Int32) (b : Int32) (hri : RI iv ar) : Met l yX11_cellOf wsX11_cellOf ({ frames := 2, cells := 0, slots := 0, locals := 43 } : Room) (va_Pc [.ref (ad 0), .int a, .int b] (mPre D cy ad sz iv ar)) (vp_Si (fun r => True)) 0 0 (fun _ => False) := by
  refine Met.ofW (cc := cX11_cellOf) (maxL := 3) (ret := (some .int)) (by decide) rfl ?_
  intro p e s m args below meth c s₁ B hml hv
  obtain ⟨rfl, rfl, hP, hK, hSt, hNw⟩ := hv
  have hx := B.exec
  have hb := B.bytes
  have hr := B.returns
  have hts := atoms_spec (ws := wsX11_cellOf) B.pre
  have hown : s.vm.findClass RX11 = some m.cls := findClass_of_methodNamed B.named
  have hlocks := B.notSynchronized
  have hS : va_S (mA ad s.heap.size) s.heap s.heap [] := va_S.rf
  have inX11 : ∀ w ∈ u_ws RX11 TX11 30, w ∈ wsX11_cellOf := by decide +kernel
  have lk0 := hts (.fieldLink RX11 9 "FormationPlannerModel" "s" "[I") (by decide +kernel)
  have hl := lv_entry ([.ref (ad 0), .int a, .int b]) (n := 3) (Nat.le_of_ble_eq_true rfl)
  rw [lg_entry_eq]
  generalize (lg_sl ([.ref (ad 0), .int a, .int b]) ++ List.replicate (3 - (lg_sl ([.ref (ad 0), .int a, .int b])).length) Slot.unset).toArray = ls at hl ⊢
  have hl : lv_has ls 3 [(0, .ref (ad 0)), (1, .int a), (2, .int b)] := hl
  obtain ⟨Q, hQ⟩ : ∃ Q, Q = MQ below (vp_Si (fun r => True)) (([.ref (ad 0), .int a, .int b] : List Value).toArray) s 0 0 (fun _ => False) := ⟨_, rfl⟩
  rw [← hQ]
  obtain ⟨⟨hs1, hs2, hs3, hs4, -⟩, -⟩ := id hri.1
  refine lv_iload_n hx hb dX11_cellOf_0 rfl (lv_at hl 1 rfl) ?_
  refine lv_iconst (v := 0) hx hb dX11_cellOf_1 (by decide) ?_
  refine lv_iconst (v := 1) hx hb dX11_cellOf_2 (by decide) ?_
  have zl_1 : (0 : Int32).toInt = (0 : Int) := rfl
  have zl_2 : (1 : Int32).toInt = (1 : Int) := rfl
  refine g_callSi (va_runS (As := [.int a, .int 0, .int 1]) (rest := []) ⟨hx, hb, hml, hown, hts⟩ (c_X11_isIn l a 0 1) (va_cwS 3 hts gX11_cellOf_X11_isIn rfl rfl rfl (by decide +kernel) ⟨Nat.le_of_ble_eq_true rfl, Nat.le_of_ble_eq_true rfl⟩) (g_preT) rfl rfl hl.1 rfl (lv_room (Nat.le_of_ble_eq_true rfl)) dX11_cellOf_3 ⟨Nat.zero_le _, Nat.zero_le _⟩) (fun r_3 w_3 => ?_)
  try dsimp only at w_3
  refine lv_if_ne (tgt := 12) hx hb dX11_cellOf_6 (by decide) (fun c_4 => ?_) (fun c_4 => ?_)
  · skip
    have q_4 : r_3.toInt ≠ (0 : Int) := i_ne2 (rfl : r_3.toInt = r_3.toInt) (show (0 : Int32).toInt = (0 : Int) from rfl) c_4
    refine lv_iload_n hx hb dX11_cellOf_12 rfl (lv_at hl 1 rfl) ?_
    refine lv_if_ne (tgt := 38) hx hb dX11_cellOf_13 (by decide) (fun c_5 => ?_) (fun c_5 => ?_)
    · skip
      have q_5 : a.toInt ≠ (0 : Int) := i_ne2 (rfl : a.toInt = a.toInt) (show (0 : Int32).toInt = (0 : Int) from rfl) c_5
      refine lv_iload_n hx hb dX11_cellOf_38 rfl (lv_at hl 2 rfl) ?_
      refine lv_iconst (v := 0) hx hb dX11_cellOf_39 (by decide) ?_
      refine lv_aload_n hx hb dX11_cellOf_40 rfl (lv_at hl 0 rfl) ?_
      refine va_get (D := D) (ci := 11) (v := .ref (ad 1)) (C := RX11) (T := TX11) (N := 30) hx hb hts inX11 hown hK hP 0 (m_at11 (Nat.le_of_ble_eq_true rfl) rfl) rfl 0 (by decide) lk0 (fun _ h9 => h9) rfl dX11_cellOf_41 ?_
      refine lv_bipush (v := 118) hx hb dX11_cellOf_44 (by decide) ?_
      refine va_iald hx hb hK hP 1 0 (m_at12 (Nat.le_of_ble_eq_true rfl) rfl) rfl (g_in (N := 126) (show (118 : Int32).toInt = (118 : Int) from rfl) rfl (by omega) (by omega)) dX11_cellOf_46 ?_
      refine lv_topi (fun v_6 ev_6 => ?_)
      have hv1 : v_6.toInt = (ar 1 118).toInt := by rw [ev_6]; rfl
      refine lv_iconst (v := 1) hx hb dX11_cellOf_47 (by decide) ?_
      refine lv_isub hx hb dX11_cellOf_48 ?_
      refine lv_topi (fun v_7 ev_7 => ?_)
      have tv_7 : v_7.toInt = v_6.toInt - (1 : Int) := i_sub (rfl : v_6.toInt = v_6.toInt) (show (1 : Int32).toInt = (1 : Int) from rfl) (by omega) (by omega) ev_7
      have zl_8 : (0 : Int32).toInt = (0 : Int) := rfl
      refine g_callSi (va_runS (As := [.int b, .int 0, .int v_7]) (rest := []) ⟨hx, hb, hml, hown, hts⟩ (c_X11_isIn l b 0 v_7) (va_cwS 3 hts gX11_cellOf_X11_isIn rfl rfl rfl (by decide +kernel) ⟨Nat.le_of_ble_eq_true rfl, Nat.le_of_ble_eq_true rfl⟩) (g_preT) rfl rfl hl.1 rfl (lv_room (Nat.le_of_ble_eq_true rfl)) dX11_cellOf_49 ⟨Nat.zero_le _, Nat.zero_le _⟩) (fun r_9 w_9 => ?_)
      try dsimp only at w_9
      refine lv_if_eq (tgt := 67) hx hb dX11_cellOf_52 (by decide) (fun c_10 => ?_) (fun c_10 => ?_)
      · skip
        have q_10 : r_9.toInt = (0 : Int) := i_eq2 (rfl : r_9.toInt = r_9.toInt) (show (0 : Int32).toInt = (0 : Int) from rfl) c_10
        refine lv_iconst (v := (-1)) hx hb dX11_cellOf_67 (by decide) ?_
        rw [hQ]
        exact W.iret (v := (-1)) hx hb hr (fun t ht hW => ⟨(-1), rfl, trivial, ht⟩) (fun q h => by cases h) dX11_cellOf_68
      · skip
        have q_10 : r_9.toInt ≠ (0 : Int) := i_ne2 (rfl : r_9.toInt = r_9.toInt) (show (0 : Int32).toInt = (0 : Int) from rfl) c_10
        refine lv_aload_n hx hb dX11_cellOf_55 rfl (lv_at hl 0 rfl) ?_
        refine va_get (D := D) (ci := 11) (v := .ref (ad 1)) (C := RX11) (T := TX11) (N := 30) hx hb hts inX11 hown hK hP 0 (m_at11 (Nat.le_of_ble_eq_true rfl) rfl) rfl 0 (by decide) lk0 (fun _ h9 => h9) rfl dX11_cellOf_56 ?_
        refine lv_bipush (v := 119) hx hb dX11_cellOf_59 (by decide) ?_
        refine lv_iload_n hx hb dX11_cellOf_61 rfl (lv_at hl 2 rfl) ?_
        refine lv_iadd hx hb dX11_cellOf_62 ?_
        refine lv_topi (fun v_11 ev_11 => ?_)
        have rg_12 := i_rng b
        have tv_11 : v_11.toInt = (119 : Int) + b.toInt := i_add (show (119 : Int32).toInt = (119 : Int) from rfl) (rfl : b.toInt = b.toInt) (by omega) (by omega) ev_11
        refine va_iald hx hb hK hP 1 0 (m_at12 (Nat.le_of_ble_eq_true rfl) rfl) rfl (g_in (N := 126) (rfl : v_11.toInt = v_11.toInt) rfl (by omega) (by omega)) dX11_cellOf_63 ?_
        refine lv_topi (fun v_13 ev_13 => ?_)
        refine lv_goto (tgt := 68) hx hb dX11_cellOf_64 (by decide) ?_
        rw [hQ]
        exact W.iret (v := v_13) hx hb hr (fun t ht hW => ⟨v_13, rfl, trivial, ht⟩) (fun q h => by cases h) dX11_cellOf_68
    · skip
      have q_5 : a.toInt = (0 : Int) := i_eq2 (rfl : a.toInt = a.toInt) (show (0 : Int32).toInt = (0 : Int) from rfl) c_5
      refine lv_aload_n hx hb dX11_cellOf_16 rfl (lv_at hl 0 rfl) ?_
      refine lv_iload_n hx hb dX11_cellOf_17 rfl (lv_at hl 2 rfl) ?_
      refine g_callSi (va_runV (As := [.int b]) (rest := []) ⟨hx, hb, hml, hown, hts⟩ (c_X11_isDrone l D cy ad hI _ iv ar b ⟨hri.1.1.1, hri.1.1.2.1⟩) (cwV 1 hts gX11_cellOf_X11_isDrone rfl rfl rfl (by decide +kernel) ⟨Nat.le_of_ble_eq_true rfl, Nat.le_of_ble_eq_true rfl⟩) (m_preV hP hK hSt hNw hS (m_at11 (Nat.le_of_ble_eq_true rfl) rfl) rfl) rfl rfl hl.1 rfl (lv_room (Nat.le_of_ble_eq_true rfl)) dX11_cellOf_18 ⟨Nat.zero_le _, Nat.zero_le _⟩) (fun r_14 w_14 => ?_)
      try dsimp only at w_14
      refine lv_if_eq (tgt := 36) hx hb dX11_cellOf_21 (by decide) (fun c_15 => ?_) (fun c_15 => ?_)
      · skip
        have q_15 : r_14.toInt = (0 : Int) := i_eq2 (rfl : r_14.toInt = r_14.toInt) (show (0 : Int32).toInt = (0 : Int) from rfl) c_15
        refine lv_iconst (v := (-1)) hx hb dX11_cellOf_36 (by decide) ?_
        rw [hQ]
        exact W.iret (v := (-1)) hx hb hr (fun t ht hW => ⟨(-1), rfl, trivial, ht⟩) (fun q h => by cases h) dX11_cellOf_37
      · skip
        have q_15 : r_14.toInt ≠ (0 : Int) := i_ne2 (rfl : r_14.toInt = r_14.toInt) (show (0 : Int32).toInt = (0 : Int) from rfl) c_15
        refine lv_aload_n hx hb dX11_cellOf_24 rfl (lv_at hl 0 rfl) ?_
        refine va_get (D := D) (ci := 11) (v := .ref (ad 1)) (C := RX11) (T := TX11) (N := 30) hx hb hts inX11 hown hK hP 0 (m_at11 (Nat.le_of_ble_eq_true rfl) rfl) rfl 0 (by decide) lk0 (fun _ h9 => h9) rfl dX11_cellOf_25 ?_
        refine lv_bipush (v := 112) hx hb dX11_cellOf_28 (by decide) ?_
        refine lv_iload_n hx hb dX11_cellOf_30 rfl (lv_at hl 2 rfl) ?_
        refine lv_iadd hx hb dX11_cellOf_31 ?_
        refine lv_topi (fun v_16 ev_16 => ?_)
        have rg_17 := i_rng b
        have tv_16 : v_16.toInt = (112 : Int) + b.toInt := i_add (show (112 : Int32).toInt = (112 : Int) from rfl) (rfl : b.toInt = b.toInt) (by omega) (by omega) ev_16
        refine va_iald hx hb hK hP 1 0 (m_at12 (Nat.le_of_ble_eq_true rfl) rfl) rfl (g_in (N := 126) (rfl : v_16.toInt = v_16.toInt) rfl (by omega) (by omega)) dX11_cellOf_32 ?_
        refine lv_topi (fun v_18 ev_18 => ?_)
        refine lv_goto (tgt := 37) hx hb dX11_cellOf_33 (by decide) ?_
        rw [hQ]
        exact W.iret (v := v_18) hx hb hr (fun t ht hW => ⟨v_18, rfl, trivial, ht⟩) (fun q h => by cases h) dX11_cellOf_37
  · skip
    have q_4 : r_3.toInt = (0 : Int) := i_eq2 (rfl : r_3.toInt = r_3.toInt) (show (0 : Int32).toInt = (0 : Int) from rfl) c_4
    refine lv_bipush (v := (-2)) hx hb dX11_cellOf_9 (by decide) ?_
    rw [hQ]
    exact W.iret (v := (-2)) hx hb hr (fun t ht hW => ⟨(-2), rfl, trivial, ht⟩) (fun q h => by cases h) dX11_cellOf_11
set_option maxHeartbeats 4000000 in
set_option maxRecDepth 100000 in
theorem c_X11_obstacles (l : Launch) (D : va_G) (cy : Nat → ClassId) (ad : Nat → Nat) (hI : mInj ad) (sz : Nat) (iv : gIv) (ar : gAr)   : Met l yX11_obstacles wsX11_obstacles ({ frames := 0, cells := 0, slots := 0, locals := 0 } : Room) (va_Pc [.ref (ad 0)] (mPre D cy ad sz iv ar)) (vp_Si (fun r => True)) 0 0 (fun _ => False) := by
  refine Met.ofW (cc := cX11_obstacles) (maxL := 3) (ret := (some .int)) (by decide) rfl ?_
  intro p e s m args below meth c s₁ B hml hv
  obtain ⟨rfl, rfl, hP, hK, hSt, hNw⟩ := hv
  have hx := B.exec
  have hb := B.bytes
  have hr := B.returns
  have hts := atoms_spec (ws := wsX11_obstacles) B.pre
  have hown : s.vm.findClass RX11 = some m.cls := findClass_of_methodNamed B.named
  have hlocks := B.notSynchronized
  have hS : va_S (mA ad s.heap.size) s.heap s.heap [] := va_S.rf
  have inX11 : ∀ w ∈ u_ws RX11 TX11 30, w ∈ wsX11_obstacles := by decide +kernel
  have lk0 := hts (.fieldLink RX11 9 "FormationPlannerModel" "s" "[I") (by decide +kernel)
  have hl := lv_entry ([.ref (ad 0)]) (n := 3) (Nat.le_of_ble_eq_true rfl)
  rw [lg_entry_eq]
  generalize (lg_sl ([.ref (ad 0)]) ++ List.replicate (3 - (lg_sl ([.ref (ad 0)])).length) Slot.unset).toArray = ls at hl ⊢
  have hl : lv_has ls 3 [(0, .ref (ad 0))] := hl
  obtain ⟨Q, hQ⟩ : ∃ Q, Q = MQ below (vp_Si (fun r => True)) (([.ref (ad 0)] : List Value).toArray) s 0 0 (fun _ => False) := ⟨_, rfl⟩
  rw [← hQ]
  refine lv_iconst (v := 0) hx hb dX11_obstacles_0 (by decide) ?_
  refine lv_istore_n (lv' := [(1, .int 0), (0, .ref (ad 0))]) hx hb dX11_obstacles_1 rfl hl (by decide) rfl (fun ls hl => ?_)
  refine lv_iconst (v := 0) hx hb dX11_obstacles_2 (by decide) ?_
  refine lv_istore_n (lv' := [(2, .int 0), (1, .int 0), (0, .ref (ad 0))]) hx hb dX11_obstacles_3 rfl hl (by decide) rfl (fun ls hl => ?_)
  have loop3 : ∀ (n : Nat) (x2_1 : Int32) (x1_2 : Int32) (ls : Array Slot), ((108 - (x2_1.toInt)).toNat) < n → (0 ≤ (x2_1.toInt) ∧ (x2_1.toInt) ≤ 108) → lv_has ls 3 [(2, .int x2_1), (1, .int x1_2), (0, .ref (ad 0))] → W p l e (headSpec wsX11_obstacles (({ frames := 0, cells := 0, slots := 0, locals := 0 } : Room))).room s m (([.ref (ad 0)] : List Value).toArray) below meth c s.heap [] 0 0 Q (F0 m 4 ls []) := by
    intro n
    induction n with
    | zero => intro x2_1 x1_2 ls hm; omega
    | succ n ih3 =>
      intro x2_1 x1_2 ls hm hg0 hl
      refine lv_iload_n hx hb dX11_obstacles_4 rfl (lv_at hl 0 rfl) ?_
      refine lv_bipush (v := 108) hx hb dX11_obstacles_5 (by decide) ?_
      refine lv_icmp_ge (tgt := 27) hx hb dX11_obstacles_7 (by decide) (fun c_4 => ?_) (fun c_4 => ?_)
      · skip
        have q_4 : (108 : Int) ≤ x2_1.toInt := i_le2 (show (108 : Int32).toInt = (108 : Int) from rfl) (rfl : x2_1.toInt = x2_1.toInt) c_4
        refine lv_iload_n hx hb dX11_obstacles_27 rfl (lv_at hl 1 rfl) ?_
        rw [hQ]
        exact W.iret (v := x1_2) hx hb hr (fun t ht hW => ⟨x1_2, rfl, trivial, ht⟩) (fun q h => by cases h) dX11_obstacles_28
      · skip
        have q_4 : x2_1.toInt < (108 : Int) := i_nle2 (show (108 : Int32).toInt = (108 : Int) from rfl) (rfl : x2_1.toInt = x2_1.toInt) c_4
        refine lv_iload_n hx hb dX11_obstacles_10 rfl (lv_at hl 1 rfl) ?_
        refine lv_aload_n hx hb dX11_obstacles_11 rfl (lv_at hl 2 rfl) ?_
        refine va_get (D := D) (ci := 11) (v := .ref (ad 1)) (C := RX11) (T := TX11) (N := 30) hx hb hts inX11 hown hK hP 0 (m_at11 (Nat.le_of_ble_eq_true rfl) rfl) rfl 0 (by decide) lk0 (fun _ h9 => h9) rfl dX11_obstacles_12 ?_
        refine lv_iconst (v := 3) hx hb dX11_obstacles_15 (by decide) ?_
        refine lv_iload_n hx hb dX11_obstacles_16 rfl (lv_at hl 0 rfl) ?_
        refine lv_iadd hx hb dX11_obstacles_17 ?_
        refine lv_topi (fun v_5 ev_5 => ?_)
        have tv_5 : v_5.toInt = (3 : Int) + x2_1.toInt := i_add (show (3 : Int32).toInt = (3 : Int) from rfl) (rfl : x2_1.toInt = x2_1.toInt) (by omega) (by omega) ev_5
        refine va_iald hx hb hK hP 1 0 (m_at12 (Nat.le_of_ble_eq_true rfl) rfl) rfl (g_in (N := 126) (rfl : v_5.toInt = v_5.toInt) rfl (by omega) (by omega)) dX11_obstacles_18 ?_
        refine lv_topi (fun v_6 ev_6 => ?_)
        refine lv_iadd hx hb dX11_obstacles_19 ?_
        refine lv_topi (fun v_7 ev_7 => ?_)
        refine lv_istore_n (lv' := [(1, .int v_7), (2, .int x2_1), (0, .ref (ad 0))]) hx hb dX11_obstacles_20 rfl hl (by decide) rfl (fun ls hl => ?_)
        obtain ⟨x2_8, ex2_8⟩ : ∃ y : Int32, y = x2_1 + 1 := ⟨_, rfl⟩
        have tx2_8 : x2_8.toInt = x2_1.toInt + (1 : Int) := i_add (rfl : x2_1.toInt = x2_1.toInt) (show (1 : Int32).toInt = (1 : Int) from rfl) (by omega) (by omega) ex2_8
        refine lv_iinc (v := x2_8) (lv' := [(2, .int x2_8), (1, .int v_7), (0, .ref (ad 0))]) hx hb dX11_obstacles_21 hl (k := 1) rfl (by rw [ex2_8]; rfl) (by decide) rfl (fun ls hl => ?_)
        refine lv_goto (tgt := 4) hx hb dX11_obstacles_24 (by decide) ?_
        exact ih3 x2_8 v_7 _ (by omega) (by omega) (lv_sub hl [0, 1, 2] rfl)
  have zl_9 : (0 : Int32).toInt = (0 : Int) := rfl
  have zl_10 : (0 : Int32).toInt = (0 : Int) := rfl
  exact loop3 (((108 - ((0 : Int))).toNat) + 1) 0 0 _ (by omega) (by omega) (lv_sub hl [0, 1, 2] rfl)
set_option maxHeartbeats 4000000 in
set_option maxRecDepth 100000 in
theorem c_X11_dronesAtSlots (l : Launch) (D : va_G) (cy : Nat → ClassId) (ad : Nat → Nat) (hI : mInj ad) (sz : Nat) (iv : gIv) (ar : gAr)  (hri : RI iv ar) : Met l yX11_dronesAtSlots wsX11_dronesAtSlots ({ frames := 1, cells := 0, slots := 0, locals := 22 } : Room) (va_Pc [.ref (ad 0)] (mPre D cy ad sz iv ar)) (vp_Si (fun r => True)) 0 0 (fun _ => False) := by
  refine Met.ofW (cc := cX11_dronesAtSlots) (maxL := 3) (ret := (some .int)) (by decide) rfl ?_
  intro p e s m args below meth c s₁ B hml hv
  obtain ⟨rfl, rfl, hP, hK, hSt, hNw⟩ := hv
  have hx := B.exec
  have hb := B.bytes
  have hr := B.returns
  have hts := atoms_spec (ws := wsX11_dronesAtSlots) B.pre
  have hown : s.vm.findClass RX11 = some m.cls := findClass_of_methodNamed B.named
  have hlocks := B.notSynchronized
  have hS : va_S (mA ad s.heap.size) s.heap s.heap [] := va_S.rf
  have inX11 : ∀ w ∈ u_ws RX11 TX11 30, w ∈ wsX11_dronesAtSlots := by decide +kernel
  have lk0 := hts (.fieldLink RX11 9 "FormationPlannerModel" "s" "[I") (by decide +kernel)
  have hl := lv_entry ([.ref (ad 0)]) (n := 3) (Nat.le_of_ble_eq_true rfl)
  rw [lg_entry_eq]
  generalize (lg_sl ([.ref (ad 0)]) ++ List.replicate (3 - (lg_sl ([.ref (ad 0)])).length) Slot.unset).toArray = ls at hl ⊢
  have hl : lv_has ls 3 [(0, .ref (ad 0))] := hl
  obtain ⟨Q, hQ⟩ : ∃ Q, Q = MQ below (vp_Si (fun r => True)) (([.ref (ad 0)] : List Value).toArray) s 0 0 (fun _ => False) := ⟨_, rfl⟩
  rw [← hQ]
  obtain ⟨⟨hs1, hs2, hs3, hs4, -⟩, -⟩ := id hri.1
  refine lv_iconst (v := 0) hx hb dX11_dronesAtSlots_0 (by decide) ?_
  refine lv_istore_n (lv' := [(1, .int 0), (0, .ref (ad 0))]) hx hb dX11_dronesAtSlots_1 rfl hl (by decide) rfl (fun ls hl => ?_)
  refine lv_iconst (v := 0) hx hb dX11_dronesAtSlots_2 (by decide) ?_
  refine lv_istore_n (lv' := [(2, .int 0), (1, .int 0), (0, .ref (ad 0))]) hx hb dX11_dronesAtSlots_3 rfl hl (by decide) rfl (fun ls hl => ?_)
  have loop3 : ∀ (n : Nat) (x2_1 : Int32) (x1_2 : Int32) (ls : Array Slot), ((6 - (x2_1.toInt)).toNat) < n → (0 ≤ (x2_1.toInt) ∧ (x2_1.toInt) ≤ 6) → lv_has ls 3 [(2, .int x2_1), (1, .int x1_2), (0, .ref (ad 0))] → W p l e (headSpec wsX11_dronesAtSlots (({ frames := 1, cells := 0, slots := 0, locals := 22 } : Room))).room s m (([.ref (ad 0)] : List Value).toArray) below meth c s.heap [] 0 0 Q (F0 m 4 ls []) := by
    intro n
    induction n with
    | zero => intro x2_1 x1_2 ls hm; omega
    | succ n ih3 =>
      intro x2_1 x1_2 ls hm hg0 hl
      refine lv_iload_n hx hb dX11_dronesAtSlots_4 rfl (lv_at hl 0 rfl) ?_
      refine lv_aload_n hx hb dX11_dronesAtSlots_5 rfl (lv_at hl 2 rfl) ?_
      refine va_get (D := D) (ci := 11) (v := .ref (ad 1)) (C := RX11) (T := TX11) (N := 30) hx hb hts inX11 hown hK hP 0 (m_at11 (Nat.le_of_ble_eq_true rfl) rfl) rfl 0 (by decide) lk0 (fun _ h9 => h9) rfl dX11_dronesAtSlots_6 ?_
      refine lv_bipush (v := 111) hx hb dX11_dronesAtSlots_9 (by decide) ?_
      refine va_iald hx hb hK hP 1 0 (m_at12 (Nat.le_of_ble_eq_true rfl) rfl) rfl (g_in (N := 126) (show (111 : Int32).toInt = (111 : Int) from rfl) rfl (by omega) (by omega)) dX11_dronesAtSlots_11 ?_
      refine lv_topi (fun v_4 ev_4 => ?_)
      have hv1 : v_4.toInt = (ar 1 111).toInt := by rw [ev_4]; rfl
      refine lv_icmp_ge (tgt := 45) hx hb dX11_dronesAtSlots_12 (by decide) (fun c_5 => ?_) (fun c_5 => ?_)
      · skip
        have q_5 : v_4.toInt ≤ x2_1.toInt := i_le2 (rfl : v_4.toInt = v_4.toInt) (rfl : x2_1.toInt = x2_1.toInt) c_5
        refine lv_iload_n hx hb dX11_dronesAtSlots_45 rfl (lv_at hl 1 rfl) ?_
        rw [hQ]
        exact W.iret (v := x1_2) hx hb hr (fun t ht hW => ⟨x1_2, rfl, trivial, ht⟩) (fun q h => by cases h) dX11_dronesAtSlots_46
      · skip
        have q_5 : x2_1.toInt < v_4.toInt := i_nle2 (rfl : v_4.toInt = v_4.toInt) (rfl : x2_1.toInt = x2_1.toInt) c_5
        refine lv_iload_n hx hb dX11_dronesAtSlots_15 rfl (lv_at hl 1 rfl) ?_
        refine lv_aload_n hx hb dX11_dronesAtSlots_16 rfl (lv_at hl 2 rfl) ?_
        refine lv_aload_n hx hb dX11_dronesAtSlots_17 rfl (lv_at hl 2 rfl) ?_
        refine va_get (D := D) (ci := 11) (v := .ref (ad 1)) (C := RX11) (T := TX11) (N := 30) hx hb hts inX11 hown hK hP 0 (m_at11 (Nat.le_of_ble_eq_true rfl) rfl) rfl 0 (by decide) lk0 (fun _ h9 => h9) rfl dX11_dronesAtSlots_18 ?_
        refine lv_bipush (v := 112) hx hb dX11_dronesAtSlots_21 (by decide) ?_
        refine lv_iload_n hx hb dX11_dronesAtSlots_23 rfl (lv_at hl 0 rfl) ?_
        refine lv_iadd hx hb dX11_dronesAtSlots_24 ?_
        refine lv_topi (fun v_6 ev_6 => ?_)
        have tv_6 : v_6.toInt = (112 : Int) + x2_1.toInt := i_add (show (112 : Int32).toInt = (112 : Int) from rfl) (rfl : x2_1.toInt = x2_1.toInt) (by omega) (by omega) ev_6
        refine va_iald hx hb hK hP 1 0 (m_at12 (Nat.le_of_ble_eq_true rfl) rfl) rfl (g_in (N := 126) (rfl : v_6.toInt = v_6.toInt) rfl (by omega) (by omega)) dX11_dronesAtSlots_25 ?_
        refine lv_topi (fun v_7 ev_7 => ?_)
        refine g_callSi (va_runV (As := [.int v_7]) (rest := [.int x1_2]) ⟨hx, hb, hml, hown, hts⟩ (c_X11_slotAt l D cy ad hI _ iv ar v_7 ⟨hri.1.1.2.2.1, hri.1.1.2.2.2.1⟩) (cwV 1 hts gX11_dronesAtSlots_X11_slotAt rfl rfl rfl (by decide +kernel) ⟨Nat.le_of_ble_eq_true rfl, Nat.le_of_ble_eq_true rfl⟩) (m_preV hP hK hSt hNw hS (m_at11 (Nat.le_of_ble_eq_true rfl) rfl) rfl) rfl rfl hl.1 rfl (lv_room (Nat.le_of_ble_eq_true rfl)) dX11_dronesAtSlots_26 ⟨Nat.zero_le _, Nat.zero_le _⟩) (fun r_8 w_8 => ?_)
        try dsimp only at w_8
        refine lv_if_lt (tgt := 36) hx hb dX11_dronesAtSlots_29 (by decide) (fun c_9 => ?_) (fun c_9 => ?_)
        · skip
          have q_9 : r_8.toInt < (0 : Int) := i_lt2 (rfl : r_8.toInt = r_8.toInt) (show (0 : Int32).toInt = (0 : Int) from rfl) c_9
          refine lv_iconst (v := 0) hx hb dX11_dronesAtSlots_36 (by decide) ?_
          refine lv_iadd hx hb dX11_dronesAtSlots_37 ?_
          refine lv_topi (fun v_10 ev_10 => ?_)
          refine lv_istore_n (lv' := [(1, .int v_10), (2, .int x2_1), (0, .ref (ad 0))]) hx hb dX11_dronesAtSlots_38 rfl hl (by decide) rfl (fun ls hl => ?_)
          obtain ⟨x2_11, ex2_11⟩ : ∃ y : Int32, y = x2_1 + 1 := ⟨_, rfl⟩
          have tx2_11 : x2_11.toInt = x2_1.toInt + (1 : Int) := i_add (rfl : x2_1.toInt = x2_1.toInt) (show (1 : Int32).toInt = (1 : Int) from rfl) (by omega) (by omega) ex2_11
          refine lv_iinc (v := x2_11) (lv' := [(2, .int x2_11), (1, .int v_10), (0, .ref (ad 0))]) hx hb dX11_dronesAtSlots_39 hl (k := 1) rfl (by rw [ex2_11]; rfl) (by decide) rfl (fun ls hl => ?_)
          refine lv_goto (tgt := 4) hx hb dX11_dronesAtSlots_42 (by decide) ?_
          exact ih3 x2_11 v_10 _ (by omega) (by omega) (lv_sub hl [0, 1, 2] rfl)
        · skip
          have q_9 : (0 : Int) ≤ r_8.toInt := i_nlt2 (rfl : r_8.toInt = r_8.toInt) (show (0 : Int32).toInt = (0 : Int) from rfl) c_9
          refine lv_iconst (v := 1) hx hb dX11_dronesAtSlots_32 (by decide) ?_
          refine lv_goto (tgt := 37) hx hb dX11_dronesAtSlots_33 (by decide) ?_
          refine lv_iadd hx hb dX11_dronesAtSlots_37 ?_
          refine lv_topi (fun v_12 ev_12 => ?_)
          refine lv_istore_n (lv' := [(1, .int v_12), (2, .int x2_1), (0, .ref (ad 0))]) hx hb dX11_dronesAtSlots_38 rfl hl (by decide) rfl (fun ls hl => ?_)
          obtain ⟨x2_13, ex2_13⟩ : ∃ y : Int32, y = x2_1 + 1 := ⟨_, rfl⟩
          have tx2_13 : x2_13.toInt = x2_1.toInt + (1 : Int) := i_add (rfl : x2_1.toInt = x2_1.toInt) (show (1 : Int32).toInt = (1 : Int) from rfl) (by omega) (by omega) ex2_13
          refine lv_iinc (v := x2_13) (lv' := [(2, .int x2_13), (1, .int v_12), (0, .ref (ad 0))]) hx hb dX11_dronesAtSlots_39 hl (k := 1) rfl (by rw [ex2_13]; rfl) (by decide) rfl (fun ls hl => ?_)
          refine lv_goto (tgt := 4) hx hb dX11_dronesAtSlots_42 (by decide) ?_
          exact ih3 x2_13 v_12 _ (by omega) (by omega) (lv_sub hl [0, 1, 2] rfl)
  have zl_14 : (0 : Int32).toInt = (0 : Int) := rfl
  have zl_15 : (0 : Int32).toInt = (0 : Int) := rfl
  exact loop3 (((6 - ((0 : Int))).toNat) + 1) 0 0 _ (by omega) (by omega) (lv_sub hl [0, 1, 2] rfl)
set_option maxHeartbeats 4000000 in
set_option maxRecDepth 100000 in
theorem c_X11_count (l : Launch) (D : va_G) (cy : Nat → ClassId) (ad : Nat → Nat) (hI : mInj ad) (sz : Nat) (iv : gIv) (ar : gAr) (a : Int32) (hri : RI iv ar) : Met l yX11_count wsX11_count ({ frames := 2, cells := 0, slots := 0, locals := 44 } : Room) (va_Pc [.ref (ad 0), .int a] (mPre D cy ad sz iv ar)) (vp_Si (fun r => True)) 0 0 (fun _ => False) := by
  refine Met.ofW (cc := cX11_count) (maxL := 2) (ret := (some .int)) (by decide) rfl ?_
  intro p e s m args below meth c s₁ B hml hv
  obtain ⟨rfl, rfl, hP, hK, hSt, hNw⟩ := hv
  have hx := B.exec
  have hb := B.bytes
  have hr := B.returns
  have hts := atoms_spec (ws := wsX11_count) B.pre
  have hown : s.vm.findClass RX11 = some m.cls := findClass_of_methodNamed B.named
  have hlocks := B.notSynchronized
  have hS : va_S (mA ad s.heap.size) s.heap s.heap [] := va_S.rf
  have inX11 : ∀ w ∈ u_ws RX11 TX11 30, w ∈ wsX11_count := by decide +kernel
  have lk0 := hts (.fieldLink RX11 9 "FormationPlannerModel" "s" "[I") (by decide +kernel)
  have lk1 := hts (.fieldLink RX11 77 "FormationPlannerModel" "changes" "I") (by decide +kernel)
  have lk2 := hts (.fieldLink RX11 105 "FormationPlannerModel" "written" "I") (by decide +kernel)
  have lk3 := hts (.fieldLink RX11 69 "FormationPlannerModel" "hasPlan" "Z") (by decide +kernel)
  have hl := lv_entry ([.ref (ad 0), .int a]) (n := 2) (Nat.le_of_ble_eq_true rfl)
  rw [lg_entry_eq]
  generalize (lg_sl ([.ref (ad 0), .int a]) ++ List.replicate (2 - (lg_sl ([.ref (ad 0), .int a])).length) Slot.unset).toArray = ls at hl ⊢
  have hl : lv_has ls 2 [(0, .ref (ad 0)), (1, .int a)] := hl
  obtain ⟨Q, hQ⟩ : ∃ Q, Q = MQ below (vp_Si (fun r => True)) (([.ref (ad 0), .int a] : List Value).toArray) s 0 0 (fun _ => False) := ⟨_, rfl⟩
  rw [← hQ]
  refine lv_iload_n hx hb dX11_count_0 rfl (lv_at hl 1 rfl) ?_
  by_cases z_1 : a.toInt = 0
  · skip
    refine lv_tableIn (off := 47) (tgt := 48) hx hb dX11_count_1 (by rw [(rfl : a.toInt = a.toInt), z_1]; decide) (by rw [(rfl : a.toInt = a.toInt), z_1]; decide) (by rw [(rfl : a.toInt = a.toInt), z_1]; rfl) (by decide) ?_
    refine lv_aload_n hx hb dX11_count_48 rfl (lv_at hl 0 rfl) ?_
    refine va_get (D := D) (ci := 11) (v := .ref (ad 1)) (C := RX11) (T := TX11) (N := 30) hx hb hts inX11 hown hK hP 0 (m_at11 (Nat.le_of_ble_eq_true rfl) rfl) rfl 0 (by decide) lk0 (fun _ h9 => h9) rfl dX11_count_49 ?_
    refine lv_bipush (v := 111) hx hb dX11_count_52 (by decide) ?_
    refine va_iald hx hb hK hP 1 0 (m_at12 (Nat.le_of_ble_eq_true rfl) rfl) rfl (g_in (N := 126) (show (111 : Int32).toInt = (111 : Int) from rfl) rfl (by omega) (by omega)) dX11_count_54 ?_
    refine lv_topi (fun v_2 ev_2 => ?_)
    rw [hQ]
    exact W.iret (v := v_2) hx hb hr (fun t ht hW => ⟨v_2, rfl, trivial, ht⟩) (fun q h => by cases h) dX11_count_55
  by_cases z_3 : a.toInt = 1
  · skip
    refine lv_tableIn (off := 55) (tgt := 56) hx hb dX11_count_1 (by rw [(rfl : a.toInt = a.toInt), z_3]; decide) (by rw [(rfl : a.toInt = a.toInt), z_3]; decide) (by rw [(rfl : a.toInt = a.toInt), z_3]; rfl) (by decide) ?_
    refine lv_aload_n hx hb dX11_count_56 rfl (lv_at hl 0 rfl) ?_
    refine va_get (D := D) (ci := 11) (v := .ref (ad 1)) (C := RX11) (T := TX11) (N := 30) hx hb hts inX11 hown hK hP 0 (m_at11 (Nat.le_of_ble_eq_true rfl) rfl) rfl 0 (by decide) lk0 (fun _ h9 => h9) rfl dX11_count_57 ?_
    refine lv_bipush (v := 118) hx hb dX11_count_60 (by decide) ?_
    refine va_iald hx hb hK hP 1 0 (m_at12 (Nat.le_of_ble_eq_true rfl) rfl) rfl (g_in (N := 126) (show (118 : Int32).toInt = (118 : Int) from rfl) rfl (by omega) (by omega)) dX11_count_62 ?_
    refine lv_topi (fun v_4 ev_4 => ?_)
    rw [hQ]
    exact W.iret (v := v_4) hx hb hr (fun t ht hW => ⟨v_4, rfl, trivial, ht⟩) (fun q h => by cases h) dX11_count_63
  by_cases z_5 : a.toInt = 2
  · skip
    refine lv_tableIn (off := 63) (tgt := 64) hx hb dX11_count_1 (by rw [(rfl : a.toInt = a.toInt), z_5]; decide) (by rw [(rfl : a.toInt = a.toInt), z_5]; decide) (by rw [(rfl : a.toInt = a.toInt), z_5]; rfl) (by decide) ?_
    refine lv_aload_n hx hb dX11_count_64 rfl (lv_at hl 0 rfl) ?_
    refine g_callSi (va_runV (As := []) (rest := []) ⟨hx, hb, hml, hown, hts⟩ (c_X11_obstacles l D cy ad hI _ iv ar) (cwV 0 hts gX11_count_X11_obstacles rfl rfl rfl (by decide +kernel) ⟨Nat.le_of_ble_eq_true rfl, Nat.le_of_ble_eq_true rfl⟩) (m_preV hP hK hSt hNw hS (m_at11 (Nat.le_of_ble_eq_true rfl) rfl) rfl) rfl rfl hl.1 rfl (lv_room (Nat.le_of_ble_eq_true rfl)) dX11_count_65 ⟨Nat.zero_le _, Nat.zero_le _⟩) (fun r_6 w_6 => ?_)
    try dsimp only at w_6
    rw [hQ]
    exact W.iret (v := r_6) hx hb hr (fun t ht hW => ⟨r_6, rfl, trivial, ht⟩) (fun q h => by cases h) dX11_count_68
  by_cases z_7 : a.toInt = 3
  · skip
    refine lv_tableIn (off := 68) (tgt := 69) hx hb dX11_count_1 (by rw [(rfl : a.toInt = a.toInt), z_7]; decide) (by rw [(rfl : a.toInt = a.toInt), z_7]; decide) (by rw [(rfl : a.toInt = a.toInt), z_7]; rfl) (by decide) ?_
    refine lv_aload_n hx hb dX11_count_69 rfl (lv_at hl 0 rfl) ?_
    refine g_callSi (va_runV (As := []) (rest := []) ⟨hx, hb, hml, hown, hts⟩ (c_X11_dronesAtSlots l D cy ad hI _ iv ar hri) (cwV 0 hts gX11_count_X11_dronesAtSlots rfl rfl rfl (by decide +kernel) ⟨Nat.le_of_ble_eq_true rfl, Nat.le_of_ble_eq_true rfl⟩) (m_preV hP hK hSt hNw hS (m_at11 (Nat.le_of_ble_eq_true rfl) rfl) rfl) rfl rfl hl.1 rfl (lv_room (Nat.le_of_ble_eq_true rfl)) dX11_count_70 ⟨Nat.zero_le _, Nat.zero_le _⟩) (fun r_8 w_8 => ?_)
    try dsimp only at w_8
    rw [hQ]
    exact W.iret (v := r_8) hx hb hr (fun t ht hW => ⟨r_8, rfl, trivial, ht⟩) (fun q h => by cases h) dX11_count_73
  by_cases z_9 : a.toInt = 4
  · skip
    refine lv_tableIn (off := 73) (tgt := 74) hx hb dX11_count_1 (by rw [(rfl : a.toInt = a.toInt), z_9]; decide) (by rw [(rfl : a.toInt = a.toInt), z_9]; decide) (by rw [(rfl : a.toInt = a.toInt), z_9]; rfl) (by decide) ?_
    refine lv_aload_n hx hb dX11_count_74 rfl (lv_at hl 0 rfl) ?_
    refine va_get (D := D) (ci := 11) (v := .ref (ad 1)) (C := RX11) (T := TX11) (N := 30) hx hb hts inX11 hown hK hP 0 (m_at11 (Nat.le_of_ble_eq_true rfl) rfl) rfl 0 (by decide) lk0 (fun _ h9 => h9) rfl dX11_count_75 ?_
    refine lv_bipush (v := 125) hx hb dX11_count_78 (by decide) ?_
    refine va_iald hx hb hK hP 1 0 (m_at12 (Nat.le_of_ble_eq_true rfl) rfl) rfl (g_in (N := 126) (show (125 : Int32).toInt = (125 : Int) from rfl) rfl (by omega) (by omega)) dX11_count_80 ?_
    refine lv_topi (fun v_10 ev_10 => ?_)
    rw [hQ]
    exact W.iret (v := v_10) hx hb hr (fun t ht hW => ⟨v_10, rfl, trivial, ht⟩) (fun q h => by cases h) dX11_count_81
  by_cases z_11 : a.toInt = 5
  · skip
    refine lv_tableIn (off := 81) (tgt := 82) hx hb dX11_count_1 (by rw [(rfl : a.toInt = a.toInt), z_11]; decide) (by rw [(rfl : a.toInt = a.toInt), z_11]; decide) (by rw [(rfl : a.toInt = a.toInt), z_11]; rfl) (by decide) ?_
    refine lv_aload_n hx hb dX11_count_82 rfl (lv_at hl 0 rfl) ?_
    refine va_get (D := D) (ci := 11) (v := .int (iv 0 3)) (C := RX11) (T := TX11) (N := 30) hx hb hts inX11 hown hK hP 0 (m_at11 (Nat.le_of_ble_eq_true rfl) rfl) rfl 3 (by decide) lk1 (fun _ h9 => h9) rfl dX11_count_83 ?_
    rw [hQ]
    exact W.iret (v := (iv 0 3)) hx hb hr (fun t ht hW => ⟨(iv 0 3), rfl, trivial, ht⟩) (fun q h => by cases h) dX11_count_86
  by_cases z_12 : a.toInt = 6
  · skip
    refine lv_tableIn (off := 86) (tgt := 87) hx hb dX11_count_1 (by rw [(rfl : a.toInt = a.toInt), z_12]; decide) (by rw [(rfl : a.toInt = a.toInt), z_12]; decide) (by rw [(rfl : a.toInt = a.toInt), z_12]; rfl) (by decide) ?_
    refine lv_aload_n hx hb dX11_count_87 rfl (lv_at hl 0 rfl) ?_
    refine va_get (D := D) (ci := 11) (v := .int (iv 0 4)) (C := RX11) (T := TX11) (N := 30) hx hb hts inX11 hown hK hP 0 (m_at11 (Nat.le_of_ble_eq_true rfl) rfl) rfl 4 (by decide) lk2 (fun _ h9 => h9) rfl dX11_count_88 ?_
    rw [hQ]
    exact W.iret (v := (iv 0 4)) hx hb hr (fun t ht hW => ⟨(iv 0 4), rfl, trivial, ht⟩) (fun q h => by cases h) dX11_count_91
  by_cases z_13 : a.toInt = 7
  · skip
    refine lv_tableIn (off := 91) (tgt := 92) hx hb dX11_count_1 (by rw [(rfl : a.toInt = a.toInt), z_13]; decide) (by rw [(rfl : a.toInt = a.toInt), z_13]; decide) (by rw [(rfl : a.toInt = a.toInt), z_13]; rfl) (by decide) ?_
    refine lv_aload_n hx hb dX11_count_92 rfl (lv_at hl 0 rfl) ?_
    refine va_get (D := D) (ci := 11) (v := .int (iv 0 15)) (C := RX11) (T := TX11) (N := 30) hx hb hts inX11 hown hK hP 0 (m_at11 (Nat.le_of_ble_eq_true rfl) rfl) rfl 15 (by decide) lk3 (fun _ h9 => h9) rfl dX11_count_93 ?_
    refine lv_if_eq (tgt := 103) hx hb dX11_count_96 (by decide) (fun c_14 => ?_) (fun c_14 => ?_)
    · skip
      have q_14 : (iv 0 15).toInt = (0 : Int) := i_eq2 (rfl : (iv 0 15).toInt = (iv 0 15).toInt) (show (0 : Int32).toInt = (0 : Int) from rfl) c_14
      refine lv_iconst (v := 0) hx hb dX11_count_103 (by decide) ?_
      rw [hQ]
      exact W.iret (v := 0) hx hb hr (fun t ht hW => ⟨0, rfl, trivial, ht⟩) (fun q h => by cases h) dX11_count_104
    · skip
      have q_14 : (iv 0 15).toInt ≠ (0 : Int) := i_ne2 (rfl : (iv 0 15).toInt = (iv 0 15).toInt) (show (0 : Int32).toInt = (0 : Int) from rfl) c_14
      refine lv_iconst (v := 1) hx hb dX11_count_99 (by decide) ?_
      refine lv_goto (tgt := 104) hx hb dX11_count_100 (by decide) ?_
      rw [hQ]
      exact W.iret (v := 1) hx hb hr (fun t ht hW => ⟨1, rfl, trivial, ht⟩) (fun q h => by cases h) dX11_count_104
  refine lv_tableOut (tgt := 105) hx hb dX11_count_1 (by rw [(rfl : a.toInt = a.toInt)]; omega) (by decide) ?_
  refine lv_bipush (v := (-2)) hx hb dX11_count_105 (by decide) ?_
  rw [hQ]
  exact W.iret (v := (-2)) hx hb hr (fun t ht hW => ⟨(-2), rfl, trivial, ht⟩) (fun q h => by cases h) dX11_count_107
