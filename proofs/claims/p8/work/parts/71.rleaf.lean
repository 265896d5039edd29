set_option maxHeartbeats 4000000 in
set_option maxRecDepth 100000 in
theorem c_X11_isIn (l : Launch) (a : Int32) (b : Int32) (d : Int32)  : Met l yX11_isIn wsX11_isIn ({ frames := 0, cells := 0, slots := 0, locals := 0 } : Room) (va_Pc [.int a, .int b, .int d] (fun _ => True)) (vp_Si (fun r => r.toInt = 1 ∧ (b.toInt ≤ a.toInt ∧ a.toInt ≤ d.toInt) ∨ r.toInt = 0 ∧ ¬ (b.toInt ≤ a.toInt ∧ a.toInt ≤ d.toInt))) 0 0 (fun _ => False) := by
  refine Met.ofW (cc := cX11_isIn) (maxL := 3) (ret := (some .boolean)) (by decide) rfl ?_
  intro p e s m args below meth c s₁ B hml hv
  obtain ⟨rfl, -⟩ := hv
  have hx := B.exec
  have hb := B.bytes
  have hr := B.returns
  have hts := atoms_spec (ws := wsX11_isIn) B.pre
  have hown : s.vm.findClass RX11 = some m.cls := findClass_of_methodNamed B.named
  have hlocks := B.notSynchronized
  have hl := lv_entry ([.int a, .int b, .int d]) (n := 3) (Nat.le_of_ble_eq_true rfl)
  rw [lg_entry_eq]
  generalize (lg_sl ([.int a, .int b, .int d]) ++ List.replicate (3 - (lg_sl ([.int a, .int b, .int d])).length) Slot.unset).toArray = ls at hl ⊢
  have hl : lv_has ls 3 [(0, .int a), (1, .int b), (2, .int d)] := hl
  obtain ⟨Q, hQ⟩ : ∃ Q, Q = MQ below (vp_Si (fun r => r.toInt = 1 ∧ (b.toInt ≤ a.toInt ∧ a.toInt ≤ d.toInt) ∨ r.toInt = 0 ∧ ¬ (b.toInt ≤ a.toInt ∧ a.toInt ≤ d.toInt))) (([.int a, .int b, .int d] : List Value).toArray) s 0 0 (fun _ => False) := ⟨_, rfl⟩
  rw [← hQ]
  refine lv_iload_n hx hb dX11_isIn_0 rfl (lv_at hl 0 rfl) ?_
  refine lv_iload_n hx hb dX11_isIn_1 rfl (lv_at hl 1 rfl) ?_
  refine lv_icmp_lt (tgt := 14) hx hb dX11_isIn_2 (by decide) (fun c_1 => ?_) (fun c_1 => ?_)
  · skip
    have q_1 : a.toInt < b.toInt := i_lt2 (rfl : a.toInt = a.toInt) (rfl : b.toInt = b.toInt) c_1
    refine lv_iconst (v := 0) hx hb dX11_isIn_14 (by decide) ?_
    rw [hQ]
    exact W.zret (v := 0) hx hb hr rfl (fun t ht hW => ⟨0, rfl, by have z0 := i_l0; have z1 := i_l1; have zm := i_m1; omega, ht⟩) (fun q h => by cases h) dX11_isIn_15
  · skip
    have q_1 : b.toInt ≤ a.toInt := i_nlt2 (rfl : a.toInt = a.toInt) (rfl : b.toInt = b.toInt) c_1
    refine lv_iload_n hx hb dX11_isIn_5 rfl (lv_at hl 0 rfl) ?_
    refine lv_iload_n hx hb dX11_isIn_6 rfl (lv_at hl 2 rfl) ?_
    refine lv_icmp_gt (tgt := 14) hx hb dX11_isIn_7 (by decide) (fun c_2 => ?_) (fun c_2 => ?_)
    · skip
      have q_2 : d.toInt < a.toInt := i_lt2 (rfl : d.toInt = d.toInt) (rfl : a.toInt = a.toInt) c_2
      refine lv_iconst (v := 0) hx hb dX11_isIn_14 (by decide) ?_
      rw [hQ]
      exact W.zret (v := 0) hx hb hr rfl (fun t ht hW => ⟨0, rfl, by have z0 := i_l0; have z1 := i_l1; have zm := i_m1; omega, ht⟩) (fun q h => by cases h) dX11_isIn_15
    · skip
      have q_2 : a.toInt ≤ d.toInt := i_nlt2 (rfl : d.toInt = d.toInt) (rfl : a.toInt = a.toInt) c_2
      refine lv_iconst (v := 1) hx hb dX11_isIn_10 (by decide) ?_
      refine lv_goto (tgt := 15) hx hb dX11_isIn_11 (by decide) ?_
      rw [hQ]
      exact W.zret (v := 1) hx hb hr rfl (fun t ht hW => ⟨1, rfl, by have z0 := i_l0; have z1 := i_l1; have zm := i_m1; omega, ht⟩) (fun q h => by cases h) dX11_isIn_15
set_option maxHeartbeats 4000000 in
set_option maxRecDepth 100000 in
theorem c_X11_isCell (l : Launch) (a : Int32)  : Met l yX11_isCell wsX11_isCell ({ frames := 1, cells := 0, slots := 0, locals := 22 } : Room) (va_Pc [.int a] (fun _ => True)) (vp_Si (fun r => r.toInt = 1 ∧ (0 ≤ a.toInt ∧ a.toInt < 108) ∨ r.toInt = 0 ∧ ¬ (0 ≤ a.toInt ∧ a.toInt < 108))) 0 0 (fun _ => False) := by
  refine Met.ofW (cc := cX11_isCell) (maxL := 1) (ret := (some .boolean)) (by decide) rfl ?_
  intro p e s m args below meth c s₁ B hml hv
  obtain ⟨rfl, -⟩ := hv
  have hx := B.exec
  have hb := B.bytes
  have hr := B.returns
  have hts := atoms_spec (ws := wsX11_isCell) B.pre
  have hown : s.vm.findClass RX11 = some m.cls := findClass_of_methodNamed B.named
  have hlocks := B.notSynchronized
  have hl := lv_entry ([.int a]) (n := 1) (Nat.le_of_ble_eq_true rfl)
  rw [lg_entry_eq]
  generalize (lg_sl ([.int a]) ++ List.replicate (1 - (lg_sl ([.int a])).length) Slot.unset).toArray = ls at hl ⊢
  have hl : lv_has ls 1 [(0, .int a)] := hl
  obtain ⟨Q, hQ⟩ : ∃ Q, Q = MQ below (vp_Si (fun r => r.toInt = 1 ∧ (0 ≤ a.toInt ∧ a.toInt < 108) ∨ r.toInt = 0 ∧ ¬ (0 ≤ a.toInt ∧ a.toInt < 108))) (([.int a] : List Value).toArray) s 0 0 (fun _ => False) := ⟨_, rfl⟩
  rw [← hQ]
  refine lv_iload_n hx hb dX11_isCell_0 rfl (lv_at hl 0 rfl) ?_
  refine lv_iconst (v := 0) hx hb dX11_isCell_1 (by decide) ?_
  refine lv_bipush (v := 107) hx hb dX11_isCell_2 (by decide) ?_
  have zl_1 : (0 : Int32).toInt = (0 : Int) := rfl
  have zl_2 : (107 : Int32).toInt = (107 : Int) := rfl
  refine g_callSi (va_runS (As := [.int a, .int 0, .int 107]) (rest := []) ⟨hx, hb, hml, hown, hts⟩ (c_X11_isIn l a 0 107) (va_cwS 3 hts gX11_isCell_X11_isIn rfl rfl rfl (by decide +kernel) ⟨Nat.le_of_ble_eq_true rfl, Nat.le_of_ble_eq_true rfl⟩) (g_preT) rfl rfl hl.1 rfl (lv_room (Nat.le_of_ble_eq_true rfl)) dX11_isCell_4 ⟨Nat.zero_le _, Nat.zero_le _⟩) (fun r_3 w_3 => ?_)
  try dsimp only at w_3
  rw [hQ]
  exact W.zret (v := r_3) hx hb hr (i_bool (by omega)) (fun t ht hW => ⟨r_3, rfl, by have z0 := i_l0; have zz : (107 : Int32).toInt = 107 := rfl; omega, ht⟩) (fun q h => by cases h) dX11_isCell_7
set_option maxHeartbeats 4000000 in
set_option maxRecDepth 100000 in
theorem c_X11_layerOf (l : Launch) (a : Int32) (h0 : 0 ≤ a.toInt) : Met l yX11_layerOf wsX11_layerOf ({ frames := 0, cells := 0, slots := 0, locals := 0 } : Room) (va_Pc [.int a] (fun _ => True)) (vp_Si (fun r => r.toInt = a.toInt / 36)) 0 0 (fun _ => False) := by
  refine Met.ofW (cc := cX11_layerOf) (maxL := 1) (ret := (some .int)) (by decide) rfl ?_
  intro p e s m args below meth c s₁ B hml hv
  obtain ⟨rfl, -⟩ := hv
  have hx := B.exec
  have hb := B.bytes
  have hr := B.returns
  have hts := atoms_spec (ws := wsX11_layerOf) B.pre
  have hown : s.vm.findClass RX11 = some m.cls := findClass_of_methodNamed B.named
  have hlocks := B.notSynchronized
  have hl := lv_entry ([.int a]) (n := 1) (Nat.le_of_ble_eq_true rfl)
  rw [lg_entry_eq]
  generalize (lg_sl ([.int a]) ++ List.replicate (1 - (lg_sl ([.int a])).length) Slot.unset).toArray = ls at hl ⊢
  have hl : lv_has ls 1 [(0, .int a)] := hl
  obtain ⟨Q, hQ⟩ : ∃ Q, Q = MQ below (vp_Si (fun r => r.toInt = a.toInt / 36)) (([.int a] : List Value).toArray) s 0 0 (fun _ => False) := ⟨_, rfl⟩
  rw [← hQ]
  refine lv_iload_n hx hb dX11_layerOf_0 rfl (lv_at hl 0 rfl) ?_
  refine lv_bipush (v := 36) hx hb dX11_layerOf_1 (by decide) ?_
  refine lv_idiv hx hb dX11_layerOf_3 (by decide) ?_
  refine lv_topi (fun v_1 ev_1 => ?_)
  have tv_1 : v_1.toInt = a.toInt / (36 : Int) := i_div (rfl : a.toInt = a.toInt) (show (36 : Int32).toInt = (36 : Int) from rfl) (by omega) (by omega) ev_1
  rw [hQ]
  exact W.iret (v := v_1) hx hb hr (fun t ht hW => ⟨v_1, rfl, by have z0 := i_l0; have z1 := i_l1; have zm := i_m1; omega, ht⟩) (fun q h => by cases h) dX11_layerOf_4
set_option maxHeartbeats 4000000 in
set_option maxRecDepth 100000 in
theorem c_X11_isObstacle (l : Launch) (D : va_G) (cy : Nat → ClassId) (ad : Nat → Nat) (hI : mInj ad) (sz : Nat) (iv : gIv) (ar : gAr) (a : Int32) (hc : 0 ≤ a.toInt ∧ a.toInt < 108) : Met l yX11_isObstacle wsX11_isObstacle ({ frames := 0, cells := 0, slots := 0, locals := 0 } : Room) (va_Pc [.ref (ad 0), .int a] (mPre D cy ad sz iv ar)) (vp_Si (fun r => r.toInt = 1 ∧ ((ar 1 (3 + a.toInt.toNat)).toInt = 1) ∨ r.toInt = 0 ∧ ¬ ((ar 1 (3 + a.toInt.toNat)).toInt = 1))) 0 0 (fun _ => False) := by
  refine Met.ofW (cc := cX11_isObstacle) (maxL := 2) (ret := (some .boolean)) (by decide) rfl ?_
  intro p e s m args below meth c s₁ B hml hv
  obtain ⟨rfl, rfl, hP, hK, hSt, hNw⟩ := hv
  have hx := B.exec
  have hb := B.bytes
  have hr := B.returns
  have hts := atoms_spec (ws := wsX11_isObstacle) B.pre
  have hown : s.vm.findClass RX11 = some m.cls := findClass_of_methodNamed B.named
  have hlocks := B.notSynchronized
  have hS : va_S (mA ad s.heap.size) s.heap s.heap [] := va_S.rf
  have inX11 : ∀ w ∈ u_ws RX11 TX11 30, w ∈ wsX11_isObstacle := by decide +kernel
  have lk0 := hts (.fieldLink RX11 9 "FormationPlannerModel" "s" "[I") (by decide +kernel)
  have hl := lv_entry ([.ref (ad 0), .int a]) (n := 2) (Nat.le_of_ble_eq_true rfl)
  rw [lg_entry_eq]
  generalize (lg_sl ([.ref (ad 0), .int a]) ++ List.replicate (2 - (lg_sl ([.ref (ad 0), .int a])).length) Slot.unset).toArray = ls at hl ⊢
  have hl : lv_has ls 2 [(0, .ref (ad 0)), (1, .int a)] := hl
  obtain ⟨Q, hQ⟩ : ∃ Q, Q = MQ below (vp_Si (fun r => r.toInt = 1 ∧ ((ar 1 (3 + a.toInt.toNat)).toInt = 1) ∨ r.toInt = 0 ∧ ¬ ((ar 1 (3 + a.toInt.toNat)).toInt = 1))) (([.ref (ad 0), .int a] : List Value).toArray) s 0 0 (fun _ => False) := ⟨_, rfl⟩
  rw [← hQ]
  refine lv_aload_n hx hb dX11_isObstacle_0 rfl (lv_at hl 0 rfl) ?_
  refine va_get (D := D) (ci := 11) (v := .ref (ad 1)) (C := RX11) (T := TX11) (N := 30) hx hb hts inX11 hown hK hP 0 (m_at11 (Nat.le_of_ble_eq_true rfl) rfl) rfl 0 (by decide) lk0 (fun _ h9 => h9) rfl dX11_isObstacle_1 ?_
  refine lv_iconst (v := 3) hx hb dX11_isObstacle_4 (by decide) ?_
  refine lv_iload_n hx hb dX11_isObstacle_5 rfl (lv_at hl 1 rfl) ?_
  refine lv_iadd hx hb dX11_isObstacle_6 ?_
  refine lv_topi (fun v_1 ev_1 => ?_)
  have tv_1 : v_1.toInt = (3 : Int) + a.toInt := i_add (show (3 : Int32).toInt = (3 : Int) from rfl) (rfl : a.toInt = a.toInt) (by omega) (by omega) ev_1
  refine va_iald hx hb hK hP 1 0 (m_at12 (Nat.le_of_ble_eq_true rfl) rfl) rfl (g_in (N := 126) (rfl : v_1.toInt = v_1.toInt) rfl (by omega) (by omega)) dX11_isObstacle_7 ?_
  refine lv_topi (fun v_2 ev_2 => ?_)
  have hv1 : v_2.toInt = (ar 1 (3 + a.toInt.toNat)).toInt := by
    rw [ev_2, g_cN (rfl : v_1.toInt = _)]
    congr 2
    omega
  refine lv_iconst (v := 1) hx hb dX11_isObstacle_8 (by decide) ?_
  refine lv_icmp_ne (tgt := 16) hx hb dX11_isObstacle_9 (by decide) (fun c_3 => ?_) (fun c_3 => ?_)
  · skip
    have q_3 : v_2.toInt ≠ (1 : Int) := i_ne2 (rfl : v_2.toInt = v_2.toInt) (show (1 : Int32).toInt = (1 : Int) from rfl) c_3
    refine lv_iconst (v := 0) hx hb dX11_isObstacle_16 (by decide) ?_
    rw [hQ]
    exact W.zret (v := 0) hx hb hr rfl (fun t ht hW => ⟨0, rfl, by have z0 := i_l0; have z1 := i_l1; have zm := i_m1; omega, ht⟩) (fun q h => by cases h) dX11_isObstacle_17
  · skip
    have q_3 : v_2.toInt = (1 : Int) := i_eq2 (rfl : v_2.toInt = v_2.toInt) (show (1 : Int32).toInt = (1 : Int) from rfl) c_3
    refine lv_iconst (v := 1) hx hb dX11_isObstacle_12 (by decide) ?_
    refine lv_goto (tgt := 17) hx hb dX11_isObstacle_13 (by decide) ?_
    rw [hQ]
    exact W.zret (v := 1) hx hb hr rfl (fun t ht hW => ⟨1, rfl, by have z0 := i_l0; have z1 := i_l1; have zm := i_m1; omega, ht⟩) (fun q h => by cases h) dX11_isObstacle_17
set_option maxHeartbeats 4000000 in
set_option maxRecDepth 100000 in
theorem c_X11_ticks (l : Launch) (D : va_G) (cy : Nat → ClassId) (ad : Nat → Nat) (hI : mInj ad) (sz : Nat) (iv : gIv) (ar : gAr) (a : Int32) (b : Int32) (hc : 0 ≤ a.toInt ∧ a.toInt < 108) (hq : 0 ≤ b.toInt ∧ b.toInt < 7) : Met l yX11_ticks wsX11_ticks ({ frames := 1, cells := 0, slots := 0, locals := 20 } : Room) (va_Pc [.ref (ad 0), .int a, .int b] (mPre D cy ad sz iv ar)) (vp_Si (fun r => r.toInt = TK (ar 1) a.toInt.toNat b.toInt.toNat)) 0 0 (fun _ => False) := by
  refine Met.ofW (cc := cX11_ticks) (maxL := 5) (ret := (some .int)) (by decide) rfl ?_
  intro p e s m args below meth c s₁ B hml hv
  obtain ⟨rfl, rfl, hP, hK, hSt, hNw⟩ := hv
  have hx := B.exec
  have hb := B.bytes
  have hr := B.returns
  have hts := atoms_spec (ws := wsX11_ticks) B.pre
  have hown : s.vm.findClass RX11 = some m.cls := findClass_of_methodNamed B.named
  have hlocks := B.notSynchronized
  have hS : va_S (mA ad s.heap.size) s.heap s.heap [] := va_S.rf
  have inX11 : ∀ w ∈ u_ws RX11 TX11 30, w ∈ wsX11_ticks := by decide +kernel
  have lk0 := hts (.fieldLink RX11 9 "FormationPlannerModel" "s" "[I") (by decide +kernel)
  have hl := lv_entry ([.ref (ad 0), .int a, .int b]) (n := 5) (Nat.le_of_ble_eq_true rfl)
  rw [lg_entry_eq]
  generalize (lg_sl ([.ref (ad 0), .int a, .int b]) ++ List.replicate (5 - (lg_sl ([.ref (ad 0), .int a, .int b])).length) Slot.unset).toArray = ls at hl ⊢
  have hl : lv_has ls 5 [(0, .ref (ad 0)), (1, .int a), (2, .int b)] := hl
  obtain ⟨Q, hQ⟩ : ∃ Q, Q = MQ below (vp_Si (fun r => r.toInt = TK (ar 1) a.toInt.toNat b.toInt.toNat)) (([.ref (ad 0), .int a, .int b] : List Value).toArray) s 0 0 (fun _ => False) := ⟨_, rfl⟩
  rw [← hQ]
  refine lv_aload_n hx hb dX11_ticks_0 rfl (lv_at hl 0 rfl) ?_
  refine va_get (D := D) (ci := 11) (v := .ref (ad 1)) (C := RX11) (T := TX11) (N := 30) hx hb hts inX11 hown hK hP 0 (m_at11 (Nat.le_of_ble_eq_true rfl) rfl) rfl 0 (by decide) lk0 (fun _ h9 => h9) rfl dX11_ticks_1 ?_
  refine lv_iconst (v := 0) hx hb dX11_ticks_4 (by decide) ?_
  refine lv_iload_n hx hb dX11_ticks_5 rfl (lv_at hl 1 rfl) ?_
  refine g_callSi (va_runS (As := [.int a]) (rest := [.int 0, .ref (ad 1)]) ⟨hx, hb, hml, hown, hts⟩ (c_X11_layerOf l a (by omega)) (va_cwS 1 hts gX11_ticks_X11_layerOf rfl rfl rfl (by decide +kernel) ⟨Nat.le_of_ble_eq_true rfl, Nat.le_of_ble_eq_true rfl⟩) (g_preT) rfl rfl hl.1 rfl (lv_room (Nat.le_of_ble_eq_true rfl)) dX11_ticks_6 ⟨Nat.zero_le _, Nat.zero_le _⟩) (fun r_1 w_1 => ?_)
  try dsimp only at w_1
  refine lv_iadd hx hb dX11_ticks_9 ?_
  refine lv_topi (fun v_2 ev_2 => ?_)
  have tv_2 : v_2.toInt = (0 : Int) + r_1.toInt := i_add (show (0 : Int32).toInt = (0 : Int) from rfl) (rfl : r_1.toInt = r_1.toInt) (by omega) (by omega) ev_2
  refine va_iald hx hb hK hP 1 0 (m_at12 (Nat.le_of_ble_eq_true rfl) rfl) rfl (g_in (N := 126) (rfl : v_2.toInt = v_2.toInt) rfl (by omega) (by omega)) dX11_ticks_10 ?_
  refine lv_topi (fun v_3 ev_3 => ?_)
  have hv1 : v_3.toInt = (ar 1 (a.toInt.toNat / 36)).toInt := by
    rw [ev_3, g_cN (rfl : v_2.toInt = _)]
    congr 2
    omega
  refine lv_istore_n (lv' := [(3, .int v_3), (0, .ref (ad 0)), (1, .int a), (2, .int b)]) hx hb dX11_ticks_11 rfl hl (by decide) rfl (fun ls hl => ?_)
  refine lv_iload_n hx hb dX11_ticks_12 rfl (lv_at hl 3 rfl) ?_
  refine lv_iconst (v := 1) hx hb dX11_ticks_13 (by decide) ?_
  refine lv_icmp_ne (tgt := 22) hx hb dX11_ticks_14 (by decide) (fun c_4 => ?_) (fun c_4 => ?_)
  · skip
    have q_4 : b.toInt ≠ (1 : Int) := i_ne2 (rfl : b.toInt = b.toInt) (show (1 : Int32).toInt = (1 : Int) from rfl) c_4
    refine lv_iload_n hx hb dX11_ticks_22 rfl (lv_at hl 3 rfl) ?_
    refine lv_iconst (v := 2) hx hb dX11_ticks_23 (by decide) ?_
    refine lv_icmp_ne (tgt := 32) hx hb dX11_ticks_24 (by decide) (fun c_5 => ?_) (fun c_5 => ?_)
    · skip
      have q_5 : b.toInt ≠ (2 : Int) := i_ne2 (rfl : b.toInt = b.toInt) (show (2 : Int32).toInt = (2 : Int) from rfl) c_5
      refine lv_iload_n hx hb dX11_ticks_32 rfl (lv_at hl 3 rfl) ?_
      refine lv_iconst (v := 3) hx hb dX11_ticks_33 (by decide) ?_
      refine lv_icmp_ne (tgt := 42) hx hb dX11_ticks_34 (by decide) (fun c_6 => ?_) (fun c_6 => ?_)
      · skip
        have q_6 : b.toInt ≠ (3 : Int) := i_ne2 (rfl : b.toInt = b.toInt) (show (3 : Int32).toInt = (3 : Int) from rfl) c_6
        refine lv_iload_n hx hb dX11_ticks_42 rfl (lv_at hl 3 rfl) ?_
        refine lv_iconst (v := 4) hx hb dX11_ticks_43 (by decide) ?_
        refine lv_icmp_ne (tgt := 56) hx hb dX11_ticks_44 (by decide) (fun c_7 => ?_) (fun c_7 => ?_)
        · skip
          have q_7 : b.toInt ≠ (4 : Int) := i_ne2 (rfl : b.toInt = b.toInt) (show (4 : Int32).toInt = (4 : Int) from rfl) c_7
          refine lv_iconst (v := 0) hx hb dX11_ticks_56 (by decide) ?_
          refine lv_istore (lv' := [(4, .int 0), (3, .int v_3), (0, .ref (ad 0)), (1, .int a), (2, .int b)]) hx hb dX11_ticks_57 hl (by decide) rfl (fun ls hl => ?_)
          refine lv_iload hx hb dX11_ticks_59 (lv_at hl 0 rfl) ?_
          refine lv_if_eq (tgt := 68) hx hb dX11_ticks_61 (by decide) (fun c_8 => ?_) (fun c_8 => ?_)
          · skip
            have q_8 : (0 : Int) = (0 : Int) := i_eq2 (show (0 : Int32).toInt = (0 : Int) from rfl) (show (0 : Int32).toInt = (0 : Int) from rfl) c_8
            refine lv_iconst (v := 1) hx hb dX11_ticks_68 (by decide) ?_
            rw [hQ]
            exact W.iret (v := 1) hx hb hr (fun t ht hW => ⟨1, rfl, by
              have z1 := i_l1
              have z2 : (2 : Int32).toInt = 2 := rfl
              rw [TK_one (by omega)]
              rfl, ht⟩) (fun q h => by cases h) dX11_ticks_69
          · skip
            have q_8 : (0 : Int) ≠ (0 : Int) := i_ne2 (show (0 : Int32).toInt = (0 : Int) from rfl) (show (0 : Int32).toInt = (0 : Int) from rfl) c_8
            exfalso; omega
        · skip
          have q_7 : b.toInt = (4 : Int) := i_eq2 (rfl : b.toInt = b.toInt) (show (4 : Int32).toInt = (4 : Int) from rfl) c_7
          refine lv_iload_n hx hb dX11_ticks_47 rfl (lv_at hl 0 rfl) ?_
          refine lv_iconst (v := 3) hx hb dX11_ticks_48 (by decide) ?_
          refine lv_icmp_ne (tgt := 56) hx hb dX11_ticks_49 (by decide) (fun c_9 => ?_) (fun c_9 => ?_)
          · skip
            have q_9 : v_3.toInt ≠ (3 : Int) := i_ne2 (rfl : v_3.toInt = v_3.toInt) (show (3 : Int32).toInt = (3 : Int) from rfl) c_9
            refine lv_iconst (v := 0) hx hb dX11_ticks_56 (by decide) ?_
            refine lv_istore (lv' := [(4, .int 0), (3, .int v_3), (0, .ref (ad 0)), (1, .int a), (2, .int b)]) hx hb dX11_ticks_57 hl (by decide) rfl (fun ls hl => ?_)
            refine lv_iload hx hb dX11_ticks_59 (lv_at hl 0 rfl) ?_
            refine lv_if_eq (tgt := 68) hx hb dX11_ticks_61 (by decide) (fun c_10 => ?_) (fun c_10 => ?_)
            · skip
              have q_10 : (0 : Int) = (0 : Int) := i_eq2 (show (0 : Int32).toInt = (0 : Int) from rfl) (show (0 : Int32).toInt = (0 : Int) from rfl) c_10
              refine lv_iconst (v := 1) hx hb dX11_ticks_68 (by decide) ?_
              rw [hQ]
              exact W.iret (v := 1) hx hb hr (fun t ht hW => ⟨1, rfl, by
                have z1 := i_l1
                have z2 : (2 : Int32).toInt = 2 := rfl
                rw [TK_one (by omega)]
                rfl, ht⟩) (fun q h => by cases h) dX11_ticks_69
            · skip
              have q_10 : (0 : Int) ≠ (0 : Int) := i_ne2 (show (0 : Int32).toInt = (0 : Int) from rfl) (show (0 : Int32).toInt = (0 : Int) from rfl) c_10
              exfalso; omega
          · skip
            have q_9 : v_3.toInt = (3 : Int) := i_eq2 (rfl : v_3.toInt = v_3.toInt) (show (3 : Int32).toInt = (3 : Int) from rfl) c_9
            refine lv_iconst (v := 1) hx hb dX11_ticks_52 (by decide) ?_
            refine lv_goto (tgt := 57) hx hb dX11_ticks_53 (by decide) ?_
            refine lv_istore (lv' := [(4, .int 1), (3, .int v_3), (0, .ref (ad 0)), (1, .int a), (2, .int b)]) hx hb dX11_ticks_57 hl (by decide) rfl (fun ls hl => ?_)
            refine lv_iload hx hb dX11_ticks_59 (lv_at hl 0 rfl) ?_
            refine lv_if_eq (tgt := 68) hx hb dX11_ticks_61 (by decide) (fun c_11 => ?_) (fun c_11 => ?_)
            · skip
              have q_11 : (1 : Int) = (0 : Int) := i_eq2 (show (1 : Int32).toInt = (1 : Int) from rfl) (show (0 : Int32).toInt = (0 : Int) from rfl) c_11
              exfalso; omega
            · skip
              have q_11 : (1 : Int) ≠ (0 : Int) := i_ne2 (show (1 : Int32).toInt = (1 : Int) from rfl) (show (0 : Int32).toInt = (0 : Int) from rfl) c_11
              refine lv_iconst (v := 2) hx hb dX11_ticks_64 (by decide) ?_
              refine lv_goto (tgt := 69) hx hb dX11_ticks_65 (by decide) ?_
              rw [hQ]
              exact W.iret (v := 2) hx hb hr (fun t ht hW => ⟨2, rfl, by
                have z1 := i_l1
                have z2 : (2 : Int32).toInt = 2 := rfl
                rw [TK_two (by omega)]
                rfl, ht⟩) (fun q h => by cases h) dX11_ticks_69
      · skip
        have q_6 : b.toInt = (3 : Int) := i_eq2 (rfl : b.toInt = b.toInt) (show (3 : Int32).toInt = (3 : Int) from rfl) c_6
        refine lv_iload_n hx hb dX11_ticks_37 rfl (lv_at hl 0 rfl) ?_
        refine lv_iconst (v := 4) hx hb dX11_ticks_38 (by decide) ?_
        refine lv_icmp_eq (tgt := 52) hx hb dX11_ticks_39 (by decide) (fun c_12 => ?_) (fun c_12 => ?_)
        · skip
          have q_12 : v_3.toInt = (4 : Int) := i_eq2 (rfl : v_3.toInt = v_3.toInt) (show (4 : Int32).toInt = (4 : Int) from rfl) c_12
          refine lv_iconst (v := 1) hx hb dX11_ticks_52 (by decide) ?_
          refine lv_goto (tgt := 57) hx hb dX11_ticks_53 (by decide) ?_
          refine lv_istore (lv' := [(4, .int 1), (3, .int v_3), (0, .ref (ad 0)), (1, .int a), (2, .int b)]) hx hb dX11_ticks_57 hl (by decide) rfl (fun ls hl => ?_)
          refine lv_iload hx hb dX11_ticks_59 (lv_at hl 0 rfl) ?_
          refine lv_if_eq (tgt := 68) hx hb dX11_ticks_61 (by decide) (fun c_13 => ?_) (fun c_13 => ?_)
          · skip
            have q_13 : (1 : Int) = (0 : Int) := i_eq2 (show (1 : Int32).toInt = (1 : Int) from rfl) (show (0 : Int32).toInt = (0 : Int) from rfl) c_13
            exfalso; omega
          · skip
            have q_13 : (1 : Int) ≠ (0 : Int) := i_ne2 (show (1 : Int32).toInt = (1 : Int) from rfl) (show (0 : Int32).toInt = (0 : Int) from rfl) c_13
            refine lv_iconst (v := 2) hx hb dX11_ticks_64 (by decide) ?_
            refine lv_goto (tgt := 69) hx hb dX11_ticks_65 (by decide) ?_
            rw [hQ]
            exact W.iret (v := 2) hx hb hr (fun t ht hW => ⟨2, rfl, by
              have z1 := i_l1
              have z2 : (2 : Int32).toInt = 2 := rfl
              rw [TK_two (by omega)]
              rfl, ht⟩) (fun q h => by cases h) dX11_ticks_69
        · skip
          have q_12 : v_3.toInt ≠ (4 : Int) := i_ne2 (rfl : v_3.toInt = v_3.toInt) (show (4 : Int32).toInt = (4 : Int) from rfl) c_12
          refine lv_iload_n hx hb dX11_ticks_42 rfl (lv_at hl 3 rfl) ?_
          refine lv_iconst (v := 4) hx hb dX11_ticks_43 (by decide) ?_
          refine lv_icmp_ne (tgt := 56) hx hb dX11_ticks_44 (by decide) (fun c_14 => ?_) (fun c_14 => ?_)
          · skip
            have q_14 : b.toInt ≠ (4 : Int) := i_ne2 (rfl : b.toInt = b.toInt) (show (4 : Int32).toInt = (4 : Int) from rfl) c_14
            refine lv_iconst (v := 0) hx hb dX11_ticks_56 (by decide) ?_
            refine lv_istore (lv' := [(4, .int 0), (3, .int v_3), (0, .ref (ad 0)), (1, .int a), (2, .int b)]) hx hb dX11_ticks_57 hl (by decide) rfl (fun ls hl => ?_)
            refine lv_iload hx hb dX11_ticks_59 (lv_at hl 0 rfl) ?_
            refine lv_if_eq (tgt := 68) hx hb dX11_ticks_61 (by decide) (fun c_15 => ?_) (fun c_15 => ?_)
            · skip
              have q_15 : (0 : Int) = (0 : Int) := i_eq2 (show (0 : Int32).toInt = (0 : Int) from rfl) (show (0 : Int32).toInt = (0 : Int) from rfl) c_15
              refine lv_iconst (v := 1) hx hb dX11_ticks_68 (by decide) ?_
              rw [hQ]
              exact W.iret (v := 1) hx hb hr (fun t ht hW => ⟨1, rfl, by
                have z1 := i_l1
                have z2 : (2 : Int32).toInt = 2 := rfl
                rw [TK_one (by omega)]
                rfl, ht⟩) (fun q h => by cases h) dX11_ticks_69
            · skip
              have q_15 : (0 : Int) ≠ (0 : Int) := i_ne2 (show (0 : Int32).toInt = (0 : Int) from rfl) (show (0 : Int32).toInt = (0 : Int) from rfl) c_15
              exfalso; omega
          · skip
            have q_14 : b.toInt = (4 : Int) := i_eq2 (rfl : b.toInt = b.toInt) (show (4 : Int32).toInt = (4 : Int) from rfl) c_14
            exfalso; omega
    · skip
      have q_5 : b.toInt = (2 : Int) := i_eq2 (rfl : b.toInt = b.toInt) (show (2 : Int32).toInt = (2 : Int) from rfl) c_5
      refine lv_iload_n hx hb dX11_ticks_27 rfl (lv_at hl 0 rfl) ?_
      refine lv_iconst (v := 1) hx hb dX11_ticks_28 (by decide) ?_
      refine lv_icmp_eq (tgt := 52) hx hb dX11_ticks_29 (by decide) (fun c_16 => ?_) (fun c_16 => ?_)
      · skip
        have q_16 : v_3.toInt = (1 : Int) := i_eq2 (rfl : v_3.toInt = v_3.toInt) (show (1 : Int32).toInt = (1 : Int) from rfl) c_16
        refine lv_iconst (v := 1) hx hb dX11_ticks_52 (by decide) ?_
        refine lv_goto (tgt := 57) hx hb dX11_ticks_53 (by decide) ?_
        refine lv_istore (lv' := [(4, .int 1), (3, .int v_3), (0, .ref (ad 0)), (1, .int a), (2, .int b)]) hx hb dX11_ticks_57 hl (by decide) rfl (fun ls hl => ?_)
        refine lv_iload hx hb dX11_ticks_59 (lv_at hl 0 rfl) ?_
        refine lv_if_eq (tgt := 68) hx hb dX11_ticks_61 (by decide) (fun c_17 => ?_) (fun c_17 => ?_)
        · skip
          have q_17 : (1 : Int) = (0 : Int) := i_eq2 (show (1 : Int32).toInt = (1 : Int) from rfl) (show (0 : Int32).toInt = (0 : Int) from rfl) c_17
          exfalso; omega
        · skip
          have q_17 : (1 : Int) ≠ (0 : Int) := i_ne2 (show (1 : Int32).toInt = (1 : Int) from rfl) (show (0 : Int32).toInt = (0 : Int) from rfl) c_17
          refine lv_iconst (v := 2) hx hb dX11_ticks_64 (by decide) ?_
          refine lv_goto (tgt := 69) hx hb dX11_ticks_65 (by decide) ?_
          rw [hQ]
          exact W.iret (v := 2) hx hb hr (fun t ht hW => ⟨2, rfl, by
            have z1 := i_l1
            have z2 : (2 : Int32).toInt = 2 := rfl
            rw [TK_two (by omega)]
            rfl, ht⟩) (fun q h => by cases h) dX11_ticks_69
      · skip
        have q_16 : v_3.toInt ≠ (1 : Int) := i_ne2 (rfl : v_3.toInt = v_3.toInt) (show (1 : Int32).toInt = (1 : Int) from rfl) c_16
        refine lv_iload_n hx hb dX11_ticks_32 rfl (lv_at hl 3 rfl) ?_
        refine lv_iconst (v := 3) hx hb dX11_ticks_33 (by decide) ?_
        refine lv_icmp_ne (tgt := 42) hx hb dX11_ticks_34 (by decide) (fun c_18 => ?_) (fun c_18 => ?_)
        · skip
          have q_18 : b.toInt ≠ (3 : Int) := i_ne2 (rfl : b.toInt = b.toInt) (show (3 : Int32).toInt = (3 : Int) from rfl) c_18
          refine lv_iload_n hx hb dX11_ticks_42 rfl (lv_at hl 3 rfl) ?_
          refine lv_iconst (v := 4) hx hb dX11_ticks_43 (by decide) ?_
          refine lv_icmp_ne (tgt := 56) hx hb dX11_ticks_44 (by decide) (fun c_19 => ?_) (fun c_19 => ?_)
          · skip
            have q_19 : b.toInt ≠ (4 : Int) := i_ne2 (rfl : b.toInt = b.toInt) (show (4 : Int32).toInt = (4 : Int) from rfl) c_19
            refine lv_iconst (v := 0) hx hb dX11_ticks_56 (by decide) ?_
            refine lv_istore (lv' := [(4, .int 0), (3, .int v_3), (0, .ref (ad 0)), (1, .int a), (2, .int b)]) hx hb dX11_ticks_57 hl (by decide) rfl (fun ls hl => ?_)
            refine lv_iload hx hb dX11_ticks_59 (lv_at hl 0 rfl) ?_
            refine lv_if_eq (tgt := 68) hx hb dX11_ticks_61 (by decide) (fun c_20 => ?_) (fun c_20 => ?_)
            · skip
              have q_20 : (0 : Int) = (0 : Int) := i_eq2 (show (0 : Int32).toInt = (0 : Int) from rfl) (show (0 : Int32).toInt = (0 : Int) from rfl) c_20
              refine lv_iconst (v := 1) hx hb dX11_ticks_68 (by decide) ?_
              rw [hQ]
              exact W.iret (v := 1) hx hb hr (fun t ht hW => ⟨1, rfl, by
                have z1 := i_l1
                have z2 : (2 : Int32).toInt = 2 := rfl
                rw [TK_one (by omega)]
                rfl, ht⟩) (fun q h => by cases h) dX11_ticks_69
            · skip
              have q_20 : (0 : Int) ≠ (0 : Int) := i_ne2 (show (0 : Int32).toInt = (0 : Int) from rfl) (show (0 : Int32).toInt = (0 : Int) from rfl) c_20
              exfalso; omega
          · skip
            have q_19 : b.toInt = (4 : Int) := i_eq2 (rfl : b.toInt = b.toInt) (show (4 : Int32).toInt = (4 : Int) from rfl) c_19
            exfalso; omega
        · skip
          have q_18 : b.toInt = (3 : Int) := i_eq2 (rfl : b.toInt = b.toInt) (show (3 : Int32).toInt = (3 : Int) from rfl) c_18
          exfalso; omega
  · skip
    have q_4 : b.toInt = (1 : Int) := i_eq2 (rfl : b.toInt = b.toInt) (show (1 : Int32).toInt = (1 : Int) from rfl) c_4
    refine lv_iload_n hx hb dX11_ticks_17 rfl (lv_at hl 0 rfl) ?_
    refine lv_iconst (v := 2) hx hb dX11_ticks_18 (by decide) ?_
    refine lv_icmp_eq (tgt := 52) hx hb dX11_ticks_19 (by decide) (fun c_21 => ?_) (fun c_21 => ?_)
    · skip
      have q_21 : v_3.toInt = (2 : Int) := i_eq2 (rfl : v_3.toInt = v_3.toInt) (show (2 : Int32).toInt = (2 : Int) from rfl) c_21
      refine lv_iconst (v := 1) hx hb dX11_ticks_52 (by decide) ?_
      refine lv_goto (tgt := 57) hx hb dX11_ticks_53 (by decide) ?_
      refine lv_istore (lv' := [(4, .int 1), (3, .int v_3), (0, .ref (ad 0)), (1, .int a), (2, .int b)]) hx hb dX11_ticks_57 hl (by decide) rfl (fun ls hl => ?_)
      refine lv_iload hx hb dX11_ticks_59 (lv_at hl 0 rfl) ?_
      refine lv_if_eq (tgt := 68) hx hb dX11_ticks_61 (by decide) (fun c_22 => ?_) (fun c_22 => ?_)
      · skip
        have q_22 : (1 : Int) = (0 : Int) := i_eq2 (show (1 : Int32).toInt = (1 : Int) from rfl) (show (0 : Int32).toInt = (0 : Int) from rfl) c_22
        exfalso; omega
      · skip
        have q_22 : (1 : Int) ≠ (0 : Int) := i_ne2 (show (1 : Int32).toInt = (1 : Int) from rfl) (show (0 : Int32).toInt = (0 : Int) from rfl) c_22
        refine lv_iconst (v := 2) hx hb dX11_ticks_64 (by decide) ?_
        refine lv_goto (tgt := 69) hx hb dX11_ticks_65 (by decide) ?_
        rw [hQ]
        exact W.iret (v := 2) hx hb hr (fun t ht hW => ⟨2, rfl, by
          have z1 := i_l1
          have z2 : (2 : Int32).toInt = 2 := rfl
          rw [TK_two (by omega)]
          rfl, ht⟩) (fun q h => by cases h) dX11_ticks_69
    · skip
      have q_21 : v_3.toInt ≠ (2 : Int) := i_ne2 (rfl : v_3.toInt = v_3.toInt) (show (2 : Int32).toInt = (2 : Int) from rfl) c_21
      refine lv_iload_n hx hb dX11_ticks_22 rfl (lv_at hl 3 rfl) ?_
      refine lv_iconst (v := 2) hx hb dX11_ticks_23 (by decide) ?_
      refine lv_icmp_ne (tgt := 32) hx hb dX11_ticks_24 (by decide) (fun c_23 => ?_) (fun c_23 => ?_)
      · skip
        have q_23 : b.toInt ≠ (2 : Int) := i_ne2 (rfl : b.toInt = b.toInt) (show (2 : Int32).toInt = (2 : Int) from rfl) c_23
        refine lv_iload_n hx hb dX11_ticks_32 rfl (lv_at hl 3 rfl) ?_
        refine lv_iconst (v := 3) hx hb dX11_ticks_33 (by decide) ?_
        refine lv_icmp_ne (tgt := 42) hx hb dX11_ticks_34 (by decide) (fun c_24 => ?_) (fun c_24 => ?_)
        · skip
          have q_24 : b.toInt ≠ (3 : Int) := i_ne2 (rfl : b.toInt = b.toInt) (show (3 : Int32).toInt = (3 : Int) from rfl) c_24
          refine lv_iload_n hx hb dX11_ticks_42 rfl (lv_at hl 3 rfl) ?_
          refine lv_iconst (v := 4) hx hb dX11_ticks_43 (by decide) ?_
          refine lv_icmp_ne (tgt := 56) hx hb dX11_ticks_44 (by decide) (fun c_25 => ?_) (fun c_25 => ?_)
          · skip
            have q_25 : b.toInt ≠ (4 : Int) := i_ne2 (rfl : b.toInt = b.toInt) (show (4 : Int32).toInt = (4 : Int) from rfl) c_25
            refine lv_iconst (v := 0) hx hb dX11_ticks_56 (by decide) ?_
            refine lv_istore (lv' := [(4, .int 0), (3, .int v_3), (0, .ref (ad 0)), (1, .int a), (2, .int b)]) hx hb dX11_ticks_57 hl (by decide) rfl (fun ls hl => ?_)
            refine lv_iload hx hb dX11_ticks_59 (lv_at hl 0 rfl) ?_
            refine lv_if_eq (tgt := 68) hx hb dX11_ticks_61 (by decide) (fun c_26 => ?_) (fun c_26 => ?_)
            · skip
              have q_26 : (0 : Int) = (0 : Int) := i_eq2 (show (0 : Int32).toInt = (0 : Int) from rfl) (show (0 : Int32).toInt = (0 : Int) from rfl) c_26
              refine lv_iconst (v := 1) hx hb dX11_ticks_68 (by decide) ?_
              rw [hQ]
              exact W.iret (v := 1) hx hb hr (fun t ht hW => ⟨1, rfl, by
                have z1 := i_l1
                have z2 : (2 : Int32).toInt = 2 := rfl
                rw [TK_one (by omega)]
                rfl, ht⟩) (fun q h => by cases h) dX11_ticks_69
            · skip
              have q_26 : (0 : Int) ≠ (0 : Int) := i_ne2 (show (0 : Int32).toInt = (0 : Int) from rfl) (show (0 : Int32).toInt = (0 : Int) from rfl) c_26
              exfalso; omega
          · skip
            have q_25 : b.toInt = (4 : Int) := i_eq2 (rfl : b.toInt = b.toInt) (show (4 : Int32).toInt = (4 : Int) from rfl) c_25
            exfalso; omega
        · skip
          have q_24 : b.toInt = (3 : Int) := i_eq2 (rfl : b.toInt = b.toInt) (show (3 : Int32).toInt = (3 : Int) from rfl) c_24
          exfalso; omega
      · skip
        have q_23 : b.toInt = (2 : Int) := i_eq2 (rfl : b.toInt = b.toInt) (show (2 : Int32).toInt = (2 : Int) from rfl) c_23
        exfalso; omega
set_option maxHeartbeats 4000000 in
set_option maxRecDepth 100000 in
theorem c_X11_next (l : Launch) (D : va_G) (cy : Nat → ClassId) (ad : Nat → Nat) (hI : mInj ad) (sz : Nat) (iv : gIv) (ar : gAr) (a : Int32) (b : Int32) (hc : 0 ≤ a.toInt ∧ a.toInt < 108) (hq : 0 ≤ b.toInt ∧ b.toInt < 7) : Met l yX11_next wsX11_next ({ frames := 1, cells := 0, slots := 0, locals := 22 } : Room) (va_Pc [.ref (ad 0), .int a, .int b] (mPre D cy ad sz iv ar)) (vp_Si (fun r => r.toInt = NX (ar 1) a.toInt.toNat b.toInt.toNat)) 0 0 (fun _ => False) := by
  refine Met.ofW (cc := cX11_next) (maxL := 7) (ret := (some .int)) (by decide) rfl ?_
  intro p e s m args below meth c s₁ B hml hv
  obtain ⟨rfl, rfl, hP, hK, hSt, hNw⟩ := hv
  have hx := B.exec
  have hb := B.bytes
  have hr := B.returns
  have hts := atoms_spec (ws := wsX11_next) B.pre
  have hown : s.vm.findClass RX11 = some m.cls := findClass_of_methodNamed B.named
  have hlocks := B.notSynchronized
  have hS : va_S (mA ad s.heap.size) s.heap s.heap [] := va_S.rf
  have hl := lv_entry ([.ref (ad 0), .int a, .int b]) (n := 7) (Nat.le_of_ble_eq_true rfl)
  rw [lg_entry_eq]
  generalize (lg_sl ([.ref (ad 0), .int a, .int b]) ++ List.replicate (7 - (lg_sl ([.ref (ad 0), .int a, .int b])).length) Slot.unset).toArray = ls at hl ⊢
  have hl : lv_has ls 7 [(0, .ref (ad 0)), (1, .int a), (2, .int b)] := hl
  obtain ⟨Q, hQ⟩ : ∃ Q, Q = MQ below (vp_Si (fun r => r.toInt = NX (ar 1) a.toInt.toNat b.toInt.toNat)) (([.ref (ad 0), .int a, .int b] : List Value).toArray) s 0 0 (fun _ => False) := ⟨_, rfl⟩
  rw [← hQ]
  refine lv_iload_n hx hb dX11_next_0 rfl (lv_at hl 1 rfl) ?_
  refine lv_bipush (v := 6) hx hb dX11_next_1 (by decide) ?_
  refine lv_irem hx hb dX11_next_3 (by decide) ?_
  refine lv_topi (fun v_1 ev_1 => ?_)
  have tv_1 : v_1.toInt = a.toInt % (6 : Int) := i_rem (rfl : a.toInt = a.toInt) (show (6 : Int32).toInt = (6 : Int) from rfl) (by omega) (by omega) ev_1
  refine lv_iload_n hx hb dX11_next_4 rfl (lv_at hl 2 rfl) ?_
  refine lv_iconst (v := 1) hx hb dX11_next_5 (by decide) ?_
  refine lv_icmp_ne (tgt := 13) hx hb dX11_next_6 (by decide) (fun c_2 => ?_) (fun c_2 => ?_)
  · skip
    have q_2 : b.toInt ≠ (1 : Int) := i_ne2 (rfl : b.toInt = b.toInt) (show (1 : Int32).toInt = (1 : Int) from rfl) c_2
    refine lv_iload_n hx hb dX11_next_13 rfl (lv_at hl 2 rfl) ?_
    refine lv_iconst (v := 2) hx hb dX11_next_14 (by decide) ?_
    refine lv_icmp_ne (tgt := 22) hx hb dX11_next_15 (by decide) (fun c_3 => ?_) (fun c_3 => ?_)
    · skip
      have q_3 : b.toInt ≠ (2 : Int) := i_ne2 (rfl : b.toInt = b.toInt) (show (2 : Int32).toInt = (2 : Int) from rfl) c_3
      refine lv_iconst (v := 0) hx hb dX11_next_22 (by decide) ?_
      refine lv_iadd hx hb dX11_next_23 ?_
      refine lv_topi (fun v_4 ev_4 => ?_)
      have tv_4 : v_4.toInt = v_1.toInt + (0 : Int) := i_add (rfl : v_1.toInt = v_1.toInt) (show (0 : Int32).toInt = (0 : Int) from rfl) (by omega) (by omega) ev_4
      refine lv_istore_n (lv' := [(3, .int v_4), (0, .ref (ad 0)), (1, .int a), (2, .int b)]) hx hb dX11_next_24 rfl hl (by decide) rfl (fun ls hl => ?_)
      refine lv_iload_n hx hb dX11_next_25 rfl (lv_at hl 2 rfl) ?_
      refine lv_bipush (v := 6) hx hb dX11_next_26 (by decide) ?_
      refine lv_idiv hx hb dX11_next_28 (by decide) ?_
      refine lv_topi (fun v_5 ev_5 => ?_)
      have tv_5 : v_5.toInt = a.toInt / (6 : Int) := i_div (rfl : a.toInt = a.toInt) (show (6 : Int32).toInt = (6 : Int) from rfl) (by omega) (by omega) ev_5
      refine lv_bipush (v := 6) hx hb dX11_next_29 (by decide) ?_
      refine lv_irem hx hb dX11_next_31 (by decide) ?_
      refine lv_topi (fun v_6 ev_6 => ?_)
      have tv_6 : v_6.toInt = v_5.toInt % (6 : Int) := i_rem (rfl : v_5.toInt = v_5.toInt) (show (6 : Int32).toInt = (6 : Int) from rfl) (by omega) (by omega) ev_6
      refine lv_iload_n hx hb dX11_next_32 rfl (lv_at hl 3 rfl) ?_
      refine lv_iconst (v := 3) hx hb dX11_next_33 (by decide) ?_
      refine lv_icmp_ne (tgt := 41) hx hb dX11_next_34 (by decide) (fun c_7 => ?_) (fun c_7 => ?_)
      · skip
        have q_7 : b.toInt ≠ (3 : Int) := i_ne2 (rfl : b.toInt = b.toInt) (show (3 : Int32).toInt = (3 : Int) from rfl) c_7
        refine lv_iload_n hx hb dX11_next_41 rfl (lv_at hl 3 rfl) ?_
        refine lv_iconst (v := 4) hx hb dX11_next_42 (by decide) ?_
        refine lv_icmp_ne (tgt := 50) hx hb dX11_next_43 (by decide) (fun c_8 => ?_) (fun c_8 => ?_)
        · skip
          have q_8 : b.toInt ≠ (4 : Int) := i_ne2 (rfl : b.toInt = b.toInt) (show (4 : Int32).toInt = (4 : Int) from rfl) c_8
          refine lv_iconst (v := 0) hx hb dX11_next_50 (by decide) ?_
          refine lv_iadd hx hb dX11_next_51 ?_
          refine lv_topi (fun v_9 ev_9 => ?_)
          have tv_9 : v_9.toInt = v_6.toInt + (0 : Int) := i_add (rfl : v_6.toInt = v_6.toInt) (show (0 : Int32).toInt = (0 : Int) from rfl) (by omega) (by omega) ev_9
          refine lv_istore (lv' := [(4, .int v_9), (3, .int v_4), (0, .ref (ad 0)), (1, .int a), (2, .int b)]) hx hb dX11_next_52 hl (by decide) rfl (fun ls hl => ?_)
          refine lv_iload_n hx hb dX11_next_54 rfl (lv_at hl 3 rfl) ?_
          refine g_callSi (va_runS (As := [.int a]) (rest := []) ⟨hx, hb, hml, hown, hts⟩ (c_X11_layerOf l a (by omega)) (va_cwS 1 hts gX11_next_X11_layerOf rfl rfl rfl (by decide +kernel) ⟨Nat.le_of_ble_eq_true rfl, Nat.le_of_ble_eq_true rfl⟩) (g_preT) rfl rfl hl.1 rfl (lv_room (Nat.le_of_ble_eq_true rfl)) dX11_next_55 ⟨Nat.zero_le _, Nat.zero_le _⟩) (fun r_10 w_10 => ?_)
          try dsimp only at w_10
          refine lv_iload_n hx hb dX11_next_58 rfl (lv_at hl 4 rfl) ?_
          refine lv_iconst (v := 5) hx hb dX11_next_59 (by decide) ?_
          refine lv_icmp_ne (tgt := 67) hx hb dX11_next_60 (by decide) (fun c_11 => ?_) (fun c_11 => ?_)
          · skip
            have q_11 : b.toInt ≠ (5 : Int) := i_ne2 (rfl : b.toInt = b.toInt) (show (5 : Int32).toInt = (5 : Int) from rfl) c_11
            refine lv_iload_n hx hb dX11_next_67 rfl (lv_at hl 4 rfl) ?_
            refine lv_bipush (v := 6) hx hb dX11_next_68 (by decide) ?_
            refine lv_icmp_ne (tgt := 77) hx hb dX11_next_70 (by decide) (fun c_12 => ?_) (fun c_12 => ?_)
            · skip
              have q_12 : b.toInt ≠ (6 : Int) := i_ne2 (rfl : b.toInt = b.toInt) (show (6 : Int32).toInt = (6 : Int) from rfl) c_12
              refine lv_iconst (v := 0) hx hb dX11_next_77 (by decide) ?_
              refine lv_iadd hx hb dX11_next_78 ?_
              refine lv_topi (fun v_13 ev_13 => ?_)
              have tv_13 : v_13.toInt = r_10.toInt + (0 : Int) := i_add (rfl : r_10.toInt = r_10.toInt) (show (0 : Int32).toInt = (0 : Int) from rfl) (by omega) (by omega) ev_13
              refine lv_istore (lv' := [(5, .int v_13), (4, .int v_9), (3, .int v_4), (0, .ref (ad 0)), (1, .int a), (2, .int b)]) hx hb dX11_next_79 hl (by decide) rfl (fun ls hl => ?_)
              refine lv_iload_n hx hb dX11_next_81 rfl (lv_at hl 2 rfl) ?_
              refine lv_iconst (v := 0) hx hb dX11_next_82 (by decide) ?_
              refine lv_iconst (v := 5) hx hb dX11_next_83 (by decide) ?_
              have zl_14 : (0 : Int32).toInt = (0 : Int) := rfl
              have zl_15 : (5 : Int32).toInt = (5 : Int) := rfl
              refine g_callSi (va_runS (As := [.int v_4, .int 0, .int 5]) (rest := []) ⟨hx, hb, hml, hown, hts⟩ (c_X11_isIn l v_4 0 5) (va_cwS 3 hts gX11_next_X11_isIn rfl rfl rfl (by decide +kernel) ⟨Nat.le_of_ble_eq_true rfl, Nat.le_of_ble_eq_true rfl⟩) (g_preT) rfl rfl hl.1 rfl (lv_room (Nat.le_of_ble_eq_true rfl)) dX11_next_84 ⟨Nat.zero_le _, Nat.zero_le _⟩) (fun r_16 w_16 => ?_)
              try dsimp only at w_16
              refine lv_if_eq (tgt := 110) hx hb dX11_next_87 (by decide) (fun c_17 => ?_) (fun c_17 => ?_)
              · skip
                have q_17 : r_16.toInt = (0 : Int) := i_eq2 (rfl : r_16.toInt = r_16.toInt) (show (0 : Int32).toInt = (0 : Int) from rfl) c_17
                refine lv_iconst (v := (-1)) hx hb dX11_next_110 (by decide) ?_
                rw [hQ]
                exact W.iret (v := (-1)) hx hb hr (fun t ht hW => ⟨(-1), rfl, by
                  have zm := i_m1
                  have hB : b.toInt.toNat = 0 := by omega
                  have hn : nbN a.toInt.toNat b.toInt.toNat < 0 := by
                    rw [hB, nb0]
                    omega
                  rw [NX_no (Or.inl hn)]
                  omega, ht⟩) (fun q h => by cases h) dX11_next_111
              · skip
                have q_17 : r_16.toInt ≠ (0 : Int) := i_ne2 (rfl : r_16.toInt = r_16.toInt) (show (0 : Int32).toInt = (0 : Int) from rfl) c_17
                refine lv_iload hx hb dX11_next_90 (lv_at hl 1 rfl) ?_
                refine lv_iconst (v := 0) hx hb dX11_next_92 (by decide) ?_
                refine lv_iconst (v := 5) hx hb dX11_next_93 (by decide) ?_
                have zl_18 : (0 : Int32).toInt = (0 : Int) := rfl
                have zl_19 : (5 : Int32).toInt = (5 : Int) := rfl
                refine g_callSi (va_runS (As := [.int v_9, .int 0, .int 5]) (rest := []) ⟨hx, hb, hml, hown, hts⟩ (c_X11_isIn l v_9 0 5) (va_cwS 3 hts gX11_next_X11_isIn rfl rfl rfl (by decide +kernel) ⟨Nat.le_of_ble_eq_true rfl, Nat.le_of_ble_eq_true rfl⟩) (g_preT) rfl rfl hl.1 rfl (lv_room (Nat.le_of_ble_eq_true rfl)) dX11_next_94 ⟨Nat.zero_le _, Nat.zero_le _⟩) (fun r_20 w_20 => ?_)
                try dsimp only at w_20
                refine lv_if_eq (tgt := 110) hx hb dX11_next_97 (by decide) (fun c_21 => ?_) (fun c_21 => ?_)
                · skip
                  have q_21 : r_20.toInt = (0 : Int) := i_eq2 (rfl : r_20.toInt = r_20.toInt) (show (0 : Int32).toInt = (0 : Int) from rfl) c_21
                  refine lv_iconst (v := (-1)) hx hb dX11_next_110 (by decide) ?_
                  rw [hQ]
                  exact W.iret (v := (-1)) hx hb hr (fun t ht hW => ⟨(-1), rfl, by
                    have zm := i_m1
                    have hB : b.toInt.toNat = 0 := by omega
                    have hn : nbN a.toInt.toNat b.toInt.toNat < 0 := by
                      rw [hB, nb0]
                      omega
                    rw [NX_no (Or.inl hn)]
                    omega, ht⟩) (fun q h => by cases h) dX11_next_111
                · skip
                  have q_21 : r_20.toInt ≠ (0 : Int) := i_ne2 (rfl : r_20.toInt = r_20.toInt) (show (0 : Int32).toInt = (0 : Int) from rfl) c_21
                  refine lv_iload hx hb dX11_next_100 (lv_at hl 0 rfl) ?_
                  refine lv_iconst (v := 0) hx hb dX11_next_102 (by decide) ?_
                  refine lv_iconst (v := 2) hx hb dX11_next_103 (by decide) ?_
                  have zl_22 : (0 : Int32).toInt = (0 : Int) := rfl
                  have zl_23 : (2 : Int32).toInt = (2 : Int) := rfl
                  refine g_callSi (va_runS (As := [.int v_13, .int 0, .int 2]) (rest := []) ⟨hx, hb, hml, hown, hts⟩ (c_X11_isIn l v_13 0 2) (va_cwS 3 hts gX11_next_X11_isIn rfl rfl rfl (by decide +kernel) ⟨Nat.le_of_ble_eq_true rfl, Nat.le_of_ble_eq_true rfl⟩) (g_preT) rfl rfl hl.1 rfl (lv_room (Nat.le_of_ble_eq_true rfl)) dX11_next_104 ⟨Nat.zero_le _, Nat.zero_le _⟩) (fun r_24 w_24 => ?_)
                  try dsimp only at w_24
                  refine lv_if_ne (tgt := 112) hx hb dX11_next_107 (by decide) (fun c_25 => ?_) (fun c_25 => ?_)
                  · skip
                    have q_25 : r_24.toInt ≠ (0 : Int) := i_ne2 (rfl : r_24.toInt = r_24.toInt) (show (0 : Int32).toInt = (0 : Int) from rfl) c_25
                    refine lv_iload_n hx hb dX11_next_112 rfl (lv_at hl 2 rfl) ?_
                    refine lv_bipush (v := 6) hx hb dX11_next_113 (by decide) ?_
                    refine lv_iload hx hb dX11_next_115 (lv_at hl 1 rfl) ?_
                    refine lv_imul hx hb dX11_next_117 ?_
                    refine lv_topi (fun v_26 ev_26 => ?_)
                    have tv_26 : v_26.toInt = (6 : Int) * v_9.toInt := i_mul (show (6 : Int32).toInt = (6 : Int) from rfl) (rfl : v_9.toInt = v_9.toInt) (by omega) (by omega) ev_26
                    refine lv_iadd hx hb dX11_next_118 ?_
                    refine lv_topi (fun v_27 ev_27 => ?_)
                    have tv_27 : v_27.toInt = v_4.toInt + v_26.toInt := i_add (rfl : v_4.toInt = v_4.toInt) (rfl : v_26.toInt = v_26.toInt) (by omega) (by omega) ev_27
                    refine lv_bipush (v := 36) hx hb dX11_next_119 (by decide) ?_
                    refine lv_iload hx hb dX11_next_121 (lv_at hl 0 rfl) ?_
                    refine lv_imul hx hb dX11_next_123 ?_
                    refine lv_topi (fun v_28 ev_28 => ?_)
                    have rg_29 := i_rng v_13
                    have tv_28 : v_28.toInt = (36 : Int) * v_13.toInt := i_mul (show (36 : Int32).toInt = (36 : Int) from rfl) (rfl : v_13.toInt = v_13.toInt) (by omega) (by omega) ev_28
                    refine lv_iadd hx hb dX11_next_124 ?_
                    refine lv_topi (fun v_30 ev_30 => ?_)
                    have rg_31 := i_rng v_28
                    have tv_30 : v_30.toInt = v_27.toInt + v_28.toInt := i_add (rfl : v_27.toInt = v_27.toInt) (rfl : v_28.toInt = v_28.toInt) (by omega) (by omega) ev_30
                    refine lv_istore (lv' := [(6, .int v_30), (5, .int v_13), (4, .int v_9), (3, .int v_4), (0, .ref (ad 0)), (1, .int a), (2, .int b)]) hx hb dX11_next_125 hl (by decide) rfl (fun ls hl => ?_)
                    refine lv_aload_n hx hb dX11_next_127 rfl (lv_at hl 4 rfl) ?_
                    refine lv_iload hx hb dX11_next_128 (lv_at hl 0 rfl) ?_
                    refine g_callSi (va_runV (As := [.int v_30]) (rest := []) ⟨hx, hb, hml, hown, hts⟩ (c_X11_isObstacle l D cy ad hI _ iv ar v_30 (by omega)) (cwV 1 hts gX11_next_X11_isObstacle rfl rfl rfl (by decide +kernel) ⟨Nat.le_of_ble_eq_true rfl, Nat.le_of_ble_eq_true rfl⟩) (m_preV hP hK hSt hNw hS (m_at11 (Nat.le_of_ble_eq_true rfl) rfl) rfl) rfl rfl hl.1 rfl (lv_room (Nat.le_of_ble_eq_true rfl)) dX11_next_130 ⟨Nat.zero_le _, Nat.zero_le _⟩) (fun r_32 w_32 => ?_)
                    try dsimp only at w_32
                    refine lv_if_eq (tgt := 140) hx hb dX11_next_133 (by decide) (fun c_33 => ?_) (fun c_33 => ?_)
                    · skip
                      have q_33 : r_32.toInt = (0 : Int) := i_eq2 (rfl : r_32.toInt = r_32.toInt) (show (0 : Int32).toInt = (0 : Int) from rfl) c_33
                      refine lv_iload hx hb dX11_next_140 (lv_at hl 0 rfl) ?_
                      rw [hQ]
                      exact W.iret (v := v_30) hx hb hr (fun t ht hW => ⟨v_30, rfl, by
                        have zm := i_m1
                        have hB : b.toInt.toNat = 0 := by omega
                        have hn : nbN a.toInt.toNat b.toInt.toNat = (v_30.toInt) := by
                          rw [hB, nb0]
                          omega
                        rw [NX_is (by rw [hn]; omega)]
                        omega, ht⟩) (fun q h => by cases h) dX11_next_142
                    · skip
                      have q_33 : r_32.toInt ≠ (0 : Int) := i_ne2 (rfl : r_32.toInt = r_32.toInt) (show (0 : Int32).toInt = (0 : Int) from rfl) c_33
                      refine lv_iconst (v := (-1)) hx hb dX11_next_136 (by decide) ?_
                      refine lv_goto (tgt := 142) hx hb dX11_next_137 (by decide) ?_
                      rw [hQ]
                      exact W.iret (v := (-1)) hx hb hr (fun t ht hW => ⟨(-1), rfl, by
                        have zm := i_m1
                        have hB : b.toInt.toNat = 0 := by omega
                        have hn : nbN a.toInt.toNat b.toInt.toNat = (v_30.toInt) := by
                          rw [hB, nb0]
                          omega
                        rw [NX_no (Or.inr (by rw [hn]; omega))]
                        omega, ht⟩) (fun q h => by cases h) dX11_next_142
                  · skip
                    have q_25 : r_24.toInt = (0 : Int) := i_eq2 (rfl : r_24.toInt = r_24.toInt) (show (0 : Int32).toInt = (0 : Int) from rfl) c_25
                    refine lv_iconst (v := (-1)) hx hb dX11_next_110 (by decide) ?_
                    rw [hQ]
                    exact W.iret (v := (-1)) hx hb hr (fun t ht hW => ⟨(-1), rfl, by
                      have zm := i_m1
                      have hB : b.toInt.toNat = 0 := by omega
                      have hn : nbN a.toInt.toNat b.toInt.toNat < 0 := by
                        rw [hB, nb0]
                        omega
                      rw [NX_no (Or.inl hn)]
                      omega, ht⟩) (fun q h => by cases h) dX11_next_111
            · skip
              have q_12 : b.toInt = (6 : Int) := i_eq2 (rfl : b.toInt = b.toInt) (show (6 : Int32).toInt = (6 : Int) from rfl) c_12
              refine lv_iconst (v := (-1)) hx hb dX11_next_73 (by decide) ?_
              refine lv_goto (tgt := 78) hx hb dX11_next_74 (by decide) ?_
              refine lv_iadd hx hb dX11_next_78 ?_
              refine lv_topi (fun v_34 ev_34 => ?_)
              have rg_35 := i_rng r_10
              have tv_34 : v_34.toInt = r_10.toInt + (-1 : Int) := i_add (rfl : r_10.toInt = r_10.toInt) (show ((-1) : Int32).toInt = (-1 : Int) from rfl) (by omega) (by omega) ev_34
              refine lv_istore (lv' := [(5, .int v_34), (4, .int v_9), (3, .int v_4), (0, .ref (ad 0)), (1, .int a), (2, .int b)]) hx hb dX11_next_79 hl (by decide) rfl (fun ls hl => ?_)
              refine lv_iload_n hx hb dX11_next_81 rfl (lv_at hl 2 rfl) ?_
              refine lv_iconst (v := 0) hx hb dX11_next_82 (by decide) ?_
              refine lv_iconst (v := 5) hx hb dX11_next_83 (by decide) ?_
              have zl_36 : (0 : Int32).toInt = (0 : Int) := rfl
              have zl_37 : (5 : Int32).toInt = (5 : Int) := rfl
              refine g_callSi (va_runS (As := [.int v_4, .int 0, .int 5]) (rest := []) ⟨hx, hb, hml, hown, hts⟩ (c_X11_isIn l v_4 0 5) (va_cwS 3 hts gX11_next_X11_isIn rfl rfl rfl (by decide +kernel) ⟨Nat.le_of_ble_eq_true rfl, Nat.le_of_ble_eq_true rfl⟩) (g_preT) rfl rfl hl.1 rfl (lv_room (Nat.le_of_ble_eq_true rfl)) dX11_next_84 ⟨Nat.zero_le _, Nat.zero_le _⟩) (fun r_38 w_38 => ?_)
              try dsimp only at w_38
              refine lv_if_eq (tgt := 110) hx hb dX11_next_87 (by decide) (fun c_39 => ?_) (fun c_39 => ?_)
              · skip
                have q_39 : r_38.toInt = (0 : Int) := i_eq2 (rfl : r_38.toInt = r_38.toInt) (show (0 : Int32).toInt = (0 : Int) from rfl) c_39
                refine lv_iconst (v := (-1)) hx hb dX11_next_110 (by decide) ?_
                rw [hQ]
                exact W.iret (v := (-1)) hx hb hr (fun t ht hW => ⟨(-1), rfl, by
                  have zm := i_m1
                  have hB : b.toInt.toNat = 6 := by omega
                  have hn : nbN a.toInt.toNat b.toInt.toNat < 0 := by
                    rw [hB, nb6]
                    split <;> omega
                  rw [NX_no (Or.inl hn)]
                  omega, ht⟩) (fun q h => by cases h) dX11_next_111
              · skip
                have q_39 : r_38.toInt ≠ (0 : Int) := i_ne2 (rfl : r_38.toInt = r_38.toInt) (show (0 : Int32).toInt = (0 : Int) from rfl) c_39
                refine lv_iload hx hb dX11_next_90 (lv_at hl 1 rfl) ?_
                refine lv_iconst (v := 0) hx hb dX11_next_92 (by decide) ?_
                refine lv_iconst (v := 5) hx hb dX11_next_93 (by decide) ?_
                have zl_40 : (0 : Int32).toInt = (0 : Int) := rfl
                have zl_41 : (5 : Int32).toInt = (5 : Int) := rfl
                refine g_callSi (va_runS (As := [.int v_9, .int 0, .int 5]) (rest := []) ⟨hx, hb, hml, hown, hts⟩ (c_X11_isIn l v_9 0 5) (va_cwS 3 hts gX11_next_X11_isIn rfl rfl rfl (by decide +kernel) ⟨Nat.le_of_ble_eq_true rfl, Nat.le_of_ble_eq_true rfl⟩) (g_preT) rfl rfl hl.1 rfl (lv_room (Nat.le_of_ble_eq_true rfl)) dX11_next_94 ⟨Nat.zero_le _, Nat.zero_le _⟩) (fun r_42 w_42 => ?_)
                try dsimp only at w_42
                refine lv_if_eq (tgt := 110) hx hb dX11_next_97 (by decide) (fun c_43 => ?_) (fun c_43 => ?_)
                · skip
                  have q_43 : r_42.toInt = (0 : Int) := i_eq2 (rfl : r_42.toInt = r_42.toInt) (show (0 : Int32).toInt = (0 : Int) from rfl) c_43
                  refine lv_iconst (v := (-1)) hx hb dX11_next_110 (by decide) ?_
                  rw [hQ]
                  exact W.iret (v := (-1)) hx hb hr (fun t ht hW => ⟨(-1), rfl, by
                    have zm := i_m1
                    have hB : b.toInt.toNat = 6 := by omega
                    have hn : nbN a.toInt.toNat b.toInt.toNat < 0 := by
                      rw [hB, nb6]
                      split <;> omega
                    rw [NX_no (Or.inl hn)]
                    omega, ht⟩) (fun q h => by cases h) dX11_next_111
                · skip
                  have q_43 : r_42.toInt ≠ (0 : Int) := i_ne2 (rfl : r_42.toInt = r_42.toInt) (show (0 : Int32).toInt = (0 : Int) from rfl) c_43
                  refine lv_iload hx hb dX11_next_100 (lv_at hl 0 rfl) ?_
                  refine lv_iconst (v := 0) hx hb dX11_next_102 (by decide) ?_
                  refine lv_iconst (v := 2) hx hb dX11_next_103 (by decide) ?_
                  have zl_44 : (0 : Int32).toInt = (0 : Int) := rfl
                  have zl_45 : (2 : Int32).toInt = (2 : Int) := rfl
                  refine g_callSi (va_runS (As := [.int v_34, .int 0, .int 2]) (rest := []) ⟨hx, hb, hml, hown, hts⟩ (c_X11_isIn l v_34 0 2) (va_cwS 3 hts gX11_next_X11_isIn rfl rfl rfl (by decide +kernel) ⟨Nat.le_of_ble_eq_true rfl, Nat.le_of_ble_eq_true rfl⟩) (g_preT) rfl rfl hl.1 rfl (lv_room (Nat.le_of_ble_eq_true rfl)) dX11_next_104 ⟨Nat.zero_le _, Nat.zero_le _⟩) (fun r_46 w_46 => ?_)
                  try dsimp only at w_46
                  refine lv_if_ne (tgt := 112) hx hb dX11_next_107 (by decide) (fun c_47 => ?_) (fun c_47 => ?_)
                  · skip
                    have q_47 : r_46.toInt ≠ (0 : Int) := i_ne2 (rfl : r_46.toInt = r_46.toInt) (show (0 : Int32).toInt = (0 : Int) from rfl) c_47
                    refine lv_iload_n hx hb dX11_next_112 rfl (lv_at hl 2 rfl) ?_
                    refine lv_bipush (v := 6) hx hb dX11_next_113 (by decide) ?_
                    refine lv_iload hx hb dX11_next_115 (lv_at hl 1 rfl) ?_
                    refine lv_imul hx hb dX11_next_117 ?_
                    refine lv_topi (fun v_48 ev_48 => ?_)
                    have tv_48 : v_48.toInt = (6 : Int) * v_9.toInt := i_mul (show (6 : Int32).toInt = (6 : Int) from rfl) (rfl : v_9.toInt = v_9.toInt) (by omega) (by omega) ev_48
                    refine lv_iadd hx hb dX11_next_118 ?_
                    refine lv_topi (fun v_49 ev_49 => ?_)
                    have tv_49 : v_49.toInt = v_4.toInt + v_48.toInt := i_add (rfl : v_4.toInt = v_4.toInt) (rfl : v_48.toInt = v_48.toInt) (by omega) (by omega) ev_49
                    refine lv_bipush (v := 36) hx hb dX11_next_119 (by decide) ?_
                    refine lv_iload hx hb dX11_next_121 (lv_at hl 0 rfl) ?_
                    refine lv_imul hx hb dX11_next_123 ?_
                    refine lv_topi (fun v_50 ev_50 => ?_)
                    have rg_51 := i_rng v_34
                    have tv_50 : v_50.toInt = (36 : Int) * v_34.toInt := i_mul (show (36 : Int32).toInt = (36 : Int) from rfl) (rfl : v_34.toInt = v_34.toInt) (by omega) (by omega) ev_50
                    refine lv_iadd hx hb dX11_next_124 ?_
                    refine lv_topi (fun v_52 ev_52 => ?_)
                    have rg_53 := i_rng v_50
                    have tv_52 : v_52.toInt = v_49.toInt + v_50.toInt := i_add (rfl : v_49.toInt = v_49.toInt) (rfl : v_50.toInt = v_50.toInt) (by omega) (by omega) ev_52
                    refine lv_istore (lv' := [(6, .int v_52), (5, .int v_34), (4, .int v_9), (3, .int v_4), (0, .ref (ad 0)), (1, .int a), (2, .int b)]) hx hb dX11_next_125 hl (by decide) rfl (fun ls hl => ?_)
                    refine lv_aload_n hx hb dX11_next_127 rfl (lv_at hl 4 rfl) ?_
                    refine lv_iload hx hb dX11_next_128 (lv_at hl 0 rfl) ?_
                    refine g_callSi (va_runV (As := [.int v_52]) (rest := []) ⟨hx, hb, hml, hown, hts⟩ (c_X11_isObstacle l D cy ad hI _ iv ar v_52 (by omega)) (cwV 1 hts gX11_next_X11_isObstacle rfl rfl rfl (by decide +kernel) ⟨Nat.le_of_ble_eq_true rfl, Nat.le_of_ble_eq_true rfl⟩) (m_preV hP hK hSt hNw hS (m_at11 (Nat.le_of_ble_eq_true rfl) rfl) rfl) rfl rfl hl.1 rfl (lv_room (Nat.le_of_ble_eq_true rfl)) dX11_next_130 ⟨Nat.zero_le _, Nat.zero_le _⟩) (fun r_54 w_54 => ?_)
                    try dsimp only at w_54
                    refine lv_if_eq (tgt := 140) hx hb dX11_next_133 (by decide) (fun c_55 => ?_) (fun c_55 => ?_)
                    · skip
                      have q_55 : r_54.toInt = (0 : Int) := i_eq2 (rfl : r_54.toInt = r_54.toInt) (show (0 : Int32).toInt = (0 : Int) from rfl) c_55
                      refine lv_iload hx hb dX11_next_140 (lv_at hl 0 rfl) ?_
                      rw [hQ]
                      exact W.iret (v := v_52) hx hb hr (fun t ht hW => ⟨v_52, rfl, by
                        have zm := i_m1
                        have hB : b.toInt.toNat = 6 := by omega
                        have hn : nbN a.toInt.toNat b.toInt.toNat = (v_52.toInt) := by
                          rw [hB, nb6]
                          split <;> omega
                        rw [NX_is (by rw [hn]; omega)]
                        omega, ht⟩) (fun q h => by cases h) dX11_next_142
                    · skip
                      have q_55 : r_54.toInt ≠ (0 : Int) := i_ne2 (rfl : r_54.toInt = r_54.toInt) (show (0 : Int32).toInt = (0 : Int) from rfl) c_55
                      refine lv_iconst (v := (-1)) hx hb dX11_next_136 (by decide) ?_
                      refine lv_goto (tgt := 142) hx hb dX11_next_137 (by decide) ?_
                      rw [hQ]
                      exact W.iret (v := (-1)) hx hb hr (fun t ht hW => ⟨(-1), rfl, by
                        have zm := i_m1
                        have hB : b.toInt.toNat = 6 := by omega
                        have hn : nbN a.toInt.toNat b.toInt.toNat = (v_52.toInt) := by
                          rw [hB, nb6]
                          split <;> omega
                        rw [NX_no (Or.inr (by rw [hn]; omega))]
                        omega, ht⟩) (fun q h => by cases h) dX11_next_142
                  · skip
                    have q_47 : r_46.toInt = (0 : Int) := i_eq2 (rfl : r_46.toInt = r_46.toInt) (show (0 : Int32).toInt = (0 : Int) from rfl) c_47
                    refine lv_iconst (v := (-1)) hx hb dX11_next_110 (by decide) ?_
                    rw [hQ]
                    exact W.iret (v := (-1)) hx hb hr (fun t ht hW => ⟨(-1), rfl, by
                      have zm := i_m1
                      have hB : b.toInt.toNat = 6 := by omega
                      have hn : nbN a.toInt.toNat b.toInt.toNat < 0 := by
                        rw [hB, nb6]
                        split <;> omega
                      rw [NX_no (Or.inl hn)]
                      omega, ht⟩) (fun q h => by cases h) dX11_next_111
          · skip
            have q_11 : b.toInt = (5 : Int) := i_eq2 (rfl : b.toInt = b.toInt) (show (5 : Int32).toInt = (5 : Int) from rfl) c_11
            refine lv_iconst (v := 1) hx hb dX11_next_63 (by decide) ?_
            refine lv_goto (tgt := 78) hx hb dX11_next_64 (by decide) ?_
            refine lv_iadd hx hb dX11_next_78 ?_
            refine lv_topi (fun v_56 ev_56 => ?_)
            have rg_57 := i_rng r_10
            have tv_56 : v_56.toInt = r_10.toInt + (1 : Int) := i_add (rfl : r_10.toInt = r_10.toInt) (show (1 : Int32).toInt = (1 : Int) from rfl) (by omega) (by omega) ev_56
            refine lv_istore (lv' := [(5, .int v_56), (4, .int v_9), (3, .int v_4), (0, .ref (ad 0)), (1, .int a), (2, .int b)]) hx hb dX11_next_79 hl (by decide) rfl (fun ls hl => ?_)
            refine lv_iload_n hx hb dX11_next_81 rfl (lv_at hl 2 rfl) ?_
            refine lv_iconst (v := 0) hx hb dX11_next_82 (by decide) ?_
            refine lv_iconst (v := 5) hx hb dX11_next_83 (by decide) ?_
            have zl_58 : (0 : Int32).toInt = (0 : Int) := rfl
            have zl_59 : (5 : Int32).toInt = (5 : Int) := rfl
            refine g_callSi (va_runS (As := [.int v_4, .int 0, .int 5]) (rest := []) ⟨hx, hb, hml, hown, hts⟩ (c_X11_isIn l v_4 0 5) (va_cwS 3 hts gX11_next_X11_isIn rfl rfl rfl (by decide +kernel) ⟨Nat.le_of_ble_eq_true rfl, Nat.le_of_ble_eq_true rfl⟩) (g_preT) rfl rfl hl.1 rfl (lv_room (Nat.le_of_ble_eq_true rfl)) dX11_next_84 ⟨Nat.zero_le _, Nat.zero_le _⟩) (fun r_60 w_60 => ?_)
            try dsimp only at w_60
            refine lv_if_eq (tgt := 110) hx hb dX11_next_87 (by decide) (fun c_61 => ?_) (fun c_61 => ?_)
            · skip
              have q_61 : r_60.toInt = (0 : Int) := i_eq2 (rfl : r_60.toInt = r_60.toInt) (show (0 : Int32).toInt = (0 : Int) from rfl) c_61
              refine lv_iconst (v := (-1)) hx hb dX11_next_110 (by decide) ?_
              rw [hQ]
              exact W.iret (v := (-1)) hx hb hr (fun t ht hW => ⟨(-1), rfl, by
                have zm := i_m1
                have hB : b.toInt.toNat = 5 := by omega
                have hn : nbN a.toInt.toNat b.toInt.toNat < 0 := by
                  rw [hB, nb5]
                  split <;> omega
                rw [NX_no (Or.inl hn)]
                omega, ht⟩) (fun q h => by cases h) dX11_next_111
            · skip
              have q_61 : r_60.toInt ≠ (0 : Int) := i_ne2 (rfl : r_60.toInt = r_60.toInt) (show (0 : Int32).toInt = (0 : Int) from rfl) c_61
              refine lv_iload hx hb dX11_next_90 (lv_at hl 1 rfl) ?_
              refine lv_iconst (v := 0) hx hb dX11_next_92 (by decide) ?_
              refine lv_iconst (v := 5) hx hb dX11_next_93 (by decide) ?_
              have zl_62 : (0 : Int32).toInt = (0 : Int) := rfl
              have zl_63 : (5 : Int32).toInt = (5 : Int) := rfl
              refine g_callSi (va_runS (As := [.int v_9, .int 0, .int 5]) (rest := []) ⟨hx, hb, hml, hown, hts⟩ (c_X11_isIn l v_9 0 5) (va_cwS 3 hts gX11_next_X11_isIn rfl rfl rfl (by decide +kernel) ⟨Nat.le_of_ble_eq_true rfl, Nat.le_of_ble_eq_true rfl⟩) (g_preT) rfl rfl hl.1 rfl (lv_room (Nat.le_of_ble_eq_true rfl)) dX11_next_94 ⟨Nat.zero_le _, Nat.zero_le _⟩) (fun r_64 w_64 => ?_)
              try dsimp only at w_64
              refine lv_if_eq (tgt := 110) hx hb dX11_next_97 (by decide) (fun c_65 => ?_) (fun c_65 => ?_)
              · skip
                have q_65 : r_64.toInt = (0 : Int) := i_eq2 (rfl : r_64.toInt = r_64.toInt) (show (0 : Int32).toInt = (0 : Int) from rfl) c_65
                refine lv_iconst (v := (-1)) hx hb dX11_next_110 (by decide) ?_
                rw [hQ]
                exact W.iret (v := (-1)) hx hb hr (fun t ht hW => ⟨(-1), rfl, by
                  have zm := i_m1
                  have hB : b.toInt.toNat = 5 := by omega
                  have hn : nbN a.toInt.toNat b.toInt.toNat < 0 := by
                    rw [hB, nb5]
                    split <;> omega
                  rw [NX_no (Or.inl hn)]
                  omega, ht⟩) (fun q h => by cases h) dX11_next_111
              · skip
                have q_65 : r_64.toInt ≠ (0 : Int) := i_ne2 (rfl : r_64.toInt = r_64.toInt) (show (0 : Int32).toInt = (0 : Int) from rfl) c_65
                refine lv_iload hx hb dX11_next_100 (lv_at hl 0 rfl) ?_
                refine lv_iconst (v := 0) hx hb dX11_next_102 (by decide) ?_
                refine lv_iconst (v := 2) hx hb dX11_next_103 (by decide) ?_
                have zl_66 : (0 : Int32).toInt = (0 : Int) := rfl
                have zl_67 : (2 : Int32).toInt = (2 : Int) := rfl
                refine g_callSi (va_runS (As := [.int v_56, .int 0, .int 2]) (rest := []) ⟨hx, hb, hml, hown, hts⟩ (c_X11_isIn l v_56 0 2) (va_cwS 3 hts gX11_next_X11_isIn rfl rfl rfl (by decide +kernel) ⟨Nat.le_of_ble_eq_true rfl, Nat.le_of_ble_eq_true rfl⟩) (g_preT) rfl rfl hl.1 rfl (lv_room (Nat.le_of_ble_eq_true rfl)) dX11_next_104 ⟨Nat.zero_le _, Nat.zero_le _⟩) (fun r_68 w_68 => ?_)
                try dsimp only at w_68
                refine lv_if_ne (tgt := 112) hx hb dX11_next_107 (by decide) (fun c_69 => ?_) (fun c_69 => ?_)
                · skip
                  have q_69 : r_68.toInt ≠ (0 : Int) := i_ne2 (rfl : r_68.toInt = r_68.toInt) (show (0 : Int32).toInt = (0 : Int) from rfl) c_69
                  refine lv_iload_n hx hb dX11_next_112 rfl (lv_at hl 2 rfl) ?_
                  refine lv_bipush (v := 6) hx hb dX11_next_113 (by decide) ?_
                  refine lv_iload hx hb dX11_next_115 (lv_at hl 1 rfl) ?_
                  refine lv_imul hx hb dX11_next_117 ?_
                  refine lv_topi (fun v_70 ev_70 => ?_)
                  have tv_70 : v_70.toInt = (6 : Int) * v_9.toInt := i_mul (show (6 : Int32).toInt = (6 : Int) from rfl) (rfl : v_9.toInt = v_9.toInt) (by omega) (by omega) ev_70
                  refine lv_iadd hx hb dX11_next_118 ?_
                  refine lv_topi (fun v_71 ev_71 => ?_)
                  have tv_71 : v_71.toInt = v_4.toInt + v_70.toInt := i_add (rfl : v_4.toInt = v_4.toInt) (rfl : v_70.toInt = v_70.toInt) (by omega) (by omega) ev_71
                  refine lv_bipush (v := 36) hx hb dX11_next_119 (by decide) ?_
                  refine lv_iload hx hb dX11_next_121 (lv_at hl 0 rfl) ?_
                  refine lv_imul hx hb dX11_next_123 ?_
                  refine lv_topi (fun v_72 ev_72 => ?_)
                  have rg_73 := i_rng v_56
                  have tv_72 : v_72.toInt = (36 : Int) * v_56.toInt := i_mul (show (36 : Int32).toInt = (36 : Int) from rfl) (rfl : v_56.toInt = v_56.toInt) (by omega) (by omega) ev_72
                  refine lv_iadd hx hb dX11_next_124 ?_
                  refine lv_topi (fun v_74 ev_74 => ?_)
                  have rg_75 := i_rng v_72
                  have tv_74 : v_74.toInt = v_71.toInt + v_72.toInt := i_add (rfl : v_71.toInt = v_71.toInt) (rfl : v_72.toInt = v_72.toInt) (by omega) (by omega) ev_74
                  refine lv_istore (lv' := [(6, .int v_74), (5, .int v_56), (4, .int v_9), (3, .int v_4), (0, .ref (ad 0)), (1, .int a), (2, .int b)]) hx hb dX11_next_125 hl (by decide) rfl (fun ls hl => ?_)
                  refine lv_aload_n hx hb dX11_next_127 rfl (lv_at hl 4 rfl) ?_
                  refine lv_iload hx hb dX11_next_128 (lv_at hl 0 rfl) ?_
                  refine g_callSi (va_runV (As := [.int v_74]) (rest := []) ⟨hx, hb, hml, hown, hts⟩ (c_X11_isObstacle l D cy ad hI _ iv ar v_74 (by omega)) (cwV 1 hts gX11_next_X11_isObstacle rfl rfl rfl (by decide +kernel) ⟨Nat.le_of_ble_eq_true rfl, Nat.le_of_ble_eq_true rfl⟩) (m_preV hP hK hSt hNw hS (m_at11 (Nat.le_of_ble_eq_true rfl) rfl) rfl) rfl rfl hl.1 rfl (lv_room (Nat.le_of_ble_eq_true rfl)) dX11_next_130 ⟨Nat.zero_le _, Nat.zero_le _⟩) (fun r_76 w_76 => ?_)
                  try dsimp only at w_76
                  refine lv_if_eq (tgt := 140) hx hb dX11_next_133 (by decide) (fun c_77 => ?_) (fun c_77 => ?_)
                  · skip
                    have q_77 : r_76.toInt = (0 : Int) := i_eq2 (rfl : r_76.toInt = r_76.toInt) (show (0 : Int32).toInt = (0 : Int) from rfl) c_77
                    refine lv_iload hx hb dX11_next_140 (lv_at hl 0 rfl) ?_
                    rw [hQ]
                    exact W.iret (v := v_74) hx hb hr (fun t ht hW => ⟨v_74, rfl, by
                      have zm := i_m1
                      have hB : b.toInt.toNat = 5 := by omega
                      have hn : nbN a.toInt.toNat b.toInt.toNat = (v_74.toInt) := by
                        rw [hB, nb5]
                        split <;> omega
                      rw [NX_is (by rw [hn]; omega)]
                      omega, ht⟩) (fun q h => by cases h) dX11_next_142
                  · skip
                    have q_77 : r_76.toInt ≠ (0 : Int) := i_ne2 (rfl : r_76.toInt = r_76.toInt) (show (0 : Int32).toInt = (0 : Int) from rfl) c_77
                    refine lv_iconst (v := (-1)) hx hb dX11_next_136 (by decide) ?_
                    refine lv_goto (tgt := 142) hx hb dX11_next_137 (by decide) ?_
                    rw [hQ]
                    exact W.iret (v := (-1)) hx hb hr (fun t ht hW => ⟨(-1), rfl, by
                      have zm := i_m1
                      have hB : b.toInt.toNat = 5 := by omega
                      have hn : nbN a.toInt.toNat b.toInt.toNat = (v_74.toInt) := by
                        rw [hB, nb5]
                        split <;> omega
                      rw [NX_no (Or.inr (by rw [hn]; omega))]
                      omega, ht⟩) (fun q h => by cases h) dX11_next_142
                · skip
                  have q_69 : r_68.toInt = (0 : Int) := i_eq2 (rfl : r_68.toInt = r_68.toInt) (show (0 : Int32).toInt = (0 : Int) from rfl) c_69
                  refine lv_iconst (v := (-1)) hx hb dX11_next_110 (by decide) ?_
                  rw [hQ]
                  exact W.iret (v := (-1)) hx hb hr (fun t ht hW => ⟨(-1), rfl, by
                    have zm := i_m1
                    have hB : b.toInt.toNat = 5 := by omega
                    have hn : nbN a.toInt.toNat b.toInt.toNat < 0 := by
                      rw [hB, nb5]
                      split <;> omega
                    rw [NX_no (Or.inl hn)]
                    omega, ht⟩) (fun q h => by cases h) dX11_next_111
        · skip
          have q_8 : b.toInt = (4 : Int) := i_eq2 (rfl : b.toInt = b.toInt) (show (4 : Int32).toInt = (4 : Int) from rfl) c_8
          refine lv_iconst (v := (-1)) hx hb dX11_next_46 (by decide) ?_
          refine lv_goto (tgt := 51) hx hb dX11_next_47 (by decide) ?_
          refine lv_iadd hx hb dX11_next_51 ?_
          refine lv_topi (fun v_78 ev_78 => ?_)
          have tv_78 : v_78.toInt = v_6.toInt + (-1 : Int) := i_add (rfl : v_6.toInt = v_6.toInt) (show ((-1) : Int32).toInt = (-1 : Int) from rfl) (by omega) (by omega) ev_78
          refine lv_istore (lv' := [(4, .int v_78), (3, .int v_4), (0, .ref (ad 0)), (1, .int a), (2, .int b)]) hx hb dX11_next_52 hl (by decide) rfl (fun ls hl => ?_)
          refine lv_iload_n hx hb dX11_next_54 rfl (lv_at hl 3 rfl) ?_
          refine g_callSi (va_runS (As := [.int a]) (rest := []) ⟨hx, hb, hml, hown, hts⟩ (c_X11_layerOf l a (by omega)) (va_cwS 1 hts gX11_next_X11_layerOf rfl rfl rfl (by decide +kernel) ⟨Nat.le_of_ble_eq_true rfl, Nat.le_of_ble_eq_true rfl⟩) (g_preT) rfl rfl hl.1 rfl (lv_room (Nat.le_of_ble_eq_true rfl)) dX11_next_55 ⟨Nat.zero_le _, Nat.zero_le _⟩) (fun r_79 w_79 => ?_)
          try dsimp only at w_79
          refine lv_iload_n hx hb dX11_next_58 rfl (lv_at hl 4 rfl) ?_
          refine lv_iconst (v := 5) hx hb dX11_next_59 (by decide) ?_
          refine lv_icmp_ne (tgt := 67) hx hb dX11_next_60 (by decide) (fun c_80 => ?_) (fun c_80 => ?_)
          · skip
            have q_80 : b.toInt ≠ (5 : Int) := i_ne2 (rfl : b.toInt = b.toInt) (show (5 : Int32).toInt = (5 : Int) from rfl) c_80
            refine lv_iload_n hx hb dX11_next_67 rfl (lv_at hl 4 rfl) ?_
            refine lv_bipush (v := 6) hx hb dX11_next_68 (by decide) ?_
            refine lv_icmp_ne (tgt := 77) hx hb dX11_next_70 (by decide) (fun c_81 => ?_) (fun c_81 => ?_)
            · skip
              have q_81 : b.toInt ≠ (6 : Int) := i_ne2 (rfl : b.toInt = b.toInt) (show (6 : Int32).toInt = (6 : Int) from rfl) c_81
              refine lv_iconst (v := 0) hx hb dX11_next_77 (by decide) ?_
              refine lv_iadd hx hb dX11_next_78 ?_
              refine lv_topi (fun v_82 ev_82 => ?_)
              have tv_82 : v_82.toInt = r_79.toInt + (0 : Int) := i_add (rfl : r_79.toInt = r_79.toInt) (show (0 : Int32).toInt = (0 : Int) from rfl) (by omega) (by omega) ev_82
              refine lv_istore (lv' := [(5, .int v_82), (4, .int v_78), (3, .int v_4), (0, .ref (ad 0)), (1, .int a), (2, .int b)]) hx hb dX11_next_79 hl (by decide) rfl (fun ls hl => ?_)
              refine lv_iload_n hx hb dX11_next_81 rfl (lv_at hl 2 rfl) ?_
              refine lv_iconst (v := 0) hx hb dX11_next_82 (by decide) ?_
              refine lv_iconst (v := 5) hx hb dX11_next_83 (by decide) ?_
              have zl_83 : (0 : Int32).toInt = (0 : Int) := rfl
              have zl_84 : (5 : Int32).toInt = (5 : Int) := rfl
              refine g_callSi (va_runS (As := [.int v_4, .int 0, .int 5]) (rest := []) ⟨hx, hb, hml, hown, hts⟩ (c_X11_isIn l v_4 0 5) (va_cwS 3 hts gX11_next_X11_isIn rfl rfl rfl (by decide +kernel) ⟨Nat.le_of_ble_eq_true rfl, Nat.le_of_ble_eq_true rfl⟩) (g_preT) rfl rfl hl.1 rfl (lv_room (Nat.le_of_ble_eq_true rfl)) dX11_next_84 ⟨Nat.zero_le _, Nat.zero_le _⟩) (fun r_85 w_85 => ?_)
              try dsimp only at w_85
              refine lv_if_eq (tgt := 110) hx hb dX11_next_87 (by decide) (fun c_86 => ?_) (fun c_86 => ?_)
              · skip
                have q_86 : r_85.toInt = (0 : Int) := i_eq2 (rfl : r_85.toInt = r_85.toInt) (show (0 : Int32).toInt = (0 : Int) from rfl) c_86
                refine lv_iconst (v := (-1)) hx hb dX11_next_110 (by decide) ?_
                rw [hQ]
                exact W.iret (v := (-1)) hx hb hr (fun t ht hW => ⟨(-1), rfl, by
                  have zm := i_m1
                  have hB : b.toInt.toNat = 4 := by omega
                  have hn : nbN a.toInt.toNat b.toInt.toNat < 0 := by
                    rw [hB, nb4]
                    split <;> omega
                  rw [NX_no (Or.inl hn)]
                  omega, ht⟩) (fun q h => by cases h) dX11_next_111
              · skip
                have q_86 : r_85.toInt ≠ (0 : Int) := i_ne2 (rfl : r_85.toInt = r_85.toInt) (show (0 : Int32).toInt = (0 : Int) from rfl) c_86
                refine lv_iload hx hb dX11_next_90 (lv_at hl 1 rfl) ?_
                refine lv_iconst (v := 0) hx hb dX11_next_92 (by decide) ?_
                refine lv_iconst (v := 5) hx hb dX11_next_93 (by decide) ?_
                have zl_87 : (0 : Int32).toInt = (0 : Int) := rfl
                have zl_88 : (5 : Int32).toInt = (5 : Int) := rfl
                refine g_callSi (va_runS (As := [.int v_78, .int 0, .int 5]) (rest := []) ⟨hx, hb, hml, hown, hts⟩ (c_X11_isIn l v_78 0 5) (va_cwS 3 hts gX11_next_X11_isIn rfl rfl rfl (by decide +kernel) ⟨Nat.le_of_ble_eq_true rfl, Nat.le_of_ble_eq_true rfl⟩) (g_preT) rfl rfl hl.1 rfl (lv_room (Nat.le_of_ble_eq_true rfl)) dX11_next_94 ⟨Nat.zero_le _, Nat.zero_le _⟩) (fun r_89 w_89 => ?_)
                try dsimp only at w_89
                refine lv_if_eq (tgt := 110) hx hb dX11_next_97 (by decide) (fun c_90 => ?_) (fun c_90 => ?_)
                · skip
                  have q_90 : r_89.toInt = (0 : Int) := i_eq2 (rfl : r_89.toInt = r_89.toInt) (show (0 : Int32).toInt = (0 : Int) from rfl) c_90
                  refine lv_iconst (v := (-1)) hx hb dX11_next_110 (by decide) ?_
                  rw [hQ]
                  exact W.iret (v := (-1)) hx hb hr (fun t ht hW => ⟨(-1), rfl, by
                    have zm := i_m1
                    have hB : b.toInt.toNat = 4 := by omega
                    have hn : nbN a.toInt.toNat b.toInt.toNat < 0 := by
                      rw [hB, nb4]
                      split <;> omega
                    rw [NX_no (Or.inl hn)]
                    omega, ht⟩) (fun q h => by cases h) dX11_next_111
                · skip
                  have q_90 : r_89.toInt ≠ (0 : Int) := i_ne2 (rfl : r_89.toInt = r_89.toInt) (show (0 : Int32).toInt = (0 : Int) from rfl) c_90
                  refine lv_iload hx hb dX11_next_100 (lv_at hl 0 rfl) ?_
                  refine lv_iconst (v := 0) hx hb dX11_next_102 (by decide) ?_
                  refine lv_iconst (v := 2) hx hb dX11_next_103 (by decide) ?_
                  have zl_91 : (0 : Int32).toInt = (0 : Int) := rfl
                  have zl_92 : (2 : Int32).toInt = (2 : Int) := rfl
                  refine g_callSi (va_runS (As := [.int v_82, .int 0, .int 2]) (rest := []) ⟨hx, hb, hml, hown, hts⟩ (c_X11_isIn l v_82 0 2) (va_cwS 3 hts gX11_next_X11_isIn rfl rfl rfl (by decide +kernel) ⟨Nat.le_of_ble_eq_true rfl, Nat.le_of_ble_eq_true rfl⟩) (g_preT) rfl rfl hl.1 rfl (lv_room (Nat.le_of_ble_eq_true rfl)) dX11_next_104 ⟨Nat.zero_le _, Nat.zero_le _⟩) (fun r_93 w_93 => ?_)
                  try dsimp only at w_93
                  refine lv_if_ne (tgt := 112) hx hb dX11_next_107 (by decide) (fun c_94 => ?_) (fun c_94 => ?_)
                  · skip
                    have q_94 : r_93.toInt ≠ (0 : Int) := i_ne2 (rfl : r_93.toInt = r_93.toInt) (show (0 : Int32).toInt = (0 : Int) from rfl) c_94
                    refine lv_iload_n hx hb dX11_next_112 rfl (lv_at hl 2 rfl) ?_
                    refine lv_bipush (v := 6) hx hb dX11_next_113 (by decide) ?_
                    refine lv_iload hx hb dX11_next_115 (lv_at hl 1 rfl) ?_
                    refine lv_imul hx hb dX11_next_117 ?_
                    refine lv_topi (fun v_95 ev_95 => ?_)
                    have tv_95 : v_95.toInt = (6 : Int) * v_78.toInt := i_mul (show (6 : Int32).toInt = (6 : Int) from rfl) (rfl : v_78.toInt = v_78.toInt) (by omega) (by omega) ev_95
                    refine lv_iadd hx hb dX11_next_118 ?_
                    refine lv_topi (fun v_96 ev_96 => ?_)
                    have tv_96 : v_96.toInt = v_4.toInt + v_95.toInt := i_add (rfl : v_4.toInt = v_4.toInt) (rfl : v_95.toInt = v_95.toInt) (by omega) (by omega) ev_96
                    refine lv_bipush (v := 36) hx hb dX11_next_119 (by decide) ?_
                    refine lv_iload hx hb dX11_next_121 (lv_at hl 0 rfl) ?_
                    refine lv_imul hx hb dX11_next_123 ?_
                    refine lv_topi (fun v_97 ev_97 => ?_)
                    have rg_98 := i_rng v_82
                    have tv_97 : v_97.toInt = (36 : Int) * v_82.toInt := i_mul (show (36 : Int32).toInt = (36 : Int) from rfl) (rfl : v_82.toInt = v_82.toInt) (by omega) (by omega) ev_97
                    refine lv_iadd hx hb dX11_next_124 ?_
                    refine lv_topi (fun v_99 ev_99 => ?_)
                    have rg_100 := i_rng v_97
                    have tv_99 : v_99.toInt = v_96.toInt + v_97.toInt := i_add (rfl : v_96.toInt = v_96.toInt) (rfl : v_97.toInt = v_97.toInt) (by omega) (by omega) ev_99
                    refine lv_istore (lv' := [(6, .int v_99), (5, .int v_82), (4, .int v_78), (3, .int v_4), (0, .ref (ad 0)), (1, .int a), (2, .int b)]) hx hb dX11_next_125 hl (by decide) rfl (fun ls hl => ?_)
                    refine lv_aload_n hx hb dX11_next_127 rfl (lv_at hl 4 rfl) ?_
                    refine lv_iload hx hb dX11_next_128 (lv_at hl 0 rfl) ?_
                    refine g_callSi (va_runV (As := [.int v_99]) (rest := []) ⟨hx, hb, hml, hown, hts⟩ (c_X11_isObstacle l D cy ad hI _ iv ar v_99 (by omega)) (cwV 1 hts gX11_next_X11_isObstacle rfl rfl rfl (by decide +kernel) ⟨Nat.le_of_ble_eq_true rfl, Nat.le_of_ble_eq_true rfl⟩) (m_preV hP hK hSt hNw hS (m_at11 (Nat.le_of_ble_eq_true rfl) rfl) rfl) rfl rfl hl.1 rfl (lv_room (Nat.le_of_ble_eq_true rfl)) dX11_next_130 ⟨Nat.zero_le _, Nat.zero_le _⟩) (fun r_101 w_101 => ?_)
                    try dsimp only at w_101
                    refine lv_if_eq (tgt := 140) hx hb dX11_next_133 (by decide) (fun c_102 => ?_) (fun c_102 => ?_)
                    · skip
                      have q_102 : r_101.toInt = (0 : Int) := i_eq2 (rfl : r_101.toInt = r_101.toInt) (show (0 : Int32).toInt = (0 : Int) from rfl) c_102
                      refine lv_iload hx hb dX11_next_140 (lv_at hl 0 rfl) ?_
                      rw [hQ]
                      exact W.iret (v := v_99) hx hb hr (fun t ht hW => ⟨v_99, rfl, by
                        have zm := i_m1
                        have hB : b.toInt.toNat = 4 := by omega
                        have hn : nbN a.toInt.toNat b.toInt.toNat = (v_99.toInt) := by
                          rw [hB, nb4]
                          split <;> omega
                        rw [NX_is (by rw [hn]; omega)]
                        omega, ht⟩) (fun q h => by cases h) dX11_next_142
                    · skip
                      have q_102 : r_101.toInt ≠ (0 : Int) := i_ne2 (rfl : r_101.toInt = r_101.toInt) (show (0 : Int32).toInt = (0 : Int) from rfl) c_102
                      refine lv_iconst (v := (-1)) hx hb dX11_next_136 (by decide) ?_
                      refine lv_goto (tgt := 142) hx hb dX11_next_137 (by decide) ?_
                      rw [hQ]
                      exact W.iret (v := (-1)) hx hb hr (fun t ht hW => ⟨(-1), rfl, by
                        have zm := i_m1
                        have hB : b.toInt.toNat = 4 := by omega
                        have hn : nbN a.toInt.toNat b.toInt.toNat = (v_99.toInt) := by
                          rw [hB, nb4]
                          split <;> omega
                        rw [NX_no (Or.inr (by rw [hn]; omega))]
                        omega, ht⟩) (fun q h => by cases h) dX11_next_142
                  · skip
                    have q_94 : r_93.toInt = (0 : Int) := i_eq2 (rfl : r_93.toInt = r_93.toInt) (show (0 : Int32).toInt = (0 : Int) from rfl) c_94
                    refine lv_iconst (v := (-1)) hx hb dX11_next_110 (by decide) ?_
                    rw [hQ]
                    exact W.iret (v := (-1)) hx hb hr (fun t ht hW => ⟨(-1), rfl, by
                      have zm := i_m1
                      have hB : b.toInt.toNat = 4 := by omega
                      have hn : nbN a.toInt.toNat b.toInt.toNat < 0 := by
                        rw [hB, nb4]
                        split <;> omega
                      rw [NX_no (Or.inl hn)]
                      omega, ht⟩) (fun q h => by cases h) dX11_next_111
            · skip
              have q_81 : b.toInt = (6 : Int) := i_eq2 (rfl : b.toInt = b.toInt) (show (6 : Int32).toInt = (6 : Int) from rfl) c_81
              exfalso; omega
          · skip
            have q_80 : b.toInt = (5 : Int) := i_eq2 (rfl : b.toInt = b.toInt) (show (5 : Int32).toInt = (5 : Int) from rfl) c_80
            exfalso; omega
      · skip
        have q_7 : b.toInt = (3 : Int) := i_eq2 (rfl : b.toInt = b.toInt) (show (3 : Int32).toInt = (3 : Int) from rfl) c_7
        refine lv_iconst (v := 1) hx hb dX11_next_37 (by decide) ?_
        refine lv_goto (tgt := 51) hx hb dX11_next_38 (by decide) ?_
        refine lv_iadd hx hb dX11_next_51 ?_
        refine lv_topi (fun v_103 ev_103 => ?_)
        have tv_103 : v_103.toInt = v_6.toInt + (1 : Int) := i_add (rfl : v_6.toInt = v_6.toInt) (show (1 : Int32).toInt = (1 : Int) from rfl) (by omega) (by omega) ev_103
        refine lv_istore (lv' := [(4, .int v_103), (3, .int v_4), (0, .ref (ad 0)), (1, .int a), (2, .int b)]) hx hb dX11_next_52 hl (by decide) rfl (fun ls hl => ?_)
        refine lv_iload_n hx hb dX11_next_54 rfl (lv_at hl 3 rfl) ?_
        refine g_callSi (va_runS (As := [.int a]) (rest := []) ⟨hx, hb, hml, hown, hts⟩ (c_X11_layerOf l a (by omega)) (va_cwS 1 hts gX11_next_X11_layerOf rfl rfl rfl (by decide +kernel) ⟨Nat.le_of_ble_eq_true rfl, Nat.le_of_ble_eq_true rfl⟩) (g_preT) rfl rfl hl.1 rfl (lv_room (Nat.le_of_ble_eq_true rfl)) dX11_next_55 ⟨Nat.zero_le _, Nat.zero_le _⟩) (fun r_104 w_104 => ?_)
        try dsimp only at w_104
        refine lv_iload_n hx hb dX11_next_58 rfl (lv_at hl 4 rfl) ?_
        refine lv_iconst (v := 5) hx hb dX11_next_59 (by decide) ?_
        refine lv_icmp_ne (tgt := 67) hx hb dX11_next_60 (by decide) (fun c_105 => ?_) (fun c_105 => ?_)
        · skip
          have q_105 : b.toInt ≠ (5 : Int) := i_ne2 (rfl : b.toInt = b.toInt) (show (5 : Int32).toInt = (5 : Int) from rfl) c_105
          refine lv_iload_n hx hb dX11_next_67 rfl (lv_at hl 4 rfl) ?_
          refine lv_bipush (v := 6) hx hb dX11_next_68 (by decide) ?_
          refine lv_icmp_ne (tgt := 77) hx hb dX11_next_70 (by decide) (fun c_106 => ?_) (fun c_106 => ?_)
          · skip
            have q_106 : b.toInt ≠ (6 : Int) := i_ne2 (rfl : b.toInt = b.toInt) (show (6 : Int32).toInt = (6 : Int) from rfl) c_106
            refine lv_iconst (v := 0) hx hb dX11_next_77 (by decide) ?_
            refine lv_iadd hx hb dX11_next_78 ?_
            refine lv_topi (fun v_107 ev_107 => ?_)
            have tv_107 : v_107.toInt = r_104.toInt + (0 : Int) := i_add (rfl : r_104.toInt = r_104.toInt) (show (0 : Int32).toInt = (0 : Int) from rfl) (by omega) (by omega) ev_107
            refine lv_istore (lv' := [(5, .int v_107), (4, .int v_103), (3, .int v_4), (0, .ref (ad 0)), (1, .int a), (2, .int b)]) hx hb dX11_next_79 hl (by decide) rfl (fun ls hl => ?_)
            refine lv_iload_n hx hb dX11_next_81 rfl (lv_at hl 2 rfl) ?_
            refine lv_iconst (v := 0) hx hb dX11_next_82 (by decide) ?_
            refine lv_iconst (v := 5) hx hb dX11_next_83 (by decide) ?_
            have zl_108 : (0 : Int32).toInt = (0 : Int) := rfl
            have zl_109 : (5 : Int32).toInt = (5 : Int) := rfl
            refine g_callSi (va_runS (As := [.int v_4, .int 0, .int 5]) (rest := []) ⟨hx, hb, hml, hown, hts⟩ (c_X11_isIn l v_4 0 5) (va_cwS 3 hts gX11_next_X11_isIn rfl rfl rfl (by decide +kernel) ⟨Nat.le_of_ble_eq_true rfl, Nat.le_of_ble_eq_true rfl⟩) (g_preT) rfl rfl hl.1 rfl (lv_room (Nat.le_of_ble_eq_true rfl)) dX11_next_84 ⟨Nat.zero_le _, Nat.zero_le _⟩) (fun r_110 w_110 => ?_)
            try dsimp only at w_110
            refine lv_if_eq (tgt := 110) hx hb dX11_next_87 (by decide) (fun c_111 => ?_) (fun c_111 => ?_)
            · skip
              have q_111 : r_110.toInt = (0 : Int) := i_eq2 (rfl : r_110.toInt = r_110.toInt) (show (0 : Int32).toInt = (0 : Int) from rfl) c_111
              refine lv_iconst (v := (-1)) hx hb dX11_next_110 (by decide) ?_
              rw [hQ]
              exact W.iret (v := (-1)) hx hb hr (fun t ht hW => ⟨(-1), rfl, by
                have zm := i_m1
                have hB : b.toInt.toNat = 3 := by omega
                have hn : nbN a.toInt.toNat b.toInt.toNat < 0 := by
                  rw [hB, nb3]
                  split <;> omega
                rw [NX_no (Or.inl hn)]
                omega, ht⟩) (fun q h => by cases h) dX11_next_111
            · skip
              have q_111 : r_110.toInt ≠ (0 : Int) := i_ne2 (rfl : r_110.toInt = r_110.toInt) (show (0 : Int32).toInt = (0 : Int) from rfl) c_111
              refine lv_iload hx hb dX11_next_90 (lv_at hl 1 rfl) ?_
              refine lv_iconst (v := 0) hx hb dX11_next_92 (by decide) ?_
              refine lv_iconst (v := 5) hx hb dX11_next_93 (by decide) ?_
              have zl_112 : (0 : Int32).toInt = (0 : Int) := rfl
              have zl_113 : (5 : Int32).toInt = (5 : Int) := rfl
              refine g_callSi (va_runS (As := [.int v_103, .int 0, .int 5]) (rest := []) ⟨hx, hb, hml, hown, hts⟩ (c_X11_isIn l v_103 0 5) (va_cwS 3 hts gX11_next_X11_isIn rfl rfl rfl (by decide +kernel) ⟨Nat.le_of_ble_eq_true rfl, Nat.le_of_ble_eq_true rfl⟩) (g_preT) rfl rfl hl.1 rfl (lv_room (Nat.le_of_ble_eq_true rfl)) dX11_next_94 ⟨Nat.zero_le _, Nat.zero_le _⟩) (fun r_114 w_114 => ?_)
              try dsimp only at w_114
              refine lv_if_eq (tgt := 110) hx hb dX11_next_97 (by decide) (fun c_115 => ?_) (fun c_115 => ?_)
              · skip
                have q_115 : r_114.toInt = (0 : Int) := i_eq2 (rfl : r_114.toInt = r_114.toInt) (show (0 : Int32).toInt = (0 : Int) from rfl) c_115
                refine lv_iconst (v := (-1)) hx hb dX11_next_110 (by decide) ?_
                rw [hQ]
                exact W.iret (v := (-1)) hx hb hr (fun t ht hW => ⟨(-1), rfl, by
                  have zm := i_m1
                  have hB : b.toInt.toNat = 3 := by omega
                  have hn : nbN a.toInt.toNat b.toInt.toNat < 0 := by
                    rw [hB, nb3]
                    split <;> omega
                  rw [NX_no (Or.inl hn)]
                  omega, ht⟩) (fun q h => by cases h) dX11_next_111
              · skip
                have q_115 : r_114.toInt ≠ (0 : Int) := i_ne2 (rfl : r_114.toInt = r_114.toInt) (show (0 : Int32).toInt = (0 : Int) from rfl) c_115
                refine lv_iload hx hb dX11_next_100 (lv_at hl 0 rfl) ?_
                refine lv_iconst (v := 0) hx hb dX11_next_102 (by decide) ?_
                refine lv_iconst (v := 2) hx hb dX11_next_103 (by decide) ?_
                have zl_116 : (0 : Int32).toInt = (0 : Int) := rfl
                have zl_117 : (2 : Int32).toInt = (2 : Int) := rfl
                refine g_callSi (va_runS (As := [.int v_107, .int 0, .int 2]) (rest := []) ⟨hx, hb, hml, hown, hts⟩ (c_X11_isIn l v_107 0 2) (va_cwS 3 hts gX11_next_X11_isIn rfl rfl rfl (by decide +kernel) ⟨Nat.le_of_ble_eq_true rfl, Nat.le_of_ble_eq_true rfl⟩) (g_preT) rfl rfl hl.1 rfl (lv_room (Nat.le_of_ble_eq_true rfl)) dX11_next_104 ⟨Nat.zero_le _, Nat.zero_le _⟩) (fun r_118 w_118 => ?_)
                try dsimp only at w_118
                refine lv_if_ne (tgt := 112) hx hb dX11_next_107 (by decide) (fun c_119 => ?_) (fun c_119 => ?_)
                · skip
                  have q_119 : r_118.toInt ≠ (0 : Int) := i_ne2 (rfl : r_118.toInt = r_118.toInt) (show (0 : Int32).toInt = (0 : Int) from rfl) c_119
                  refine lv_iload_n hx hb dX11_next_112 rfl (lv_at hl 2 rfl) ?_
                  refine lv_bipush (v := 6) hx hb dX11_next_113 (by decide) ?_
                  refine lv_iload hx hb dX11_next_115 (lv_at hl 1 rfl) ?_
                  refine lv_imul hx hb dX11_next_117 ?_
                  refine lv_topi (fun v_120 ev_120 => ?_)
                  have tv_120 : v_120.toInt = (6 : Int) * v_103.toInt := i_mul (show (6 : Int32).toInt = (6 : Int) from rfl) (rfl : v_103.toInt = v_103.toInt) (by omega) (by omega) ev_120
                  refine lv_iadd hx hb dX11_next_118 ?_
                  refine lv_topi (fun v_121 ev_121 => ?_)
                  have tv_121 : v_121.toInt = v_4.toInt + v_120.toInt := i_add (rfl : v_4.toInt = v_4.toInt) (rfl : v_120.toInt = v_120.toInt) (by omega) (by omega) ev_121
                  refine lv_bipush (v := 36) hx hb dX11_next_119 (by decide) ?_
                  refine lv_iload hx hb dX11_next_121 (lv_at hl 0 rfl) ?_
                  refine lv_imul hx hb dX11_next_123 ?_
                  refine lv_topi (fun v_122 ev_122 => ?_)
                  have rg_123 := i_rng v_107
                  have tv_122 : v_122.toInt = (36 : Int) * v_107.toInt := i_mul (show (36 : Int32).toInt = (36 : Int) from rfl) (rfl : v_107.toInt = v_107.toInt) (by omega) (by omega) ev_122
                  refine lv_iadd hx hb dX11_next_124 ?_
                  refine lv_topi (fun v_124 ev_124 => ?_)
                  have rg_125 := i_rng v_122
                  have tv_124 : v_124.toInt = v_121.toInt + v_122.toInt := i_add (rfl : v_121.toInt = v_121.toInt) (rfl : v_122.toInt = v_122.toInt) (by omega) (by omega) ev_124
                  refine lv_istore (lv' := [(6, .int v_124), (5, .int v_107), (4, .int v_103), (3, .int v_4), (0, .ref (ad 0)), (1, .int a), (2, .int b)]) hx hb dX11_next_125 hl (by decide) rfl (fun ls hl => ?_)
                  refine lv_aload_n hx hb dX11_next_127 rfl (lv_at hl 4 rfl) ?_
                  refine lv_iload hx hb dX11_next_128 (lv_at hl 0 rfl) ?_
                  refine g_callSi (va_runV (As := [.int v_124]) (rest := []) ⟨hx, hb, hml, hown, hts⟩ (c_X11_isObstacle l D cy ad hI _ iv ar v_124 (by omega)) (cwV 1 hts gX11_next_X11_isObstacle rfl rfl rfl (by decide +kernel) ⟨Nat.le_of_ble_eq_true rfl, Nat.le_of_ble_eq_true rfl⟩) (m_preV hP hK hSt hNw hS (m_at11 (Nat.le_of_ble_eq_true rfl) rfl) rfl) rfl rfl hl.1 rfl (lv_room (Nat.le_of_ble_eq_true rfl)) dX11_next_130 ⟨Nat.zero_le _, Nat.zero_le _⟩) (fun r_126 w_126 => ?_)
                  try dsimp only at w_126
                  refine lv_if_eq (tgt := 140) hx hb dX11_next_133 (by decide) (fun c_127 => ?_) (fun c_127 => ?_)
                  · skip
                    have q_127 : r_126.toInt = (0 : Int) := i_eq2 (rfl : r_126.toInt = r_126.toInt) (show (0 : Int32).toInt = (0 : Int) from rfl) c_127
                    refine lv_iload hx hb dX11_next_140 (lv_at hl 0 rfl) ?_
                    rw [hQ]
                    exact W.iret (v := v_124) hx hb hr (fun t ht hW => ⟨v_124, rfl, by
                      have zm := i_m1
                      have hB : b.toInt.toNat = 3 := by omega
                      have hn : nbN a.toInt.toNat b.toInt.toNat = (v_124.toInt) := by
                        rw [hB, nb3]
                        split <;> omega
                      rw [NX_is (by rw [hn]; omega)]
                      omega, ht⟩) (fun q h => by cases h) dX11_next_142
                  · skip
                    have q_127 : r_126.toInt ≠ (0 : Int) := i_ne2 (rfl : r_126.toInt = r_126.toInt) (show (0 : Int32).toInt = (0 : Int) from rfl) c_127
                    refine lv_iconst (v := (-1)) hx hb dX11_next_136 (by decide) ?_
                    refine lv_goto (tgt := 142) hx hb dX11_next_137 (by decide) ?_
                    rw [hQ]
                    exact W.iret (v := (-1)) hx hb hr (fun t ht hW => ⟨(-1), rfl, by
                      have zm := i_m1
                      have hB : b.toInt.toNat = 3 := by omega
                      have hn : nbN a.toInt.toNat b.toInt.toNat = (v_124.toInt) := by
                        rw [hB, nb3]
                        split <;> omega
                      rw [NX_no (Or.inr (by rw [hn]; omega))]
                      omega, ht⟩) (fun q h => by cases h) dX11_next_142
                · skip
                  have q_119 : r_118.toInt = (0 : Int) := i_eq2 (rfl : r_118.toInt = r_118.toInt) (show (0 : Int32).toInt = (0 : Int) from rfl) c_119
                  refine lv_iconst (v := (-1)) hx hb dX11_next_110 (by decide) ?_
                  rw [hQ]
                  exact W.iret (v := (-1)) hx hb hr (fun t ht hW => ⟨(-1), rfl, by
                    have zm := i_m1
                    have hB : b.toInt.toNat = 3 := by omega
                    have hn : nbN a.toInt.toNat b.toInt.toNat < 0 := by
                      rw [hB, nb3]
                      split <;> omega
                    rw [NX_no (Or.inl hn)]
                    omega, ht⟩) (fun q h => by cases h) dX11_next_111
          · skip
            have q_106 : b.toInt = (6 : Int) := i_eq2 (rfl : b.toInt = b.toInt) (show (6 : Int32).toInt = (6 : Int) from rfl) c_106
            exfalso; omega
        · skip
          have q_105 : b.toInt = (5 : Int) := i_eq2 (rfl : b.toInt = b.toInt) (show (5 : Int32).toInt = (5 : Int) from rfl) c_105
          exfalso; omega
    · skip
      have q_3 : b.toInt = (2 : Int) := i_eq2 (rfl : b.toInt = b.toInt) (show (2 : Int32).toInt = (2 : Int) from rfl) c_3
      refine lv_iconst (v := (-1)) hx hb dX11_next_18 (by decide) ?_
      refine lv_goto (tgt := 23) hx hb dX11_next_19 (by decide) ?_
      refine lv_iadd hx hb dX11_next_23 ?_
      refine lv_topi (fun v_128 ev_128 => ?_)
      have tv_128 : v_128.toInt = v_1.toInt + (-1 : Int) := i_add (rfl : v_1.toInt = v_1.toInt) (show ((-1) : Int32).toInt = (-1 : Int) from rfl) (by omega) (by omega) ev_128
      refine lv_istore_n (lv' := [(3, .int v_128), (0, .ref (ad 0)), (1, .int a), (2, .int b)]) hx hb dX11_next_24 rfl hl (by decide) rfl (fun ls hl => ?_)
      refine lv_iload_n hx hb dX11_next_25 rfl (lv_at hl 2 rfl) ?_
      refine lv_bipush (v := 6) hx hb dX11_next_26 (by decide) ?_
      refine lv_idiv hx hb dX11_next_28 (by decide) ?_
      refine lv_topi (fun v_129 ev_129 => ?_)
      have tv_129 : v_129.toInt = a.toInt / (6 : Int) := i_div (rfl : a.toInt = a.toInt) (show (6 : Int32).toInt = (6 : Int) from rfl) (by omega) (by omega) ev_129
      refine lv_bipush (v := 6) hx hb dX11_next_29 (by decide) ?_
      refine lv_irem hx hb dX11_next_31 (by decide) ?_
      refine lv_topi (fun v_130 ev_130 => ?_)
      have tv_130 : v_130.toInt = v_129.toInt % (6 : Int) := i_rem (rfl : v_129.toInt = v_129.toInt) (show (6 : Int32).toInt = (6 : Int) from rfl) (by omega) (by omega) ev_130
      refine lv_iload_n hx hb dX11_next_32 rfl (lv_at hl 3 rfl) ?_
      refine lv_iconst (v := 3) hx hb dX11_next_33 (by decide) ?_
      refine lv_icmp_ne (tgt := 41) hx hb dX11_next_34 (by decide) (fun c_131 => ?_) (fun c_131 => ?_)
      · skip
        have q_131 : b.toInt ≠ (3 : Int) := i_ne2 (rfl : b.toInt = b.toInt) (show (3 : Int32).toInt = (3 : Int) from rfl) c_131
        refine lv_iload_n hx hb dX11_next_41 rfl (lv_at hl 3 rfl) ?_
        refine lv_iconst (v := 4) hx hb dX11_next_42 (by decide) ?_
        refine lv_icmp_ne (tgt := 50) hx hb dX11_next_43 (by decide) (fun c_132 => ?_) (fun c_132 => ?_)
        · skip
          have q_132 : b.toInt ≠ (4 : Int) := i_ne2 (rfl : b.toInt = b.toInt) (show (4 : Int32).toInt = (4 : Int) from rfl) c_132
          refine lv_iconst (v := 0) hx hb dX11_next_50 (by decide) ?_
          refine lv_iadd hx hb dX11_next_51 ?_
          refine lv_topi (fun v_133 ev_133 => ?_)
          have tv_133 : v_133.toInt = v_130.toInt + (0 : Int) := i_add (rfl : v_130.toInt = v_130.toInt) (show (0 : Int32).toInt = (0 : Int) from rfl) (by omega) (by omega) ev_133
          refine lv_istore (lv' := [(4, .int v_133), (3, .int v_128), (0, .ref (ad 0)), (1, .int a), (2, .int b)]) hx hb dX11_next_52 hl (by decide) rfl (fun ls hl => ?_)
          refine lv_iload_n hx hb dX11_next_54 rfl (lv_at hl 3 rfl) ?_
          refine g_callSi (va_runS (As := [.int a]) (rest := []) ⟨hx, hb, hml, hown, hts⟩ (c_X11_layerOf l a (by omega)) (va_cwS 1 hts gX11_next_X11_layerOf rfl rfl rfl (by decide +kernel) ⟨Nat.le_of_ble_eq_true rfl, Nat.le_of_ble_eq_true rfl⟩) (g_preT) rfl rfl hl.1 rfl (lv_room (Nat.le_of_ble_eq_true rfl)) dX11_next_55 ⟨Nat.zero_le _, Nat.zero_le _⟩) (fun r_134 w_134 => ?_)
          try dsimp only at w_134
          refine lv_iload_n hx hb dX11_next_58 rfl (lv_at hl 4 rfl) ?_
          refine lv_iconst (v := 5) hx hb dX11_next_59 (by decide) ?_
          refine lv_icmp_ne (tgt := 67) hx hb dX11_next_60 (by decide) (fun c_135 => ?_) (fun c_135 => ?_)
          · skip
            have q_135 : b.toInt ≠ (5 : Int) := i_ne2 (rfl : b.toInt = b.toInt) (show (5 : Int32).toInt = (5 : Int) from rfl) c_135
            refine lv_iload_n hx hb dX11_next_67 rfl (lv_at hl 4 rfl) ?_
            refine lv_bipush (v := 6) hx hb dX11_next_68 (by decide) ?_
            refine lv_icmp_ne (tgt := 77) hx hb dX11_next_70 (by decide) (fun c_136 => ?_) (fun c_136 => ?_)
            · skip
              have q_136 : b.toInt ≠ (6 : Int) := i_ne2 (rfl : b.toInt = b.toInt) (show (6 : Int32).toInt = (6 : Int) from rfl) c_136
              refine lv_iconst (v := 0) hx hb dX11_next_77 (by decide) ?_
              refine lv_iadd hx hb dX11_next_78 ?_
              refine lv_topi (fun v_137 ev_137 => ?_)
              have tv_137 : v_137.toInt = r_134.toInt + (0 : Int) := i_add (rfl : r_134.toInt = r_134.toInt) (show (0 : Int32).toInt = (0 : Int) from rfl) (by omega) (by omega) ev_137
              refine lv_istore (lv' := [(5, .int v_137), (4, .int v_133), (3, .int v_128), (0, .ref (ad 0)), (1, .int a), (2, .int b)]) hx hb dX11_next_79 hl (by decide) rfl (fun ls hl => ?_)
              refine lv_iload_n hx hb dX11_next_81 rfl (lv_at hl 2 rfl) ?_
              refine lv_iconst (v := 0) hx hb dX11_next_82 (by decide) ?_
              refine lv_iconst (v := 5) hx hb dX11_next_83 (by decide) ?_
              have zl_138 : (0 : Int32).toInt = (0 : Int) := rfl
              have zl_139 : (5 : Int32).toInt = (5 : Int) := rfl
              refine g_callSi (va_runS (As := [.int v_128, .int 0, .int 5]) (rest := []) ⟨hx, hb, hml, hown, hts⟩ (c_X11_isIn l v_128 0 5) (va_cwS 3 hts gX11_next_X11_isIn rfl rfl rfl (by decide +kernel) ⟨Nat.le_of_ble_eq_true rfl, Nat.le_of_ble_eq_true rfl⟩) (g_preT) rfl rfl hl.1 rfl (lv_room (Nat.le_of_ble_eq_true rfl)) dX11_next_84 ⟨Nat.zero_le _, Nat.zero_le _⟩) (fun r_140 w_140 => ?_)
              try dsimp only at w_140
              refine lv_if_eq (tgt := 110) hx hb dX11_next_87 (by decide) (fun c_141 => ?_) (fun c_141 => ?_)
              · skip
                have q_141 : r_140.toInt = (0 : Int) := i_eq2 (rfl : r_140.toInt = r_140.toInt) (show (0 : Int32).toInt = (0 : Int) from rfl) c_141
                refine lv_iconst (v := (-1)) hx hb dX11_next_110 (by decide) ?_
                rw [hQ]
                exact W.iret (v := (-1)) hx hb hr (fun t ht hW => ⟨(-1), rfl, by
                  have zm := i_m1
                  have hB : b.toInt.toNat = 2 := by omega
                  have hn : nbN a.toInt.toNat b.toInt.toNat < 0 := by
                    rw [hB, nb2]
                    split <;> omega
                  rw [NX_no (Or.inl hn)]
                  omega, ht⟩) (fun q h => by cases h) dX11_next_111
              · skip
                have q_141 : r_140.toInt ≠ (0 : Int) := i_ne2 (rfl : r_140.toInt = r_140.toInt) (show (0 : Int32).toInt = (0 : Int) from rfl) c_141
                refine lv_iload hx hb dX11_next_90 (lv_at hl 1 rfl) ?_
                refine lv_iconst (v := 0) hx hb dX11_next_92 (by decide) ?_
                refine lv_iconst (v := 5) hx hb dX11_next_93 (by decide) ?_
                have zl_142 : (0 : Int32).toInt = (0 : Int) := rfl
                have zl_143 : (5 : Int32).toInt = (5 : Int) := rfl
                refine g_callSi (va_runS (As := [.int v_133, .int 0, .int 5]) (rest := []) ⟨hx, hb, hml, hown, hts⟩ (c_X11_isIn l v_133 0 5) (va_cwS 3 hts gX11_next_X11_isIn rfl rfl rfl (by decide +kernel) ⟨Nat.le_of_ble_eq_true rfl, Nat.le_of_ble_eq_true rfl⟩) (g_preT) rfl rfl hl.1 rfl (lv_room (Nat.le_of_ble_eq_true rfl)) dX11_next_94 ⟨Nat.zero_le _, Nat.zero_le _⟩) (fun r_144 w_144 => ?_)
                try dsimp only at w_144
                refine lv_if_eq (tgt := 110) hx hb dX11_next_97 (by decide) (fun c_145 => ?_) (fun c_145 => ?_)
                · skip
                  have q_145 : r_144.toInt = (0 : Int) := i_eq2 (rfl : r_144.toInt = r_144.toInt) (show (0 : Int32).toInt = (0 : Int) from rfl) c_145
                  refine lv_iconst (v := (-1)) hx hb dX11_next_110 (by decide) ?_
                  rw [hQ]
                  exact W.iret (v := (-1)) hx hb hr (fun t ht hW => ⟨(-1), rfl, by
                    have zm := i_m1
                    have hB : b.toInt.toNat = 2 := by omega
                    have hn : nbN a.toInt.toNat b.toInt.toNat < 0 := by
                      rw [hB, nb2]
                      split <;> omega
                    rw [NX_no (Or.inl hn)]
                    omega, ht⟩) (fun q h => by cases h) dX11_next_111
                · skip
                  have q_145 : r_144.toInt ≠ (0 : Int) := i_ne2 (rfl : r_144.toInt = r_144.toInt) (show (0 : Int32).toInt = (0 : Int) from rfl) c_145
                  refine lv_iload hx hb dX11_next_100 (lv_at hl 0 rfl) ?_
                  refine lv_iconst (v := 0) hx hb dX11_next_102 (by decide) ?_
                  refine lv_iconst (v := 2) hx hb dX11_next_103 (by decide) ?_
                  have zl_146 : (0 : Int32).toInt = (0 : Int) := rfl
                  have zl_147 : (2 : Int32).toInt = (2 : Int) := rfl
                  refine g_callSi (va_runS (As := [.int v_137, .int 0, .int 2]) (rest := []) ⟨hx, hb, hml, hown, hts⟩ (c_X11_isIn l v_137 0 2) (va_cwS 3 hts gX11_next_X11_isIn rfl rfl rfl (by decide +kernel) ⟨Nat.le_of_ble_eq_true rfl, Nat.le_of_ble_eq_true rfl⟩) (g_preT) rfl rfl hl.1 rfl (lv_room (Nat.le_of_ble_eq_true rfl)) dX11_next_104 ⟨Nat.zero_le _, Nat.zero_le _⟩) (fun r_148 w_148 => ?_)
                  try dsimp only at w_148
                  refine lv_if_ne (tgt := 112) hx hb dX11_next_107 (by decide) (fun c_149 => ?_) (fun c_149 => ?_)
                  · skip
                    have q_149 : r_148.toInt ≠ (0 : Int) := i_ne2 (rfl : r_148.toInt = r_148.toInt) (show (0 : Int32).toInt = (0 : Int) from rfl) c_149
                    refine lv_iload_n hx hb dX11_next_112 rfl (lv_at hl 2 rfl) ?_
                    refine lv_bipush (v := 6) hx hb dX11_next_113 (by decide) ?_
                    refine lv_iload hx hb dX11_next_115 (lv_at hl 1 rfl) ?_
                    refine lv_imul hx hb dX11_next_117 ?_
                    refine lv_topi (fun v_150 ev_150 => ?_)
                    have tv_150 : v_150.toInt = (6 : Int) * v_133.toInt := i_mul (show (6 : Int32).toInt = (6 : Int) from rfl) (rfl : v_133.toInt = v_133.toInt) (by omega) (by omega) ev_150
                    refine lv_iadd hx hb dX11_next_118 ?_
                    refine lv_topi (fun v_151 ev_151 => ?_)
                    have tv_151 : v_151.toInt = v_128.toInt + v_150.toInt := i_add (rfl : v_128.toInt = v_128.toInt) (rfl : v_150.toInt = v_150.toInt) (by omega) (by omega) ev_151
                    refine lv_bipush (v := 36) hx hb dX11_next_119 (by decide) ?_
                    refine lv_iload hx hb dX11_next_121 (lv_at hl 0 rfl) ?_
                    refine lv_imul hx hb dX11_next_123 ?_
                    refine lv_topi (fun v_152 ev_152 => ?_)
                    have rg_153 := i_rng v_137
                    have tv_152 : v_152.toInt = (36 : Int) * v_137.toInt := i_mul (show (36 : Int32).toInt = (36 : Int) from rfl) (rfl : v_137.toInt = v_137.toInt) (by omega) (by omega) ev_152
                    refine lv_iadd hx hb dX11_next_124 ?_
                    refine lv_topi (fun v_154 ev_154 => ?_)
                    have rg_155 := i_rng v_152
                    have tv_154 : v_154.toInt = v_151.toInt + v_152.toInt := i_add (rfl : v_151.toInt = v_151.toInt) (rfl : v_152.toInt = v_152.toInt) (by omega) (by omega) ev_154
                    refine lv_istore (lv' := [(6, .int v_154), (5, .int v_137), (4, .int v_133), (3, .int v_128), (0, .ref (ad 0)), (1, .int a), (2, .int b)]) hx hb dX11_next_125 hl (by decide) rfl (fun ls hl => ?_)
                    refine lv_aload_n hx hb dX11_next_127 rfl (lv_at hl 4 rfl) ?_
                    refine lv_iload hx hb dX11_next_128 (lv_at hl 0 rfl) ?_
                    refine g_callSi (va_runV (As := [.int v_154]) (rest := []) ⟨hx, hb, hml, hown, hts⟩ (c_X11_isObstacle l D cy ad hI _ iv ar v_154 (by omega)) (cwV 1 hts gX11_next_X11_isObstacle rfl rfl rfl (by decide +kernel) ⟨Nat.le_of_ble_eq_true rfl, Nat.le_of_ble_eq_true rfl⟩) (m_preV hP hK hSt hNw hS (m_at11 (Nat.le_of_ble_eq_true rfl) rfl) rfl) rfl rfl hl.1 rfl (lv_room (Nat.le_of_ble_eq_true rfl)) dX11_next_130 ⟨Nat.zero_le _, Nat.zero_le _⟩) (fun r_156 w_156 => ?_)
                    try dsimp only at w_156
                    refine lv_if_eq (tgt := 140) hx hb dX11_next_133 (by decide) (fun c_157 => ?_) (fun c_157 => ?_)
                    · skip
                      have q_157 : r_156.toInt = (0 : Int) := i_eq2 (rfl : r_156.toInt = r_156.toInt) (show (0 : Int32).toInt = (0 : Int) from rfl) c_157
                      refine lv_iload hx hb dX11_next_140 (lv_at hl 0 rfl) ?_
                      rw [hQ]
                      exact W.iret (v := v_154) hx hb hr (fun t ht hW => ⟨v_154, rfl, by
                        have zm := i_m1
                        have hB : b.toInt.toNat = 2 := by omega
                        have hn : nbN a.toInt.toNat b.toInt.toNat = (v_154.toInt) := by
                          rw [hB, nb2]
                          split <;> omega
                        rw [NX_is (by rw [hn]; omega)]
                        omega, ht⟩) (fun q h => by cases h) dX11_next_142
                    · skip
                      have q_157 : r_156.toInt ≠ (0 : Int) := i_ne2 (rfl : r_156.toInt = r_156.toInt) (show (0 : Int32).toInt = (0 : Int) from rfl) c_157
                      refine lv_iconst (v := (-1)) hx hb dX11_next_136 (by decide) ?_
                      refine lv_goto (tgt := 142) hx hb dX11_next_137 (by decide) ?_
                      rw [hQ]
                      exact W.iret (v := (-1)) hx hb hr (fun t ht hW => ⟨(-1), rfl, by
                        have zm := i_m1
                        have hB : b.toInt.toNat = 2 := by omega
                        have hn : nbN a.toInt.toNat b.toInt.toNat = (v_154.toInt) := by
                          rw [hB, nb2]
                          split <;> omega
                        rw [NX_no (Or.inr (by rw [hn]; omega))]
                        omega, ht⟩) (fun q h => by cases h) dX11_next_142
                  · skip
                    have q_149 : r_148.toInt = (0 : Int) := i_eq2 (rfl : r_148.toInt = r_148.toInt) (show (0 : Int32).toInt = (0 : Int) from rfl) c_149
                    refine lv_iconst (v := (-1)) hx hb dX11_next_110 (by decide) ?_
                    rw [hQ]
                    exact W.iret (v := (-1)) hx hb hr (fun t ht hW => ⟨(-1), rfl, by
                      have zm := i_m1
                      have hB : b.toInt.toNat = 2 := by omega
                      have hn : nbN a.toInt.toNat b.toInt.toNat < 0 := by
                        rw [hB, nb2]
                        split <;> omega
                      rw [NX_no (Or.inl hn)]
                      omega, ht⟩) (fun q h => by cases h) dX11_next_111
            · skip
              have q_136 : b.toInt = (6 : Int) := i_eq2 (rfl : b.toInt = b.toInt) (show (6 : Int32).toInt = (6 : Int) from rfl) c_136
              exfalso; omega
          · skip
            have q_135 : b.toInt = (5 : Int) := i_eq2 (rfl : b.toInt = b.toInt) (show (5 : Int32).toInt = (5 : Int) from rfl) c_135
            exfalso; omega
        · skip
          have q_132 : b.toInt = (4 : Int) := i_eq2 (rfl : b.toInt = b.toInt) (show (4 : Int32).toInt = (4 : Int) from rfl) c_132
          exfalso; omega
      · skip
        have q_131 : b.toInt = (3 : Int) := i_eq2 (rfl : b.toInt = b.toInt) (show (3 : Int32).toInt = (3 : Int) from rfl) c_131
        exfalso; omega
  · skip
    have q_2 : b.toInt = (1 : Int) := i_eq2 (rfl : b.toInt = b.toInt) (show (1 : Int32).toInt = (1 : Int) from rfl) c_2
    refine lv_iconst (v := 1) hx hb dX11_next_9 (by decide) ?_
    refine lv_goto (tgt := 23) hx hb dX11_next_10 (by decide) ?_
    refine lv_iadd hx hb dX11_next_23 ?_
    refine lv_topi (fun v_158 ev_158 => ?_)
    have tv_158 : v_158.toInt = v_1.toInt + (1 : Int) := i_add (rfl : v_1.toInt = v_1.toInt) (show (1 : Int32).toInt = (1 : Int) from rfl) (by omega) (by omega) ev_158
    refine lv_istore_n (lv' := [(3, .int v_158), (0, .ref (ad 0)), (1, .int a), (2, .int b)]) hx hb dX11_next_24 rfl hl (by decide) rfl (fun ls hl => ?_)
    refine lv_iload_n hx hb dX11_next_25 rfl (lv_at hl 2 rfl) ?_
    refine lv_bipush (v := 6) hx hb dX11_next_26 (by decide) ?_
    refine lv_idiv hx hb dX11_next_28 (by decide) ?_
    refine lv_topi (fun v_159 ev_159 => ?_)
    have tv_159 : v_159.toInt = a.toInt / (6 : Int) := i_div (rfl : a.toInt = a.toInt) (show (6 : Int32).toInt = (6 : Int) from rfl) (by omega) (by omega) ev_159
    refine lv_bipush (v := 6) hx hb dX11_next_29 (by decide) ?_
    refine lv_irem hx hb dX11_next_31 (by decide) ?_
    refine lv_topi (fun v_160 ev_160 => ?_)
    have tv_160 : v_160.toInt = v_159.toInt % (6 : Int) := i_rem (rfl : v_159.toInt = v_159.toInt) (show (6 : Int32).toInt = (6 : Int) from rfl) (by omega) (by omega) ev_160
    refine lv_iload_n hx hb dX11_next_32 rfl (lv_at hl 3 rfl) ?_
    refine lv_iconst (v := 3) hx hb dX11_next_33 (by decide) ?_
    refine lv_icmp_ne (tgt := 41) hx hb dX11_next_34 (by decide) (fun c_161 => ?_) (fun c_161 => ?_)
    · skip
      have q_161 : b.toInt ≠ (3 : Int) := i_ne2 (rfl : b.toInt = b.toInt) (show (3 : Int32).toInt = (3 : Int) from rfl) c_161
      refine lv_iload_n hx hb dX11_next_41 rfl (lv_at hl 3 rfl) ?_
      refine lv_iconst (v := 4) hx hb dX11_next_42 (by decide) ?_
      refine lv_icmp_ne (tgt := 50) hx hb dX11_next_43 (by decide) (fun c_162 => ?_) (fun c_162 => ?_)
      · skip
        have q_162 : b.toInt ≠ (4 : Int) := i_ne2 (rfl : b.toInt = b.toInt) (show (4 : Int32).toInt = (4 : Int) from rfl) c_162
        refine lv_iconst (v := 0) hx hb dX11_next_50 (by decide) ?_
        refine lv_iadd hx hb dX11_next_51 ?_
        refine lv_topi (fun v_163 ev_163 => ?_)
        have tv_163 : v_163.toInt = v_160.toInt + (0 : Int) := i_add (rfl : v_160.toInt = v_160.toInt) (show (0 : Int32).toInt = (0 : Int) from rfl) (by omega) (by omega) ev_163
        refine lv_istore (lv' := [(4, .int v_163), (3, .int v_158), (0, .ref (ad 0)), (1, .int a), (2, .int b)]) hx hb dX11_next_52 hl (by decide) rfl (fun ls hl => ?_)
        refine lv_iload_n hx hb dX11_next_54 rfl (lv_at hl 3 rfl) ?_
        refine g_callSi (va_runS (As := [.int a]) (rest := []) ⟨hx, hb, hml, hown, hts⟩ (c_X11_layerOf l a (by omega)) (va_cwS 1 hts gX11_next_X11_layerOf rfl rfl rfl (by decide +kernel) ⟨Nat.le_of_ble_eq_true rfl, Nat.le_of_ble_eq_true rfl⟩) (g_preT) rfl rfl hl.1 rfl (lv_room (Nat.le_of_ble_eq_true rfl)) dX11_next_55 ⟨Nat.zero_le _, Nat.zero_le _⟩) (fun r_164 w_164 => ?_)
        try dsimp only at w_164
        refine lv_iload_n hx hb dX11_next_58 rfl (lv_at hl 4 rfl) ?_
        refine lv_iconst (v := 5) hx hb dX11_next_59 (by decide) ?_
        refine lv_icmp_ne (tgt := 67) hx hb dX11_next_60 (by decide) (fun c_165 => ?_) (fun c_165 => ?_)
        · skip
          have q_165 : b.toInt ≠ (5 : Int) := i_ne2 (rfl : b.toInt = b.toInt) (show (5 : Int32).toInt = (5 : Int) from rfl) c_165
          refine lv_iload_n hx hb dX11_next_67 rfl (lv_at hl 4 rfl) ?_
          refine lv_bipush (v := 6) hx hb dX11_next_68 (by decide) ?_
          refine lv_icmp_ne (tgt := 77) hx hb dX11_next_70 (by decide) (fun c_166 => ?_) (fun c_166 => ?_)
          · skip
            have q_166 : b.toInt ≠ (6 : Int) := i_ne2 (rfl : b.toInt = b.toInt) (show (6 : Int32).toInt = (6 : Int) from rfl) c_166
            refine lv_iconst (v := 0) hx hb dX11_next_77 (by decide) ?_
            refine lv_iadd hx hb dX11_next_78 ?_
            refine lv_topi (fun v_167 ev_167 => ?_)
            have tv_167 : v_167.toInt = r_164.toInt + (0 : Int) := i_add (rfl : r_164.toInt = r_164.toInt) (show (0 : Int32).toInt = (0 : Int) from rfl) (by omega) (by omega) ev_167
            refine lv_istore (lv' := [(5, .int v_167), (4, .int v_163), (3, .int v_158), (0, .ref (ad 0)), (1, .int a), (2, .int b)]) hx hb dX11_next_79 hl (by decide) rfl (fun ls hl => ?_)
            refine lv_iload_n hx hb dX11_next_81 rfl (lv_at hl 2 rfl) ?_
            refine lv_iconst (v := 0) hx hb dX11_next_82 (by decide) ?_
            refine lv_iconst (v := 5) hx hb dX11_next_83 (by decide) ?_
            have zl_168 : (0 : Int32).toInt = (0 : Int) := rfl
            have zl_169 : (5 : Int32).toInt = (5 : Int) := rfl
            refine g_callSi (va_runS (As := [.int v_158, .int 0, .int 5]) (rest := []) ⟨hx, hb, hml, hown, hts⟩ (c_X11_isIn l v_158 0 5) (va_cwS 3 hts gX11_next_X11_isIn rfl rfl rfl (by decide +kernel) ⟨Nat.le_of_ble_eq_true rfl, Nat.le_of_ble_eq_true rfl⟩) (g_preT) rfl rfl hl.1 rfl (lv_room (Nat.le_of_ble_eq_true rfl)) dX11_next_84 ⟨Nat.zero_le _, Nat.zero_le _⟩) (fun r_170 w_170 => ?_)
            try dsimp only at w_170
            refine lv_if_eq (tgt := 110) hx hb dX11_next_87 (by decide) (fun c_171 => ?_) (fun c_171 => ?_)
            · skip
              have q_171 : r_170.toInt = (0 : Int) := i_eq2 (rfl : r_170.toInt = r_170.toInt) (show (0 : Int32).toInt = (0 : Int) from rfl) c_171
              refine lv_iconst (v := (-1)) hx hb dX11_next_110 (by decide) ?_
              rw [hQ]
              exact W.iret (v := (-1)) hx hb hr (fun t ht hW => ⟨(-1), rfl, by
                have zm := i_m1
                have hB : b.toInt.toNat = 1 := by omega
                have hn : nbN a.toInt.toNat b.toInt.toNat < 0 := by
                  rw [hB, nb1]
                  split <;> omega
                rw [NX_no (Or.inl hn)]
                omega, ht⟩) (fun q h => by cases h) dX11_next_111
            · skip
              have q_171 : r_170.toInt ≠ (0 : Int) := i_ne2 (rfl : r_170.toInt = r_170.toInt) (show (0 : Int32).toInt = (0 : Int) from rfl) c_171
              refine lv_iload hx hb dX11_next_90 (lv_at hl 1 rfl) ?_
              refine lv_iconst (v := 0) hx hb dX11_next_92 (by decide) ?_
              refine lv_iconst (v := 5) hx hb dX11_next_93 (by decide) ?_
              have zl_172 : (0 : Int32).toInt = (0 : Int) := rfl
              have zl_173 : (5 : Int32).toInt = (5 : Int) := rfl
              refine g_callSi (va_runS (As := [.int v_163, .int 0, .int 5]) (rest := []) ⟨hx, hb, hml, hown, hts⟩ (c_X11_isIn l v_163 0 5) (va_cwS 3 hts gX11_next_X11_isIn rfl rfl rfl (by decide +kernel) ⟨Nat.le_of_ble_eq_true rfl, Nat.le_of_ble_eq_true rfl⟩) (g_preT) rfl rfl hl.1 rfl (lv_room (Nat.le_of_ble_eq_true rfl)) dX11_next_94 ⟨Nat.zero_le _, Nat.zero_le _⟩) (fun r_174 w_174 => ?_)
              try dsimp only at w_174
              refine lv_if_eq (tgt := 110) hx hb dX11_next_97 (by decide) (fun c_175 => ?_) (fun c_175 => ?_)
              · skip
                have q_175 : r_174.toInt = (0 : Int) := i_eq2 (rfl : r_174.toInt = r_174.toInt) (show (0 : Int32).toInt = (0 : Int) from rfl) c_175
                refine lv_iconst (v := (-1)) hx hb dX11_next_110 (by decide) ?_
                rw [hQ]
                exact W.iret (v := (-1)) hx hb hr (fun t ht hW => ⟨(-1), rfl, by
                  have zm := i_m1
                  have hB : b.toInt.toNat = 1 := by omega
                  have hn : nbN a.toInt.toNat b.toInt.toNat < 0 := by
                    rw [hB, nb1]
                    split <;> omega
                  rw [NX_no (Or.inl hn)]
                  omega, ht⟩) (fun q h => by cases h) dX11_next_111
              · skip
                have q_175 : r_174.toInt ≠ (0 : Int) := i_ne2 (rfl : r_174.toInt = r_174.toInt) (show (0 : Int32).toInt = (0 : Int) from rfl) c_175
                refine lv_iload hx hb dX11_next_100 (lv_at hl 0 rfl) ?_
                refine lv_iconst (v := 0) hx hb dX11_next_102 (by decide) ?_
                refine lv_iconst (v := 2) hx hb dX11_next_103 (by decide) ?_
                have zl_176 : (0 : Int32).toInt = (0 : Int) := rfl
                have zl_177 : (2 : Int32).toInt = (2 : Int) := rfl
                refine g_callSi (va_runS (As := [.int v_167, .int 0, .int 2]) (rest := []) ⟨hx, hb, hml, hown, hts⟩ (c_X11_isIn l v_167 0 2) (va_cwS 3 hts gX11_next_X11_isIn rfl rfl rfl (by decide +kernel) ⟨Nat.le_of_ble_eq_true rfl, Nat.le_of_ble_eq_true rfl⟩) (g_preT) rfl rfl hl.1 rfl (lv_room (Nat.le_of_ble_eq_true rfl)) dX11_next_104 ⟨Nat.zero_le _, Nat.zero_le _⟩) (fun r_178 w_178 => ?_)
                try dsimp only at w_178
                refine lv_if_ne (tgt := 112) hx hb dX11_next_107 (by decide) (fun c_179 => ?_) (fun c_179 => ?_)
                · skip
                  have q_179 : r_178.toInt ≠ (0 : Int) := i_ne2 (rfl : r_178.toInt = r_178.toInt) (show (0 : Int32).toInt = (0 : Int) from rfl) c_179
                  refine lv_iload_n hx hb dX11_next_112 rfl (lv_at hl 2 rfl) ?_
                  refine lv_bipush (v := 6) hx hb dX11_next_113 (by decide) ?_
                  refine lv_iload hx hb dX11_next_115 (lv_at hl 1 rfl) ?_
                  refine lv_imul hx hb dX11_next_117 ?_
                  refine lv_topi (fun v_180 ev_180 => ?_)
                  have tv_180 : v_180.toInt = (6 : Int) * v_163.toInt := i_mul (show (6 : Int32).toInt = (6 : Int) from rfl) (rfl : v_163.toInt = v_163.toInt) (by omega) (by omega) ev_180
                  refine lv_iadd hx hb dX11_next_118 ?_
                  refine lv_topi (fun v_181 ev_181 => ?_)
                  have tv_181 : v_181.toInt = v_158.toInt + v_180.toInt := i_add (rfl : v_158.toInt = v_158.toInt) (rfl : v_180.toInt = v_180.toInt) (by omega) (by omega) ev_181
                  refine lv_bipush (v := 36) hx hb dX11_next_119 (by decide) ?_
                  refine lv_iload hx hb dX11_next_121 (lv_at hl 0 rfl) ?_
                  refine lv_imul hx hb dX11_next_123 ?_
                  refine lv_topi (fun v_182 ev_182 => ?_)
                  have rg_183 := i_rng v_167
                  have tv_182 : v_182.toInt = (36 : Int) * v_167.toInt := i_mul (show (36 : Int32).toInt = (36 : Int) from rfl) (rfl : v_167.toInt = v_167.toInt) (by omega) (by omega) ev_182
                  refine lv_iadd hx hb dX11_next_124 ?_
                  refine lv_topi (fun v_184 ev_184 => ?_)
                  have rg_185 := i_rng v_182
                  have tv_184 : v_184.toInt = v_181.toInt + v_182.toInt := i_add (rfl : v_181.toInt = v_181.toInt) (rfl : v_182.toInt = v_182.toInt) (by omega) (by omega) ev_184
                  refine lv_istore (lv' := [(6, .int v_184), (5, .int v_167), (4, .int v_163), (3, .int v_158), (0, .ref (ad 0)), (1, .int a), (2, .int b)]) hx hb dX11_next_125 hl (by decide) rfl (fun ls hl => ?_)
                  refine lv_aload_n hx hb dX11_next_127 rfl (lv_at hl 4 rfl) ?_
                  refine lv_iload hx hb dX11_next_128 (lv_at hl 0 rfl) ?_
                  refine g_callSi (va_runV (As := [.int v_184]) (rest := []) ⟨hx, hb, hml, hown, hts⟩ (c_X11_isObstacle l D cy ad hI _ iv ar v_184 (by omega)) (cwV 1 hts gX11_next_X11_isObstacle rfl rfl rfl (by decide +kernel) ⟨Nat.le_of_ble_eq_true rfl, Nat.le_of_ble_eq_true rfl⟩) (m_preV hP hK hSt hNw hS (m_at11 (Nat.le_of_ble_eq_true rfl) rfl) rfl) rfl rfl hl.1 rfl (lv_room (Nat.le_of_ble_eq_true rfl)) dX11_next_130 ⟨Nat.zero_le _, Nat.zero_le _⟩) (fun r_186 w_186 => ?_)
                  try dsimp only at w_186
                  refine lv_if_eq (tgt := 140) hx hb dX11_next_133 (by decide) (fun c_187 => ?_) (fun c_187 => ?_)
                  · skip
                    have q_187 : r_186.toInt = (0 : Int) := i_eq2 (rfl : r_186.toInt = r_186.toInt) (show (0 : Int32).toInt = (0 : Int) from rfl) c_187
                    refine lv_iload hx hb dX11_next_140 (lv_at hl 0 rfl) ?_
                    rw [hQ]
                    exact W.iret (v := v_184) hx hb hr (fun t ht hW => ⟨v_184, rfl, by
                      have zm := i_m1
                      have hB : b.toInt.toNat = 1 := by omega
                      have hn : nbN a.toInt.toNat b.toInt.toNat = (v_184.toInt) := by
                        rw [hB, nb1]
                        split <;> omega
                      rw [NX_is (by rw [hn]; omega)]
                      omega, ht⟩) (fun q h => by cases h) dX11_next_142
                  · skip
                    have q_187 : r_186.toInt ≠ (0 : Int) := i_ne2 (rfl : r_186.toInt = r_186.toInt) (show (0 : Int32).toInt = (0 : Int) from rfl) c_187
                    refine lv_iconst (v := (-1)) hx hb dX11_next_136 (by decide) ?_
                    refine lv_goto (tgt := 142) hx hb dX11_next_137 (by decide) ?_
                    rw [hQ]
                    exact W.iret (v := (-1)) hx hb hr (fun t ht hW => ⟨(-1), rfl, by
                      have zm := i_m1
                      have hB : b.toInt.toNat = 1 := by omega
                      have hn : nbN a.toInt.toNat b.toInt.toNat = (v_184.toInt) := by
                        rw [hB, nb1]
                        split <;> omega
                      rw [NX_no (Or.inr (by rw [hn]; omega))]
                      omega, ht⟩) (fun q h => by cases h) dX11_next_142
                · skip
                  have q_179 : r_178.toInt = (0 : Int) := i_eq2 (rfl : r_178.toInt = r_178.toInt) (show (0 : Int32).toInt = (0 : Int) from rfl) c_179
                  refine lv_iconst (v := (-1)) hx hb dX11_next_110 (by decide) ?_
                  rw [hQ]
                  exact W.iret (v := (-1)) hx hb hr (fun t ht hW => ⟨(-1), rfl, by
                    have zm := i_m1
                    have hB : b.toInt.toNat = 1 := by omega
                    have hn : nbN a.toInt.toNat b.toInt.toNat < 0 := by
                      rw [hB, nb1]
                      split <;> omega
                    rw [NX_no (Or.inl hn)]
                    omega, ht⟩) (fun q h => by cases h) dX11_next_111
          · skip
            have q_166 : b.toInt = (6 : Int) := i_eq2 (rfl : b.toInt = b.toInt) (show (6 : Int32).toInt = (6 : Int) from rfl) c_166
            exfalso; omega
        · skip
          have q_165 : b.toInt = (5 : Int) := i_eq2 (rfl : b.toInt = b.toInt) (show (5 : Int32).toInt = (5 : Int) from rfl) c_165
          exfalso; omega
      · skip
        have q_162 : b.toInt = (4 : Int) := i_eq2 (rfl : b.toInt = b.toInt) (show (4 : Int32).toInt = (4 : Int) from rfl) c_162
        exfalso; omega
    · skip
      have q_161 : b.toInt = (3 : Int) := i_eq2 (rfl : b.toInt = b.toInt) (show (3 : Int32).toInt = (3 : Int) from rfl) c_161
      exfalso; omega
set_option maxHeartbeats 4000000 in
set_option maxRecDepth 100000 in
theorem c_X11_isTakenAt (l : Launch) (D : va_G) (cy : Nat → ClassId) (ad : Nat → Nat) (hI : mInj ad) (sz : Nat) (iv : gIv) (ar : gAr) (a : Int32) (b : Int32) (hc : 0 ≤ a.toInt ∧ a.toInt < 108) (ht : 0 ≤ b.toInt ∧ b.toInt ≤ 60) : Met l yX11_isTakenAt wsX11_isTakenAt ({ frames := 0, cells := 0, slots := 0, locals := 0 } : Room) (va_Pc [.ref (ad 0), .int a, .int b] (mPre D cy ad sz iv ar)) (vp_Si (fun r => r.toInt = tA (ar 15) a.toInt.toNat b.toInt)) 0 0 (fun _ => False) := by
  refine Met.ofW (cc := cX11_isTakenAt) (maxL := 3) (ret := (some .boolean)) (by decide) rfl ?_
  intro p e s m args below meth c s₁ B hml hv
  obtain ⟨rfl, rfl, hP, hK, hSt, hNw⟩ := hv
  have hx := B.exec
  have hb := B.bytes
  have hr := B.returns
  have hts := atoms_spec (ws := wsX11_isTakenAt) B.pre
  have hown : s.vm.findClass RX11 = some m.cls := findClass_of_methodNamed B.named
  have hlocks := B.notSynchronized
  have hS : va_S (mA ad s.heap.size) s.heap s.heap [] := va_S.rf
  have inX11 : ∀ w ∈ u_ws RX11 TX11 30, w ∈ wsX11_isTakenAt := by decide +kernel
  have lk0 := hts (.fieldLink RX11 57 "FormationPlannerModel" "taken" "[I") (by decide +kernel)
  have hl := lv_entry ([.ref (ad 0), .int a, .int b]) (n := 3) (Nat.le_of_ble_eq_true rfl)
  rw [lg_entry_eq]
  generalize (lg_sl ([.ref (ad 0), .int a, .int b]) ++ List.replicate (3 - (lg_sl ([.ref (ad 0), .int a, .int b])).length) Slot.unset).toArray = ls at hl ⊢
  have hl : lv_has ls 3 [(0, .ref (ad 0)), (1, .int a), (2, .int b)] := hl
  obtain ⟨Q, hQ⟩ : ∃ Q, Q = MQ below (vp_Si (fun r => r.toInt = tA (ar 15) a.toInt.toNat b.toInt)) (([.ref (ad 0), .int a, .int b] : List Value).toArray) s 0 0 (fun _ => False) := ⟨_, rfl⟩
  rw [← hQ]
  refine lv_aload_n hx hb dX11_isTakenAt_0 rfl (lv_at hl 0 rfl) ?_
  refine va_get (D := D) (ci := 11) (v := .ref (ad 15)) (C := RX11) (T := TX11) (N := 30) hx hb hts inX11 hown hK hP 0 (m_at11 (Nat.le_of_ble_eq_true rfl) rfl) rfl 26 (by decide) lk0 (fun _ h9 => h9) rfl dX11_isTakenAt_1 ?_
  refine lv_bipush (v := 108) hx hb dX11_isTakenAt_4 (by decide) ?_
  refine lv_iload_n hx hb dX11_isTakenAt_6 rfl (lv_at hl 2 rfl) ?_
  refine lv_imul hx hb dX11_isTakenAt_7 ?_
  refine lv_topi (fun v_1 ev_1 => ?_)
  have tv_1 : v_1.toInt = (108 : Int) * b.toInt := i_mul (show (108 : Int32).toInt = (108 : Int) from rfl) (rfl : b.toInt = b.toInt) (by omega) (by omega) ev_1
  refine lv_iload_n hx hb dX11_isTakenAt_8 rfl (lv_at hl 1 rfl) ?_
  refine lv_iadd hx hb dX11_isTakenAt_9 ?_
  refine lv_topi (fun v_2 ev_2 => ?_)
  have tv_2 : v_2.toInt = v_1.toInt + a.toInt := i_add (rfl : v_1.toInt = v_1.toInt) (rfl : a.toInt = a.toInt) (by omega) (by omega) ev_2
  refine va_iald hx hb hK hP 15 0 (m_at12 (Nat.le_of_ble_eq_true rfl) rfl) rfl (g_in (N := 6588) (rfl : v_2.toInt = v_2.toInt) rfl (by omega) (by omega)) dX11_isTakenAt_10 ?_
  refine lv_topi (fun v_3 ev_3 => ?_)
  have hv1 : v_3.toInt = (ar 15 (108 * b.toInt.toNat + a.toInt.toNat)).toInt := by
    rw [ev_3, g_cN (rfl : v_2.toInt = _)]
    congr 2
    omega
  refine lv_if_eq (tgt := 18) hx hb dX11_isTakenAt_11 (by decide) (fun c_4 => ?_) (fun c_4 => ?_)
  · skip
    have q_4 : v_3.toInt = (0 : Int) := i_eq2 (rfl : v_3.toInt = v_3.toInt) (show (0 : Int32).toInt = (0 : Int) from rfl) c_4
    refine lv_iconst (v := 0) hx hb dX11_isTakenAt_18 (by decide) ?_
    rw [hQ]
    exact W.zret (v := 0) hx hb hr rfl (fun t ht hW => ⟨0, rfl, by
      have z0 := i_l0
      have z1 := i_l1
      unfold tA
      split <;> omega, ht⟩) (fun q h => by cases h) dX11_isTakenAt_19
  · skip
    have q_4 : v_3.toInt ≠ (0 : Int) := i_ne2 (rfl : v_3.toInt = v_3.toInt) (show (0 : Int32).toInt = (0 : Int) from rfl) c_4
    refine lv_iconst (v := 1) hx hb dX11_isTakenAt_14 (by decide) ?_
    refine lv_goto (tgt := 19) hx hb dX11_isTakenAt_15 (by decide) ?_
    rw [hQ]
    exact W.zret (v := 1) hx hb hr rfl (fun t ht hW => ⟨1, rfl, by
      have z0 := i_l0
      have z1 := i_l1
      unfold tA
      split <;> omega, ht⟩) (fun q h => by cases h) dX11_isTakenAt_19
set_option maxHeartbeats 4000000 in
set_option maxRecDepth 100000 in
theorem c_X11_isMet (l : Launch) (D : va_G) (cy : Nat → ClassId) (ad : Nat → Nat) (hI : mInj ad) (sz : Nat) (iv : gIv) (ar : gAr) (a : Int32) (b : Int32) (d : Int32) (hc : 0 ≤ a.toInt ∧ a.toInt < 108) (hb0 : 0 ≤ b.toInt ∧ b.toInt < 108) (ht : 0 ≤ d.toInt ∧ d.toInt < 60) : Met l yX11_isMet wsX11_isMet ({ frames := 0, cells := 0, slots := 0, locals := 0 } : Room) (va_Pc [.ref (ad 0), .int a, .int b, .int d] (mPre D cy ad sz iv ar)) (vp_Si (fun r => r.toInt = mT (ar 15) a.toInt.toNat b.toInt.toNat d.toInt)) 0 0 (fun _ => False) := by
  refine Met.ofW (cc := cX11_isMet) (maxL := 5) (ret := (some .boolean)) (by decide) rfl ?_
  intro p e s m args below meth c s₁ B hml hv
  obtain ⟨rfl, rfl, hP, hK, hSt, hNw⟩ := hv
  have hx := B.exec
  have hb := B.bytes
  have hr := B.returns
  have hts := atoms_spec (ws := wsX11_isMet) B.pre
  have hown : s.vm.findClass RX11 = some m.cls := findClass_of_methodNamed B.named
  have hlocks := B.notSynchronized
  have hS : va_S (mA ad s.heap.size) s.heap s.heap [] := va_S.rf
  have inX11 : ∀ w ∈ u_ws RX11 TX11 30, w ∈ wsX11_isMet := by decide +kernel
  have lk0 := hts (.fieldLink RX11 57 "FormationPlannerModel" "taken" "[I") (by decide +kernel)
  have hl := lv_entry ([.ref (ad 0), .int a, .int b, .int d]) (n := 5) (Nat.le_of_ble_eq_true rfl)
  rw [lg_entry_eq]
  generalize (lg_sl ([.ref (ad 0), .int a, .int b, .int d]) ++ List.replicate (5 - (lg_sl ([.ref (ad 0), .int a, .int b, .int d])).length) Slot.unset).toArray = ls at hl ⊢
  have hl : lv_has ls 5 [(0, .ref (ad 0)), (1, .int a), (2, .int b), (3, .int d)] := hl
  obtain ⟨Q, hQ⟩ : ∃ Q, Q = MQ below (vp_Si (fun r => r.toInt = mT (ar 15) a.toInt.toNat b.toInt.toNat d.toInt)) (([.ref (ad 0), .int a, .int b, .int d] : List Value).toArray) s 0 0 (fun _ => False) := ⟨_, rfl⟩
  rw [← hQ]
  refine lv_aload_n hx hb dX11_isMet_0 rfl (lv_at hl 0 rfl) ?_
  refine va_get (D := D) (ci := 11) (v := .ref (ad 15)) (C := RX11) (T := TX11) (N := 30) hx hb hts inX11 hown hK hP 0 (m_at11 (Nat.le_of_ble_eq_true rfl) rfl) rfl 26 (by decide) lk0 (fun _ h9 => h9) rfl dX11_isMet_1 ?_
  refine lv_bipush (v := 108) hx hb dX11_isMet_4 (by decide) ?_
  refine lv_iload_n hx hb dX11_isMet_6 rfl (lv_at hl 3 rfl) ?_
  refine lv_imul hx hb dX11_isMet_7 ?_
  refine lv_topi (fun v_1 ev_1 => ?_)
  have tv_1 : v_1.toInt = (108 : Int) * d.toInt := i_mul (show (108 : Int32).toInt = (108 : Int) from rfl) (rfl : d.toInt = d.toInt) (by omega) (by omega) ev_1
  refine lv_iload_n hx hb dX11_isMet_8 rfl (lv_at hl 2 rfl) ?_
  refine lv_iadd hx hb dX11_isMet_9 ?_
  refine lv_topi (fun v_2 ev_2 => ?_)
  have tv_2 : v_2.toInt = v_1.toInt + b.toInt := i_add (rfl : v_1.toInt = v_1.toInt) (rfl : b.toInt = b.toInt) (by omega) (by omega) ev_2
  refine va_iald hx hb hK hP 15 0 (m_at12 (Nat.le_of_ble_eq_true rfl) rfl) rfl (g_in (N := 6588) (rfl : v_2.toInt = v_2.toInt) rfl (by omega) (by omega)) dX11_isMet_10 ?_
  refine lv_topi (fun v_3 ev_3 => ?_)
  have hv1 : v_3.toInt = (ar 15 (108 * d.toInt.toNat + b.toInt.toNat)).toInt := by
    rw [ev_3, g_cN (rfl : v_2.toInt = _)]
    congr 2
    omega
  refine lv_istore (lv' := [(4, .int v_3), (0, .ref (ad 0)), (1, .int a), (2, .int b), (3, .int d)]) hx hb dX11_isMet_11 hl (by decide) rfl (fun ls hl => ?_)
  refine lv_iload hx hb dX11_isMet_13 (lv_at hl 0 rfl) ?_
  refine lv_if_eq (tgt := 40) hx hb dX11_isMet_15 (by decide) (fun c_4 => ?_) (fun c_4 => ?_)
  · skip
    have q_4 : v_3.toInt = (0 : Int) := i_eq2 (rfl : v_3.toInt = v_3.toInt) (show (0 : Int32).toInt = (0 : Int) from rfl) c_4
    refine lv_iconst (v := 0) hx hb dX11_isMet_40 (by decide) ?_
    rw [hQ]
    exact W.zret (v := 0) hx hb hr rfl (fun t ht hW => ⟨0, rfl, by
      have z0 := i_l0
      have z1 := i_l1
      unfold mT
      split <;> omega, ht⟩) (fun q h => by cases h) dX11_isMet_41
  · skip
    have q_4 : v_3.toInt ≠ (0 : Int) := i_ne2 (rfl : v_3.toInt = v_3.toInt) (show (0 : Int32).toInt = (0 : Int) from rfl) c_4
    refine lv_iload hx hb dX11_isMet_18 (lv_at hl 0 rfl) ?_
    refine lv_aload_n hx hb dX11_isMet_20 rfl (lv_at hl 1 rfl) ?_
    refine va_get (D := D) (ci := 11) (v := .ref (ad 15)) (C := RX11) (T := TX11) (N := 30) hx hb hts inX11 hown hK hP 0 (m_at11 (Nat.le_of_ble_eq_true rfl) rfl) rfl 26 (by decide) lk0 (fun _ h9 => h9) rfl dX11_isMet_21 ?_
    refine lv_bipush (v := 108) hx hb dX11_isMet_24 (by decide) ?_
    refine lv_iload_n hx hb dX11_isMet_26 rfl (lv_at hl 4 rfl) ?_
    refine lv_iconst (v := 1) hx hb dX11_isMet_27 (by decide) ?_
    refine lv_iadd hx hb dX11_isMet_28 ?_
    refine lv_topi (fun v_5 ev_5 => ?_)
    have tv_5 : v_5.toInt = d.toInt + (1 : Int) := i_add (rfl : d.toInt = d.toInt) (show (1 : Int32).toInt = (1 : Int) from rfl) (by omega) (by omega) ev_5
    refine lv_imul hx hb dX11_isMet_29 ?_
    refine lv_topi (fun v_6 ev_6 => ?_)
    have tv_6 : v_6.toInt = (108 : Int) * v_5.toInt := i_mul (show (108 : Int32).toInt = (108 : Int) from rfl) (rfl : v_5.toInt = v_5.toInt) (by omega) (by omega) ev_6
    refine lv_iload_n hx hb dX11_isMet_30 rfl (lv_at hl 2 rfl) ?_
    refine lv_iadd hx hb dX11_isMet_31 ?_
    refine lv_topi (fun v_7 ev_7 => ?_)
    have tv_7 : v_7.toInt = v_6.toInt + a.toInt := i_add (rfl : v_6.toInt = v_6.toInt) (rfl : a.toInt = a.toInt) (by omega) (by omega) ev_7
    refine va_iald hx hb hK hP 15 0 (m_at12 (Nat.le_of_ble_eq_true rfl) rfl) rfl (g_in (N := 6588) (rfl : v_7.toInt = v_7.toInt) rfl (by omega) (by omega)) dX11_isMet_32 ?_
    refine lv_topi (fun v_8 ev_8 => ?_)
    have hv2 : v_8.toInt = (ar 15 (108 * (d.toInt.toNat + 1) + a.toInt.toNat)).toInt := by
      rw [ev_8, g_cN (rfl : v_7.toInt = _)]
      congr 2
      omega
    refine lv_icmp_ne (tgt := 40) hx hb dX11_isMet_33 (by decide) (fun c_9 => ?_) (fun c_9 => ?_)
    · skip
      have q_9 : v_3.toInt ≠ v_8.toInt := i_ne2 (rfl : v_3.toInt = v_3.toInt) (rfl : v_8.toInt = v_8.toInt) c_9
      refine lv_iconst (v := 0) hx hb dX11_isMet_40 (by decide) ?_
      rw [hQ]
      exact W.zret (v := 0) hx hb hr rfl (fun t ht hW => ⟨0, rfl, by
        have z0 := i_l0
        have z1 := i_l1
        unfold mT
        split <;> omega, ht⟩) (fun q h => by cases h) dX11_isMet_41
    · skip
      have q_9 : v_3.toInt = v_8.toInt := i_eq2 (rfl : v_3.toInt = v_3.toInt) (rfl : v_8.toInt = v_8.toInt) c_9
      refine lv_iconst (v := 1) hx hb dX11_isMet_36 (by decide) ?_
      refine lv_goto (tgt := 41) hx hb dX11_isMet_37 (by decide) ?_
      rw [hQ]
      exact W.zret (v := 1) hx hb hr rfl (fun t ht hW => ⟨1, rfl, by
        have z0 := i_l0
        have z1 := i_l1
        unfold mT
        split <;> omega, ht⟩) (fun q h => by cases h) dX11_isMet_41
set_option maxHeartbeats 4000000 in
set_option maxRecDepth 100000 in
theorem c_X11_mayStay (l : Launch) (D : va_G) (cy : Nat → ClassId) (ad : Nat → Nat) (hI : mInj ad) (sz : Nat) (iv : gIv) (ar : gAr) (a : Int32) (b : Int32) (hc : 0 ≤ a.toInt ∧ a.toInt < 108) (ht : 0 ≤ b.toInt ∧ b.toInt ≤ 60) : Met l yX11_mayStay wsX11_mayStay ({ frames := 1, cells := 0, slots := 0, locals := 22 } : Room) (va_Pc [.ref (ad 0), .int a, .int b] (mPre D cy ad sz iv ar)) (vp_Si (fun r => 0 ≤ r.toInt ∧ r.toInt ≤ 1)) 0 0 (fun _ => False) := by
  refine Met.ofW (cc := cX11_mayStay) (maxL := 4) (ret := (some .boolean)) (by decide) rfl ?_
  intro p e s m args below meth c s₁ B hml hv
  obtain ⟨rfl, rfl, hP, hK, hSt, hNw⟩ := hv
  have hx := B.exec
  have hb := B.bytes
  have hr := B.returns
  have hts := atoms_spec (ws := wsX11_mayStay) B.pre
  have hown : s.vm.findClass RX11 = some m.cls := findClass_of_methodNamed B.named
  have hlocks := B.notSynchronized
  have hS : va_S (mA ad s.heap.size) s.heap s.heap [] := va_S.rf
  have hl := lv_entry ([.ref (ad 0), .int a, .int b]) (n := 4) (Nat.le_of_ble_eq_true rfl)
  rw [lg_entry_eq]
  generalize (lg_sl ([.ref (ad 0), .int a, .int b]) ++ List.replicate (4 - (lg_sl ([.ref (ad 0), .int a, .int b])).length) Slot.unset).toArray = ls at hl ⊢
  have hl : lv_has ls 4 [(0, .ref (ad 0)), (1, .int a), (2, .int b)] := hl
  obtain ⟨Q, hQ⟩ : ∃ Q, Q = MQ below (vp_Si (fun r => 0 ≤ r.toInt ∧ r.toInt ≤ 1)) (([.ref (ad 0), .int a, .int b] : List Value).toArray) s 0 0 (fun _ => False) := ⟨_, rfl⟩
  rw [← hQ]
  refine lv_iload_n hx hb dX11_mayStay_0 rfl (lv_at hl 2 rfl) ?_
  refine lv_istore_n (lv' := [(3, .int b), (0, .ref (ad 0)), (1, .int a), (2, .int b)]) hx hb dX11_mayStay_1 rfl hl (by decide) rfl (fun ls hl => ?_)
  have loop2 : ∀ (n : Nat) (x3_1 : Int32) (ls : Array Slot), ((61 - (x3_1.toInt)).toNat) < n → (0 ≤ (x3_1.toInt) ∧ (x3_1.toInt) ≤ 61) → lv_has ls 4 [(3, .int x3_1), (0, .ref (ad 0)), (1, .int a), (2, .int b)] → W p l e (headSpec wsX11_mayStay (({ frames := 1, cells := 0, slots := 0, locals := 22 } : Room))).room s m (([.ref (ad 0), .int a, .int b] : List Value).toArray) below meth c s.heap [] 0 0 Q (F0 m 2 ls []) := by
    intro n
    induction n with
    | zero => intro x3_1 ls hm; omega
    | succ n ih2 =>
      intro x3_1 ls hm hg0 hl
      refine lv_iload_n hx hb dX11_mayStay_2 rfl (lv_at hl 0 rfl) ?_
      refine lv_bipush (v := 60) hx hb dX11_mayStay_3 (by decide) ?_
      refine lv_icmp_gt (tgt := 25) hx hb dX11_mayStay_5 (by decide) (fun c_3 => ?_) (fun c_3 => ?_)
      · skip
        have q_3 : (60 : Int) < x3_1.toInt := i_lt2 (show (60 : Int32).toInt = (60 : Int) from rfl) (rfl : x3_1.toInt = x3_1.toInt) c_3
        refine lv_iconst (v := 1) hx hb dX11_mayStay_25 (by decide) ?_
        rw [hQ]
        exact W.zret (v := 1) hx hb hr rfl (fun t ht hW => ⟨1, rfl, by have z0 := i_l0; have z1 := i_l1; have zm := i_m1; omega, ht⟩) (fun q h => by cases h) dX11_mayStay_26
      · skip
        have q_3 : x3_1.toInt ≤ (60 : Int) := i_nlt2 (show (60 : Int32).toInt = (60 : Int) from rfl) (rfl : x3_1.toInt = x3_1.toInt) c_3
        refine lv_aload_n hx hb dX11_mayStay_8 rfl (lv_at hl 1 rfl) ?_
        refine lv_iload_n hx hb dX11_mayStay_9 rfl (lv_at hl 2 rfl) ?_
        refine lv_iload_n hx hb dX11_mayStay_10 rfl (lv_at hl 0 rfl) ?_
        refine g_callSi (va_runV (As := [.int a, .int x3_1]) (rest := []) ⟨hx, hb, hml, hown, hts⟩ (c_X11_isTakenAt l D cy ad hI _ iv ar a x3_1 (by omega) (by omega)) (cwV 2 hts gX11_mayStay_X11_isTakenAt rfl rfl rfl (by decide +kernel) ⟨Nat.le_of_ble_eq_true rfl, Nat.le_of_ble_eq_true rfl⟩) (m_preV hP hK hSt hNw hS (m_at11 (Nat.le_of_ble_eq_true rfl) rfl) rfl) rfl rfl hl.1 rfl (lv_room (Nat.le_of_ble_eq_true rfl)) dX11_mayStay_11 ⟨Nat.zero_le _, Nat.zero_le _⟩) (fun r_4 w_4 => ?_)
        try dsimp only at w_4
        refine lv_if_eq (tgt := 19) hx hb dX11_mayStay_14 (by decide) (fun c_5 => ?_) (fun c_5 => ?_)
        · skip
          have q_5 : r_4.toInt = (0 : Int) := i_eq2 (rfl : r_4.toInt = r_4.toInt) (show (0 : Int32).toInt = (0 : Int) from rfl) c_5
          obtain ⟨x3_6, ex3_6⟩ : ∃ y : Int32, y = x3_1 + 1 := ⟨_, rfl⟩
          have tx3_6 : x3_6.toInt = x3_1.toInt + (1 : Int) := i_add (rfl : x3_1.toInt = x3_1.toInt) (show (1 : Int32).toInt = (1 : Int) from rfl) (by omega) (by omega) ex3_6
          refine lv_iinc (v := x3_6) (lv' := [(3, .int x3_6), (0, .ref (ad 0)), (1, .int a), (2, .int b)]) hx hb dX11_mayStay_19 hl (k := 0) rfl (by rw [ex3_6]; rfl) (by decide) rfl (fun ls hl => ?_)
          refine lv_goto (tgt := 2) hx hb dX11_mayStay_22 (by decide) ?_
          exact ih2 x3_6 _ (by omega) (by omega) (lv_sub hl [0, 1, 2, 3] rfl)
        · skip
          have q_5 : r_4.toInt ≠ (0 : Int) := i_ne2 (rfl : r_4.toInt = r_4.toInt) (show (0 : Int32).toInt = (0 : Int) from rfl) c_5
          refine lv_iconst (v := 0) hx hb dX11_mayStay_17 (by decide) ?_
          rw [hQ]
          exact W.zret (v := 0) hx hb hr rfl (fun t ht hW => ⟨0, rfl, by have z0 := i_l0; have z1 := i_l1; have zm := i_m1; omega, ht⟩) (fun q h => by cases h) dX11_mayStay_18
  exact loop2 (((61 - (b.toInt)).toNat) + 1) b _ (by omega) (by omega) (lv_sub hl [0, 1, 2, 3] rfl)
set_option maxHeartbeats 4000000 in
set_option maxRecDepth 100000 in
theorem c_X11_where (l : Launch) (a : Int32) (b : Int32) (d : Int32)  : Met l yX11_where wsX11_where ({ frames := 0, cells := 0, slots := 0, locals := 0 } : Room) (va_Pc [.int a, .int b, .int d] (fun _ => True)) (vp_Si (fun r => r.toInt = if b.toInt = 0 then a.toInt else d.toInt)) 0 0 (fun _ => False) := by
  refine Met.ofW (cc := cX11_where) (maxL := 3) (ret := (some .int)) (by decide) rfl ?_
  intro p e s m args below meth c s₁ B hml hv
  obtain ⟨rfl, -⟩ := hv
  have hx := B.exec
  have hb := B.bytes
  have hr := B.returns
  have hts := atoms_spec (ws := wsX11_where) B.pre
  have hown : s.vm.findClass RX11 = some m.cls := findClass_of_methodNamed B.named
  have hlocks := B.notSynchronized
  have hl := lv_entry ([.int a, .int b, .int d]) (n := 3) (Nat.le_of_ble_eq_true rfl)
  rw [lg_entry_eq]
  generalize (lg_sl ([.int a, .int b, .int d]) ++ List.replicate (3 - (lg_sl ([.int a, .int b, .int d])).length) Slot.unset).toArray = ls at hl ⊢
  have hl : lv_has ls 3 [(0, .int a), (1, .int b), (2, .int d)] := hl
  obtain ⟨Q, hQ⟩ : ∃ Q, Q = MQ below (vp_Si (fun r => r.toInt = if b.toInt = 0 then a.toInt else d.toInt)) (([.int a, .int b, .int d] : List Value).toArray) s 0 0 (fun _ => False) := ⟨_, rfl⟩
  rw [← hQ]
  refine lv_iload_n hx hb dX11_where_0 rfl (lv_at hl 1 rfl) ?_
  refine lv_if_ne (tgt := 8) hx hb dX11_where_1 (by decide) (fun c_1 => ?_) (fun c_1 => ?_)
  · skip
    have q_1 : b.toInt ≠ (0 : Int) := i_ne2 (rfl : b.toInt = b.toInt) (show (0 : Int32).toInt = (0 : Int) from rfl) c_1
    refine lv_iload_n hx hb dX11_where_8 rfl (lv_at hl 2 rfl) ?_
    rw [hQ]
    exact W.iret (v := d) hx hb hr (fun t ht hW => ⟨d, rfl, by split <;> omega, ht⟩) (fun q h => by cases h) dX11_where_9
  · skip
    have q_1 : b.toInt = (0 : Int) := i_eq2 (rfl : b.toInt = b.toInt) (show (0 : Int32).toInt = (0 : Int) from rfl) c_1
    refine lv_iload_n hx hb dX11_where_4 rfl (lv_at hl 0 rfl) ?_
    refine lv_goto (tgt := 9) hx hb dX11_where_5 (by decide) ?_
    rw [hQ]
    exact W.iret (v := a) hx hb hr (fun t ht hW => ⟨a, rfl, by split <;> omega, ht⟩) (fun q h => by cases h) dX11_where_9
set_option maxHeartbeats 4000000 in
set_option maxRecDepth 100000 in
theorem c_X11_droneAt (l : Launch) (D : va_G) (cy : Nat → ClassId) (ad : Nat → Nat) (hI : mInj ad) (sz : Nat) (iv : gIv) (ar : gAr) (a : Int32) (hs : 0 ≤ (ar 1 111).toInt ∧ (ar 1 111).toInt ≤ 6) : Met l yX11_droneAt wsX11_droneAt ({ frames := 0, cells := 0, slots := 0, locals := 0 } : Room) (va_Pc [.ref (ad 0), .int a] (mPre D cy ad sz iv ar)) (vp_Si (fun r => r.toInt = -1 ∧ (∀ i : Nat, (i : Int) < (ar 1 111).toInt → (ar 1 (112 + i)).toInt ≠ a.toInt) ∨ 0 ≤ r.toInt ∧ r.toInt < 6)) 0 0 (fun _ => False) := by
  refine Met.ofW (cc := cX11_droneAt) (maxL := 3) (ret := (some .int)) (by decide) rfl ?_
  intro p e s m args below meth c s₁ B hml hv
  obtain ⟨rfl, rfl, hP, hK, hSt, hNw⟩ := hv
  have hx := B.exec
  have hb := B.bytes
  have hr := B.returns
  have hts := atoms_spec (ws := wsX11_droneAt) B.pre
  have hown : s.vm.findClass RX11 = some m.cls := findClass_of_methodNamed B.named
  have hlocks := B.notSynchronized
  have hS : va_S (mA ad s.heap.size) s.heap s.heap [] := va_S.rf
  have inX11 : ∀ w ∈ u_ws RX11 TX11 30, w ∈ wsX11_droneAt := by decide +kernel
  have lk0 := hts (.fieldLink RX11 9 "FormationPlannerModel" "s" "[I") (by decide +kernel)
  have hl := lv_entry ([.ref (ad 0), .int a]) (n := 3) (Nat.le_of_ble_eq_true rfl)
  rw [lg_entry_eq]
  generalize (lg_sl ([.ref (ad 0), .int a]) ++ List.replicate (3 - (lg_sl ([.ref (ad 0), .int a])).length) Slot.unset).toArray = ls at hl ⊢
  have hl : lv_has ls 3 [(0, .ref (ad 0)), (1, .int a)] := hl
  obtain ⟨Q, hQ⟩ : ∃ Q, Q = MQ below (vp_Si (fun r => r.toInt = -1 ∧ (∀ i : Nat, (i : Int) < (ar 1 111).toInt → (ar 1 (112 + i)).toInt ≠ a.toInt) ∨ 0 ≤ r.toInt ∧ r.toInt < 6)) (([.ref (ad 0), .int a] : List Value).toArray) s 0 0 (fun _ => False) := ⟨_, rfl⟩
  rw [← hQ]
  refine lv_iconst (v := 0) hx hb dX11_droneAt_0 (by decide) ?_
  refine lv_istore_n (lv' := [(2, .int 0), (0, .ref (ad 0)), (1, .int a)]) hx hb dX11_droneAt_1 rfl hl (by decide) rfl (fun ls hl => ?_)
  have loop2 : ∀ (n : Nat) (x2_1 : Int32) (ls : Array Slot), ((6 - (x2_1.toInt)).toNat) < n → (0 ≤ (x2_1.toInt) ∧ (x2_1.toInt) ≤ 6) → (∀ i : Nat, (i : Int) < (x2_1.toInt) → (ar 1 (112 + i)).toInt ≠ a.toInt) → lv_has ls 3 [(2, .int x2_1), (0, .ref (ad 0)), (1, .int a)] → W p l e (headSpec wsX11_droneAt (({ frames := 0, cells := 0, slots := 0, locals := 0 } : Room))).room s m (([.ref (ad 0), .int a] : List Value).toArray) below meth c s.heap [] 0 0 Q (F0 m 2 ls []) := by
    intro n
    induction n with
    | zero => intro x2_1 ls hm; omega
    | succ n ih2 =>
      intro x2_1 ls hm hg0 hgn hl
      refine lv_iload_n hx hb dX11_droneAt_2 rfl (lv_at hl 0 rfl) ?_
      refine lv_aload_n hx hb dX11_droneAt_3 rfl (lv_at hl 1 rfl) ?_
      refine va_get (D := D) (ci := 11) (v := .ref (ad 1)) (C := RX11) (T := TX11) (N := 30) hx hb hts inX11 hown hK hP 0 (m_at11 (Nat.le_of_ble_eq_true rfl) rfl) rfl 0 (by decide) lk0 (fun _ h9 => h9) rfl dX11_droneAt_4 ?_
      refine lv_bipush (v := 111) hx hb dX11_droneAt_7 (by decide) ?_
      refine va_iald hx hb hK hP 1 0 (m_at12 (Nat.le_of_ble_eq_true rfl) rfl) rfl (g_in (N := 126) (show (111 : Int32).toInt = (111 : Int) from rfl) rfl (by omega) (by omega)) dX11_droneAt_9 ?_
      refine lv_topi (fun v_3 ev_3 => ?_)
      have hv1 : v_3.toInt = (ar 1 111).toInt := by rw [ev_3]; rfl
      refine lv_icmp_ge (tgt := 34) hx hb dX11_droneAt_10 (by decide) (fun c_4 => ?_) (fun c_4 => ?_)
      · skip
        have q_4 : v_3.toInt ≤ x2_1.toInt := i_le2 (rfl : v_3.toInt = v_3.toInt) (rfl : x2_1.toInt = x2_1.toInt) c_4
        refine lv_iconst (v := (-1)) hx hb dX11_droneAt_34 (by decide) ?_
        rw [hQ]
        exact W.iret (v := (-1)) hx hb hr (fun t ht hW => ⟨(-1), rfl, Or.inl ⟨rfl, fun i hi => hgn i (by omega)⟩, ht⟩) (fun q h => by cases h) dX11_droneAt_35
      · skip
        have q_4 : x2_1.toInt < v_3.toInt := i_nle2 (rfl : v_3.toInt = v_3.toInt) (rfl : x2_1.toInt = x2_1.toInt) c_4
        refine lv_aload_n hx hb dX11_droneAt_13 rfl (lv_at hl 1 rfl) ?_
        refine va_get (D := D) (ci := 11) (v := .ref (ad 1)) (C := RX11) (T := TX11) (N := 30) hx hb hts inX11 hown hK hP 0 (m_at11 (Nat.le_of_ble_eq_true rfl) rfl) rfl 0 (by decide) lk0 (fun _ h9 => h9) rfl dX11_droneAt_14 ?_
        refine lv_bipush (v := 112) hx hb dX11_droneAt_17 (by decide) ?_
        refine lv_iload_n hx hb dX11_droneAt_19 rfl (lv_at hl 0 rfl) ?_
        refine lv_iadd hx hb dX11_droneAt_20 ?_
        refine lv_topi (fun v_5 ev_5 => ?_)
        have tv_5 : v_5.toInt = (112 : Int) + x2_1.toInt := i_add (show (112 : Int32).toInt = (112 : Int) from rfl) (rfl : x2_1.toInt = x2_1.toInt) (by omega) (by omega) ev_5
        refine va_iald hx hb hK hP 1 0 (m_at12 (Nat.le_of_ble_eq_true rfl) rfl) rfl (g_in (N := 126) (rfl : v_5.toInt = v_5.toInt) rfl (by omega) (by omega)) dX11_droneAt_21 ?_
        refine lv_topi (fun v_6 ev_6 => ?_)
        have hv2 : v_6.toInt = (ar 1 (112 + (x2_1.toInt).toNat)).toInt := by
          rw [ev_6, g_cN (rfl : v_5.toInt = _)]
          congr 2
          omega
        refine lv_iload_n hx hb dX11_droneAt_22 rfl (lv_at hl 2 rfl) ?_
        refine lv_icmp_ne (tgt := 28) hx hb dX11_droneAt_23 (by decide) (fun c_7 => ?_) (fun c_7 => ?_)
        · skip
          have q_7 : v_6.toInt ≠ a.toInt := i_ne2 (rfl : v_6.toInt = v_6.toInt) (rfl : a.toInt = a.toInt) c_7
          have hgn2 : ∀ i : Nat, (i : Int) < (x2_1.toInt) + 1 → (ar 1 (112 + i)).toInt ≠ a.toInt := fun i hi => (Classical.em ((i : Int) = (x2_1.toInt))).elim (fun e => by
            have e2 : i = (x2_1.toInt).toNat := by omega
            rw [e2]; omega) (fun e => hgn i (by omega))
          obtain ⟨x2_8, ex2_8⟩ : ∃ y : Int32, y = x2_1 + 1 := ⟨_, rfl⟩
          have tx2_8 : x2_8.toInt = x2_1.toInt + (1 : Int) := i_add (rfl : x2_1.toInt = x2_1.toInt) (show (1 : Int32).toInt = (1 : Int) from rfl) (by omega) (by omega) ex2_8
          refine lv_iinc (v := x2_8) (lv' := [(2, .int x2_8), (0, .ref (ad 0)), (1, .int a)]) hx hb dX11_droneAt_28 hl (k := 0) rfl (by rw [ex2_8]; rfl) (by decide) rfl (fun ls hl => ?_)
          refine lv_goto (tgt := 2) hx hb dX11_droneAt_31 (by decide) ?_
          exact ih2 x2_8 _ (by omega) (by omega) (fun i hi => hgn2 i (by omega)) (lv_sub hl [0, 1, 2] rfl)
        · skip
          have q_7 : v_6.toInt = a.toInt := i_eq2 (rfl : v_6.toInt = v_6.toInt) (rfl : a.toInt = a.toInt) c_7
          refine lv_iload_n hx hb dX11_droneAt_26 rfl (lv_at hl 0 rfl) ?_
          rw [hQ]
          exact W.iret (v := x2_1) hx hb hr (fun t ht hW => ⟨x2_1, rfl, Or.inr ⟨by omega, by omega⟩, ht⟩) (fun q h => by cases h) dX11_droneAt_27
  have zl_9 : (0 : Int32).toInt = (0 : Int) := rfl
  exact loop2 (((6 - ((0 : Int))).toNat) + 1) 0 _ (by omega) (by omega) (fun i hi => by exfalso; omega) (lv_sub hl [0, 1, 2] rfl)
set_option maxHeartbeats 4000000 in
set_option maxRecDepth 100000 in
theorem c_X11_slotAt (l : Launch) (D : va_G) (cy : Nat → ClassId) (ad : Nat → Nat) (hI : mInj ad) (sz : Nat) (iv : gIv) (ar : gAr) (a : Int32) (hs : 0 ≤ (ar 1 118).toInt ∧ (ar 1 118).toInt ≤ 6) : Met l yX11_slotAt wsX11_slotAt ({ frames := 0, cells := 0, slots := 0, locals := 0 } : Room) (va_Pc [.ref (ad 0), .int a] (mPre D cy ad sz iv ar)) (vp_Si (fun r => r.toInt = -1 ∧ (∀ i : Nat, (i : Int) < (ar 1 118).toInt → (ar 1 (119 + i)).toInt ≠ a.toInt) ∨ 0 ≤ r.toInt ∧ r.toInt < 6)) 0 0 (fun _ => False) := by
  refine Met.ofW (cc := cX11_slotAt) (maxL := 3) (ret := (some .int)) (by decide) rfl ?_
  intro p e s m args below meth c s₁ B hml hv
  obtain ⟨rfl, rfl, hP, hK, hSt, hNw⟩ := hv
  have hx := B.exec
  have hb := B.bytes
  have hr := B.returns
  have hts := atoms_spec (ws := wsX11_slotAt) B.pre
  have hown : s.vm.findClass RX11 = some m.cls := findClass_of_methodNamed B.named
  have hlocks := B.notSynchronized
  have hS : va_S (mA ad s.heap.size) s.heap s.heap [] := va_S.rf
  have inX11 : ∀ w ∈ u_ws RX11 TX11 30, w ∈ wsX11_slotAt := by decide +kernel
  have lk0 := hts (.fieldLink RX11 9 "FormationPlannerModel" "s" "[I") (by decide +kernel)
  have hl := lv_entry ([.ref (ad 0), .int a]) (n := 3) (Nat.le_of_ble_eq_true rfl)
  rw [lg_entry_eq]
  generalize (lg_sl ([.ref (ad 0), .int a]) ++ List.replicate (3 - (lg_sl ([.ref (ad 0), .int a])).length) Slot.unset).toArray = ls at hl ⊢
  have hl : lv_has ls 3 [(0, .ref (ad 0)), (1, .int a)] := hl
  obtain ⟨Q, hQ⟩ : ∃ Q, Q = MQ below (vp_Si (fun r => r.toInt = -1 ∧ (∀ i : Nat, (i : Int) < (ar 1 118).toInt → (ar 1 (119 + i)).toInt ≠ a.toInt) ∨ 0 ≤ r.toInt ∧ r.toInt < 6)) (([.ref (ad 0), .int a] : List Value).toArray) s 0 0 (fun _ => False) := ⟨_, rfl⟩
  rw [← hQ]
  refine lv_iconst (v := 0) hx hb dX11_slotAt_0 (by decide) ?_
  refine lv_istore_n (lv' := [(2, .int 0), (0, .ref (ad 0)), (1, .int a)]) hx hb dX11_slotAt_1 rfl hl (by decide) rfl (fun ls hl => ?_)
  have loop2 : ∀ (n : Nat) (x2_1 : Int32) (ls : Array Slot), ((6 - (x2_1.toInt)).toNat) < n → (0 ≤ (x2_1.toInt) ∧ (x2_1.toInt) ≤ 6) → (∀ i : Nat, (i : Int) < (x2_1.toInt) → (ar 1 (119 + i)).toInt ≠ a.toInt) → lv_has ls 3 [(2, .int x2_1), (0, .ref (ad 0)), (1, .int a)] → W p l e (headSpec wsX11_slotAt (({ frames := 0, cells := 0, slots := 0, locals := 0 } : Room))).room s m (([.ref (ad 0), .int a] : List Value).toArray) below meth c s.heap [] 0 0 Q (F0 m 2 ls []) := by
    intro n
    induction n with
    | zero => intro x2_1 ls hm; omega
    | succ n ih2 =>
      intro x2_1 ls hm hg0 hgn hl
      refine lv_iload_n hx hb dX11_slotAt_2 rfl (lv_at hl 0 rfl) ?_
      refine lv_aload_n hx hb dX11_slotAt_3 rfl (lv_at hl 1 rfl) ?_
      refine va_get (D := D) (ci := 11) (v := .ref (ad 1)) (C := RX11) (T := TX11) (N := 30) hx hb hts inX11 hown hK hP 0 (m_at11 (Nat.le_of_ble_eq_true rfl) rfl) rfl 0 (by decide) lk0 (fun _ h9 => h9) rfl dX11_slotAt_4 ?_
      refine lv_bipush (v := 118) hx hb dX11_slotAt_7 (by decide) ?_
      refine va_iald hx hb hK hP 1 0 (m_at12 (Nat.le_of_ble_eq_true rfl) rfl) rfl (g_in (N := 126) (show (118 : Int32).toInt = (118 : Int) from rfl) rfl (by omega) (by omega)) dX11_slotAt_9 ?_
      refine lv_topi (fun v_3 ev_3 => ?_)
      have hv1 : v_3.toInt = (ar 1 118).toInt := by rw [ev_3]; rfl
      refine lv_icmp_ge (tgt := 34) hx hb dX11_slotAt_10 (by decide) (fun c_4 => ?_) (fun c_4 => ?_)
      · skip
        have q_4 : v_3.toInt ≤ x2_1.toInt := i_le2 (rfl : v_3.toInt = v_3.toInt) (rfl : x2_1.toInt = x2_1.toInt) c_4
        refine lv_iconst (v := (-1)) hx hb dX11_slotAt_34 (by decide) ?_
        rw [hQ]
        exact W.iret (v := (-1)) hx hb hr (fun t ht hW => ⟨(-1), rfl, Or.inl ⟨rfl, fun i hi => hgn i (by omega)⟩, ht⟩) (fun q h => by cases h) dX11_slotAt_35
      · skip
        have q_4 : x2_1.toInt < v_3.toInt := i_nle2 (rfl : v_3.toInt = v_3.toInt) (rfl : x2_1.toInt = x2_1.toInt) c_4
        refine lv_aload_n hx hb dX11_slotAt_13 rfl (lv_at hl 1 rfl) ?_
        refine va_get (D := D) (ci := 11) (v := .ref (ad 1)) (C := RX11) (T := TX11) (N := 30) hx hb hts inX11 hown hK hP 0 (m_at11 (Nat.le_of_ble_eq_true rfl) rfl) rfl 0 (by decide) lk0 (fun _ h9 => h9) rfl dX11_slotAt_14 ?_
        refine lv_bipush (v := 119) hx hb dX11_slotAt_17 (by decide) ?_
        refine lv_iload_n hx hb dX11_slotAt_19 rfl (lv_at hl 0 rfl) ?_
        refine lv_iadd hx hb dX11_slotAt_20 ?_
        refine lv_topi (fun v_5 ev_5 => ?_)
        have tv_5 : v_5.toInt = (119 : Int) + x2_1.toInt := i_add (show (119 : Int32).toInt = (119 : Int) from rfl) (rfl : x2_1.toInt = x2_1.toInt) (by omega) (by omega) ev_5
        refine va_iald hx hb hK hP 1 0 (m_at12 (Nat.le_of_ble_eq_true rfl) rfl) rfl (g_in (N := 126) (rfl : v_5.toInt = v_5.toInt) rfl (by omega) (by omega)) dX11_slotAt_21 ?_
        refine lv_topi (fun v_6 ev_6 => ?_)
        have hv2 : v_6.toInt = (ar 1 (119 + (x2_1.toInt).toNat)).toInt := by
          rw [ev_6, g_cN (rfl : v_5.toInt = _)]
          congr 2
          omega
        refine lv_iload_n hx hb dX11_slotAt_22 rfl (lv_at hl 2 rfl) ?_
        refine lv_icmp_ne (tgt := 28) hx hb dX11_slotAt_23 (by decide) (fun c_7 => ?_) (fun c_7 => ?_)
        · skip
          have q_7 : v_6.toInt ≠ a.toInt := i_ne2 (rfl : v_6.toInt = v_6.toInt) (rfl : a.toInt = a.toInt) c_7
          have hgn2 : ∀ i : Nat, (i : Int) < (x2_1.toInt) + 1 → (ar 1 (119 + i)).toInt ≠ a.toInt := fun i hi => (Classical.em ((i : Int) = (x2_1.toInt))).elim (fun e => by
            have e2 : i = (x2_1.toInt).toNat := by omega
            rw [e2]; omega) (fun e => hgn i (by omega))
          obtain ⟨x2_8, ex2_8⟩ : ∃ y : Int32, y = x2_1 + 1 := ⟨_, rfl⟩
          have tx2_8 : x2_8.toInt = x2_1.toInt + (1 : Int) := i_add (rfl : x2_1.toInt = x2_1.toInt) (show (1 : Int32).toInt = (1 : Int) from rfl) (by omega) (by omega) ex2_8
          refine lv_iinc (v := x2_8) (lv' := [(2, .int x2_8), (0, .ref (ad 0)), (1, .int a)]) hx hb dX11_slotAt_28 hl (k := 0) rfl (by rw [ex2_8]; rfl) (by decide) rfl (fun ls hl => ?_)
          refine lv_goto (tgt := 2) hx hb dX11_slotAt_31 (by decide) ?_
          exact ih2 x2_8 _ (by omega) (by omega) (fun i hi => hgn2 i (by omega)) (lv_sub hl [0, 1, 2] rfl)
        · skip
          have q_7 : v_6.toInt = a.toInt := i_eq2 (rfl : v_6.toInt = v_6.toInt) (rfl : a.toInt = a.toInt) c_7
          refine lv_iload_n hx hb dX11_slotAt_26 rfl (lv_at hl 0 rfl) ?_
          rw [hQ]
          exact W.iret (v := x2_1) hx hb hr (fun t ht hW => ⟨x2_1, rfl, Or.inr ⟨by omega, by omega⟩, ht⟩) (fun q h => by cases h) dX11_slotAt_27
  have zl_9 : (0 : Int32).toInt = (0 : Int) := rfl
  exact loop2 (((6 - ((0 : Int))).toNat) + 1) 0 _ (by omega) (by omega) (fun i hi => by exfalso; omega) (lv_sub hl [0, 1, 2] rfl)
set_option maxHeartbeats 4000000 in
set_option maxRecDepth 100000 in
theorem c_X11_isDrone (l : Launch) (D : va_G) (cy : Nat → ClassId) (ad : Nat → Nat) (hI : mInj ad) (sz : Nat) (iv : gIv) (ar : gAr) (a : Int32) (hs : 0 ≤ (ar 1 111).toInt ∧ (ar 1 111).toInt ≤ 6) : Met l yX11_isDrone wsX11_isDrone ({ frames := 1, cells := 0, slots := 0, locals := 22 } : Room) (va_Pc [.ref (ad 0), .int a] (mPre D cy ad sz iv ar)) (vp_Si (fun r => r.toInt = 1 ∧ (0 ≤ a.toInt ∧ a.toInt < (ar 1 111).toInt) ∨ r.toInt = 0 ∧ ¬ (0 ≤ a.toInt ∧ a.toInt < (ar 1 111).toInt))) 0 0 (fun _ => False) := by
  refine Met.ofW (cc := cX11_isDrone) (maxL := 2) (ret := (some .boolean)) (by decide) rfl ?_
  intro p e s m args below meth c s₁ B hml hv
  obtain ⟨rfl, rfl, hP, hK, hSt, hNw⟩ := hv
  have hx := B.exec
  have hb := B.bytes
  have hr := B.returns
  have hts := atoms_spec (ws := wsX11_isDrone) B.pre
  have hown : s.vm.findClass RX11 = some m.cls := findClass_of_methodNamed B.named
  have hlocks := B.notSynchronized
  have hS : va_S (mA ad s.heap.size) s.heap s.heap [] := va_S.rf
  have inX11 : ∀ w ∈ u_ws RX11 TX11 30, w ∈ wsX11_isDrone := by decide +kernel
  have lk0 := hts (.fieldLink RX11 9 "FormationPlannerModel" "s" "[I") (by decide +kernel)
  have hl := lv_entry ([.ref (ad 0), .int a]) (n := 2) (Nat.le_of_ble_eq_true rfl)
  rw [lg_entry_eq]
  generalize (lg_sl ([.ref (ad 0), .int a]) ++ List.replicate (2 - (lg_sl ([.ref (ad 0), .int a])).length) Slot.unset).toArray = ls at hl ⊢
  have hl : lv_has ls 2 [(0, .ref (ad 0)), (1, .int a)] := hl
  obtain ⟨Q, hQ⟩ : ∃ Q, Q = MQ below (vp_Si (fun r => r.toInt = 1 ∧ (0 ≤ a.toInt ∧ a.toInt < (ar 1 111).toInt) ∨ r.toInt = 0 ∧ ¬ (0 ≤ a.toInt ∧ a.toInt < (ar 1 111).toInt))) (([.ref (ad 0), .int a] : List Value).toArray) s 0 0 (fun _ => False) := ⟨_, rfl⟩
  rw [← hQ]
  refine lv_iload_n hx hb dX11_isDrone_0 rfl (lv_at hl 1 rfl) ?_
  refine lv_iconst (v := 0) hx hb dX11_isDrone_1 (by decide) ?_
  refine lv_aload_n hx hb dX11_isDrone_2 rfl (lv_at hl 0 rfl) ?_
  refine va_get (D := D) (ci := 11) (v := .ref (ad 1)) (C := RX11) (T := TX11) (N := 30) hx hb hts inX11 hown hK hP 0 (m_at11 (Nat.le_of_ble_eq_true rfl) rfl) rfl 0 (by decide) lk0 (fun _ h9 => h9) rfl dX11_isDrone_3 ?_
  refine lv_bipush (v := 111) hx hb dX11_isDrone_6 (by decide) ?_
  refine va_iald hx hb hK hP 1 0 (m_at12 (Nat.le_of_ble_eq_true rfl) rfl) rfl (g_in (N := 126) (show (111 : Int32).toInt = (111 : Int) from rfl) rfl (by omega) (by omega)) dX11_isDrone_8 ?_
  refine lv_topi (fun v_1 ev_1 => ?_)
  have hv1 : v_1.toInt = (ar 1 111).toInt := by rw [ev_1]; rfl
  refine lv_iconst (v := 1) hx hb dX11_isDrone_9 (by decide) ?_
  refine lv_isub hx hb dX11_isDrone_10 ?_
  refine lv_topi (fun v_2 ev_2 => ?_)
  have tv_2 : v_2.toInt = v_1.toInt - (1 : Int) := i_sub (rfl : v_1.toInt = v_1.toInt) (show (1 : Int32).toInt = (1 : Int) from rfl) (by omega) (by omega) ev_2
  have zl_3 : (0 : Int32).toInt = (0 : Int) := rfl
  refine g_callSi (va_runS (As := [.int a, .int 0, .int v_2]) (rest := []) ⟨hx, hb, hml, hown, hts⟩ (c_X11_isIn l a 0 v_2) (va_cwS 3 hts gX11_isDrone_X11_isIn rfl rfl rfl (by decide +kernel) ⟨Nat.le_of_ble_eq_true rfl, Nat.le_of_ble_eq_true rfl⟩) (g_preT) rfl rfl hl.1 rfl (lv_room (Nat.le_of_ble_eq_true rfl)) dX11_isDrone_11 ⟨Nat.zero_le _, Nat.zero_le _⟩) (fun r_4 w_4 => ?_)
  try dsimp only at w_4
  rw [hQ]
  exact W.zret (v := r_4) hx hb hr (i_bool (by omega)) (fun t ht hW => ⟨r_4, rfl, by have z0 := i_l0; have z1 := i_l1; have zm := i_m1; omega, ht⟩) (fun q h => by cases h) dX11_isDrone_14
set_option maxHeartbeats 4000000 in
set_option maxRecDepth 100000 in
theorem c_X11_cell (l : Launch) (D : va_G) (cy : Nat → ClassId) (ad : Nat → Nat) (hI : mInj ad) (sz : Nat) (iv : gIv) (ar : gAr) (a : Int32) (b : Int32) (hd : 0 ≤ a.toInt ∧ a.toInt < 6) (ht : 0 ≤ b.toInt) : Met l yX11_cell wsX11_cell ({ frames := 1, cells := 0, slots := 0, locals := 15 } : Room) (va_Pc [.ref (ad 0), .int a, .int b] (mPre D cy ad sz iv ar)) (vp_Si (fun r => r.toInt = (ar 9 (61 * a.toInt.toNat + (if 60 < b.toInt then 60 else b.toInt.toNat))).toInt)) 0 0 (fun _ => False) := by
  refine Met.ofW (cc := cX11_cell) (maxL := 3) (ret := (some .int)) (by decide) rfl ?_
  intro p e s m args below meth c s₁ B hml hv
  obtain ⟨rfl, rfl, hP, hK, hSt, hNw⟩ := hv
  have hx := B.exec
  have hb := B.bytes
  have hr := B.returns
  have hts := atoms_spec (ws := wsX11_cell) B.pre
  have hown : s.vm.findClass RX11 = some m.cls := findClass_of_methodNamed B.named
  have hlocks := B.notSynchronized
  have hS : va_S (mA ad s.heap.size) s.heap s.heap [] := va_S.rf
  have inX11 : ∀ w ∈ u_ws RX11 TX11 30, w ∈ wsX11_cell := by decide +kernel
  have lk0 := hts (.fieldLink RX11 39 "FormationPlannerModel" "cellAt" "[I") (by decide +kernel)
  have lk1 := hts (.methodLink RX11 166 Lib.Math.min.name) (by decide +kernel)
  have lk2 := hts (.static Lib.Math.min.name) (by decide +kernel)
  have lk3 := hts (.initialized "java/lang/Math") (by decide +kernel)
  have lk4 := hts (.code Lib.Math.min.name Lib.Math.min.code 2 (some .int)) (by decide +kernel)
  have hl := lv_entry ([.ref (ad 0), .int a, .int b]) (n := 3) (Nat.le_of_ble_eq_true rfl)
  rw [lg_entry_eq]
  generalize (lg_sl ([.ref (ad 0), .int a, .int b]) ++ List.replicate (3 - (lg_sl ([.ref (ad 0), .int a, .int b])).length) Slot.unset).toArray = ls at hl ⊢
  have hl : lv_has ls 3 [(0, .ref (ad 0)), (1, .int a), (2, .int b)] := hl
  obtain ⟨Q, hQ⟩ : ∃ Q, Q = MQ below (vp_Si (fun r => r.toInt = (ar 9 (61 * a.toInt.toNat + (if 60 < b.toInt then 60 else b.toInt.toNat))).toInt)) (([.ref (ad 0), .int a, .int b] : List Value).toArray) s 0 0 (fun _ => False) := ⟨_, rfl⟩
  rw [← hQ]
  refine lv_aload_n hx hb dX11_cell_0 rfl (lv_at hl 0 rfl) ?_
  refine va_get (D := D) (ci := 11) (v := .ref (ad 9)) (C := RX11) (T := TX11) (N := 30) hx hb hts inX11 hown hK hP 0 (m_at11 (Nat.le_of_ble_eq_true rfl) rfl) rfl 19 (by decide) lk0 (fun _ h9 => h9) rfl dX11_cell_1 ?_
  refine lv_bipush (v := 61) hx hb dX11_cell_4 (by decide) ?_
  refine lv_iload_n hx hb dX11_cell_6 rfl (lv_at hl 1 rfl) ?_
  refine lv_imul hx hb dX11_cell_7 ?_
  refine lv_topi (fun v_1 ev_1 => ?_)
  have tv_1 : v_1.toInt = (61 : Int) * a.toInt := i_mul (show (61 : Int32).toInt = (61 : Int) from rfl) (rfl : a.toInt = a.toInt) (by omega) (by omega) ev_1
  refine lv_iload_n hx hb dX11_cell_8 rfl (lv_at hl 2 rfl) ?_
  refine lv_bipush (v := 60) hx hb dX11_cell_9 (by decide) ?_
  refine va_mmin (rest := [.int v_1, .ref (ad 9)]) hx hb (hml.trans hl.1.symm) hown lk1 lk2 lk3 lk4 (Nat.le_of_ble_eq_true rfl) (Nat.le_of_ble_eq_true rfl) (Nat.zero_le _) (Nat.zero_le _) dX11_cell_11 ?_
  refine lv_topi (fun v_2 ev_2 => ?_)
  have tv_2 : v_2.toInt = min b.toInt (60 : Int) := i_min (rfl : b.toInt = b.toInt) (show (60 : Int32).toInt = (60 : Int) from rfl) ev_2
  refine lv_iadd hx hb dX11_cell_14 ?_
  refine lv_topi (fun v_3 ev_3 => ?_)
  have tv_3 : v_3.toInt = v_1.toInt + v_2.toInt := i_add (rfl : v_1.toInt = v_1.toInt) (rfl : v_2.toInt = v_2.toInt) (by omega) (by omega) ev_3
  refine va_iald hx hb hK hP 9 0 (m_at12 (Nat.le_of_ble_eq_true rfl) rfl) rfl (g_in (N := 366) (rfl : v_3.toInt = v_3.toInt) rfl (by omega) (by omega)) dX11_cell_15 ?_
  refine lv_topi (fun v_4 ev_4 => ?_)
  have hv1 : v_4.toInt = (ar 9 (61 * a.toInt.toNat + (if 60 < b.toInt then 60 else b.toInt.toNat))).toInt := by
    rw [ev_4, g_cN (rfl : v_3.toInt = _)]
    congr 2
    split <;> omega
  rw [hQ]
  exact W.iret (v := v_4) hx hb hr (fun t ht hW => ⟨v_4, rfl, hv1, ht⟩) (fun q h => by cases h) dX11_cell_16
set_option maxHeartbeats 4000000 in
set_option maxRecDepth 100000 in
theorem c_X11_mayDo (l : Launch) (D : va_G) (cy : Nat → ClassId) (ad : Nat → Nat) (hI : mInj ad) (sz : Nat) (iv : gIv) (ar : gAr) (a : Int32) (b : Int32) (d : Int32) (hc : 0 ≤ a.toInt ∧ a.toInt < 108) (hq : 0 ≤ b.toInt ∧ b.toInt < 7) (ht : 0 ≤ d.toInt ∧ d.toInt ≤ 60) : Met l yX11_mayDo wsX11_mayDo ({ frames := 2, cells := 0, slots := 0, locals := 48 } : Room) (va_Pc [.ref (ad 0), .int a, .int b, .int d] (mPre D cy ad sz iv ar)) (vp_Si (fun r => r.toInt = 1 ∧ MD (ar 1) (ar 15) a.toInt.toNat b.toInt.toNat d.toInt ∨ r.toInt = 0 ∧ ¬ MD (ar 1) (ar 15) a.toInt.toNat b.toInt.toNat d.toInt)) 0 0 (fun _ => False) := by
  refine Met.ofW (cc := cX11_mayDo) (maxL := 6) (ret := (some .boolean)) (by decide) rfl ?_
  intro p e s m args below meth c s₁ B hml hv
  obtain ⟨rfl, rfl, hP, hK, hSt, hNw⟩ := hv
  have hx := B.exec
  have hb := B.bytes
  have hr := B.returns
  have hts := atoms_spec (ws := wsX11_mayDo) B.pre
  have hown : s.vm.findClass RX11 = some m.cls := findClass_of_methodNamed B.named
  have hlocks := B.notSynchronized
  have hS : va_S (mA ad s.heap.size) s.heap s.heap [] := va_S.rf
  have hl := lv_entry ([.ref (ad 0), .int a, .int b, .int d]) (n := 6) (Nat.le_of_ble_eq_true rfl)
  rw [lg_entry_eq]
  generalize (lg_sl ([.ref (ad 0), .int a, .int b, .int d]) ++ List.replicate (6 - (lg_sl ([.ref (ad 0), .int a, .int b, .int d])).length) Slot.unset).toArray = ls at hl ⊢
  have hl : lv_has ls 6 [(0, .ref (ad 0)), (1, .int a), (2, .int b), (3, .int d)] := hl
  obtain ⟨Q, hQ⟩ : ∃ Q, Q = MQ below (vp_Si (fun r => r.toInt = 1 ∧ MD (ar 1) (ar 15) a.toInt.toNat b.toInt.toNat d.toInt ∨ r.toInt = 0 ∧ ¬ MD (ar 1) (ar 15) a.toInt.toNat b.toInt.toNat d.toInt)) (([.ref (ad 0), .int a, .int b, .int d] : List Value).toArray) s 0 0 (fun _ => False) := ⟨_, rfl⟩
  rw [← hQ]
  refine lv_iload_n hx hb dX11_mayDo_0 rfl (lv_at hl 2 rfl) ?_
  refine lv_if_ne (tgt := 27) hx hb dX11_mayDo_1 (by decide) (fun c_1 => ?_) (fun c_1 => ?_)
  · skip
    have q_1 : b.toInt ≠ (0 : Int) := i_ne2 (rfl : b.toInt = b.toInt) (show (0 : Int32).toInt = (0 : Int) from rfl) c_1
    refine lv_aload_n hx hb dX11_mayDo_27 rfl (lv_at hl 0 rfl) ?_
    refine lv_iload_n hx hb dX11_mayDo_28 rfl (lv_at hl 1 rfl) ?_
    refine lv_iload_n hx hb dX11_mayDo_29 rfl (lv_at hl 2 rfl) ?_
    refine g_callSi (va_runV (As := [.int a, .int b]) (rest := []) ⟨hx, hb, hml, hown, hts⟩ (c_X11_next l D cy ad hI _ iv ar a b (by omega) (by omega)) (cwV 2 hts gX11_mayDo_X11_next rfl rfl rfl (by decide +kernel) ⟨Nat.le_of_ble_eq_true rfl, Nat.le_of_ble_eq_true rfl⟩) (m_preV hP hK hSt hNw hS (m_at11 (Nat.le_of_ble_eq_true rfl) rfl) rfl) rfl rfl hl.1 rfl (lv_room (Nat.le_of_ble_eq_true rfl)) dX11_mayDo_30 ⟨Nat.zero_le _, Nat.zero_le _⟩) (fun r_2 w_2 => ?_)
    try dsimp only at w_2
    have hn1 : r_2.toInt = NX (ar 1) a.toInt.toNat b.toInt.toNat := w_2
    have hn2 := NX_b (f := ar 1) (c := a.toInt.toNat) (q := b.toInt.toNat) (by omega) (by omega)
    refine lv_istore (lv' := [(4, .int r_2), (0, .ref (ad 0)), (1, .int a), (2, .int b), (3, .int d)]) hx hb dX11_mayDo_33 hl (by decide) rfl (fun ls hl => ?_)
    refine lv_aload_n hx hb dX11_mayDo_35 rfl (lv_at hl 1 rfl) ?_
    refine lv_iload_n hx hb dX11_mayDo_36 rfl (lv_at hl 2 rfl) ?_
    refine lv_iload_n hx hb dX11_mayDo_37 rfl (lv_at hl 3 rfl) ?_
    refine g_callSi (va_runV (As := [.int a, .int b]) (rest := []) ⟨hx, hb, hml, hown, hts⟩ (c_X11_ticks l D cy ad hI _ iv ar a b (by omega) (by omega)) (cwV 2 hts gX11_mayDo_X11_ticks rfl rfl rfl (by decide +kernel) ⟨Nat.le_of_ble_eq_true rfl, Nat.le_of_ble_eq_true rfl⟩) (m_preV hP hK hSt hNw hS (m_at11 (Nat.le_of_ble_eq_true rfl) rfl) rfl) rfl rfl hl.1 rfl (lv_room (Nat.le_of_ble_eq_true rfl)) dX11_mayDo_38 ⟨Nat.zero_le _, Nat.zero_le _⟩) (fun r_3 w_3 => ?_)
    try dsimp only at w_3
    have hk1 : r_3.toInt = TK (ar 1) a.toInt.toNat b.toInt.toNat := w_3
    have hk2 := TK_b (f := ar 1) (c := a.toInt.toNat) (q := b.toInt.toNat)
    refine lv_istore (lv' := [(5, .int r_3), (4, .int r_2), (0, .ref (ad 0)), (1, .int a), (2, .int b), (3, .int d)]) hx hb dX11_mayDo_41 hl (by decide) rfl (fun ls hl => ?_)
    refine lv_iload hx hb dX11_mayDo_43 (lv_at hl 1 rfl) ?_
    refine lv_if_lt (tgt := 74) hx hb dX11_mayDo_45 (by decide) (fun c_4 => ?_) (fun c_4 => ?_)
    · skip
      have q_4 : r_2.toInt < (0 : Int) := i_lt2 (rfl : r_2.toInt = r_2.toInt) (show (0 : Int32).toInt = (0 : Int) from rfl) c_4
      refine lv_iconst (v := 0) hx hb dX11_mayDo_74 (by decide) ?_
      rw [hQ]
      exact W.zret (v := 0) hx hb hr rfl (fun t ht hW => ⟨0, rfl, by
        have z0 := i_l0
        have z1 := i_l1
        unfold MD
        omega, ht⟩) (fun q h => by cases h) dX11_mayDo_75
    · skip
      have q_4 : (0 : Int) ≤ r_2.toInt := i_nlt2 (rfl : r_2.toInt = r_2.toInt) (show (0 : Int32).toInt = (0 : Int) from rfl) c_4
      refine lv_iload_n hx hb dX11_mayDo_48 rfl (lv_at hl 5 rfl) ?_
      refine lv_iload hx hb dX11_mayDo_49 (lv_at hl 0 rfl) ?_
      refine lv_iadd hx hb dX11_mayDo_51 ?_
      refine lv_topi (fun v_5 ev_5 => ?_)
      have tv_5 : v_5.toInt = d.toInt + r_3.toInt := i_add (rfl : d.toInt = d.toInt) (rfl : r_3.toInt = r_3.toInt) (by omega) (by omega) ev_5
      refine lv_bipush (v := 60) hx hb dX11_mayDo_52 (by decide) ?_
      refine lv_icmp_gt (tgt := 74) hx hb dX11_mayDo_54 (by decide) (fun c_6 => ?_) (fun c_6 => ?_)
      · skip
        have q_6 : (60 : Int) < v_5.toInt := i_lt2 (show (60 : Int32).toInt = (60 : Int) from rfl) (rfl : v_5.toInt = v_5.toInt) c_6
        refine lv_iconst (v := 0) hx hb dX11_mayDo_74 (by decide) ?_
        rw [hQ]
        exact W.zret (v := 0) hx hb hr rfl (fun t ht hW => ⟨0, rfl, by
          have z0 := i_l0
          have z1 := i_l1
          unfold MD
          omega, ht⟩) (fun q h => by cases h) dX11_mayDo_75
      · skip
        have q_6 : v_5.toInt ≤ (60 : Int) := i_nlt2 (show (60 : Int32).toInt = (60 : Int) from rfl) (rfl : v_5.toInt = v_5.toInt) c_6
        refine lv_iload hx hb dX11_mayDo_57 (lv_at hl 0 rfl) ?_
        refine lv_iconst (v := 2) hx hb dX11_mayDo_59 (by decide) ?_
        refine lv_icmp_ne (tgt := 76) hx hb dX11_mayDo_60 (by decide) (fun c_7 => ?_) (fun c_7 => ?_)
        · skip
          have q_7 : r_3.toInt ≠ (2 : Int) := i_ne2 (rfl : r_3.toInt = r_3.toInt) (show (2 : Int32).toInt = (2 : Int) from rfl) c_7
          refine lv_aload_n hx hb dX11_mayDo_76 rfl (lv_at hl 2 rfl) ?_
          refine lv_iload hx hb dX11_mayDo_77 (lv_at hl 1 rfl) ?_
          refine lv_iload_n hx hb dX11_mayDo_79 rfl (lv_at hl 5 rfl) ?_
          refine lv_iload hx hb dX11_mayDo_80 (lv_at hl 0 rfl) ?_
          refine lv_iadd hx hb dX11_mayDo_82 ?_
          refine lv_topi (fun v_8 ev_8 => ?_)
          have tv_8 : v_8.toInt = d.toInt + r_3.toInt := i_add (rfl : d.toInt = d.toInt) (rfl : r_3.toInt = r_3.toInt) (by omega) (by omega) ev_8
          refine g_callSi (va_runV (As := [.int r_2, .int v_8]) (rest := []) ⟨hx, hb, hml, hown, hts⟩ (c_X11_isTakenAt l D cy ad hI _ iv ar r_2 v_8 (by omega) (by omega)) (cwV 2 hts gX11_mayDo_X11_isTakenAt rfl rfl rfl (by decide +kernel) ⟨Nat.le_of_ble_eq_true rfl, Nat.le_of_ble_eq_true rfl⟩) (m_preV hP hK hSt hNw hS (m_at11 (Nat.le_of_ble_eq_true rfl) rfl) rfl) rfl rfl hl.1 rfl (lv_room (Nat.le_of_ble_eq_true rfl)) dX11_mayDo_83 ⟨Nat.zero_le _, Nat.zero_le _⟩) (fun r_9 w_9 => ?_)
          try dsimp only at w_9
          have hq3 : r_9.toInt = tA (ar 15) (NX (ar 1) a.toInt.toNat b.toInt.toNat).toNat (d.toInt + TK (ar 1) a.toInt.toNat b.toInt.toNat) := by
            have h9 := w_9
            rw [show v_8.toInt = d.toInt + TK (ar 1) a.toInt.toNat b.toInt.toNat from by omega, show (r_2.toInt) = NX (ar 1) a.toInt.toNat b.toInt.toNat from by omega] at h9
            exact h9
          refine lv_if_ne (tgt := 109) hx hb dX11_mayDo_86 (by decide) (fun c_10 => ?_) (fun c_10 => ?_)
          · skip
            have q_10 : r_9.toInt ≠ (0 : Int) := i_ne2 (rfl : r_9.toInt = r_9.toInt) (show (0 : Int32).toInt = (0 : Int) from rfl) c_10
            refine lv_iconst (v := 0) hx hb dX11_mayDo_109 (by decide) ?_
            rw [hQ]
            exact W.zret (v := 0) hx hb hr rfl (fun t ht hW => ⟨0, rfl, by
              have z0 := i_l0
              have z1 := i_l1
              unfold MD
              omega, ht⟩) (fun q h => by cases h) dX11_mayDo_110
          · skip
            have q_10 : r_9.toInt = (0 : Int) := i_eq2 (rfl : r_9.toInt = r_9.toInt) (show (0 : Int32).toInt = (0 : Int) from rfl) c_10
            refine lv_aload_n hx hb dX11_mayDo_89 rfl (lv_at hl 2 rfl) ?_
            refine lv_iload_n hx hb dX11_mayDo_90 rfl (lv_at hl 3 rfl) ?_
            refine lv_iload hx hb dX11_mayDo_91 (lv_at hl 1 rfl) ?_
            refine lv_iload_n hx hb dX11_mayDo_93 rfl (lv_at hl 5 rfl) ?_
            refine lv_iload hx hb dX11_mayDo_94 (lv_at hl 0 rfl) ?_
            refine lv_iadd hx hb dX11_mayDo_96 ?_
            refine lv_topi (fun v_11 ev_11 => ?_)
            have tv_11 : v_11.toInt = d.toInt + r_3.toInt := i_add (rfl : d.toInt = d.toInt) (rfl : r_3.toInt = r_3.toInt) (by omega) (by omega) ev_11
            refine lv_iconst (v := 1) hx hb dX11_mayDo_97 (by decide) ?_
            refine lv_isub hx hb dX11_mayDo_98 ?_
            refine lv_topi (fun v_12 ev_12 => ?_)
            have tv_12 : v_12.toInt = v_11.toInt - (1 : Int) := i_sub (rfl : v_11.toInt = v_11.toInt) (show (1 : Int32).toInt = (1 : Int) from rfl) (by omega) (by omega) ev_12
            refine g_callSi (va_runV (As := [.int a, .int r_2, .int v_12]) (rest := []) ⟨hx, hb, hml, hown, hts⟩ (c_X11_isMet l D cy ad hI _ iv ar a r_2 v_12 (by omega) (by omega) (by omega)) (cwV 3 hts gX11_mayDo_X11_isMet rfl rfl rfl (by decide +kernel) ⟨Nat.le_of_ble_eq_true rfl, Nat.le_of_ble_eq_true rfl⟩) (m_preV hP hK hSt hNw hS (m_at11 (Nat.le_of_ble_eq_true rfl) rfl) rfl) rfl rfl hl.1 rfl (lv_room (Nat.le_of_ble_eq_true rfl)) dX11_mayDo_99 ⟨Nat.zero_le _, Nat.zero_le _⟩) (fun r_13 w_13 => ?_)
            try dsimp only at w_13
            have hq4 : r_13.toInt = mT (ar 15) a.toInt.toNat (NX (ar 1) a.toInt.toNat b.toInt.toNat).toNat (d.toInt + TK (ar 1) a.toInt.toNat b.toInt.toNat - 1) := by
              have h9 := w_13
              rw [show v_12.toInt = d.toInt + TK (ar 1) a.toInt.toNat b.toInt.toNat - 1 from by omega, show (r_2.toInt) = NX (ar 1) a.toInt.toNat b.toInt.toNat from by omega] at h9
              exact h9
            refine lv_if_ne (tgt := 109) hx hb dX11_mayDo_102 (by decide) (fun c_14 => ?_) (fun c_14 => ?_)
            · skip
              have q_14 : r_13.toInt ≠ (0 : Int) := i_ne2 (rfl : r_13.toInt = r_13.toInt) (show (0 : Int32).toInt = (0 : Int) from rfl) c_14
              refine lv_iconst (v := 0) hx hb dX11_mayDo_109 (by decide) ?_
              rw [hQ]
              exact W.zret (v := 0) hx hb hr rfl (fun t ht hW => ⟨0, rfl, by
                have z0 := i_l0
                have z1 := i_l1
                unfold MD
                omega, ht⟩) (fun q h => by cases h) dX11_mayDo_110
            · skip
              have q_14 : r_13.toInt = (0 : Int) := i_eq2 (rfl : r_13.toInt = r_13.toInt) (show (0 : Int32).toInt = (0 : Int) from rfl) c_14
              refine lv_iconst (v := 1) hx hb dX11_mayDo_105 (by decide) ?_
              refine lv_goto (tgt := 110) hx hb dX11_mayDo_106 (by decide) ?_
              rw [hQ]
              exact W.zret (v := 1) hx hb hr rfl (fun t ht hW => ⟨1, rfl, by
                have z0 := i_l0
                have z1 := i_l1
                unfold MD
                omega, ht⟩) (fun q h => by cases h) dX11_mayDo_110
        · skip
          have q_7 : r_3.toInt = (2 : Int) := i_eq2 (rfl : r_3.toInt = r_3.toInt) (show (2 : Int32).toInt = (2 : Int) from rfl) c_7
          refine lv_aload_n hx hb dX11_mayDo_63 rfl (lv_at hl 2 rfl) ?_
          refine lv_iload_n hx hb dX11_mayDo_64 rfl (lv_at hl 3 rfl) ?_
          refine lv_iload_n hx hb dX11_mayDo_65 rfl (lv_at hl 5 rfl) ?_
          refine lv_iconst (v := 1) hx hb dX11_mayDo_66 (by decide) ?_
          refine lv_iadd hx hb dX11_mayDo_67 ?_
          refine lv_topi (fun v_15 ev_15 => ?_)
          have tv_15 : v_15.toInt = d.toInt + (1 : Int) := i_add (rfl : d.toInt = d.toInt) (show (1 : Int32).toInt = (1 : Int) from rfl) (by omega) (by omega) ev_15
          refine g_callSi (va_runV (As := [.int a, .int v_15]) (rest := []) ⟨hx, hb, hml, hown, hts⟩ (c_X11_isTakenAt l D cy ad hI _ iv ar a v_15 (by omega) (by omega)) (cwV 2 hts gX11_mayDo_X11_isTakenAt rfl rfl rfl (by decide +kernel) ⟨Nat.le_of_ble_eq_true rfl, Nat.le_of_ble_eq_true rfl⟩) (m_preV hP hK hSt hNw hS (m_at11 (Nat.le_of_ble_eq_true rfl) rfl) rfl) rfl rfl hl.1 rfl (lv_room (Nat.le_of_ble_eq_true rfl)) dX11_mayDo_68 ⟨Nat.zero_le _, Nat.zero_le _⟩) (fun r_16 w_16 => ?_)
          try dsimp only at w_16
          have hq2 : r_16.toInt = tA (ar 15) a.toInt.toNat (d.toInt + 1) := by
            have h9 := w_16
            rw [show v_15.toInt = d.toInt + 1 from by omega] at h9
            exact h9
          refine lv_if_eq (tgt := 76) hx hb dX11_mayDo_71 (by decide) (fun c_17 => ?_) (fun c_17 => ?_)
          · skip
            have q_17 : r_16.toInt = (0 : Int) := i_eq2 (rfl : r_16.toInt = r_16.toInt) (show (0 : Int32).toInt = (0 : Int) from rfl) c_17
            refine lv_aload_n hx hb dX11_mayDo_76 rfl (lv_at hl 2 rfl) ?_
            refine lv_iload hx hb dX11_mayDo_77 (lv_at hl 1 rfl) ?_
            refine lv_iload_n hx hb dX11_mayDo_79 rfl (lv_at hl 5 rfl) ?_
            refine lv_iload hx hb dX11_mayDo_80 (lv_at hl 0 rfl) ?_
            refine lv_iadd hx hb dX11_mayDo_82 ?_
            refine lv_topi (fun v_18 ev_18 => ?_)
            have tv_18 : v_18.toInt = d.toInt + r_3.toInt := i_add (rfl : d.toInt = d.toInt) (rfl : r_3.toInt = r_3.toInt) (by omega) (by omega) ev_18
            refine g_callSi (va_runV (As := [.int r_2, .int v_18]) (rest := []) ⟨hx, hb, hml, hown, hts⟩ (c_X11_isTakenAt l D cy ad hI _ iv ar r_2 v_18 (by omega) (by omega)) (cwV 2 hts gX11_mayDo_X11_isTakenAt rfl rfl rfl (by decide +kernel) ⟨Nat.le_of_ble_eq_true rfl, Nat.le_of_ble_eq_true rfl⟩) (m_preV hP hK hSt hNw hS (m_at11 (Nat.le_of_ble_eq_true rfl) rfl) rfl) rfl rfl hl.1 rfl (lv_room (Nat.le_of_ble_eq_true rfl)) dX11_mayDo_83 ⟨Nat.zero_le _, Nat.zero_le _⟩) (fun r_19 w_19 => ?_)
            try dsimp only at w_19
            have hq3 : r_19.toInt = tA (ar 15) (NX (ar 1) a.toInt.toNat b.toInt.toNat).toNat (d.toInt + TK (ar 1) a.toInt.toNat b.toInt.toNat) := by
              have h9 := w_19
              rw [show v_18.toInt = d.toInt + TK (ar 1) a.toInt.toNat b.toInt.toNat from by omega, show (r_2.toInt) = NX (ar 1) a.toInt.toNat b.toInt.toNat from by omega] at h9
              exact h9
            refine lv_if_ne (tgt := 109) hx hb dX11_mayDo_86 (by decide) (fun c_20 => ?_) (fun c_20 => ?_)
            · skip
              have q_20 : r_19.toInt ≠ (0 : Int) := i_ne2 (rfl : r_19.toInt = r_19.toInt) (show (0 : Int32).toInt = (0 : Int) from rfl) c_20
              refine lv_iconst (v := 0) hx hb dX11_mayDo_109 (by decide) ?_
              rw [hQ]
              exact W.zret (v := 0) hx hb hr rfl (fun t ht hW => ⟨0, rfl, by
                have z0 := i_l0
                have z1 := i_l1
                unfold MD
                omega, ht⟩) (fun q h => by cases h) dX11_mayDo_110
            · skip
              have q_20 : r_19.toInt = (0 : Int) := i_eq2 (rfl : r_19.toInt = r_19.toInt) (show (0 : Int32).toInt = (0 : Int) from rfl) c_20
              refine lv_aload_n hx hb dX11_mayDo_89 rfl (lv_at hl 2 rfl) ?_
              refine lv_iload_n hx hb dX11_mayDo_90 rfl (lv_at hl 3 rfl) ?_
              refine lv_iload hx hb dX11_mayDo_91 (lv_at hl 1 rfl) ?_
              refine lv_iload_n hx hb dX11_mayDo_93 rfl (lv_at hl 5 rfl) ?_
              refine lv_iload hx hb dX11_mayDo_94 (lv_at hl 0 rfl) ?_
              refine lv_iadd hx hb dX11_mayDo_96 ?_
              refine lv_topi (fun v_21 ev_21 => ?_)
              have tv_21 : v_21.toInt = d.toInt + r_3.toInt := i_add (rfl : d.toInt = d.toInt) (rfl : r_3.toInt = r_3.toInt) (by omega) (by omega) ev_21
              refine lv_iconst (v := 1) hx hb dX11_mayDo_97 (by decide) ?_
              refine lv_isub hx hb dX11_mayDo_98 ?_
              refine lv_topi (fun v_22 ev_22 => ?_)
              have tv_22 : v_22.toInt = v_21.toInt - (1 : Int) := i_sub (rfl : v_21.toInt = v_21.toInt) (show (1 : Int32).toInt = (1 : Int) from rfl) (by omega) (by omega) ev_22
              refine g_callSi (va_runV (As := [.int a, .int r_2, .int v_22]) (rest := []) ⟨hx, hb, hml, hown, hts⟩ (c_X11_isMet l D cy ad hI _ iv ar a r_2 v_22 (by omega) (by omega) (by omega)) (cwV 3 hts gX11_mayDo_X11_isMet rfl rfl rfl (by decide +kernel) ⟨Nat.le_of_ble_eq_true rfl, Nat.le_of_ble_eq_true rfl⟩) (m_preV hP hK hSt hNw hS (m_at11 (Nat.le_of_ble_eq_true rfl) rfl) rfl) rfl rfl hl.1 rfl (lv_room (Nat.le_of_ble_eq_true rfl)) dX11_mayDo_99 ⟨Nat.zero_le _, Nat.zero_le _⟩) (fun r_23 w_23 => ?_)
              try dsimp only at w_23
              have hq4 : r_23.toInt = mT (ar 15) a.toInt.toNat (NX (ar 1) a.toInt.toNat b.toInt.toNat).toNat (d.toInt + TK (ar 1) a.toInt.toNat b.toInt.toNat - 1) := by
                have h9 := w_23
                rw [show v_22.toInt = d.toInt + TK (ar 1) a.toInt.toNat b.toInt.toNat - 1 from by omega, show (r_2.toInt) = NX (ar 1) a.toInt.toNat b.toInt.toNat from by omega] at h9
                exact h9
              refine lv_if_ne (tgt := 109) hx hb dX11_mayDo_102 (by decide) (fun c_24 => ?_) (fun c_24 => ?_)
              · skip
                have q_24 : r_23.toInt ≠ (0 : Int) := i_ne2 (rfl : r_23.toInt = r_23.toInt) (show (0 : Int32).toInt = (0 : Int) from rfl) c_24
                refine lv_iconst (v := 0) hx hb dX11_mayDo_109 (by decide) ?_
                rw [hQ]
                exact W.zret (v := 0) hx hb hr rfl (fun t ht hW => ⟨0, rfl, by
                  have z0 := i_l0
                  have z1 := i_l1
                  unfold MD
                  omega, ht⟩) (fun q h => by cases h) dX11_mayDo_110
              · skip
                have q_24 : r_23.toInt = (0 : Int) := i_eq2 (rfl : r_23.toInt = r_23.toInt) (show (0 : Int32).toInt = (0 : Int) from rfl) c_24
                refine lv_iconst (v := 1) hx hb dX11_mayDo_105 (by decide) ?_
                refine lv_goto (tgt := 110) hx hb dX11_mayDo_106 (by decide) ?_
                rw [hQ]
                exact W.zret (v := 1) hx hb hr rfl (fun t ht hW => ⟨1, rfl, by
                  have z0 := i_l0
                  have z1 := i_l1
                  unfold MD
                  omega, ht⟩) (fun q h => by cases h) dX11_mayDo_110
          · skip
            have q_17 : r_16.toInt ≠ (0 : Int) := i_ne2 (rfl : r_16.toInt = r_16.toInt) (show (0 : Int32).toInt = (0 : Int) from rfl) c_17
            refine lv_iconst (v := 0) hx hb dX11_mayDo_74 (by decide) ?_
            rw [hQ]
            exact W.zret (v := 0) hx hb hr rfl (fun t ht hW => ⟨0, rfl, by
              have z0 := i_l0
              have z1 := i_l1
              unfold MD
              omega, ht⟩) (fun q h => by cases h) dX11_mayDo_75
  · skip
    have q_1 : b.toInt = (0 : Int) := i_eq2 (rfl : b.toInt = b.toInt) (show (0 : Int32).toInt = (0 : Int) from rfl) c_1
    refine lv_iload_n hx hb dX11_mayDo_4 rfl (lv_at hl 3 rfl) ?_
    refine lv_bipush (v := 60) hx hb dX11_mayDo_5 (by decide) ?_
    refine lv_icmp_ge (tgt := 25) hx hb dX11_mayDo_7 (by decide) (fun c_25 => ?_) (fun c_25 => ?_)
    · skip
      have q_25 : (60 : Int) ≤ d.toInt := i_le2 (show (60 : Int32).toInt = (60 : Int) from rfl) (rfl : d.toInt = d.toInt) c_25
      refine lv_iconst (v := 0) hx hb dX11_mayDo_25 (by decide) ?_
      rw [hQ]
      exact W.zret (v := 0) hx hb hr rfl (fun t ht hW => ⟨0, rfl, by
        have z0 := i_l0
        have z1 := i_l1
        unfold MD
        omega, ht⟩) (fun q h => by cases h) dX11_mayDo_26
    · skip
      have q_25 : d.toInt < (60 : Int) := i_nle2 (show (60 : Int32).toInt = (60 : Int) from rfl) (rfl : d.toInt = d.toInt) c_25
      refine lv_aload_n hx hb dX11_mayDo_10 rfl (lv_at hl 0 rfl) ?_
      refine lv_iload_n hx hb dX11_mayDo_11 rfl (lv_at hl 1 rfl) ?_
      refine lv_iload_n hx hb dX11_mayDo_12 rfl (lv_at hl 3 rfl) ?_
      refine lv_iconst (v := 1) hx hb dX11_mayDo_13 (by decide) ?_
      refine lv_iadd hx hb dX11_mayDo_14 ?_
      refine lv_topi (fun v_26 ev_26 => ?_)
      have tv_26 : v_26.toInt = d.toInt + (1 : Int) := i_add (rfl : d.toInt = d.toInt) (show (1 : Int32).toInt = (1 : Int) from rfl) (by omega) (by omega) ev_26
      refine g_callSi (va_runV (As := [.int a, .int v_26]) (rest := []) ⟨hx, hb, hml, hown, hts⟩ (c_X11_isTakenAt l D cy ad hI _ iv ar a v_26 (by omega) (by omega)) (cwV 2 hts gX11_mayDo_X11_isTakenAt rfl rfl rfl (by decide +kernel) ⟨Nat.le_of_ble_eq_true rfl, Nat.le_of_ble_eq_true rfl⟩) (m_preV hP hK hSt hNw hS (m_at11 (Nat.le_of_ble_eq_true rfl) rfl) rfl) rfl rfl hl.1 rfl (lv_room (Nat.le_of_ble_eq_true rfl)) dX11_mayDo_15 ⟨Nat.zero_le _, Nat.zero_le _⟩) (fun r_27 w_27 => ?_)
      try dsimp only at w_27
      have hq1 : r_27.toInt = tA (ar 15) a.toInt.toNat (d.toInt + 1) := by
        have h9 := w_27
        rw [show v_26.toInt = d.toInt + 1 from by omega] at h9
        exact h9
      refine lv_if_ne (tgt := 25) hx hb dX11_mayDo_18 (by decide) (fun c_28 => ?_) (fun c_28 => ?_)
      · skip
        have q_28 : r_27.toInt ≠ (0 : Int) := i_ne2 (rfl : r_27.toInt = r_27.toInt) (show (0 : Int32).toInt = (0 : Int) from rfl) c_28
        refine lv_iconst (v := 0) hx hb dX11_mayDo_25 (by decide) ?_
        rw [hQ]
        exact W.zret (v := 0) hx hb hr rfl (fun t ht hW => ⟨0, rfl, by
          have z0 := i_l0
          have z1 := i_l1
          unfold MD
          omega, ht⟩) (fun q h => by cases h) dX11_mayDo_26
      · skip
        have q_28 : r_27.toInt = (0 : Int) := i_eq2 (rfl : r_27.toInt = r_27.toInt) (show (0 : Int32).toInt = (0 : Int) from rfl) c_28
        refine lv_iconst (v := 1) hx hb dX11_mayDo_21 (by decide) ?_
        refine lv_goto (tgt := 26) hx hb dX11_mayDo_22 (by decide) ?_
        rw [hQ]
        exact W.zret (v := 1) hx hb hr rfl (fun t ht hW => ⟨1, rfl, by
          have z0 := i_l0
          have z1 := i_l1
          unfold MD
          omega, ht⟩) (fun q h => by cases h) dX11_mayDo_26
