set_option maxHeartbeats 4000000 in
set_option maxRecDepth 100000 in
theorem c_X11_isIn (l : Launch) (a : Int32) (b : Int32) (d : Int32)  : Met l yX11_isIn wsX11_isIn ({ frames := 0, cells := 0, slots := 0, locals := 0 } : Room) (va_Pc [.int a, .int b, .int d] (fun _ => True)) (vp_Si (fun r => r.toInt = 1 ∧ (b.toInt ≤ a.toInt ∧ a.toInt ≤ d.toInt) ∨ r.toInt = 0 ∧ ¬ (b.toInt ≤ a.toInt ∧ a.toInt ≤ d.toInt))) 0 0 (fun _ => False) := by
  refine Met.ofW (cc := cX11_isIn) (maxL := 3) (ret := (some .boolean)) (by decide) rfl ?_
  intro p e s m args below meth c s₁ B hml hv
  obtain ⟨rfl, -⟩ := hv
  have hx := B.exec
  have hb := B.bytes
  have hr := B.returns
  have hts := atoms_spec (ws := wsX11_isIn) B.pre
  have hown : s.vm.findClass RX11 = some m.cls := findClass_of_methodNamed B.named
  have hlocks := B.notSynchronized
  have hl := lv_entry ([.int a, .int b, .int d]) (n := 3) (Nat.le_of_ble_eq_true rfl)
  rw [lg_entry_eq]
  generalize (lg_sl ([.int a, .int b, .int d]) ++ List.replicate (3 - (lg_sl ([.int a, .int b, .int d])).length) Slot.unset).toArray = ls at hl ⊢
  have hl : lv_has ls 3 [(0, .int a), (1, .int b), (2, .int d)] := hl
  obtain ⟨Q, hQ⟩ : ∃ Q, Q = MQ below (vp_Si (fun r => r.toInt = 1 ∧ (b.toInt ≤ a.toInt ∧ a.toInt ≤ d.toInt) ∨ r.toInt = 0 ∧ ¬ (b.toInt ≤ a.toInt ∧ a.toInt ≤ d.toInt))) (([.int a, .int b, .int d] : List Value).toArray) s 0 0 (fun _ => False) := ⟨_, rfl⟩
  rw [← hQ]
  refine lv_iload_n hx hb dX11_isIn_0 rfl (lv_at hl 0 rfl) ?_
  refine lv_iload_n hx hb dX11_isIn_1 rfl (lv_at hl 1 rfl) ?_
  refine lv_icmp_lt (tgt := 14) hx hb dX11_isIn_2 (by decide) (fun c_1 => ?_) (fun c_1 => ?_)
  · skip
    have q_1 : a.toInt < b.toInt := i_lt2 (rfl : a.toInt = a.toInt) (rfl : b.toInt = b.toInt) c_1
    refine lv_iconst (v := 0) hx hb dX11_isIn_14 (by decide) ?_
    rw [hQ]
    exact W.zret (v := 0) hx hb hr rfl (fun t ht hW => ⟨0, rfl, by have zr : (0 : Int32).toInt = (0 : Int) := (show (0 : Int32).toInt = (0 : Int) from rfl); have z0 := i_l0; have z1 := i_l1; omega, ht⟩) (fun q h => by cases h) dX11_isIn_15
  · skip
    have q_1 : b.toInt ≤ a.toInt := i_nlt2 (rfl : a.toInt = a.toInt) (rfl : b.toInt = b.toInt) c_1
    refine lv_iload_n hx hb dX11_isIn_5 rfl (lv_at hl 0 rfl) ?_
    refine lv_iload_n hx hb dX11_isIn_6 rfl (lv_at hl 2 rfl) ?_
    refine lv_icmp_gt (tgt := 14) hx hb dX11_isIn_7 (by decide) (fun c_2 => ?_) (fun c_2 => ?_)
    · skip
      have q_2 : d.toInt < a.toInt := i_lt2 (rfl : d.toInt = d.toInt) (rfl : a.toInt = a.toInt) c_2
      refine lv_iconst (v := 0) hx hb dX11_isIn_14 (by decide) ?_
      rw [hQ]
      exact W.zret (v := 0) hx hb hr rfl (fun t ht hW => ⟨0, rfl, by have zr : (0 : Int32).toInt = (0 : Int) := (show (0 : Int32).toInt = (0 : Int) from rfl); have z0 := i_l0; have z1 := i_l1; omega, ht⟩) (fun q h => by cases h) dX11_isIn_15
    · skip
      have q_2 : a.toInt ≤ d.toInt := i_nlt2 (rfl : d.toInt = d.toInt) (rfl : a.toInt = a.toInt) c_2
      refine lv_iconst (v := 1) hx hb dX11_isIn_10 (by decide) ?_
      refine lv_goto (tgt := 15) hx hb dX11_isIn_11 (by decide) ?_
      rw [hQ]
      exact W.zret (v := 1) hx hb hr rfl (fun t ht hW => ⟨1, rfl, by have zr : (1 : Int32).toInt = (1 : Int) := (show (1 : Int32).toInt = (1 : Int) from rfl); have z0 := i_l0; have z1 := i_l1; omega, ht⟩) (fun q h => by cases h) dX11_isIn_15
set_option maxHeartbeats 4000000 in
set_option maxRecDepth 100000 in
theorem c_X11_isCell (l : Launch) (a : Int32)  : Met l yX11_isCell wsX11_isCell ({ frames := 1, cells := 0, slots := 0, locals := 22 } : Room) (va_Pc [.int a] (fun _ => True)) (vp_Si (fun r => r.toInt = 1 ∧ (0 ≤ a.toInt ∧ a.toInt < 108) ∨ r.toInt = 0 ∧ ¬ (0 ≤ a.toInt ∧ a.toInt < 108))) 0 0 (fun _ => False) := by
  refine Met.ofW (cc := cX11_isCell) (maxL := 1) (ret := (some .boolean)) (by decide) rfl ?_
  intro p e s m args below meth c s₁ B hml hv
  obtain ⟨rfl, -⟩ := hv
  have hx := B.exec
  have hb := B.bytes
  have hr := B.returns
  have hts := atoms_spec (ws := wsX11_isCell) B.pre
  have hown : s.vm.findClass RX11 = some m.cls := findClass_of_methodNamed B.named
  have hlocks := B.notSynchronized
  have hl := lv_entry ([.int a]) (n := 1) (Nat.le_of_ble_eq_true rfl)
  rw [lg_entry_eq]
  generalize (lg_sl ([.int a]) ++ List.replicate (1 - (lg_sl ([.int a])).length) Slot.unset).toArray = ls at hl ⊢
  have hl : lv_has ls 1 [(0, .int a)] := hl
  obtain ⟨Q, hQ⟩ : ∃ Q, Q = MQ below (vp_Si (fun r => r.toInt = 1 ∧ (0 ≤ a.toInt ∧ a.toInt < 108) ∨ r.toInt = 0 ∧ ¬ (0 ≤ a.toInt ∧ a.toInt < 108))) (([.int a] : List Value).toArray) s 0 0 (fun _ => False) := ⟨_, rfl⟩
  rw [← hQ]
  refine lv_iload_n hx hb dX11_isCell_0 rfl (lv_at hl 0 rfl) ?_
  refine lv_iconst (v := 0) hx hb dX11_isCell_1 (by decide) ?_
  refine lv_bipush (v := 107) hx hb dX11_isCell_2 (by decide) ?_
  have zl_1 : (0 : Int32).toInt = (0 : Int) := rfl
  have zl_2 : (107 : Int32).toInt = (107 : Int) := rfl
  refine g_callSi (va_runS (As := [.int a, .int 0, .int 107]) (rest := []) ⟨hx, hb, hml, hown, hts⟩ (c_X11_isIn l a 0 107) (va_cwS 3 hts gX11_isCell_X11_isIn rfl rfl rfl (by decide +kernel) ⟨Nat.le_of_ble_eq_true rfl, Nat.le_of_ble_eq_true rfl⟩) (g_preT) rfl rfl hl.1 rfl (lv_room (Nat.le_of_ble_eq_true rfl)) dX11_isCell_4 ⟨Nat.zero_le _, Nat.zero_le _⟩) (fun r_3 w_3 => ?_)
  try dsimp only at w_3
  rw [hQ]
  exact W.zret (v := r_3) hx hb hr (i_bool (by omega)) (fun t ht hW => ⟨r_3, rfl, by have z0 := i_l0; have zz : (107 : Int32).toInt = 107 := rfl; omega, ht⟩) (fun q h => by cases h) dX11_isCell_7
set_option maxHeartbeats 4000000 in
set_option maxRecDepth 100000 in
theorem c_X11_layerOf (l : Launch) (a : Int32) (h0 : 0 ≤ a.toInt) : Met l yX11_layerOf wsX11_layerOf ({ frames := 0, cells := 0, slots := 0, locals := 0 } : Room) (va_Pc [.int a] (fun _ => True)) (vp_Si (fun r => r.toInt = a.toInt / 36)) 0 0 (fun _ => False) := by
  refine Met.ofW (cc := cX11_layerOf) (maxL := 1) (ret := (some .int)) (by decide) rfl ?_
  intro p e s m args below meth c s₁ B hml hv
  obtain ⟨rfl, -⟩ := hv
  have hx := B.exec
  have hb := B.bytes
  have hr := B.returns
  have hts := atoms_spec (ws := wsX11_layerOf) B.pre
  have hown : s.vm.findClass RX11 = some m.cls := findClass_of_methodNamed B.named
  have hlocks := B.notSynchronized
  have hl := lv_entry ([.int a]) (n := 1) (Nat.le_of_ble_eq_true rfl)
  rw [lg_entry_eq]
  generalize (lg_sl ([.int a]) ++ List.replicate (1 - (lg_sl ([.int a])).length) Slot.unset).toArray = ls at hl ⊢
  have hl : lv_has ls 1 [(0, .int a)] := hl
  obtain ⟨Q, hQ⟩ : ∃ Q, Q = MQ below (vp_Si (fun r => r.toInt = a.toInt / 36)) (([.int a] : List Value).toArray) s 0 0 (fun _ => False) := ⟨_, rfl⟩
  rw [← hQ]
  refine lv_iload_n hx hb dX11_layerOf_0 rfl (lv_at hl 0 rfl) ?_
  refine lv_bipush (v := 36) hx hb dX11_layerOf_1 (by decide) ?_
  refine lv_idiv hx hb dX11_layerOf_3 (by decide) ?_
  refine lv_topi (fun v_1 ev_1 => ?_)
  have tv_1 : v_1.toInt = a.toInt / (36 : Int) := i_div (rfl : a.toInt = a.toInt) (show (36 : Int32).toInt = (36 : Int) from rfl) (by omega) (by omega) ev_1
  rw [hQ]
  exact W.iret (v := v_1) hx hb hr (fun t ht hW => ⟨v_1, rfl, by have zr : v_1.toInt = v_1.toInt := (rfl : v_1.toInt = v_1.toInt); have z0 := i_l0; have z1 := i_l1; omega, ht⟩) (fun q h => by cases h) dX11_layerOf_4
set_option maxHeartbeats 4000000 in
set_option maxRecDepth 100000 in
theorem f_X11_isObstacle (l : Launch) (D : va_G) (cy : Nat → ClassId) (ad : Nat → Nat) (hI : mInj ad) (sz : Nat) (iv : gIv) (ar : gAr) (a : Int32) (hF_iv : mFr iv ar) (hc : 0 ≤ a.toInt ∧ a.toInt < 108) : Met l yX11_isObstacle wsX11_isObstacle ({ frames := 0, cells := 0, slots := 0, locals := 0 } : Room) (va_Pc [.ref (ad 0), .int a] (mPre D cy ad sz iv ar)) (vp_Si (fun r => r.toInt = 0)) 0 0 (fun _ => False) := by
  refine Met.ofW (cc := cX11_isObstacle) (maxL := 2) (ret := (some .boolean)) (by decide) rfl ?_
  intro p e s m args below meth c s₁ B hml hv
  obtain ⟨rfl, rfl, hP, hK, hSt, hNw⟩ := hv
  have hx := B.exec
  have hb := B.bytes
  have hr := B.returns
  have hts := atoms_spec (ws := wsX11_isObstacle) B.pre
  have hown : s.vm.findClass RX11 = some m.cls := findClass_of_methodNamed B.named
  have hlocks := B.notSynchronized
  have hS : va_S (mA ad s.heap.size) s.heap s.heap [] := va_S.rf
  have inX11 : ∀ w ∈ u_ws RX11 TX11 30, w ∈ wsX11_isObstacle := by decide +kernel
  have lk0 := hts (.fieldLink RX11 9 "FormationPlannerModel" "s" "[I") (by decide +kernel)
  have hl := lv_entry ([.ref (ad 0), .int a]) (n := 2) (Nat.le_of_ble_eq_true rfl)
  rw [lg_entry_eq]
  generalize (lg_sl ([.ref (ad 0), .int a]) ++ List.replicate (2 - (lg_sl ([.ref (ad 0), .int a])).length) Slot.unset).toArray = ls at hl ⊢
  have hl : lv_has ls 2 [(0, .ref (ad 0)), (1, .int a)] := hl
  obtain ⟨Q, hQ⟩ : ∃ Q, Q = MQ below (vp_Si (fun r => r.toInt = 0)) (([.ref (ad 0), .int a] : List Value).toArray) s 0 0 (fun _ => False) := ⟨_, rfl⟩
  rw [← hQ]
  refine lv_aload_n hx hb dX11_isObstacle_0 rfl (lv_at hl 0 rfl) ?_
  refine va_get (D := D) (ci := 11) (v := .ref (ad 1)) (C := RX11) (T := TX11) (N := 30) hx hb hts inX11 hown hK hP 0 (m_at11 (Nat.le_of_ble_eq_true rfl) rfl) rfl 0 (by decide) lk0 (fun _ h9 => h9) rfl dX11_isObstacle_1 ?_
  refine lv_iconst (v := 3) hx hb dX11_isObstacle_4 (by decide) ?_
  refine lv_iload_n hx hb dX11_isObstacle_5 rfl (lv_at hl 1 rfl) ?_
  refine lv_iadd hx hb dX11_isObstacle_6 ?_
  refine lv_topi (fun v_1 ev_1 => ?_)
  have tv_1 : v_1.toInt = (3 : Int) + a.toInt := i_add (show (3 : Int32).toInt = (3 : Int) from rfl) (rfl : a.toInt = a.toInt) (by omega) (by omega) ev_1
  refine va_iald hx hb hK hP 1 0 (m_at12 (Nat.le_of_ble_eq_true rfl) rfl) rfl (g_in (N := 126) (rfl : v_1.toInt = v_1.toInt) rfl (by omega) (by omega)) dX11_isObstacle_7 ?_
  refine lv_topi (fun v_2 ev_2 => ?_)
  refine lv_iconst (v := 1) hx hb dX11_isObstacle_8 (by decide) ?_
  refine lv_icmp_ne (tgt := 16) hx hb dX11_isObstacle_9 (by decide) (fun c_3 => ?_) (fun c_3 => ?_)
  · skip
    have q_3 : (0 : Int) ≠ (1 : Int) := i_ne2 (show v_2.toInt = (0 : Int) from by rw [ev_2]; exact mra hF_iv 1 _ (by decide)) (show (1 : Int32).toInt = (1 : Int) from rfl) c_3
    refine lv_iconst (v := 0) hx hb dX11_isObstacle_16 (by decide) ?_
    rw [hQ]
    exact W.zret (v := 0) hx hb hr rfl (fun t ht hW => ⟨0, rfl, by have zr : (0 : Int32).toInt = (0 : Int) := (show (0 : Int32).toInt = (0 : Int) from rfl); have z0 := i_l0; have z1 := i_l1; omega, ht⟩) (fun q h => by cases h) dX11_isObstacle_17
  · skip
    have q_3 : (0 : Int) = (1 : Int) := i_eq2 (show v_2.toInt = (0 : Int) from by rw [ev_2]; exact mra hF_iv 1 _ (by decide)) (show (1 : Int32).toInt = (1 : Int) from rfl) c_3
    exfalso; omega
set_option maxHeartbeats 4000000 in
set_option maxRecDepth 100000 in
theorem f_X11_isDrone (l : Launch) (D : va_G) (cy : Nat → ClassId) (ad : Nat → Nat) (hI : mInj ad) (sz : Nat) (iv : gIv) (ar : gAr) (a : Int32) (hF_iv : mFr iv ar) : Met l yX11_isDrone wsX11_isDrone ({ frames := 1, cells := 0, slots := 0, locals := 22 } : Room) (va_Pc [.ref (ad 0), .int a] (mPre D cy ad sz iv ar)) (vp_Si (fun r => r.toInt = 0)) 0 0 (fun _ => False) := by
  refine Met.ofW (cc := cX11_isDrone) (maxL := 2) (ret := (some .boolean)) (by decide) rfl ?_
  intro p e s m args below meth c s₁ B hml hv
  obtain ⟨rfl, rfl, hP, hK, hSt, hNw⟩ := hv
  have hx := B.exec
  have hb := B.bytes
  have hr := B.returns
  have hts := atoms_spec (ws := wsX11_isDrone) B.pre
  have hown : s.vm.findClass RX11 = some m.cls := findClass_of_methodNamed B.named
  have hlocks := B.notSynchronized
  have hS : va_S (mA ad s.heap.size) s.heap s.heap [] := va_S.rf
  have inX11 : ∀ w ∈ u_ws RX11 TX11 30, w ∈ wsX11_isDrone := by decide +kernel
  have lk0 := hts (.fieldLink RX11 9 "FormationPlannerModel" "s" "[I") (by decide +kernel)
  have hl := lv_entry ([.ref (ad 0), .int a]) (n := 2) (Nat.le_of_ble_eq_true rfl)
  rw [lg_entry_eq]
  generalize (lg_sl ([.ref (ad 0), .int a]) ++ List.replicate (2 - (lg_sl ([.ref (ad 0), .int a])).length) Slot.unset).toArray = ls at hl ⊢
  have hl : lv_has ls 2 [(0, .ref (ad 0)), (1, .int a)] := hl
  obtain ⟨Q, hQ⟩ : ∃ Q, Q = MQ below (vp_Si (fun r => r.toInt = 0)) (([.ref (ad 0), .int a] : List Value).toArray) s 0 0 (fun _ => False) := ⟨_, rfl⟩
  rw [← hQ]
  refine lv_iload_n hx hb dX11_isDrone_0 rfl (lv_at hl 1 rfl) ?_
  refine lv_iconst (v := 0) hx hb dX11_isDrone_1 (by decide) ?_
  refine lv_aload_n hx hb dX11_isDrone_2 rfl (lv_at hl 0 rfl) ?_
  refine va_get (D := D) (ci := 11) (v := .ref (ad 1)) (C := RX11) (T := TX11) (N := 30) hx hb hts inX11 hown hK hP 0 (m_at11 (Nat.le_of_ble_eq_true rfl) rfl) rfl 0 (by decide) lk0 (fun _ h9 => h9) rfl dX11_isDrone_3 ?_
  refine lv_bipush (v := 111) hx hb dX11_isDrone_6 (by decide) ?_
  refine va_iald hx hb hK hP 1 0 (m_at12 (Nat.le_of_ble_eq_true rfl) rfl) rfl (g_in (N := 126) (show (111 : Int32).toInt = (111 : Int) from rfl) rfl (by omega) (by omega)) dX11_isDrone_8 ?_
  refine lv_topi (fun v_1 ev_1 => ?_)
  refine lv_iconst (v := 1) hx hb dX11_isDrone_9 (by decide) ?_
  refine lv_isub hx hb dX11_isDrone_10 ?_
  refine lv_topi (fun v_2 ev_2 => ?_)
  have tv_2 : v_2.toInt = (0 : Int) - (1 : Int) := i_sub (show v_1.toInt = (0 : Int) from by rw [ev_1]; exact mra hF_iv 1 _ (by decide)) (show (1 : Int32).toInt = (1 : Int) from rfl) (by omega) (by omega) ev_2
  have zl_3 : (0 : Int32).toInt = (0 : Int) := rfl
  refine g_callSi (va_runS (As := [.int a, .int 0, .int v_2]) (rest := []) ⟨hx, hb, hml, hown, hts⟩ (c_X11_isIn l a 0 v_2) (va_cwS 3 hts gX11_isDrone_X11_isIn rfl rfl rfl (by decide +kernel) ⟨Nat.le_of_ble_eq_true rfl, Nat.le_of_ble_eq_true rfl⟩) (g_preT) rfl rfl hl.1 rfl (lv_room (Nat.le_of_ble_eq_true rfl)) dX11_isDrone_11 ⟨Nat.zero_le _, Nat.zero_le _⟩) (fun r_4 w_4 => ?_)
  try dsimp only at w_4
  rw [hQ]
  exact W.zret (v := r_4) hx hb hr (i_bool (by omega)) (fun t ht hW => ⟨r_4, rfl, by have z0 := i_l0; omega, ht⟩) (fun q h => by cases h) dX11_isDrone_14
set_option maxHeartbeats 4000000 in
set_option maxRecDepth 100000 in
theorem f_X11_droneAt (l : Launch) (D : va_G) (cy : Nat → ClassId) (ad : Nat → Nat) (hI : mInj ad) (sz : Nat) (iv : gIv) (ar : gAr) (a : Int32) (hF_iv : mFr iv ar) : Met l yX11_droneAt wsX11_droneAt ({ frames := 0, cells := 0, slots := 0, locals := 0 } : Room) (va_Pc [.ref (ad 0), .int a] (mPre D cy ad sz iv ar)) (vp_Si (fun r => r.toInt = -1)) 0 0 (fun _ => False) := by
  refine Met.ofW (cc := cX11_droneAt) (maxL := 3) (ret := (some .int)) (by decide) rfl ?_
  intro p e s m args below meth c s₁ B hml hv
  obtain ⟨rfl, rfl, hP, hK, hSt, hNw⟩ := hv
  have hx := B.exec
  have hb := B.bytes
  have hr := B.returns
  have hts := atoms_spec (ws := wsX11_droneAt) B.pre
  have hown : s.vm.findClass RX11 = some m.cls := findClass_of_methodNamed B.named
  have hlocks := B.notSynchronized
  have hS : va_S (mA ad s.heap.size) s.heap s.heap [] := va_S.rf
  have inX11 : ∀ w ∈ u_ws RX11 TX11 30, w ∈ wsX11_droneAt := by decide +kernel
  have lk0 := hts (.fieldLink RX11 9 "FormationPlannerModel" "s" "[I") (by decide +kernel)
  have hl := lv_entry ([.ref (ad 0), .int a]) (n := 3) (Nat.le_of_ble_eq_true rfl)
  rw [lg_entry_eq]
  generalize (lg_sl ([.ref (ad 0), .int a]) ++ List.replicate (3 - (lg_sl ([.ref (ad 0), .int a])).length) Slot.unset).toArray = ls at hl ⊢
  have hl : lv_has ls 3 [(0, .ref (ad 0)), (1, .int a)] := hl
  obtain ⟨Q, hQ⟩ : ∃ Q, Q = MQ below (vp_Si (fun r => r.toInt = -1)) (([.ref (ad 0), .int a] : List Value).toArray) s 0 0 (fun _ => False) := ⟨_, rfl⟩
  rw [← hQ]
  refine lv_iconst (v := 0) hx hb dX11_droneAt_0 (by decide) ?_
  refine lv_istore_n (lv' := [(2, .int 0), (0, .ref (ad 0)), (1, .int a)]) hx hb dX11_droneAt_1 rfl hl (by decide) rfl (fun ls hl => ?_)
  refine lv_iload_n hx hb dX11_droneAt_2 rfl (lv_at hl 0 rfl) ?_
  refine lv_aload_n hx hb dX11_droneAt_3 rfl (lv_at hl 1 rfl) ?_
  refine va_get (D := D) (ci := 11) (v := .ref (ad 1)) (C := RX11) (T := TX11) (N := 30) hx hb hts inX11 hown hK hP 0 (m_at11 (Nat.le_of_ble_eq_true rfl) rfl) rfl 0 (by decide) lk0 (fun _ h9 => h9) rfl dX11_droneAt_4 ?_
  refine lv_bipush (v := 111) hx hb dX11_droneAt_7 (by decide) ?_
  refine va_iald hx hb hK hP 1 0 (m_at12 (Nat.le_of_ble_eq_true rfl) rfl) rfl (g_in (N := 126) (show (111 : Int32).toInt = (111 : Int) from rfl) rfl (by omega) (by omega)) dX11_droneAt_9 ?_
  refine lv_topi (fun v_1 ev_1 => ?_)
  refine lv_icmp_ge (tgt := 34) hx hb dX11_droneAt_10 (by decide) (fun c_2 => ?_) (fun c_2 => ?_)
  · skip
    have q_2 : (0 : Int) ≤ (0 : Int) := i_le2 (show v_1.toInt = (0 : Int) from by rw [ev_1]; exact mra hF_iv 1 _ (by decide)) (show (0 : Int32).toInt = (0 : Int) from rfl) c_2
    refine lv_iconst (v := (-1)) hx hb dX11_droneAt_34 (by decide) ?_
    rw [hQ]
    exact W.iret (v := (-1)) hx hb hr (fun t ht hW => ⟨(-1), rfl, by have zr : ((-1) : Int32).toInt = (-1 : Int) := (show ((-1) : Int32).toInt = (-1 : Int) from rfl); have z0 := i_l0; have z1 := i_l1; omega, ht⟩) (fun q h => by cases h) dX11_droneAt_35
  · skip
    have q_2 : (0 : Int) < (0 : Int) := i_nle2 (show v_1.toInt = (0 : Int) from by rw [ev_1]; exact mra hF_iv 1 _ (by decide)) (show (0 : Int32).toInt = (0 : Int) from rfl) c_2
    exfalso; omega
set_option maxHeartbeats 4000000 in
set_option maxRecDepth 100000 in
theorem f_X11_slotAt (l : Launch) (D : va_G) (cy : Nat → ClassId) (ad : Nat → Nat) (hI : mInj ad) (sz : Nat) (iv : gIv) (ar : gAr) (a : Int32) (hF_iv : mFr iv ar) : Met l yX11_slotAt wsX11_slotAt ({ frames := 0, cells := 0, slots := 0, locals := 0 } : Room) (va_Pc [.ref (ad 0), .int a] (mPre D cy ad sz iv ar)) (vp_Si (fun r => r.toInt = -1)) 0 0 (fun _ => False) := by
  refine Met.ofW (cc := cX11_slotAt) (maxL := 3) (ret := (some .int)) (by decide) rfl ?_
  intro p e s m args below meth c s₁ B hml hv
  obtain ⟨rfl, rfl, hP, hK, hSt, hNw⟩ := hv
  have hx := B.exec
  have hb := B.bytes
  have hr := B.returns
  have hts := atoms_spec (ws := wsX11_slotAt) B.pre
  have hown : s.vm.findClass RX11 = some m.cls := findClass_of_methodNamed B.named
  have hlocks := B.notSynchronized
  have hS : va_S (mA ad s.heap.size) s.heap s.heap [] := va_S.rf
  have inX11 : ∀ w ∈ u_ws RX11 TX11 30, w ∈ wsX11_slotAt := by decide +kernel
  have lk0 := hts (.fieldLink RX11 9 "FormationPlannerModel" "s" "[I") (by decide +kernel)
  have hl := lv_entry ([.ref (ad 0), .int a]) (n := 3) (Nat.le_of_ble_eq_true rfl)
  rw [lg_entry_eq]
  generalize (lg_sl ([.ref (ad 0), .int a]) ++ List.replicate (3 - (lg_sl ([.ref (ad 0), .int a])).length) Slot.unset).toArray = ls at hl ⊢
  have hl : lv_has ls 3 [(0, .ref (ad 0)), (1, .int a)] := hl
  obtain ⟨Q, hQ⟩ : ∃ Q, Q = MQ below (vp_Si (fun r => r.toInt = -1)) (([.ref (ad 0), .int a] : List Value).toArray) s 0 0 (fun _ => False) := ⟨_, rfl⟩
  rw [← hQ]
  refine lv_iconst (v := 0) hx hb dX11_slotAt_0 (by decide) ?_
  refine lv_istore_n (lv' := [(2, .int 0), (0, .ref (ad 0)), (1, .int a)]) hx hb dX11_slotAt_1 rfl hl (by decide) rfl (fun ls hl => ?_)
  refine lv_iload_n hx hb dX11_slotAt_2 rfl (lv_at hl 0 rfl) ?_
  refine lv_aload_n hx hb dX11_slotAt_3 rfl (lv_at hl 1 rfl) ?_
  refine va_get (D := D) (ci := 11) (v := .ref (ad 1)) (C := RX11) (T := TX11) (N := 30) hx hb hts inX11 hown hK hP 0 (m_at11 (Nat.le_of_ble_eq_true rfl) rfl) rfl 0 (by decide) lk0 (fun _ h9 => h9) rfl dX11_slotAt_4 ?_
  refine lv_bipush (v := 118) hx hb dX11_slotAt_7 (by decide) ?_
  refine va_iald hx hb hK hP 1 0 (m_at12 (Nat.le_of_ble_eq_true rfl) rfl) rfl (g_in (N := 126) (show (118 : Int32).toInt = (118 : Int) from rfl) rfl (by omega) (by omega)) dX11_slotAt_9 ?_
  refine lv_topi (fun v_1 ev_1 => ?_)
  refine lv_icmp_ge (tgt := 34) hx hb dX11_slotAt_10 (by decide) (fun c_2 => ?_) (fun c_2 => ?_)
  · skip
    have q_2 : (0 : Int) ≤ (0 : Int) := i_le2 (show v_1.toInt = (0 : Int) from by rw [ev_1]; exact mra hF_iv 1 _ (by decide)) (show (0 : Int32).toInt = (0 : Int) from rfl) c_2
    refine lv_iconst (v := (-1)) hx hb dX11_slotAt_34 (by decide) ?_
    rw [hQ]
    exact W.iret (v := (-1)) hx hb hr (fun t ht hW => ⟨(-1), rfl, by have zr : ((-1) : Int32).toInt = (-1 : Int) := (show ((-1) : Int32).toInt = (-1 : Int) from rfl); have z0 := i_l0; have z1 := i_l1; omega, ht⟩) (fun q h => by cases h) dX11_slotAt_35
  · skip
    have q_2 : (0 : Int) < (0 : Int) := i_nle2 (show v_1.toInt = (0 : Int) from by rw [ev_1]; exact mra hF_iv 1 _ (by decide)) (show (0 : Int32).toInt = (0 : Int) from rfl) c_2
    exfalso; omega
set_option maxHeartbeats 4000000 in
set_option maxRecDepth 100000 in
theorem f_X11_here (l : Launch) (D : va_G) (cy : Nat → ClassId) (ad : Nat → Nat) (hI : mInj ad) (sz : Nat) (iv : gIv) (ar : gAr)  (hF_iv : mFr iv ar) : Met l yX11_here wsX11_here ({ frames := 0, cells := 0, slots := 0, locals := 0 } : Room) (va_Pc [.ref (ad 0)] (mPre D cy ad sz iv ar)) (vp_Si (fun r => r.toInt = -1)) 0 0 (fun _ => False) := by
  refine Met.ofW (cc := cX11_here) (maxL := 1) (ret := (some .int)) (by decide) rfl ?_
  intro p e s m args below meth c s₁ B hml hv
  obtain ⟨rfl, rfl, hP, hK, hSt, hNw⟩ := hv
  have hx := B.exec
  have hb := B.bytes
  have hr := B.returns
  have hts := atoms_spec (ws := wsX11_here) B.pre
  have hown : s.vm.findClass RX11 = some m.cls := findClass_of_methodNamed B.named
  have hlocks := B.notSynchronized
  have hS : va_S (mA ad s.heap.size) s.heap s.heap [] := va_S.rf
  have inX11 : ∀ w ∈ u_ws RX11 TX11 30, w ∈ wsX11_here := by decide +kernel
  have lk0 := hts (.fieldLink RX11 108 "FormationPlannerModel" "at" "I") (by decide +kernel)
  have lk1 := hts (.fieldLink RX11 105 "FormationPlannerModel" "written" "I") (by decide +kernel)
  have hl := lv_entry ([.ref (ad 0)]) (n := 1) (Nat.le_of_ble_eq_true rfl)
  rw [lg_entry_eq]
  generalize (lg_sl ([.ref (ad 0)]) ++ List.replicate (1 - (lg_sl ([.ref (ad 0)])).length) Slot.unset).toArray = ls at hl ⊢
  have hl : lv_has ls 1 [(0, .ref (ad 0))] := hl
  obtain ⟨Q, hQ⟩ : ∃ Q, Q = MQ below (vp_Si (fun r => r.toInt = -1)) (([.ref (ad 0)] : List Value).toArray) s 0 0 (fun _ => False) := ⟨_, rfl⟩
  rw [← hQ]
  refine lv_aload_n hx hb dX11_here_0 rfl (lv_at hl 0 rfl) ?_
  refine va_get (D := D) (ci := 11) (v := .int (iv 0 5)) (C := RX11) (T := TX11) (N := 30) hx hb hts inX11 hown hK hP 0 (m_at11 (Nat.le_of_ble_eq_true rfl) rfl) rfl 5 (by decide) lk0 (fun _ h9 => h9) rfl dX11_here_1 ?_
  refine lv_aload_n hx hb dX11_here_4 rfl (lv_at hl 0 rfl) ?_
  refine va_get (D := D) (ci := 11) (v := .int (iv 0 4)) (C := RX11) (T := TX11) (N := 30) hx hb hts inX11 hown hK hP 0 (m_at11 (Nat.le_of_ble_eq_true rfl) rfl) rfl 4 (by decide) lk1 (fun _ h9 => h9) rfl dX11_here_5 ?_
  refine lv_icmp_ge (tgt := 23) hx hb dX11_here_8 (by decide) (fun c_1 => ?_) (fun c_1 => ?_)
  · skip
    have q_1 : (0 : Int) ≤ (0 : Int) := i_le2 (mr0 hF_iv 0 4 (by decide)) (mr0 hF_iv 0 5 (by decide)) c_1
    refine lv_iconst (v := (-1)) hx hb dX11_here_23 (by decide) ?_
    rw [hQ]
    exact W.iret (v := (-1)) hx hb hr (fun t ht hW => ⟨(-1), rfl, by have zr : ((-1) : Int32).toInt = (-1 : Int) := (show ((-1) : Int32).toInt = (-1 : Int) from rfl); have z0 := i_l0; have z1 := i_l1; omega, ht⟩) (fun q h => by cases h) dX11_here_24
  · skip
    have q_1 : (0 : Int) < (0 : Int) := i_nle2 (mr0 hF_iv 0 4 (by decide)) (mr0 hF_iv 0 5 (by decide)) c_1
    exfalso; omega
set_option maxHeartbeats 4000000 in
set_option maxRecDepth 100000 in
theorem f_X11_keeps (l : Launch) (D : va_G) (cy : Nat → ClassId) (ad : Nat → Nat) (hI : mInj ad) (sz : Nat) (iv : gIv) (ar : gAr)  (hF_iv : mFr iv ar) : Met l yX11_keeps wsX11_keeps ({ frames := 0, cells := 0, slots := 0, locals := 0 } : Room) (va_Pc [.ref (ad 0)] (mPre D cy ad sz iv ar)) (va_Qv (fun (u : gIv × gAr) => (∀ a b, ¬ (a = 0 ∧ b = 3) → u.1 a b = iv a b) ∧ ∀ a, a ≠ 2 → u.2 a = ar a) (mPost D cy ad) (mA ad sz)) 0 0 (mA ad sz) := by
  refine Met.ofW (cc := cX11_keeps) (maxL := 2) (ret := none) (by decide) rfl ?_
  intro p e s m args below meth c s₁ B hml hv
  obtain ⟨rfl, rfl, hP, hK, hSt, hNw⟩ := hv
  have hx := B.exec
  have hb := B.bytes
  have hr := B.returns
  have hts := atoms_spec (ws := wsX11_keeps) B.pre
  have hown : s.vm.findClass RX11 = some m.cls := findClass_of_methodNamed B.named
  have hlocks := B.notSynchronized
  have hS : va_S (mA ad s.heap.size) s.heap s.heap [] := va_S.rf
  have inX11 : ∀ w ∈ u_ws RX11 TX11 30, w ∈ wsX11_keeps := by decide +kernel
  have lk0 := hts (.fieldLink RX11 77 "FormationPlannerModel" "changes" "I") (by decide +kernel)
  have lk1 := hts (.fieldLink RX11 13 "FormationPlannerModel" "past" "[I") (by decide +kernel)
  have lk2 := hts (.fieldLink RX11 9 "FormationPlannerModel" "s" "[I") (by decide +kernel)
  have hl := lv_entry ([.ref (ad 0)]) (n := 2) (Nat.le_of_ble_eq_true rfl)
  rw [lg_entry_eq]
  generalize (lg_sl ([.ref (ad 0)]) ++ List.replicate (2 - (lg_sl ([.ref (ad 0)])).length) Slot.unset).toArray = ls at hl ⊢
  have hl : lv_has ls 2 [(0, .ref (ad 0))] := hl
  obtain ⟨Q, hQ⟩ : ∃ Q, Q = MQ below (va_Qv (fun (u : gIv × gAr) => (∀ a b, ¬ (a = 0 ∧ b = 3) → u.1 a b = iv a b) ∧ ∀ a, a ≠ 2 → u.2 a = ar a) (mPost D cy ad) (mA ad s.heap.size)) (([.ref (ad 0)] : List Value).toArray) s 0 0 (mA ad s.heap.size) := ⟨_, rfl⟩
  rw [← hQ]
  refine lv_aload_n hx hb dX11_keeps_0 rfl (lv_at hl 0 rfl) ?_
  refine va_get (D := D) (ci := 11) (v := .int (iv 0 3)) (C := RX11) (T := TX11) (N := 30) hx hb hts inX11 hown hK hP 0 (m_at11 (Nat.le_of_ble_eq_true rfl) rfl) rfl 3 (by decide) lk0 (fun _ h9 => h9) rfl dX11_keeps_1 ?_
  refine lv_bipush (v := 8) hx hb dX11_keeps_4 (by decide) ?_
  refine lv_icmp_ne (tgt := 50) hx hb dX11_keeps_6 (by decide) (fun c_1 => ?_) (fun c_1 => ?_)
  · skip
    have q_1 : (0 : Int) ≠ (8 : Int) := i_ne2 (mr0 hF_iv 0 3 (by decide)) (show (8 : Int32).toInt = (8 : Int) from rfl) c_1
    refine lv_iconst (v := 0) hx hb dX11_keeps_50 (by decide) ?_
    refine lv_istore_n (lv' := [(1, .int 0), (0, .ref (ad 0))]) hx hb dX11_keeps_51 rfl hl (by decide) rfl (fun ls hl => ?_)
    have loop4 : ∀ (n : Nat) (x1_2 : Int32) (ar_3 : gAr) (H : Heap) (locs : List Loc) (ls : Array Slot), ((126 - (x1_2.toInt)).toNat) < n → (0 ≤ (x1_2.toInt) ∧ (x1_2.toInt) ≤ 126) → (∀ a, a ≠ 2 → ar_3 a = ar a) → va_P D vwCl (MW cy ad iv ar_3) H → va_S (mA ad s.heap.size) s.heap H locs → lv_has ls 2 [(1, .int x1_2), (0, .ref (ad 0))] → W p l e (headSpec wsX11_keeps (({ frames := 0, cells := 0, slots := 0, locals := 0 } : Room))).room s m (([.ref (ad 0)] : List Value).toArray) below meth c H locs 0 0 Q (F0 m 52 ls []) := by
      intro n
      induction n with
      | zero => intro x1_2 ar_3 H locs ls hm; omega
      | succ n ih4 =>
        intro x1_2 ar_3 H locs ls hm hg0 hga hP hS hl
        refine lv_iload_n hx hb dX11_keeps_52 rfl (lv_at hl 0 rfl) ?_
        refine lv_bipush (v := 126) hx hb dX11_keeps_53 (by decide) ?_
        refine lv_icmp_ge (tgt := 84) hx hb dX11_keeps_55 (by decide) (fun c_5 => ?_) (fun c_5 => ?_)
        · skip
          have q_5 : (126 : Int) ≤ x1_2.toInt := i_le2 (show (126 : Int32).toInt = (126 : Int) from rfl) (rfl : x1_2.toInt = x1_2.toInt) c_5
          refine lv_aload_n hx hb dX11_keeps_84 rfl (lv_at hl 1 rfl) ?_
          refine lv_dup hx hb dX11_keeps_85 rfl ?_
          refine va_get (D := D) (ci := 11) (v := .int (iv 0 3)) (C := RX11) (T := TX11) (N := 30) hx hb hts inX11 hown hK hP 0 (m_at11 (Nat.le_of_ble_eq_true rfl) rfl) rfl 3 (by decide) lk0 (fun _ h9 => h9) rfl dX11_keeps_86 ?_
          refine lv_iconst (v := 1) hx hb dX11_keeps_89 (by decide) ?_
          refine lv_iadd hx hb dX11_keeps_90 ?_
          refine lv_topi (fun v_6 ev_6 => ?_)
          have tv_6 : v_6.toInt = (0 : Int) + (1 : Int) := i_add (mr0 hF_iv 0 3 (by decide)) (show (1 : Int32).toInt = (1 : Int) from rfl) (by omega) (by omega) ev_6
          refine va_put (D := D) (ci := 11) (v := .int v_6) (ty := .int) (C := RX11) (T := TX11) (N := 30) hx hb hts inX11 tyX11 tyX11_ok nmX11 hown hK hP (mD hI) hS 0 (m_at11 (Nat.le_of_ble_eq_true rfl) rfl) rfl 3 (by decide) lk0 (fun _ h9 => h9) rfl (by decide +kernel) rfl rfl (Nat.le_of_ble_eq_true rfl) dX11_keeps_91 (fun H locs hP _ hS => ?_)
          have hP : va_P D vwCl (MW cy ad (u2 iv 0 3 v_6) ar_3) H := by rw [← m_pt11_3 (Nat.le_of_ble_eq_true rfl) rfl]; exact hP
          obtain ⟨iv_7, eiv_7⟩ : ∃ z : gIv, z = u2 iv 0 3 v_6 := ⟨_, rfl⟩
          rw [← eiv_7] at hP
          rw [hQ]
          exact W.vret hx hb hr (fun t ht hW => ⟨⟨(iv_7, ar_3), rfl, ⟨fun a b h => by show iv_7 a b = iv a b; rw [eiv_7, u2_o h], hga⟩, by show va_P _ _ _ _; rw [ht]; exact hP⟩, hS.F ht⟩) hS.2.2 dX11_keeps_94
        · skip
          have q_5 : x1_2.toInt < (126 : Int) := i_nle2 (show (126 : Int32).toInt = (126 : Int) from rfl) (rfl : x1_2.toInt = x1_2.toInt) c_5
          refine lv_aload_n hx hb dX11_keeps_58 rfl (lv_at hl 1 rfl) ?_
          refine va_get (D := D) (ci := 11) (v := .ref (ad 2)) (C := RX11) (T := TX11) (N := 30) hx hb hts inX11 hown hK hP 0 (m_at11 (Nat.le_of_ble_eq_true rfl) rfl) rfl 1 (by decide) lk1 (fun _ h9 => h9) rfl dX11_keeps_59 ?_
          refine lv_bipush (v := 126) hx hb dX11_keeps_62 (by decide) ?_
          refine lv_aload_n hx hb dX11_keeps_64 rfl (lv_at hl 1 rfl) ?_
          refine va_get (D := D) (ci := 11) (v := .int (iv 0 3)) (C := RX11) (T := TX11) (N := 30) hx hb hts inX11 hown hK hP 0 (m_at11 (Nat.le_of_ble_eq_true rfl) rfl) rfl 3 (by decide) lk0 (fun _ h9 => h9) rfl dX11_keeps_65 ?_
          refine lv_imul hx hb dX11_keeps_68 ?_
          refine lv_topi (fun v_8 ev_8 => ?_)
          have tv_8 : v_8.toInt = (126 : Int) * (0 : Int) := i_mul (show (126 : Int32).toInt = (126 : Int) from rfl) (mr0 hF_iv 0 3 (by decide)) (by omega) (by omega) ev_8
          refine lv_iload_n hx hb dX11_keeps_69 rfl (lv_at hl 0 rfl) ?_
          refine lv_iadd hx hb dX11_keeps_70 ?_
          refine lv_topi (fun v_9 ev_9 => ?_)
          have tv_9 : v_9.toInt = v_8.toInt + x1_2.toInt := i_add (rfl : v_8.toInt = v_8.toInt) (rfl : x1_2.toInt = x1_2.toInt) (by omega) (by omega) ev_9
          refine lv_aload_n hx hb dX11_keeps_71 rfl (lv_at hl 1 rfl) ?_
          refine va_get (D := D) (ci := 11) (v := .ref (ad 1)) (C := RX11) (T := TX11) (N := 30) hx hb hts inX11 hown hK hP 0 (m_at11 (Nat.le_of_ble_eq_true rfl) rfl) rfl 0 (by decide) lk2 (fun _ h9 => h9) rfl dX11_keeps_72 ?_
          refine lv_iload_n hx hb dX11_keeps_75 rfl (lv_at hl 0 rfl) ?_
          refine va_iald hx hb hK hP 1 0 (m_at12 (Nat.le_of_ble_eq_true rfl) rfl) rfl (g_in (N := 126) (rfl : x1_2.toInt = x1_2.toInt) rfl (by omega) (by omega)) dX11_keeps_76 ?_
          refine lv_topi (fun v_10 ev_10 => ?_)
          refine va_iast hx hb hK hP (mD hI) hS 2 0 (m_at12 (Nat.le_of_ble_eq_true rfl) rfl) rfl (g_in (N := 1008) (rfl : v_9.toInt = v_9.toInt) rfl (by omega) (by omega)) dX11_keeps_77 (fun H locs hP _ hS => ?_)
          rw [m_pt12 (Nat.le_of_ble_eq_true rfl) rfl] at hP
          obtain ⟨ar_11, ear_11⟩ : ∃ z : gAr, z = va_up ar_3 2 (upd (ar_3 2) v_9.toNatClampNeg v_10) := ⟨_, rfl⟩
          rw [← ear_11] at hP
          obtain ⟨x1_12, ex1_12⟩ : ∃ y : Int32, y = x1_2 + 1 := ⟨_, rfl⟩
          have tx1_12 : x1_12.toInt = x1_2.toInt + (1 : Int) := i_add (rfl : x1_2.toInt = x1_2.toInt) (show (1 : Int32).toInt = (1 : Int) from rfl) (by omega) (by omega) ex1_12
          refine lv_iinc (v := x1_12) (lv' := [(1, .int x1_12), (0, .ref (ad 0))]) hx hb dX11_keeps_78 hl (k := 0) rfl (by rw [ex1_12]; rfl) (by decide) rfl (fun ls hl => ?_)
          refine lv_goto (tgt := 52) hx hb dX11_keeps_81 (by decide) ?_
          exact ih4 x1_12 ar_11 _ _ _ (by omega) (by omega) (fun a h => by rw [ear_11, ua_o h]; exact hga a h) hP hS (lv_sub hl [0, 1] rfl)
    have zl_13 : (0 : Int32).toInt = (0 : Int) := rfl
    exact loop4 (((126 - ((0 : Int))).toNat) + 1) 0 ar _ _ _ (by omega) (by omega) (fun _ _ => rfl) hP hS (lv_sub hl [0, 1] rfl)
  · skip
    have q_1 : (0 : Int) = (8 : Int) := i_eq2 (mr0 hF_iv 0 3 (by decide)) (show (8 : Int32).toInt = (8 : Int) from rfl) c_1
    exfalso; omega
set_option maxHeartbeats 4000000 in
set_option maxRecDepth 100000 in
theorem c_X11_discards (l : Launch) (D : va_G) (cy : Nat → ClassId) (ad : Nat → Nat) (hI : mInj ad) (sz : Nat) (iv : gIv) (ar : gAr)   : Met l yX11_discards wsX11_discards ({ frames := 0, cells := 0, slots := 0, locals := 0 } : Room) (va_Pc [.ref (ad 0)] (mPre D cy ad sz iv ar)) (va_Qv (fun (u : gIv × gAr) => u.1 = u2 (u2 iv 0 15 0) 0 16 (-1) ∧ ∀ a, a ≠ 6 → u.2 a = ar a) (mPost D cy ad) (mA ad sz)) 0 0 (mA ad sz) := by
  refine Met.ofW (cc := cX11_discards) (maxL := 2) (ret := none) (by decide) rfl ?_
  intro p e s m args below meth c s₁ B hml hv
  obtain ⟨rfl, rfl, hP, hK, hSt, hNw⟩ := hv
  have hx := B.exec
  have hb := B.bytes
  have hr := B.returns
  have hts := atoms_spec (ws := wsX11_discards) B.pre
  have hown : s.vm.findClass RX11 = some m.cls := findClass_of_methodNamed B.named
  have hlocks := B.notSynchronized
  have hS : va_S (mA ad s.heap.size) s.heap s.heap [] := va_S.rf
  have inX11 : ∀ w ∈ u_ws RX11 TX11 30, w ∈ wsX11_discards := by decide +kernel
  have lk0 := hts (.fieldLink RX11 69 "FormationPlannerModel" "hasPlan" "Z") (by decide +kernel)
  have lk1 := hts (.fieldLink RX11 35 "FormationPlannerModel" "stuck" "I") (by decide +kernel)
  have lk2 := hts (.fieldLink RX11 25 "FormationPlannerModel" "isKnown" "[Z") (by decide +kernel)
  have hl := lv_entry ([.ref (ad 0)]) (n := 2) (Nat.le_of_ble_eq_true rfl)
  rw [lg_entry_eq]
  generalize (lg_sl ([.ref (ad 0)]) ++ List.replicate (2 - (lg_sl ([.ref (ad 0)])).length) Slot.unset).toArray = ls at hl ⊢
  have hl : lv_has ls 2 [(0, .ref (ad 0))] := hl
  obtain ⟨Q, hQ⟩ : ∃ Q, Q = MQ below (va_Qv (fun (u : gIv × gAr) => u.1 = u2 (u2 iv 0 15 0) 0 16 (-1) ∧ ∀ a, a ≠ 6 → u.2 a = ar a) (mPost D cy ad) (mA ad s.heap.size)) (([.ref (ad 0)] : List Value).toArray) s 0 0 (mA ad s.heap.size) := ⟨_, rfl⟩
  rw [← hQ]
  refine lv_aload_n hx hb dX11_discards_0 rfl (lv_at hl 0 rfl) ?_
  refine lv_iconst (v := 0) hx hb dX11_discards_1 (by decide) ?_
  refine va_put (D := D) (ci := 11) (v := .int 0) (ty := .boolean) (C := RX11) (T := TX11) (N := 30) hx hb hts inX11 tyX11 tyX11_ok nmX11 hown hK hP (mD hI) hS 0 (m_at11 (Nat.le_of_ble_eq_true rfl) rfl) rfl 15 (by decide) lk0 (fun _ h9 => h9) rfl (by decide +kernel) rfl rfl (Nat.le_of_ble_eq_true rfl) dX11_discards_2 (fun H locs hP _ hS => ?_)
  have hP : va_P D vwCl (MW cy ad (u2 iv 0 15 0) ar) H := by rw [← m_pt11_15 (Nat.le_of_ble_eq_true rfl) rfl]; exact hP
  obtain ⟨iv_1, eiv_1⟩ : ∃ z : gIv, z = u2 iv 0 15 0 := ⟨_, rfl⟩
  rw [← eiv_1] at hP
  refine lv_aload_n hx hb dX11_discards_5 rfl (lv_at hl 0 rfl) ?_
  refine lv_iconst (v := (-1)) hx hb dX11_discards_6 (by decide) ?_
  refine va_put (D := D) (ci := 11) (v := .int (-1)) (ty := .int) (C := RX11) (T := TX11) (N := 30) hx hb hts inX11 tyX11 tyX11_ok nmX11 hown hK hP (mD hI) hS 0 (m_at11 (Nat.le_of_ble_eq_true rfl) rfl) rfl 16 (by decide) lk1 (fun _ h9 => h9) rfl (by decide +kernel) rfl rfl (Nat.le_of_ble_eq_true rfl) dX11_discards_7 (fun H locs hP _ hS => ?_)
  have hP : va_P D vwCl (MW cy ad (u2 iv_1 0 16 (-1)) ar) H := by rw [← m_pt11_16 (Nat.le_of_ble_eq_true rfl) rfl]; exact hP
  obtain ⟨iv_2, eiv_2⟩ : ∃ z : gIv, z = u2 iv_1 0 16 (-1) := ⟨_, rfl⟩
  rw [← eiv_2] at hP
  refine lv_iconst (v := 0) hx hb dX11_discards_10 (by decide) ?_
  refine lv_istore_n (lv' := [(1, .int 0), (0, .ref (ad 0))]) hx hb dX11_discards_11 rfl hl (by decide) rfl (fun ls hl => ?_)
  have loop5 : ∀ (n : Nat) (x1_3 : Int32) (ar_4 : gAr) (H : Heap) (locs : List Loc) (ls : Array Slot), ((108 - (x1_3.toInt)).toNat) < n → (0 ≤ (x1_3.toInt) ∧ (x1_3.toInt) ≤ 108) → (∀ a, a ≠ 6 → ar_4 a = ar a) → va_P D vwCl (MW cy ad iv_2 ar_4) H → va_S (mA ad s.heap.size) s.heap H locs → lv_has ls 2 [(1, .int x1_3), (0, .ref (ad 0))] → W p l e (headSpec wsX11_discards (({ frames := 0, cells := 0, slots := 0, locals := 0 } : Room))).room s m (([.ref (ad 0)] : List Value).toArray) below meth c H locs 0 0 Q (F0 m 12 ls []) := by
    intro n
    induction n with
    | zero => intro x1_3 ar_4 H locs ls hm; omega
    | succ n ih5 =>
      intro x1_3 ar_4 H locs ls hm hg0 hga hP hS hl
      refine lv_iload_n hx hb dX11_discards_12 rfl (lv_at hl 0 rfl) ?_
      refine lv_bipush (v := 108) hx hb dX11_discards_13 (by decide) ?_
      refine lv_icmp_ge (tgt := 31) hx hb dX11_discards_15 (by decide) (fun c_6 => ?_) (fun c_6 => ?_)
      · skip
        have q_6 : (108 : Int) ≤ x1_3.toInt := i_le2 (show (108 : Int32).toInt = (108 : Int) from rfl) (rfl : x1_3.toInt = x1_3.toInt) c_6
        rw [hQ]
        exact W.vret hx hb hr (fun t ht hW => ⟨⟨(iv_2, ar_4), rfl, ⟨by show iv_2 = _; rw [eiv_2, eiv_1], hga⟩, by show va_P _ _ _ _; rw [ht]; exact hP⟩, hS.F ht⟩) hS.2.2 dX11_discards_31
      · skip
        have q_6 : x1_3.toInt < (108 : Int) := i_nle2 (show (108 : Int32).toInt = (108 : Int) from rfl) (rfl : x1_3.toInt = x1_3.toInt) c_6
        refine lv_aload_n hx hb dX11_discards_18 rfl (lv_at hl 1 rfl) ?_
        refine va_get (D := D) (ci := 11) (v := .ref (ad 6)) (C := RX11) (T := TX11) (N := 30) hx hb hts inX11 hown hK hP 0 (m_at11 (Nat.le_of_ble_eq_true rfl) rfl) rfl 8 (by decide) lk2 (fun _ h9 => h9) rfl dX11_discards_19 ?_
        refine lv_iload_n hx hb dX11_discards_22 rfl (lv_at hl 0 rfl) ?_
        refine lv_iconst (v := 0) hx hb dX11_discards_23 (by decide) ?_
        refine va_zast hx hb hK hP (mD hI) hS 6 1 (m_at13 (Nat.le_of_ble_eq_true rfl) rfl) rfl (g_in (N := 108) (rfl : x1_3.toInt = x1_3.toInt) rfl (by omega) (by omega)) dX11_discards_24 (fun H locs hP _ hS => ?_)
        rw [m_pt13 (Nat.le_of_ble_eq_true rfl) rfl] at hP
        obtain ⟨ar_7, ear_7⟩ : ∃ z : gAr, z = va_up ar_4 6 (upd (ar_4 6) x1_3.toNatClampNeg 0) := ⟨_, rfl⟩
        have hP : va_P D vwCl (MW cy ad iv_2 ar_7) H := by rw [ear_7]; exact hP
        obtain ⟨x1_8, ex1_8⟩ : ∃ y : Int32, y = x1_3 + 1 := ⟨_, rfl⟩
        have tx1_8 : x1_8.toInt = x1_3.toInt + (1 : Int) := i_add (rfl : x1_3.toInt = x1_3.toInt) (show (1 : Int32).toInt = (1 : Int) from rfl) (by omega) (by omega) ex1_8
        refine lv_iinc (v := x1_8) (lv' := [(1, .int x1_8), (0, .ref (ad 0))]) hx hb dX11_discards_25 hl (k := 0) rfl (by rw [ex1_8]; rfl) (by decide) rfl (fun ls hl => ?_)
        refine lv_goto (tgt := 12) hx hb dX11_discards_28 (by decide) ?_
        exact ih5 x1_8 ar_7 _ _ _ (by omega) (by omega) (fun a h => by rw [ear_7, ua_o h]; exact hga a h) hP hS (lv_sub hl [0, 1] rfl)
  have zl_9 : (0 : Int32).toInt = (0 : Int) := rfl
  exact loop5 (((108 - ((0 : Int))).toNat) + 1) 0 ar _ _ _ (by omega) (by omega) (fun _ _ => rfl) hP hS (lv_sub hl [0, 1] rfl)
set_option maxHeartbeats 4000000 in
set_option maxRecDepth 100000 in
theorem f_X11_changes (l : Launch) (D : va_G) (cy : Nat → ClassId) (ad : Nat → Nat) (hI : mInj ad) (sz : Nat) (iv : gIv) (ar : gAr)  (hF_iv : mFr iv ar) : Met l yX11_changes wsX11_changes ({ frames := 1, cells := 0, slots := 0, locals := 21 } : Room) (va_Pc [.ref (ad 0)] (mPre D cy ad sz iv ar)) (va_Qv (fun (u : gIv × gAr) => (∀ a b, ¬ (a = 0 ∧ (b = 3 ∨ b = 15 ∨ b = 16)) → u.1 a b = iv a b) ∧ ∀ a, a ≠ 2 → a ≠ 6 → u.2 a = ar a) (mPost D cy ad) (mA ad sz)) 0 0 (mA ad sz) := by
  refine Met.ofW (cc := cX11_changes) (maxL := 1) (ret := none) (by decide) rfl ?_
  intro p e s m args below meth c s₁ B hml hv
  obtain ⟨rfl, rfl, hP, hK, hSt, hNw⟩ := hv
  have hx := B.exec
  have hb := B.bytes
  have hr := B.returns
  have hts := atoms_spec (ws := wsX11_changes) B.pre
  have hown : s.vm.findClass RX11 = some m.cls := findClass_of_methodNamed B.named
  have hlocks := B.notSynchronized
  have hS : va_S (mA ad s.heap.size) s.heap s.heap [] := va_S.rf
  have hl := lv_entry ([.ref (ad 0)]) (n := 1) (Nat.le_of_ble_eq_true rfl)
  rw [lg_entry_eq]
  generalize (lg_sl ([.ref (ad 0)]) ++ List.replicate (1 - (lg_sl ([.ref (ad 0)])).length) Slot.unset).toArray = ls at hl ⊢
  have hl : lv_has ls 1 [(0, .ref (ad 0))] := hl
  obtain ⟨Q, hQ⟩ : ∃ Q, Q = MQ below (va_Qv (fun (u : gIv × gAr) => (∀ a b, ¬ (a = 0 ∧ (b = 3 ∨ b = 15 ∨ b = 16)) → u.1 a b = iv a b) ∧ ∀ a, a ≠ 2 → a ≠ 6 → u.2 a = ar a) (mPost D cy ad) (mA ad s.heap.size)) (([.ref (ad 0)] : List Value).toArray) s 0 0 (mA ad s.heap.size) := ⟨_, rfl⟩
  rw [← hQ]
  refine lv_aload_n hx hb dX11_changes_0 rfl (lv_at hl 0 rfl) ?_
  refine m_callv (va_runV (As := []) (rest := []) ⟨hx, hb, hml, hown, hts⟩ (f_X11_keeps l D cy ad hI _ iv ar hF_iv) (cwV 0 hts gX11_changes_X11_keeps rfl rfl rfl (by decide +kernel) ⟨Nat.le_of_ble_eq_true rfl, Nat.le_of_ble_eq_true rfl⟩) (m_preV hP hK hSt hNw hS (m_at11 (Nat.le_of_ble_eq_true rfl) rfl) rfl) rfl rfl hl.1 rfl (lv_room (Nat.le_of_ble_eq_true rfl)) dX11_changes_1 ⟨Nat.zero_le _, Nat.zero_le _⟩) hS (fun iv_1 ar_1 H locs w_1 hP hS => ?_)
  try dsimp only at w_1
  refine lv_aload_n hx hb dX11_changes_4 rfl (lv_at hl 0 rfl) ?_
  refine m_callv (va_runV (As := []) (rest := []) ⟨hx, hb, hml, hown, hts⟩ (c_X11_discards l D cy ad hI _ iv_1 ar_1) (cwV 0 hts gX11_changes_X11_discards rfl rfl rfl (by decide +kernel) ⟨Nat.le_of_ble_eq_true rfl, Nat.le_of_ble_eq_true rfl⟩) (m_preV hP hK hSt hNw hS (m_at11 (Nat.le_of_ble_eq_true rfl) rfl) rfl) rfl rfl hl.1 rfl (lv_room (Nat.le_of_ble_eq_true rfl)) dX11_changes_5 ⟨Nat.zero_le _, Nat.zero_le _⟩) hS (fun iv_2 ar_2 H locs w_2 hP hS => ?_)
  try dsimp only at w_2
  obtain ⟨iv_3, eiv_3⟩ : ∃ z : gIv, z = u2 iv_1 0 15 0 := ⟨_, rfl⟩
  have eiv_2 : iv_2 = u2 iv_3 0 16 (-1) := by rw [eiv_3]; exact w_2.1
  rw [hQ]
  exact W.vret hx hb hr (fun t ht hW => ⟨⟨(iv_2, ar_2), rfl, ⟨fun a b h => by show iv_2 a b = iv a b; rw [eiv_2, u2_o (by omega)]; rw [eiv_3, u2_o (by omega)]; rw [w_1.1 a b (by omega)], fun a h2 h => by show ar_2 a = ar a; rw [w_2.2 a (by omega)]; rw [w_1.2 a (by omega)]⟩, by show va_P _ _ _ _; rw [ht]; exact hP⟩, hS.F ht⟩) hS.2.2 dX11_changes_8
set_option maxHeartbeats 4000000 in
set_option maxRecDepth 100000 in
theorem f_X11_undo (l : Launch) (D : va_G) (cy : Nat → ClassId) (ad : Nat → Nat) (hI : mInj ad) (sz : Nat) (iv : gIv) (ar : gAr)  (hF_iv : mFr iv ar) : Met l yX11_undo wsX11_undo ({ frames := 0, cells := 0, slots := 0, locals := 0 } : Room) (va_Pc [.ref (ad 0)] (mPre D cy ad sz iv ar)) (vp_Si (fun r => r.toInt = -1)) 0 0 (fun _ => False) := by
  refine Met.ofW (cc := cX11_undo) (maxL := 2) (ret := (some .int)) (by decide) rfl ?_
  intro p e s m args below meth c s₁ B hml hv
  obtain ⟨rfl, rfl, hP, hK, hSt, hNw⟩ := hv
  have hx := B.exec
  have hb := B.bytes
  have hr := B.returns
  have hts := atoms_spec (ws := wsX11_undo) B.pre
  have hown : s.vm.findClass RX11 = some m.cls := findClass_of_methodNamed B.named
  have hlocks := B.notSynchronized
  have hS : va_S (mA ad s.heap.size) s.heap s.heap [] := va_S.rf
  have inX11 : ∀ w ∈ u_ws RX11 TX11 30, w ∈ wsX11_undo := by decide +kernel
  have lk0 := hts (.fieldLink RX11 77 "FormationPlannerModel" "changes" "I") (by decide +kernel)
  have hl := lv_entry ([.ref (ad 0)]) (n := 2) (Nat.le_of_ble_eq_true rfl)
  rw [lg_entry_eq]
  generalize (lg_sl ([.ref (ad 0)]) ++ List.replicate (2 - (lg_sl ([.ref (ad 0)])).length) Slot.unset).toArray = ls at hl ⊢
  have hl : lv_has ls 2 [(0, .ref (ad 0))] := hl
  obtain ⟨Q, hQ⟩ : ∃ Q, Q = MQ below (vp_Si (fun r => r.toInt = -1)) (([.ref (ad 0)] : List Value).toArray) s 0 0 (fun _ => False) := ⟨_, rfl⟩
  rw [← hQ]
  refine lv_aload_n hx hb dX11_undo_0 rfl (lv_at hl 0 rfl) ?_
  refine va_get (D := D) (ci := 11) (v := .int (iv 0 3)) (C := RX11) (T := TX11) (N := 30) hx hb hts inX11 hown hK hP 0 (m_at11 (Nat.le_of_ble_eq_true rfl) rfl) rfl 3 (by decide) lk0 (fun _ h9 => h9) rfl dX11_undo_1 ?_
  refine lv_if_ne (tgt := 9) hx hb dX11_undo_4 (by decide) (fun c_1 => ?_) (fun c_1 => ?_)
  · skip
    have q_1 : (0 : Int) ≠ (0 : Int) := i_ne2 (mr0 hF_iv 0 3 (by decide)) (show (0 : Int32).toInt = (0 : Int) from rfl) c_1
    exfalso; omega
  · skip
    have q_1 : (0 : Int) = (0 : Int) := i_eq2 (mr0 hF_iv 0 3 (by decide)) (show (0 : Int32).toInt = (0 : Int) from rfl) c_1
    refine lv_iconst (v := (-1)) hx hb dX11_undo_7 (by decide) ?_
    rw [hQ]
    exact W.iret (v := (-1)) hx hb hr (fun t ht hW => ⟨(-1), rfl, by have zr : ((-1) : Int32).toInt = (-1 : Int) := (show ((-1) : Int32).toInt = (-1 : Int) from rfl); have z0 := i_l0; have z1 := i_l1; omega, ht⟩) (fun q h => by cases h) dX11_undo_8
set_option maxHeartbeats 4000000 in
set_option maxRecDepth 100000 in
theorem f_X11_setWind (l : Launch) (D : va_G) (cy : Nat → ClassId) (ad : Nat → Nat) (hI : mInj ad) (sz : Nat) (iv : gIv) (ar : gAr) (a : Int32) (b : Int32) (hF_iv : mFr iv ar) : Met l yX11_setWind wsX11_setWind ({ frames := 2, cells := 0, slots := 0, locals := 41 } : Room) (va_Pc [.ref (ad 0), .int a, .int b] (mPre D cy ad sz iv ar)) (va_Qi (fun (r : Int32) (u : gIv × gAr) => (0 ≤ a.toInt ∧ a.toInt < 3 ∧ 0 ≤ b.toInt ∧ b.toInt < 5) ∧ r.toInt = 0 ∨ ¬ (0 ≤ a.toInt ∧ a.toInt < 3 ∧ 0 ≤ b.toInt ∧ b.toInt < 5) ∧ r.toInt = -2) (mPost D cy ad) (mA ad sz)) 0 0 (mA ad sz) := by
  refine Met.ofW (cc := cX11_setWind) (maxL := 4) (ret := (some .int)) (by decide) rfl ?_
  intro p e s m args below meth c s₁ B hml hv
  obtain ⟨rfl, rfl, hP, hK, hSt, hNw⟩ := hv
  have hx := B.exec
  have hb := B.bytes
  have hr := B.returns
  have hts := atoms_spec (ws := wsX11_setWind) B.pre
  have hown : s.vm.findClass RX11 = some m.cls := findClass_of_methodNamed B.named
  have hlocks := B.notSynchronized
  have hS : va_S (mA ad s.heap.size) s.heap s.heap [] := va_S.rf
  have inX11 : ∀ w ∈ u_ws RX11 TX11 30, w ∈ wsX11_setWind := by decide +kernel
  have lk0 := hts (.fieldLink RX11 9 "FormationPlannerModel" "s" "[I") (by decide +kernel)
  have hl := lv_entry ([.ref (ad 0), .int a, .int b]) (n := 4) (Nat.le_of_ble_eq_true rfl)
  rw [lg_entry_eq]
  generalize (lg_sl ([.ref (ad 0), .int a, .int b]) ++ List.replicate (4 - (lg_sl ([.ref (ad 0), .int a, .int b])).length) Slot.unset).toArray = ls at hl ⊢
  have hl : lv_has ls 4 [(0, .ref (ad 0)), (1, .int a), (2, .int b)] := hl
  obtain ⟨Q, hQ⟩ : ∃ Q, Q = MQ below (va_Qi (fun (r : Int32) (u : gIv × gAr) => (0 ≤ a.toInt ∧ a.toInt < 3 ∧ 0 ≤ b.toInt ∧ b.toInt < 5) ∧ r.toInt = 0 ∨ ¬ (0 ≤ a.toInt ∧ a.toInt < 3 ∧ 0 ≤ b.toInt ∧ b.toInt < 5) ∧ r.toInt = -2) (mPost D cy ad) (mA ad s.heap.size)) (([.ref (ad 0), .int a, .int b] : List Value).toArray) s 0 0 (mA ad s.heap.size) := ⟨_, rfl⟩
  rw [← hQ]
  refine lv_iload_n hx hb dX11_setWind_0 rfl (lv_at hl 1 rfl) ?_
  refine lv_iconst (v := 0) hx hb dX11_setWind_1 (by decide) ?_
  refine lv_iconst (v := 2) hx hb dX11_setWind_2 (by decide) ?_
  have zl_1 : (0 : Int32).toInt = (0 : Int) := rfl
  have zl_2 : (2 : Int32).toInt = (2 : Int) := rfl
  refine g_callSi (va_runS (As := [.int a, .int 0, .int 2]) (rest := []) ⟨hx, hb, hml, hown, hts⟩ (c_X11_isIn l a 0 2) (va_cwS 3 hts gX11_setWind_X11_isIn rfl rfl rfl (by decide +kernel) ⟨Nat.le_of_ble_eq_true rfl, Nat.le_of_ble_eq_true rfl⟩) (g_preT) rfl rfl hl.1 rfl (lv_room (Nat.le_of_ble_eq_true rfl)) dX11_setWind_3 ⟨Nat.zero_le _, Nat.zero_le _⟩) (fun r_3 w_3 => ?_)
  try dsimp only at w_3
  refine lv_if_eq (tgt := 18) hx hb dX11_setWind_6 (by decide) (fun c_4 => ?_) (fun c_4 => ?_)
  · skip
    have q_4 : r_3.toInt = (0 : Int) := i_eq2 (rfl : r_3.toInt = r_3.toInt) (show (0 : Int32).toInt = (0 : Int) from rfl) c_4
    refine lv_bipush (v := (-2)) hx hb dX11_setWind_18 (by decide) ?_
    rw [hQ]
    exact W.iret (v := (-2)) hx hb hr (fun t ht hW => ⟨⟨(-2), (iv, ar), rfl, by have zr : ((-2) : Int32).toInt = (-2 : Int) := (show ((-2) : Int32).toInt = (-2 : Int) from rfl); have z0 := i_l0; have z1 := i_l1; omega, by show va_P _ _ _ _; rw [ht]; exact hP⟩, hS.F ht⟩) hS.2.2 dX11_setWind_20
  · skip
    have q_4 : r_3.toInt ≠ (0 : Int) := i_ne2 (rfl : r_3.toInt = r_3.toInt) (show (0 : Int32).toInt = (0 : Int) from rfl) c_4
    refine lv_iload_n hx hb dX11_setWind_9 rfl (lv_at hl 2 rfl) ?_
    refine lv_iconst (v := 0) hx hb dX11_setWind_10 (by decide) ?_
    refine lv_iconst (v := 4) hx hb dX11_setWind_11 (by decide) ?_
    have zl_5 : (0 : Int32).toInt = (0 : Int) := rfl
    have zl_6 : (4 : Int32).toInt = (4 : Int) := rfl
    refine g_callSi (va_runS (As := [.int b, .int 0, .int 4]) (rest := []) ⟨hx, hb, hml, hown, hts⟩ (c_X11_isIn l b 0 4) (va_cwS 3 hts gX11_setWind_X11_isIn rfl rfl rfl (by decide +kernel) ⟨Nat.le_of_ble_eq_true rfl, Nat.le_of_ble_eq_true rfl⟩) (g_preT) rfl rfl hl.1 rfl (lv_room (Nat.le_of_ble_eq_true rfl)) dX11_setWind_12 ⟨Nat.zero_le _, Nat.zero_le _⟩) (fun r_7 w_7 => ?_)
    try dsimp only at w_7
    refine lv_if_ne (tgt := 21) hx hb dX11_setWind_15 (by decide) (fun c_8 => ?_) (fun c_8 => ?_)
    · skip
      have q_8 : r_7.toInt ≠ (0 : Int) := i_ne2 (rfl : r_7.toInt = r_7.toInt) (show (0 : Int32).toInt = (0 : Int) from rfl) c_8
      refine lv_aload_n hx hb dX11_setWind_21 rfl (lv_at hl 0 rfl) ?_
      refine m_callv (va_runV (As := []) (rest := []) ⟨hx, hb, hml, hown, hts⟩ (f_X11_changes l D cy ad hI _ iv ar hF_iv) (cwV 0 hts gX11_setWind_X11_changes rfl rfl rfl (by decide +kernel) ⟨Nat.le_of_ble_eq_true rfl, Nat.le_of_ble_eq_true rfl⟩) (m_preV hP hK hSt hNw hS (m_at11 (Nat.le_of_ble_eq_true rfl) rfl) rfl) rfl rfl hl.1 rfl (lv_room (Nat.le_of_ble_eq_true rfl)) dX11_setWind_22 ⟨Nat.zero_le _, Nat.zero_le _⟩) hS (fun iv_9 ar_9 H locs w_9 hP hS => ?_)
      try dsimp only at w_9
      refine lv_aload_n hx hb dX11_setWind_25 rfl (lv_at hl 0 rfl) ?_
      refine va_get (D := D) (ci := 11) (v := .ref (ad 1)) (C := RX11) (T := TX11) (N := 30) hx hb hts inX11 hown hK hP 0 (m_at11 (Nat.le_of_ble_eq_true rfl) rfl) rfl 0 (by decide) lk0 (fun _ h9 => h9) rfl dX11_setWind_26 ?_
      refine lv_iconst (v := 0) hx hb dX11_setWind_29 (by decide) ?_
      refine lv_iload_n hx hb dX11_setWind_30 rfl (lv_at hl 1 rfl) ?_
      refine lv_iadd hx hb dX11_setWind_31 ?_
      refine lv_topi (fun v_10 ev_10 => ?_)
      have tv_10 : v_10.toInt = (0 : Int) + a.toInt := i_add (show (0 : Int32).toInt = (0 : Int) from rfl) (rfl : a.toInt = a.toInt) (by omega) (by omega) ev_10
      refine va_iald hx hb hK hP 1 0 (m_at12 (Nat.le_of_ble_eq_true rfl) rfl) rfl (g_in (N := 126) (rfl : v_10.toInt = v_10.toInt) rfl (by omega) (by omega)) dX11_setWind_32 ?_
      refine lv_topi (fun v_11 ev_11 => ?_)
      refine lv_istore_n (lv' := [(3, .int v_11), (0, .ref (ad 0)), (1, .int a), (2, .int b)]) hx hb dX11_setWind_33 rfl hl (by decide) rfl (fun ls hl => ?_)
      refine lv_aload_n hx hb dX11_setWind_34 rfl (lv_at hl 1 rfl) ?_
      refine va_get (D := D) (ci := 11) (v := .ref (ad 1)) (C := RX11) (T := TX11) (N := 30) hx hb hts inX11 hown hK hP 0 (m_at11 (Nat.le_of_ble_eq_true rfl) rfl) rfl 0 (by decide) lk0 (fun _ h9 => h9) rfl dX11_setWind_35 ?_
      refine lv_iconst (v := 0) hx hb dX11_setWind_38 (by decide) ?_
      refine lv_iload_n hx hb dX11_setWind_39 rfl (lv_at hl 2 rfl) ?_
      refine lv_iadd hx hb dX11_setWind_40 ?_
      refine lv_topi (fun v_12 ev_12 => ?_)
      have tv_12 : v_12.toInt = (0 : Int) + a.toInt := i_add (show (0 : Int32).toInt = (0 : Int) from rfl) (rfl : a.toInt = a.toInt) (by omega) (by omega) ev_12
      refine lv_iload_n hx hb dX11_setWind_41 rfl (lv_at hl 3 rfl) ?_
      refine va_iast hx hb hK hP (mD hI) hS 1 0 (m_at12 (Nat.le_of_ble_eq_true rfl) rfl) rfl (g_in (N := 126) (rfl : v_12.toInt = v_12.toInt) rfl (by omega) (by omega)) dX11_setWind_42 (fun H locs hP _ hS => ?_)
      rw [m_pt12 (Nat.le_of_ble_eq_true rfl) rfl] at hP
      obtain ⟨ar_13, ear_13⟩ : ∃ z : gAr, z = va_up ar_9 1 (upd (ar_9 1) v_12.toNatClampNeg b) := ⟨_, rfl⟩
      rw [← ear_13] at hP
      refine lv_iload_n hx hb dX11_setWind_43 rfl (lv_at hl 0 rfl) ?_
      rw [hQ]
      exact W.iret (v := v_11) hx hb hr (fun t ht hW => ⟨⟨v_11, (iv_9, ar_13), rfl, by have zr : v_11.toInt = (0 : Int) := (show v_11.toInt = (0 : Int) from by rw [ev_11]; rw [w_9.2 1 (by omega) (by omega)]; exact mra hF_iv 1 _ (by decide)); have z0 := i_l0; have z1 := i_l1; omega, by show va_P _ _ _ _; rw [ht]; exact hP⟩, hS.F ht⟩) hS.2.2 dX11_setWind_44
    · skip
      have q_8 : r_7.toInt = (0 : Int) := i_eq2 (rfl : r_7.toInt = r_7.toInt) (show (0 : Int32).toInt = (0 : Int) from rfl) c_8
      refine lv_bipush (v := (-2)) hx hb dX11_setWind_18 (by decide) ?_
      rw [hQ]
      exact W.iret (v := (-2)) hx hb hr (fun t ht hW => ⟨⟨(-2), (iv, ar), rfl, by have zr : ((-2) : Int32).toInt = (-2 : Int) := (show ((-2) : Int32).toInt = (-2 : Int) from rfl); have z0 := i_l0; have z1 := i_l1; omega, by show va_P _ _ _ _; rw [ht]; exact hP⟩, hS.F ht⟩) hS.2.2 dX11_setWind_20
set_option maxHeartbeats 4000000 in
set_option maxRecDepth 100000 in
theorem f_X11_setObstacle (l : Launch) (D : va_G) (cy : Nat → ClassId) (ad : Nat → Nat) (hI : mInj ad) (sz : Nat) (iv : gIv) (ar : gAr) (a : Int32) (b : Int32) (hF_iv : mFr iv ar) : Met l yX11_setObstacle wsX11_setObstacle ({ frames := 2, cells := 0, slots := 0, locals := 42 } : Room) (va_Pc [.ref (ad 0), .int a, .int b] (mPre D cy ad sz iv ar)) (va_Qi (fun (r : Int32) (u : gIv × gAr) => (0 ≤ a.toInt ∧ a.toInt < 108 ∧ 0 ≤ b.toInt ∧ b.toInt ≤ 1) ∧ r.toInt = 0 ∨ ¬ (0 ≤ a.toInt ∧ a.toInt < 108 ∧ 0 ≤ b.toInt ∧ b.toInt ≤ 1) ∧ r.toInt = -2) (mPost D cy ad) (mA ad sz)) 0 0 (mA ad sz) := by
  refine Met.ofW (cc := cX11_setObstacle) (maxL := 4) (ret := (some .int)) (by decide) rfl ?_
  intro p e s m args below meth c s₁ B hml hv
  obtain ⟨rfl, rfl, hP, hK, hSt, hNw⟩ := hv
  have hx := B.exec
  have hb := B.bytes
  have hr := B.returns
  have hts := atoms_spec (ws := wsX11_setObstacle) B.pre
  have hown : s.vm.findClass RX11 = some m.cls := findClass_of_methodNamed B.named
  have hlocks := B.notSynchronized
  have hS : va_S (mA ad s.heap.size) s.heap s.heap [] := va_S.rf
  have inX11 : ∀ w ∈ u_ws RX11 TX11 30, w ∈ wsX11_setObstacle := by decide +kernel
  have lk0 := hts (.fieldLink RX11 9 "FormationPlannerModel" "s" "[I") (by decide +kernel)
  have hl := lv_entry ([.ref (ad 0), .int a, .int b]) (n := 4) (Nat.le_of_ble_eq_true rfl)
  rw [lg_entry_eq]
  generalize (lg_sl ([.ref (ad 0), .int a, .int b]) ++ List.replicate (4 - (lg_sl ([.ref (ad 0), .int a, .int b])).length) Slot.unset).toArray = ls at hl ⊢
  have hl : lv_has ls 4 [(0, .ref (ad 0)), (1, .int a), (2, .int b)] := hl
  obtain ⟨Q, hQ⟩ : ∃ Q, Q = MQ below (va_Qi (fun (r : Int32) (u : gIv × gAr) => (0 ≤ a.toInt ∧ a.toInt < 108 ∧ 0 ≤ b.toInt ∧ b.toInt ≤ 1) ∧ r.toInt = 0 ∨ ¬ (0 ≤ a.toInt ∧ a.toInt < 108 ∧ 0 ≤ b.toInt ∧ b.toInt ≤ 1) ∧ r.toInt = -2) (mPost D cy ad) (mA ad s.heap.size)) (([.ref (ad 0), .int a, .int b] : List Value).toArray) s 0 0 (mA ad s.heap.size) := ⟨_, rfl⟩
  rw [← hQ]
  refine lv_iload_n hx hb dX11_setObstacle_0 rfl (lv_at hl 1 rfl) ?_
  refine g_callSi (va_runS (As := [.int a]) (rest := []) ⟨hx, hb, hml, hown, hts⟩ (c_X11_isCell l a) (va_cwS 1 hts gX11_setObstacle_X11_isCell rfl rfl rfl (by decide +kernel) ⟨Nat.le_of_ble_eq_true rfl, Nat.le_of_ble_eq_true rfl⟩) (g_preT) rfl rfl hl.1 rfl (lv_room (Nat.le_of_ble_eq_true rfl)) dX11_setObstacle_1 ⟨Nat.zero_le _, Nat.zero_le _⟩) (fun r_1 w_1 => ?_)
  try dsimp only at w_1
  refine lv_if_eq (tgt := 16) hx hb dX11_setObstacle_4 (by decide) (fun c_2 => ?_) (fun c_2 => ?_)
  · skip
    have q_2 : r_1.toInt = (0 : Int) := i_eq2 (rfl : r_1.toInt = r_1.toInt) (show (0 : Int32).toInt = (0 : Int) from rfl) c_2
    refine lv_bipush (v := (-2)) hx hb dX11_setObstacle_16 (by decide) ?_
    rw [hQ]
    exact W.iret (v := (-2)) hx hb hr (fun t ht hW => ⟨⟨(-2), (iv, ar), rfl, by have zr : ((-2) : Int32).toInt = (-2 : Int) := (show ((-2) : Int32).toInt = (-2 : Int) from rfl); have z0 := i_l0; have z1 := i_l1; omega, by show va_P _ _ _ _; rw [ht]; exact hP⟩, hS.F ht⟩) hS.2.2 dX11_setObstacle_18
  · skip
    have q_2 : r_1.toInt ≠ (0 : Int) := i_ne2 (rfl : r_1.toInt = r_1.toInt) (show (0 : Int32).toInt = (0 : Int) from rfl) c_2
    refine lv_iload_n hx hb dX11_setObstacle_7 rfl (lv_at hl 2 rfl) ?_
    refine lv_iconst (v := 0) hx hb dX11_setObstacle_8 (by decide) ?_
    refine lv_iconst (v := 1) hx hb dX11_setObstacle_9 (by decide) ?_
    have zl_3 : (0 : Int32).toInt = (0 : Int) := rfl
    have zl_4 : (1 : Int32).toInt = (1 : Int) := rfl
    refine g_callSi (va_runS (As := [.int b, .int 0, .int 1]) (rest := []) ⟨hx, hb, hml, hown, hts⟩ (c_X11_isIn l b 0 1) (va_cwS 3 hts gX11_setObstacle_X11_isIn rfl rfl rfl (by decide +kernel) ⟨Nat.le_of_ble_eq_true rfl, Nat.le_of_ble_eq_true rfl⟩) (g_preT) rfl rfl hl.1 rfl (lv_room (Nat.le_of_ble_eq_true rfl)) dX11_setObstacle_10 ⟨Nat.zero_le _, Nat.zero_le _⟩) (fun r_5 w_5 => ?_)
    try dsimp only at w_5
    refine lv_if_ne (tgt := 19) hx hb dX11_setObstacle_13 (by decide) (fun c_6 => ?_) (fun c_6 => ?_)
    · skip
      have q_6 : r_5.toInt ≠ (0 : Int) := i_ne2 (rfl : r_5.toInt = r_5.toInt) (show (0 : Int32).toInt = (0 : Int) from rfl) c_6
      refine lv_iload_n hx hb dX11_setObstacle_19 rfl (lv_at hl 2 rfl) ?_
      refine lv_iconst (v := 1) hx hb dX11_setObstacle_20 (by decide) ?_
      refine lv_icmp_ne (tgt := 43) hx hb dX11_setObstacle_21 (by decide) (fun c_7 => ?_) (fun c_7 => ?_)
      · skip
        have q_7 : b.toInt ≠ (1 : Int) := i_ne2 (rfl : b.toInt = b.toInt) (show (1 : Int32).toInt = (1 : Int) from rfl) c_7
        refine lv_aload_n hx hb dX11_setObstacle_43 rfl (lv_at hl 0 rfl) ?_
        refine m_callv (va_runV (As := []) (rest := []) ⟨hx, hb, hml, hown, hts⟩ (f_X11_changes l D cy ad hI _ iv ar hF_iv) (cwV 0 hts gX11_setObstacle_X11_changes rfl rfl rfl (by decide +kernel) ⟨Nat.le_of_ble_eq_true rfl, Nat.le_of_ble_eq_true rfl⟩) (m_preV hP hK hSt hNw hS (m_at11 (Nat.le_of_ble_eq_true rfl) rfl) rfl) rfl rfl hl.1 rfl (lv_room (Nat.le_of_ble_eq_true rfl)) dX11_setObstacle_44 ⟨Nat.zero_le _, Nat.zero_le _⟩) hS (fun iv_8 ar_8 H locs w_8 hP hS => ?_)
        try dsimp only at w_8
        refine lv_aload_n hx hb dX11_setObstacle_47 rfl (lv_at hl 0 rfl) ?_
        refine va_get (D := D) (ci := 11) (v := .ref (ad 1)) (C := RX11) (T := TX11) (N := 30) hx hb hts inX11 hown hK hP 0 (m_at11 (Nat.le_of_ble_eq_true rfl) rfl) rfl 0 (by decide) lk0 (fun _ h9 => h9) rfl dX11_setObstacle_48 ?_
        refine lv_iconst (v := 3) hx hb dX11_setObstacle_51 (by decide) ?_
        refine lv_iload_n hx hb dX11_setObstacle_52 rfl (lv_at hl 1 rfl) ?_
        refine lv_iadd hx hb dX11_setObstacle_53 ?_
        refine lv_topi (fun v_9 ev_9 => ?_)
        have rg_10 := i_rng a
        have tv_9 : v_9.toInt = (3 : Int) + a.toInt := i_add (show (3 : Int32).toInt = (3 : Int) from rfl) (rfl : a.toInt = a.toInt) (by omega) (by omega) ev_9
        refine va_iald hx hb hK hP 1 0 (m_at12 (Nat.le_of_ble_eq_true rfl) rfl) rfl (g_in (N := 126) (rfl : v_9.toInt = v_9.toInt) rfl (by omega) (by omega)) dX11_setObstacle_54 ?_
        refine lv_topi (fun v_11 ev_11 => ?_)
        refine lv_istore_n (lv' := [(3, .int v_11), (0, .ref (ad 0)), (1, .int a), (2, .int b)]) hx hb dX11_setObstacle_55 rfl hl (by decide) rfl (fun ls hl => ?_)
        refine lv_aload_n hx hb dX11_setObstacle_56 rfl (lv_at hl 1 rfl) ?_
        refine va_get (D := D) (ci := 11) (v := .ref (ad 1)) (C := RX11) (T := TX11) (N := 30) hx hb hts inX11 hown hK hP 0 (m_at11 (Nat.le_of_ble_eq_true rfl) rfl) rfl 0 (by decide) lk0 (fun _ h9 => h9) rfl dX11_setObstacle_57 ?_
        refine lv_iconst (v := 3) hx hb dX11_setObstacle_60 (by decide) ?_
        refine lv_iload_n hx hb dX11_setObstacle_61 rfl (lv_at hl 2 rfl) ?_
        refine lv_iadd hx hb dX11_setObstacle_62 ?_
        refine lv_topi (fun v_12 ev_12 => ?_)
        have rg_13 := i_rng a
        have tv_12 : v_12.toInt = (3 : Int) + a.toInt := i_add (show (3 : Int32).toInt = (3 : Int) from rfl) (rfl : a.toInt = a.toInt) (by omega) (by omega) ev_12
        refine lv_iload_n hx hb dX11_setObstacle_63 rfl (lv_at hl 3 rfl) ?_
        refine va_iast hx hb hK hP (mD hI) hS 1 0 (m_at12 (Nat.le_of_ble_eq_true rfl) rfl) rfl (g_in (N := 126) (rfl : v_12.toInt = v_12.toInt) rfl (by omega) (by omega)) dX11_setObstacle_64 (fun H locs hP _ hS => ?_)
        rw [m_pt12 (Nat.le_of_ble_eq_true rfl) rfl] at hP
        obtain ⟨ar_14, ear_14⟩ : ∃ z : gAr, z = va_up ar_8 1 (upd (ar_8 1) v_12.toNatClampNeg b) := ⟨_, rfl⟩
        rw [← ear_14] at hP
        refine lv_iload_n hx hb dX11_setObstacle_65 rfl (lv_at hl 0 rfl) ?_
        rw [hQ]
        exact W.iret (v := v_11) hx hb hr (fun t ht hW => ⟨⟨v_11, (iv_8, ar_14), rfl, by have zr : v_11.toInt = (0 : Int) := (show v_11.toInt = (0 : Int) from by rw [ev_11]; rw [w_8.2 1 (by omega) (by omega)]; exact mra hF_iv 1 _ (by decide)); have z0 := i_l0; have z1 := i_l1; omega, by show va_P _ _ _ _; rw [ht]; exact hP⟩, hS.F ht⟩) hS.2.2 dX11_setObstacle_66
      · skip
        have q_7 : b.toInt = (1 : Int) := i_eq2 (rfl : b.toInt = b.toInt) (show (1 : Int32).toInt = (1 : Int) from rfl) c_7
        refine lv_aload_n hx hb dX11_setObstacle_24 rfl (lv_at hl 0 rfl) ?_
        refine lv_iload_n hx hb dX11_setObstacle_25 rfl (lv_at hl 1 rfl) ?_
        refine g_callSi (va_runV (As := [.int a]) (rest := []) ⟨hx, hb, hml, hown, hts⟩ (f_X11_droneAt l D cy ad hI _ iv ar a hF_iv) (cwV 1 hts gX11_setObstacle_X11_droneAt rfl rfl rfl (by decide +kernel) ⟨Nat.le_of_ble_eq_true rfl, Nat.le_of_ble_eq_true rfl⟩) (m_preV hP hK hSt hNw hS (m_at11 (Nat.le_of_ble_eq_true rfl) rfl) rfl) rfl rfl hl.1 rfl (lv_room (Nat.le_of_ble_eq_true rfl)) dX11_setObstacle_26 ⟨Nat.zero_le _, Nat.zero_le _⟩) (fun r_15 w_15 => ?_)
        try dsimp only at w_15
        refine lv_if_ge (tgt := 40) hx hb dX11_setObstacle_29 (by decide) (fun c_16 => ?_) (fun c_16 => ?_)
        · skip
          have q_16 : (0 : Int) ≤ (-1 : Int) := i_le2 (show (0 : Int32).toInt = (0 : Int) from rfl) w_15 c_16
          exfalso; omega
        · skip
          have q_16 : (-1 : Int) < (0 : Int) := i_nle2 (show (0 : Int32).toInt = (0 : Int) from rfl) w_15 c_16
          refine lv_aload_n hx hb dX11_setObstacle_32 rfl (lv_at hl 0 rfl) ?_
          refine lv_iload_n hx hb dX11_setObstacle_33 rfl (lv_at hl 1 rfl) ?_
          refine g_callSi (va_runV (As := [.int a]) (rest := []) ⟨hx, hb, hml, hown, hts⟩ (f_X11_slotAt l D cy ad hI _ iv ar a hF_iv) (cwV 1 hts gX11_setObstacle_X11_slotAt rfl rfl rfl (by decide +kernel) ⟨Nat.le_of_ble_eq_true rfl, Nat.le_of_ble_eq_true rfl⟩) (m_preV hP hK hSt hNw hS (m_at11 (Nat.le_of_ble_eq_true rfl) rfl) rfl) rfl rfl hl.1 rfl (lv_room (Nat.le_of_ble_eq_true rfl)) dX11_setObstacle_34 ⟨Nat.zero_le _, Nat.zero_le _⟩) (fun r_17 w_17 => ?_)
          try dsimp only at w_17
          refine lv_if_lt (tgt := 43) hx hb dX11_setObstacle_37 (by decide) (fun c_18 => ?_) (fun c_18 => ?_)
          · skip
            have q_18 : (-1 : Int) < (0 : Int) := i_lt2 w_17 (show (0 : Int32).toInt = (0 : Int) from rfl) c_18
            refine lv_aload_n hx hb dX11_setObstacle_43 rfl (lv_at hl 0 rfl) ?_
            refine m_callv (va_runV (As := []) (rest := []) ⟨hx, hb, hml, hown, hts⟩ (f_X11_changes l D cy ad hI _ iv ar hF_iv) (cwV 0 hts gX11_setObstacle_X11_changes rfl rfl rfl (by decide +kernel) ⟨Nat.le_of_ble_eq_true rfl, Nat.le_of_ble_eq_true rfl⟩) (m_preV hP hK hSt hNw hS (m_at11 (Nat.le_of_ble_eq_true rfl) rfl) rfl) rfl rfl hl.1 rfl (lv_room (Nat.le_of_ble_eq_true rfl)) dX11_setObstacle_44 ⟨Nat.zero_le _, Nat.zero_le _⟩) hS (fun iv_19 ar_19 H locs w_19 hP hS => ?_)
            try dsimp only at w_19
            refine lv_aload_n hx hb dX11_setObstacle_47 rfl (lv_at hl 0 rfl) ?_
            refine va_get (D := D) (ci := 11) (v := .ref (ad 1)) (C := RX11) (T := TX11) (N := 30) hx hb hts inX11 hown hK hP 0 (m_at11 (Nat.le_of_ble_eq_true rfl) rfl) rfl 0 (by decide) lk0 (fun _ h9 => h9) rfl dX11_setObstacle_48 ?_
            refine lv_iconst (v := 3) hx hb dX11_setObstacle_51 (by decide) ?_
            refine lv_iload_n hx hb dX11_setObstacle_52 rfl (lv_at hl 1 rfl) ?_
            refine lv_iadd hx hb dX11_setObstacle_53 ?_
            refine lv_topi (fun v_20 ev_20 => ?_)
            have rg_21 := i_rng a
            have tv_20 : v_20.toInt = (3 : Int) + a.toInt := i_add (show (3 : Int32).toInt = (3 : Int) from rfl) (rfl : a.toInt = a.toInt) (by omega) (by omega) ev_20
            refine va_iald hx hb hK hP 1 0 (m_at12 (Nat.le_of_ble_eq_true rfl) rfl) rfl (g_in (N := 126) (rfl : v_20.toInt = v_20.toInt) rfl (by omega) (by omega)) dX11_setObstacle_54 ?_
            refine lv_topi (fun v_22 ev_22 => ?_)
            refine lv_istore_n (lv' := [(3, .int v_22), (0, .ref (ad 0)), (1, .int a), (2, .int b)]) hx hb dX11_setObstacle_55 rfl hl (by decide) rfl (fun ls hl => ?_)
            refine lv_aload_n hx hb dX11_setObstacle_56 rfl (lv_at hl 1 rfl) ?_
            refine va_get (D := D) (ci := 11) (v := .ref (ad 1)) (C := RX11) (T := TX11) (N := 30) hx hb hts inX11 hown hK hP 0 (m_at11 (Nat.le_of_ble_eq_true rfl) rfl) rfl 0 (by decide) lk0 (fun _ h9 => h9) rfl dX11_setObstacle_57 ?_
            refine lv_iconst (v := 3) hx hb dX11_setObstacle_60 (by decide) ?_
            refine lv_iload_n hx hb dX11_setObstacle_61 rfl (lv_at hl 2 rfl) ?_
            refine lv_iadd hx hb dX11_setObstacle_62 ?_
            refine lv_topi (fun v_23 ev_23 => ?_)
            have rg_24 := i_rng a
            have tv_23 : v_23.toInt = (3 : Int) + a.toInt := i_add (show (3 : Int32).toInt = (3 : Int) from rfl) (rfl : a.toInt = a.toInt) (by omega) (by omega) ev_23
            refine lv_iload_n hx hb dX11_setObstacle_63 rfl (lv_at hl 3 rfl) ?_
            refine va_iast hx hb hK hP (mD hI) hS 1 0 (m_at12 (Nat.le_of_ble_eq_true rfl) rfl) rfl (g_in (N := 126) (rfl : v_23.toInt = v_23.toInt) rfl (by omega) (by omega)) dX11_setObstacle_64 (fun H locs hP _ hS => ?_)
            rw [m_pt12 (Nat.le_of_ble_eq_true rfl) rfl] at hP
            obtain ⟨ar_25, ear_25⟩ : ∃ z : gAr, z = va_up ar_19 1 (upd (ar_19 1) v_23.toNatClampNeg b) := ⟨_, rfl⟩
            rw [← ear_25] at hP
            refine lv_iload_n hx hb dX11_setObstacle_65 rfl (lv_at hl 0 rfl) ?_
            rw [hQ]
            exact W.iret (v := v_22) hx hb hr (fun t ht hW => ⟨⟨v_22, (iv_19, ar_25), rfl, by have zr : v_22.toInt = (0 : Int) := (show v_22.toInt = (0 : Int) from by rw [ev_22]; rw [w_19.2 1 (by omega) (by omega)]; exact mra hF_iv 1 _ (by decide)); have z0 := i_l0; have z1 := i_l1; omega, by show va_P _ _ _ _; rw [ht]; exact hP⟩, hS.F ht⟩) hS.2.2 dX11_setObstacle_66
          · skip
            have q_18 : (0 : Int) ≤ (-1 : Int) := i_nlt2 w_17 (show (0 : Int32).toInt = (0 : Int) from rfl) c_18
            exfalso; omega
    · skip
      have q_6 : r_5.toInt = (0 : Int) := i_eq2 (rfl : r_5.toInt = r_5.toInt) (show (0 : Int32).toInt = (0 : Int) from rfl) c_6
      refine lv_bipush (v := (-2)) hx hb dX11_setObstacle_16 (by decide) ?_
      rw [hQ]
      exact W.iret (v := (-2)) hx hb hr (fun t ht hW => ⟨⟨(-2), (iv, ar), rfl, by have zr : ((-2) : Int32).toInt = (-2 : Int) := (show ((-2) : Int32).toInt = (-2 : Int) from rfl); have z0 := i_l0; have z1 := i_l1; omega, by show va_P _ _ _ _; rw [ht]; exact hP⟩, hS.F ht⟩) hS.2.2 dX11_setObstacle_18
set_option maxHeartbeats 4000000 in
set_option maxRecDepth 100000 in
theorem f_X11_addDrone (l : Launch) (D : va_G) (cy : Nat → ClassId) (ad : Nat → Nat) (hI : mInj ad) (sz : Nat) (iv : gIv) (ar : gAr) (a : Int32) (hF_iv : mFr iv ar) : Met l yX11_addDrone wsX11_addDrone ({ frames := 2, cells := 0, slots := 0, locals := 42 } : Room) (va_Pc [.ref (ad 0), .int a] (mPre D cy ad sz iv ar)) (va_Qi (fun (r : Int32) (u : gIv × gAr) => (0 ≤ a.toInt ∧ a.toInt < 108) ∧ r.toInt = 0 ∨ ¬ (0 ≤ a.toInt ∧ a.toInt < 108) ∧ r.toInt = -2) (mPost D cy ad) (mA ad sz)) 0 0 (mA ad sz) := by
  refine Met.ofW (cc := cX11_addDrone) (maxL := 2) (ret := (some .int)) (by decide) rfl ?_
  intro p e s m args below meth c s₁ B hml hv
  obtain ⟨rfl, rfl, hP, hK, hSt, hNw⟩ := hv
  have hx := B.exec
  have hb := B.bytes
  have hr := B.returns
  have hts := atoms_spec (ws := wsX11_addDrone) B.pre
  have hown : s.vm.findClass RX11 = some m.cls := findClass_of_methodNamed B.named
  have hlocks := B.notSynchronized
  have hS : va_S (mA ad s.heap.size) s.heap s.heap [] := va_S.rf
  have inX11 : ∀ w ∈ u_ws RX11 TX11 30, w ∈ wsX11_addDrone := by decide +kernel
  have lk0 := hts (.fieldLink RX11 9 "FormationPlannerModel" "s" "[I") (by decide +kernel)
  have hl := lv_entry ([.ref (ad 0), .int a]) (n := 2) (Nat.le_of_ble_eq_true rfl)
  rw [lg_entry_eq]
  generalize (lg_sl ([.ref (ad 0), .int a]) ++ List.replicate (2 - (lg_sl ([.ref (ad 0), .int a])).length) Slot.unset).toArray = ls at hl ⊢
  have hl : lv_has ls 2 [(0, .ref (ad 0)), (1, .int a)] := hl
  obtain ⟨Q, hQ⟩ : ∃ Q, Q = MQ below (va_Qi (fun (r : Int32) (u : gIv × gAr) => (0 ≤ a.toInt ∧ a.toInt < 108) ∧ r.toInt = 0 ∨ ¬ (0 ≤ a.toInt ∧ a.toInt < 108) ∧ r.toInt = -2) (mPost D cy ad) (mA ad s.heap.size)) (([.ref (ad 0), .int a] : List Value).toArray) s 0 0 (mA ad s.heap.size) := ⟨_, rfl⟩
  rw [← hQ]
  refine lv_iload_n hx hb dX11_addDrone_0 rfl (lv_at hl 1 rfl) ?_
  refine g_callSi (va_runS (As := [.int a]) (rest := []) ⟨hx, hb, hml, hown, hts⟩ (c_X11_isCell l a) (va_cwS 1 hts gX11_addDrone_X11_isCell rfl rfl rfl (by decide +kernel) ⟨Nat.le_of_ble_eq_true rfl, Nat.le_of_ble_eq_true rfl⟩) (g_preT) rfl rfl hl.1 rfl (lv_room (Nat.le_of_ble_eq_true rfl)) dX11_addDrone_1 ⟨Nat.zero_le _, Nat.zero_le _⟩) (fun r_1 w_1 => ?_)
  try dsimp only at w_1
  refine lv_if_ne (tgt := 10) hx hb dX11_addDrone_4 (by decide) (fun c_2 => ?_) (fun c_2 => ?_)
  · skip
    have q_2 : r_1.toInt ≠ (0 : Int) := i_ne2 (rfl : r_1.toInt = r_1.toInt) (show (0 : Int32).toInt = (0 : Int) from rfl) c_2
    refine lv_aload_n hx hb dX11_addDrone_10 rfl (lv_at hl 0 rfl) ?_
    refine va_get (D := D) (ci := 11) (v := .ref (ad 1)) (C := RX11) (T := TX11) (N := 30) hx hb hts inX11 hown hK hP 0 (m_at11 (Nat.le_of_ble_eq_true rfl) rfl) rfl 0 (by decide) lk0 (fun _ h9 => h9) rfl dX11_addDrone_11 ?_
    refine lv_bipush (v := 111) hx hb dX11_addDrone_14 (by decide) ?_
    refine va_iald hx hb hK hP 1 0 (m_at12 (Nat.le_of_ble_eq_true rfl) rfl) rfl (g_in (N := 126) (show (111 : Int32).toInt = (111 : Int) from rfl) rfl (by omega) (by omega)) dX11_addDrone_16 ?_
    refine lv_topi (fun v_3 ev_3 => ?_)
    refine lv_bipush (v := 6) hx hb dX11_addDrone_17 (by decide) ?_
    refine lv_icmp_ne (tgt := 25) hx hb dX11_addDrone_19 (by decide) (fun c_4 => ?_) (fun c_4 => ?_)
    · skip
      have q_4 : (0 : Int) ≠ (6 : Int) := i_ne2 (show v_3.toInt = (0 : Int) from by rw [ev_3]; exact mra hF_iv 1 _ (by decide)) (show (6 : Int32).toInt = (6 : Int) from rfl) c_4
      refine lv_aload_n hx hb dX11_addDrone_25 rfl (lv_at hl 0 rfl) ?_
      refine lv_iload_n hx hb dX11_addDrone_26 rfl (lv_at hl 1 rfl) ?_
      refine g_callSi (va_runV (As := [.int a]) (rest := []) ⟨hx, hb, hml, hown, hts⟩ (f_X11_isObstacle l D cy ad hI _ iv ar a hF_iv (by omega)) (cwV 1 hts gX11_addDrone_X11_isObstacle rfl rfl rfl (by decide +kernel) ⟨Nat.le_of_ble_eq_true rfl, Nat.le_of_ble_eq_true rfl⟩) (m_preV hP hK hSt hNw hS (m_at11 (Nat.le_of_ble_eq_true rfl) rfl) rfl) rfl rfl hl.1 rfl (lv_room (Nat.le_of_ble_eq_true rfl)) dX11_addDrone_27 ⟨Nat.zero_le _, Nat.zero_le _⟩) (fun r_5 w_5 => ?_)
      try dsimp only at w_5
      refine lv_if_ne (tgt := 41) hx hb dX11_addDrone_30 (by decide) (fun c_6 => ?_) (fun c_6 => ?_)
      · skip
        have q_6 : (0 : Int) ≠ (0 : Int) := i_ne2 w_5 (show (0 : Int32).toInt = (0 : Int) from rfl) c_6
        exfalso; omega
      · skip
        have q_6 : (0 : Int) = (0 : Int) := i_eq2 w_5 (show (0 : Int32).toInt = (0 : Int) from rfl) c_6
        refine lv_aload_n hx hb dX11_addDrone_33 rfl (lv_at hl 0 rfl) ?_
        refine lv_iload_n hx hb dX11_addDrone_34 rfl (lv_at hl 1 rfl) ?_
        refine g_callSi (va_runV (As := [.int a]) (rest := []) ⟨hx, hb, hml, hown, hts⟩ (f_X11_droneAt l D cy ad hI _ iv ar a hF_iv) (cwV 1 hts gX11_addDrone_X11_droneAt rfl rfl rfl (by decide +kernel) ⟨Nat.le_of_ble_eq_true rfl, Nat.le_of_ble_eq_true rfl⟩) (m_preV hP hK hSt hNw hS (m_at11 (Nat.le_of_ble_eq_true rfl) rfl) rfl) rfl rfl hl.1 rfl (lv_room (Nat.le_of_ble_eq_true rfl)) dX11_addDrone_35 ⟨Nat.zero_le _, Nat.zero_le _⟩) (fun r_7 w_7 => ?_)
        try dsimp only at w_7
        refine lv_if_lt (tgt := 44) hx hb dX11_addDrone_38 (by decide) (fun c_8 => ?_) (fun c_8 => ?_)
        · skip
          have q_8 : (-1 : Int) < (0 : Int) := i_lt2 w_7 (show (0 : Int32).toInt = (0 : Int) from rfl) c_8
          refine lv_aload_n hx hb dX11_addDrone_44 rfl (lv_at hl 0 rfl) ?_
          refine m_callv (va_runV (As := []) (rest := []) ⟨hx, hb, hml, hown, hts⟩ (f_X11_changes l D cy ad hI _ iv ar hF_iv) (cwV 0 hts gX11_addDrone_X11_changes rfl rfl rfl (by decide +kernel) ⟨Nat.le_of_ble_eq_true rfl, Nat.le_of_ble_eq_true rfl⟩) (m_preV hP hK hSt hNw hS (m_at11 (Nat.le_of_ble_eq_true rfl) rfl) rfl) rfl rfl hl.1 rfl (lv_room (Nat.le_of_ble_eq_true rfl)) dX11_addDrone_45 ⟨Nat.zero_le _, Nat.zero_le _⟩) hS (fun iv_9 ar_9 H locs w_9 hP hS => ?_)
          try dsimp only at w_9
          refine lv_aload_n hx hb dX11_addDrone_48 rfl (lv_at hl 0 rfl) ?_
          refine va_get (D := D) (ci := 11) (v := .ref (ad 1)) (C := RX11) (T := TX11) (N := 30) hx hb hts inX11 hown hK hP 0 (m_at11 (Nat.le_of_ble_eq_true rfl) rfl) rfl 0 (by decide) lk0 (fun _ h9 => h9) rfl dX11_addDrone_49 ?_
          refine lv_bipush (v := 112) hx hb dX11_addDrone_52 (by decide) ?_
          refine lv_aload_n hx hb dX11_addDrone_54 rfl (lv_at hl 0 rfl) ?_
          refine va_get (D := D) (ci := 11) (v := .ref (ad 1)) (C := RX11) (T := TX11) (N := 30) hx hb hts inX11 hown hK hP 0 (m_at11 (Nat.le_of_ble_eq_true rfl) rfl) rfl 0 (by decide) lk0 (fun _ h9 => h9) rfl dX11_addDrone_55 ?_
          refine lv_bipush (v := 111) hx hb dX11_addDrone_58 (by decide) ?_
          refine va_iald hx hb hK hP 1 0 (m_at12 (Nat.le_of_ble_eq_true rfl) rfl) rfl (g_in (N := 126) (show (111 : Int32).toInt = (111 : Int) from rfl) rfl (by omega) (by omega)) dX11_addDrone_60 ?_
          refine lv_topi (fun v_10 ev_10 => ?_)
          refine lv_iadd hx hb dX11_addDrone_61 ?_
          refine lv_topi (fun v_11 ev_11 => ?_)
          have tv_11 : v_11.toInt = (112 : Int) + (0 : Int) := i_add (show (112 : Int32).toInt = (112 : Int) from rfl) (show v_10.toInt = (0 : Int) from by rw [ev_10]; rw [w_9.2 1 (by omega) (by omega)]; exact mra hF_iv 1 _ (by decide)) (by omega) (by omega) ev_11
          refine lv_iload_n hx hb dX11_addDrone_62 rfl (lv_at hl 1 rfl) ?_
          refine va_iast hx hb hK hP (mD hI) hS 1 0 (m_at12 (Nat.le_of_ble_eq_true rfl) rfl) rfl (g_in (N := 126) (rfl : v_11.toInt = v_11.toInt) rfl (by omega) (by omega)) dX11_addDrone_63 (fun H locs hP _ hS => ?_)
          rw [m_pt12 (Nat.le_of_ble_eq_true rfl) rfl] at hP
          obtain ⟨ar_12, ear_12⟩ : ∃ z : gAr, z = va_up ar_9 1 (upd (ar_9 1) v_11.toNatClampNeg a) := ⟨_, rfl⟩
          rw [← ear_12] at hP
          refine lv_aload_n hx hb dX11_addDrone_64 rfl (lv_at hl 0 rfl) ?_
          refine va_get (D := D) (ci := 11) (v := .ref (ad 1)) (C := RX11) (T := TX11) (N := 30) hx hb hts inX11 hown hK hP 0 (m_at11 (Nat.le_of_ble_eq_true rfl) rfl) rfl 0 (by decide) lk0 (fun _ h9 => h9) rfl dX11_addDrone_65 ?_
          refine lv_bipush (v := 111) hx hb dX11_addDrone_68 (by decide) ?_
          refine lv_dup2_11 hx hb dX11_addDrone_70 rfl rfl ?_
          refine va_iald hx hb hK hP 1 0 (m_at12 (Nat.le_of_ble_eq_true rfl) rfl) rfl (g_in (N := 126) (show (111 : Int32).toInt = (111 : Int) from rfl) rfl (by omega) (by omega)) dX11_addDrone_71 ?_
          refine lv_topi (fun v_13 ev_13 => ?_)
          refine lv_iconst (v := 1) hx hb dX11_addDrone_72 (by decide) ?_
          refine lv_iadd hx hb dX11_addDrone_73 ?_
          refine lv_topi (fun v_14 ev_14 => ?_)
          have tv_14 : v_14.toInt = (0 : Int) + (1 : Int) := i_add (show v_13.toInt = (0 : Int) from by rw [ev_13]; rw [ear_12, ua_s, g_un (g_ne (show (111 : Int32).toInt = (111 : Int) from rfl) (rfl : v_11.toInt = v_11.toInt) (by omega))]; rw [w_9.2 1 (by omega) (by omega)]; exact mra hF_iv 1 _ (by decide)) (show (1 : Int32).toInt = (1 : Int) from rfl) (by omega) (by omega) ev_14
          refine va_iast hx hb hK hP (mD hI) hS 1 0 (m_at12 (Nat.le_of_ble_eq_true rfl) rfl) rfl (g_in (N := 126) (show (111 : Int32).toInt = (111 : Int) from rfl) rfl (by omega) (by omega)) dX11_addDrone_74 (fun H locs hP _ hS => ?_)
          rw [m_pt12 (Nat.le_of_ble_eq_true rfl) rfl] at hP
          obtain ⟨ar_15, ear_15⟩ : ∃ z : gAr, z = va_up ar_12 1 (upd (ar_12 1) (111 : Int32).toNatClampNeg v_14) := ⟨_, rfl⟩
          rw [← ear_15] at hP
          refine lv_aload_n hx hb dX11_addDrone_75 rfl (lv_at hl 0 rfl) ?_
          refine va_get (D := D) (ci := 11) (v := .ref (ad 1)) (C := RX11) (T := TX11) (N := 30) hx hb hts inX11 hown hK hP 0 (m_at11 (Nat.le_of_ble_eq_true rfl) rfl) rfl 0 (by decide) lk0 (fun _ h9 => h9) rfl dX11_addDrone_76 ?_
          refine lv_bipush (v := 111) hx hb dX11_addDrone_79 (by decide) ?_
          refine va_iald hx hb hK hP 1 0 (m_at12 (Nat.le_of_ble_eq_true rfl) rfl) rfl (g_in (N := 126) (show (111 : Int32).toInt = (111 : Int) from rfl) rfl (by omega) (by omega)) dX11_addDrone_81 ?_
          refine lv_topi (fun v_16 ev_16 => ?_)
          have f_17 : v_16 = v_14 := by rw [ev_16]; rw [ear_15, ua_s]; exact pk_us
          refine lv_iconst (v := 1) hx hb dX11_addDrone_82 (by decide) ?_
          refine lv_isub hx hb dX11_addDrone_83 ?_
          refine lv_topi (fun v_18 ev_18 => ?_)
          have tv_18 : v_18.toInt = v_14.toInt - (1 : Int) := i_sub ((congrArg Int32.toInt f_17).trans (rfl : v_14.toInt = v_14.toInt)) (show (1 : Int32).toInt = (1 : Int) from rfl) (by omega) (by omega) ev_18
          rw [hQ]
          exact W.iret (v := v_18) hx hb hr (fun t ht hW => ⟨⟨v_18, (iv_9, ar_15), rfl, by have zr : v_18.toInt = v_18.toInt := (rfl : v_18.toInt = v_18.toInt); have z0 := i_l0; have z1 := i_l1; omega, by show va_P _ _ _ _; rw [ht]; exact hP⟩, hS.F ht⟩) hS.2.2 dX11_addDrone_84
        · skip
          have q_8 : (0 : Int) ≤ (-1 : Int) := i_nlt2 w_7 (show (0 : Int32).toInt = (0 : Int) from rfl) c_8
          exfalso; omega
    · skip
      have q_4 : (0 : Int) = (6 : Int) := i_eq2 (show v_3.toInt = (0 : Int) from by rw [ev_3]; exact mra hF_iv 1 _ (by decide)) (show (6 : Int32).toInt = (6 : Int) from rfl) c_4
      exfalso; omega
  · skip
    have q_2 : r_1.toInt = (0 : Int) := i_eq2 (rfl : r_1.toInt = r_1.toInt) (show (0 : Int32).toInt = (0 : Int) from rfl) c_2
    refine lv_bipush (v := (-2)) hx hb dX11_addDrone_7 (by decide) ?_
    rw [hQ]
    exact W.iret (v := (-2)) hx hb hr (fun t ht hW => ⟨⟨(-2), (iv, ar), rfl, by have zr : ((-2) : Int32).toInt = (-2 : Int) := (show ((-2) : Int32).toInt = (-2 : Int) from rfl); have z0 := i_l0; have z1 := i_l1; omega, by show va_P _ _ _ _; rw [ht]; exact hP⟩, hS.F ht⟩) hS.2.2 dX11_addDrone_9
set_option maxHeartbeats 4000000 in
set_option maxRecDepth 100000 in
theorem f_X11_addSlot (l : Launch) (D : va_G) (cy : Nat → ClassId) (ad : Nat → Nat) (hI : mInj ad) (sz : Nat) (iv : gIv) (ar : gAr) (a : Int32) (hF_iv : mFr iv ar) : Met l yX11_addSlot wsX11_addSlot ({ frames := 2, cells := 0, slots := 0, locals := 42 } : Room) (va_Pc [.ref (ad 0), .int a] (mPre D cy ad sz iv ar)) (va_Qi (fun (r : Int32) (u : gIv × gAr) => (0 ≤ a.toInt ∧ a.toInt < 108) ∧ r.toInt = 0 ∨ ¬ (0 ≤ a.toInt ∧ a.toInt < 108) ∧ r.toInt = -2) (mPost D cy ad) (mA ad sz)) 0 0 (mA ad sz) := by
  refine Met.ofW (cc := cX11_addSlot) (maxL := 2) (ret := (some .int)) (by decide) rfl ?_
  intro p e s m args below meth c s₁ B hml hv
  obtain ⟨rfl, rfl, hP, hK, hSt, hNw⟩ := hv
  have hx := B.exec
  have hb := B.bytes
  have hr := B.returns
  have hts := atoms_spec (ws := wsX11_addSlot) B.pre
  have hown : s.vm.findClass RX11 = some m.cls := findClass_of_methodNamed B.named
  have hlocks := B.notSynchronized
  have hS : va_S (mA ad s.heap.size) s.heap s.heap [] := va_S.rf
  have inX11 : ∀ w ∈ u_ws RX11 TX11 30, w ∈ wsX11_addSlot := by decide +kernel
  have lk0 := hts (.fieldLink RX11 9 "FormationPlannerModel" "s" "[I") (by decide +kernel)
  have hl := lv_entry ([.ref (ad 0), .int a]) (n := 2) (Nat.le_of_ble_eq_true rfl)
  rw [lg_entry_eq]
  generalize (lg_sl ([.ref (ad 0), .int a]) ++ List.replicate (2 - (lg_sl ([.ref (ad 0), .int a])).length) Slot.unset).toArray = ls at hl ⊢
  have hl : lv_has ls 2 [(0, .ref (ad 0)), (1, .int a)] := hl
  obtain ⟨Q, hQ⟩ : ∃ Q, Q = MQ below (va_Qi (fun (r : Int32) (u : gIv × gAr) => (0 ≤ a.toInt ∧ a.toInt < 108) ∧ r.toInt = 0 ∨ ¬ (0 ≤ a.toInt ∧ a.toInt < 108) ∧ r.toInt = -2) (mPost D cy ad) (mA ad s.heap.size)) (([.ref (ad 0), .int a] : List Value).toArray) s 0 0 (mA ad s.heap.size) := ⟨_, rfl⟩
  rw [← hQ]
  refine lv_iload_n hx hb dX11_addSlot_0 rfl (lv_at hl 1 rfl) ?_
  refine g_callSi (va_runS (As := [.int a]) (rest := []) ⟨hx, hb, hml, hown, hts⟩ (c_X11_isCell l a) (va_cwS 1 hts gX11_addSlot_X11_isCell rfl rfl rfl (by decide +kernel) ⟨Nat.le_of_ble_eq_true rfl, Nat.le_of_ble_eq_true rfl⟩) (g_preT) rfl rfl hl.1 rfl (lv_room (Nat.le_of_ble_eq_true rfl)) dX11_addSlot_1 ⟨Nat.zero_le _, Nat.zero_le _⟩) (fun r_1 w_1 => ?_)
  try dsimp only at w_1
  refine lv_if_ne (tgt := 10) hx hb dX11_addSlot_4 (by decide) (fun c_2 => ?_) (fun c_2 => ?_)
  · skip
    have q_2 : r_1.toInt ≠ (0 : Int) := i_ne2 (rfl : r_1.toInt = r_1.toInt) (show (0 : Int32).toInt = (0 : Int) from rfl) c_2
    refine lv_aload_n hx hb dX11_addSlot_10 rfl (lv_at hl 0 rfl) ?_
    refine va_get (D := D) (ci := 11) (v := .ref (ad 1)) (C := RX11) (T := TX11) (N := 30) hx hb hts inX11 hown hK hP 0 (m_at11 (Nat.le_of_ble_eq_true rfl) rfl) rfl 0 (by decide) lk0 (fun _ h9 => h9) rfl dX11_addSlot_11 ?_
    refine lv_bipush (v := 118) hx hb dX11_addSlot_14 (by decide) ?_
    refine va_iald hx hb hK hP 1 0 (m_at12 (Nat.le_of_ble_eq_true rfl) rfl) rfl (g_in (N := 126) (show (118 : Int32).toInt = (118 : Int) from rfl) rfl (by omega) (by omega)) dX11_addSlot_16 ?_
    refine lv_topi (fun v_3 ev_3 => ?_)
    refine lv_bipush (v := 6) hx hb dX11_addSlot_17 (by decide) ?_
    refine lv_icmp_ne (tgt := 25) hx hb dX11_addSlot_19 (by decide) (fun c_4 => ?_) (fun c_4 => ?_)
    · skip
      have q_4 : (0 : Int) ≠ (6 : Int) := i_ne2 (show v_3.toInt = (0 : Int) from by rw [ev_3]; exact mra hF_iv 1 _ (by decide)) (show (6 : Int32).toInt = (6 : Int) from rfl) c_4
      refine lv_aload_n hx hb dX11_addSlot_25 rfl (lv_at hl 0 rfl) ?_
      refine lv_iload_n hx hb dX11_addSlot_26 rfl (lv_at hl 1 rfl) ?_
      refine g_callSi (va_runV (As := [.int a]) (rest := []) ⟨hx, hb, hml, hown, hts⟩ (f_X11_isObstacle l D cy ad hI _ iv ar a hF_iv (by omega)) (cwV 1 hts gX11_addSlot_X11_isObstacle rfl rfl rfl (by decide +kernel) ⟨Nat.le_of_ble_eq_true rfl, Nat.le_of_ble_eq_true rfl⟩) (m_preV hP hK hSt hNw hS (m_at11 (Nat.le_of_ble_eq_true rfl) rfl) rfl) rfl rfl hl.1 rfl (lv_room (Nat.le_of_ble_eq_true rfl)) dX11_addSlot_27 ⟨Nat.zero_le _, Nat.zero_le _⟩) (fun r_5 w_5 => ?_)
      try dsimp only at w_5
      refine lv_if_ne (tgt := 41) hx hb dX11_addSlot_30 (by decide) (fun c_6 => ?_) (fun c_6 => ?_)
      · skip
        have q_6 : (0 : Int) ≠ (0 : Int) := i_ne2 w_5 (show (0 : Int32).toInt = (0 : Int) from rfl) c_6
        exfalso; omega
      · skip
        have q_6 : (0 : Int) = (0 : Int) := i_eq2 w_5 (show (0 : Int32).toInt = (0 : Int) from rfl) c_6
        refine lv_aload_n hx hb dX11_addSlot_33 rfl (lv_at hl 0 rfl) ?_
        refine lv_iload_n hx hb dX11_addSlot_34 rfl (lv_at hl 1 rfl) ?_
        refine g_callSi (va_runV (As := [.int a]) (rest := []) ⟨hx, hb, hml, hown, hts⟩ (f_X11_slotAt l D cy ad hI _ iv ar a hF_iv) (cwV 1 hts gX11_addSlot_X11_slotAt rfl rfl rfl (by decide +kernel) ⟨Nat.le_of_ble_eq_true rfl, Nat.le_of_ble_eq_true rfl⟩) (m_preV hP hK hSt hNw hS (m_at11 (Nat.le_of_ble_eq_true rfl) rfl) rfl) rfl rfl hl.1 rfl (lv_room (Nat.le_of_ble_eq_true rfl)) dX11_addSlot_35 ⟨Nat.zero_le _, Nat.zero_le _⟩) (fun r_7 w_7 => ?_)
        try dsimp only at w_7
        refine lv_if_lt (tgt := 44) hx hb dX11_addSlot_38 (by decide) (fun c_8 => ?_) (fun c_8 => ?_)
        · skip
          have q_8 : (-1 : Int) < (0 : Int) := i_lt2 w_7 (show (0 : Int32).toInt = (0 : Int) from rfl) c_8
          refine lv_aload_n hx hb dX11_addSlot_44 rfl (lv_at hl 0 rfl) ?_
          refine m_callv (va_runV (As := []) (rest := []) ⟨hx, hb, hml, hown, hts⟩ (f_X11_changes l D cy ad hI _ iv ar hF_iv) (cwV 0 hts gX11_addSlot_X11_changes rfl rfl rfl (by decide +kernel) ⟨Nat.le_of_ble_eq_true rfl, Nat.le_of_ble_eq_true rfl⟩) (m_preV hP hK hSt hNw hS (m_at11 (Nat.le_of_ble_eq_true rfl) rfl) rfl) rfl rfl hl.1 rfl (lv_room (Nat.le_of_ble_eq_true rfl)) dX11_addSlot_45 ⟨Nat.zero_le _, Nat.zero_le _⟩) hS (fun iv_9 ar_9 H locs w_9 hP hS => ?_)
          try dsimp only at w_9
          refine lv_aload_n hx hb dX11_addSlot_48 rfl (lv_at hl 0 rfl) ?_
          refine va_get (D := D) (ci := 11) (v := .ref (ad 1)) (C := RX11) (T := TX11) (N := 30) hx hb hts inX11 hown hK hP 0 (m_at11 (Nat.le_of_ble_eq_true rfl) rfl) rfl 0 (by decide) lk0 (fun _ h9 => h9) rfl dX11_addSlot_49 ?_
          refine lv_bipush (v := 119) hx hb dX11_addSlot_52 (by decide) ?_
          refine lv_aload_n hx hb dX11_addSlot_54 rfl (lv_at hl 0 rfl) ?_
          refine va_get (D := D) (ci := 11) (v := .ref (ad 1)) (C := RX11) (T := TX11) (N := 30) hx hb hts inX11 hown hK hP 0 (m_at11 (Nat.le_of_ble_eq_true rfl) rfl) rfl 0 (by decide) lk0 (fun _ h9 => h9) rfl dX11_addSlot_55 ?_
          refine lv_bipush (v := 118) hx hb dX11_addSlot_58 (by decide) ?_
          refine va_iald hx hb hK hP 1 0 (m_at12 (Nat.le_of_ble_eq_true rfl) rfl) rfl (g_in (N := 126) (show (118 : Int32).toInt = (118 : Int) from rfl) rfl (by omega) (by omega)) dX11_addSlot_60 ?_
          refine lv_topi (fun v_10 ev_10 => ?_)
          refine lv_iadd hx hb dX11_addSlot_61 ?_
          refine lv_topi (fun v_11 ev_11 => ?_)
          have tv_11 : v_11.toInt = (119 : Int) + (0 : Int) := i_add (show (119 : Int32).toInt = (119 : Int) from rfl) (show v_10.toInt = (0 : Int) from by rw [ev_10]; rw [w_9.2 1 (by omega) (by omega)]; exact mra hF_iv 1 _ (by decide)) (by omega) (by omega) ev_11
          refine lv_iload_n hx hb dX11_addSlot_62 rfl (lv_at hl 1 rfl) ?_
          refine va_iast hx hb hK hP (mD hI) hS 1 0 (m_at12 (Nat.le_of_ble_eq_true rfl) rfl) rfl (g_in (N := 126) (rfl : v_11.toInt = v_11.toInt) rfl (by omega) (by omega)) dX11_addSlot_63 (fun H locs hP _ hS => ?_)
          rw [m_pt12 (Nat.le_of_ble_eq_true rfl) rfl] at hP
          obtain ⟨ar_12, ear_12⟩ : ∃ z : gAr, z = va_up ar_9 1 (upd (ar_9 1) v_11.toNatClampNeg a) := ⟨_, rfl⟩
          rw [← ear_12] at hP
          refine lv_aload_n hx hb dX11_addSlot_64 rfl (lv_at hl 0 rfl) ?_
          refine va_get (D := D) (ci := 11) (v := .ref (ad 1)) (C := RX11) (T := TX11) (N := 30) hx hb hts inX11 hown hK hP 0 (m_at11 (Nat.le_of_ble_eq_true rfl) rfl) rfl 0 (by decide) lk0 (fun _ h9 => h9) rfl dX11_addSlot_65 ?_
          refine lv_bipush (v := 118) hx hb dX11_addSlot_68 (by decide) ?_
          refine lv_dup2_11 hx hb dX11_addSlot_70 rfl rfl ?_
          refine va_iald hx hb hK hP 1 0 (m_at12 (Nat.le_of_ble_eq_true rfl) rfl) rfl (g_in (N := 126) (show (118 : Int32).toInt = (118 : Int) from rfl) rfl (by omega) (by omega)) dX11_addSlot_71 ?_
          refine lv_topi (fun v_13 ev_13 => ?_)
          refine lv_iconst (v := 1) hx hb dX11_addSlot_72 (by decide) ?_
          refine lv_iadd hx hb dX11_addSlot_73 ?_
          refine lv_topi (fun v_14 ev_14 => ?_)
          have tv_14 : v_14.toInt = (0 : Int) + (1 : Int) := i_add (show v_13.toInt = (0 : Int) from by rw [ev_13]; rw [ear_12, ua_s, g_un (g_ne (show (118 : Int32).toInt = (118 : Int) from rfl) (rfl : v_11.toInt = v_11.toInt) (by omega))]; rw [w_9.2 1 (by omega) (by omega)]; exact mra hF_iv 1 _ (by decide)) (show (1 : Int32).toInt = (1 : Int) from rfl) (by omega) (by omega) ev_14
          refine va_iast hx hb hK hP (mD hI) hS 1 0 (m_at12 (Nat.le_of_ble_eq_true rfl) rfl) rfl (g_in (N := 126) (show (118 : Int32).toInt = (118 : Int) from rfl) rfl (by omega) (by omega)) dX11_addSlot_74 (fun H locs hP _ hS => ?_)
          rw [m_pt12 (Nat.le_of_ble_eq_true rfl) rfl] at hP
          obtain ⟨ar_15, ear_15⟩ : ∃ z : gAr, z = va_up ar_12 1 (upd (ar_12 1) (118 : Int32).toNatClampNeg v_14) := ⟨_, rfl⟩
          rw [← ear_15] at hP
          refine lv_aload_n hx hb dX11_addSlot_75 rfl (lv_at hl 0 rfl) ?_
          refine va_get (D := D) (ci := 11) (v := .ref (ad 1)) (C := RX11) (T := TX11) (N := 30) hx hb hts inX11 hown hK hP 0 (m_at11 (Nat.le_of_ble_eq_true rfl) rfl) rfl 0 (by decide) lk0 (fun _ h9 => h9) rfl dX11_addSlot_76 ?_
          refine lv_bipush (v := 118) hx hb dX11_addSlot_79 (by decide) ?_
          refine va_iald hx hb hK hP 1 0 (m_at12 (Nat.le_of_ble_eq_true rfl) rfl) rfl (g_in (N := 126) (show (118 : Int32).toInt = (118 : Int) from rfl) rfl (by omega) (by omega)) dX11_addSlot_81 ?_
          refine lv_topi (fun v_16 ev_16 => ?_)
          have f_17 : v_16 = v_14 := by rw [ev_16]; rw [ear_15, ua_s]; exact pk_us
          refine lv_iconst (v := 1) hx hb dX11_addSlot_82 (by decide) ?_
          refine lv_isub hx hb dX11_addSlot_83 ?_
          refine lv_topi (fun v_18 ev_18 => ?_)
          have tv_18 : v_18.toInt = v_14.toInt - (1 : Int) := i_sub ((congrArg Int32.toInt f_17).trans (rfl : v_14.toInt = v_14.toInt)) (show (1 : Int32).toInt = (1 : Int) from rfl) (by omega) (by omega) ev_18
          rw [hQ]
          exact W.iret (v := v_18) hx hb hr (fun t ht hW => ⟨⟨v_18, (iv_9, ar_15), rfl, by have zr : v_18.toInt = v_18.toInt := (rfl : v_18.toInt = v_18.toInt); have z0 := i_l0; have z1 := i_l1; omega, by show va_P _ _ _ _; rw [ht]; exact hP⟩, hS.F ht⟩) hS.2.2 dX11_addSlot_84
        · skip
          have q_8 : (0 : Int) ≤ (-1 : Int) := i_nlt2 w_7 (show (0 : Int32).toInt = (0 : Int) from rfl) c_8
          exfalso; omega
    · skip
      have q_4 : (0 : Int) = (6 : Int) := i_eq2 (show v_3.toInt = (0 : Int) from by rw [ev_3]; exact mra hF_iv 1 _ (by decide)) (show (6 : Int32).toInt = (6 : Int) from rfl) c_4
      exfalso; omega
  · skip
    have q_2 : r_1.toInt = (0 : Int) := i_eq2 (rfl : r_1.toInt = r_1.toInt) (show (0 : Int32).toInt = (0 : Int) from rfl) c_2
    refine lv_bipush (v := (-2)) hx hb dX11_addSlot_7 (by decide) ?_
    rw [hQ]
    exact W.iret (v := (-2)) hx hb hr (fun t ht hW => ⟨⟨(-2), (iv, ar), rfl, by have zr : ((-2) : Int32).toInt = (-2 : Int) := (show ((-2) : Int32).toInt = (-2 : Int) from rfl); have z0 := i_l0; have z1 := i_l1; omega, by show va_P _ _ _ _; rw [ht]; exact hP⟩, hS.F ht⟩) hS.2.2 dX11_addSlot_9
set_option maxHeartbeats 4000000 in
set_option maxRecDepth 100000 in
theorem f_X11_removeDrone (l : Launch) (D : va_G) (cy : Nat → ClassId) (ad : Nat → Nat) (hI : mInj ad) (sz : Nat) (iv : gIv) (ar : gAr) (a : Int32) (hF_iv : mFr iv ar) : Met l yX11_removeDrone wsX11_removeDrone ({ frames := 2, cells := 0, slots := 0, locals := 43 } : Room) (va_Pc [.ref (ad 0), .int a] (mPre D cy ad sz iv ar)) (va_Qi (fun (r : Int32) (u : gIv × gAr) => r.toInt = -1) (mPost D cy ad) (mA ad sz)) 0 0 (mA ad sz) := by
  refine Met.ofW (cc := cX11_removeDrone) (maxL := 3) (ret := (some .int)) (by decide) rfl ?_
  intro p e s m args below meth c s₁ B hml hv
  obtain ⟨rfl, rfl, hP, hK, hSt, hNw⟩ := hv
  have hx := B.exec
  have hb := B.bytes
  have hr := B.returns
  have hts := atoms_spec (ws := wsX11_removeDrone) B.pre
  have hown : s.vm.findClass RX11 = some m.cls := findClass_of_methodNamed B.named
  have hlocks := B.notSynchronized
  have hS : va_S (mA ad s.heap.size) s.heap s.heap [] := va_S.rf
  have hl := lv_entry ([.ref (ad 0), .int a]) (n := 3) (Nat.le_of_ble_eq_true rfl)
  rw [lg_entry_eq]
  generalize (lg_sl ([.ref (ad 0), .int a]) ++ List.replicate (3 - (lg_sl ([.ref (ad 0), .int a])).length) Slot.unset).toArray = ls at hl ⊢
  have hl : lv_has ls 3 [(0, .ref (ad 0)), (1, .int a)] := hl
  obtain ⟨Q, hQ⟩ : ∃ Q, Q = MQ below (va_Qi (fun (r : Int32) (u : gIv × gAr) => r.toInt = -1) (mPost D cy ad) (mA ad s.heap.size)) (([.ref (ad 0), .int a] : List Value).toArray) s 0 0 (mA ad s.heap.size) := ⟨_, rfl⟩
  rw [← hQ]
  refine lv_aload_n hx hb dX11_removeDrone_0 rfl (lv_at hl 0 rfl) ?_
  refine lv_iload_n hx hb dX11_removeDrone_1 rfl (lv_at hl 1 rfl) ?_
  refine g_callSi (va_runV (As := [.int a]) (rest := []) ⟨hx, hb, hml, hown, hts⟩ (f_X11_isDrone l D cy ad hI _ iv ar a hF_iv) (cwV 1 hts gX11_removeDrone_X11_isDrone rfl rfl rfl (by decide +kernel) ⟨Nat.le_of_ble_eq_true rfl, Nat.le_of_ble_eq_true rfl⟩) (m_preV hP hK hSt hNw hS (m_at11 (Nat.le_of_ble_eq_true rfl) rfl) rfl) rfl rfl hl.1 rfl (lv_room (Nat.le_of_ble_eq_true rfl)) dX11_removeDrone_2 ⟨Nat.zero_le _, Nat.zero_le _⟩) (fun r_1 w_1 => ?_)
  try dsimp only at w_1
  refine lv_if_ne (tgt := 10) hx hb dX11_removeDrone_5 (by decide) (fun c_2 => ?_) (fun c_2 => ?_)
  · skip
    have q_2 : (0 : Int) ≠ (0 : Int) := i_ne2 w_1 (show (0 : Int32).toInt = (0 : Int) from rfl) c_2
    exfalso; omega
  · skip
    have q_2 : (0 : Int) = (0 : Int) := i_eq2 w_1 (show (0 : Int32).toInt = (0 : Int) from rfl) c_2
    refine lv_iconst (v := (-1)) hx hb dX11_removeDrone_8 (by decide) ?_
    rw [hQ]
    exact W.iret (v := (-1)) hx hb hr (fun t ht hW => ⟨⟨(-1), (iv, ar), rfl, by have zr : ((-1) : Int32).toInt = (-1 : Int) := (show ((-1) : Int32).toInt = (-1 : Int) from rfl); have z0 := i_l0; have z1 := i_l1; omega, by show va_P _ _ _ _; rw [ht]; exact hP⟩, hS.F ht⟩) hS.2.2 dX11_removeDrone_9
set_option maxHeartbeats 4000000 in
set_option maxRecDepth 100000 in
theorem f_X11_clearSlots (l : Launch) (D : va_G) (cy : Nat → ClassId) (ad : Nat → Nat) (hI : mInj ad) (sz : Nat) (iv : gIv) (ar : gAr)  (hF_iv : mFr iv ar) : Met l yX11_clearSlots wsX11_clearSlots ({ frames := 2, cells := 0, slots := 0, locals := 41 } : Room) (va_Pc [.ref (ad 0)] (mPre D cy ad sz iv ar)) (va_Qi (fun (r : Int32) (u : gIv × gAr) => r.toInt = 0) (mPost D cy ad) (mA ad sz)) 0 0 (mA ad sz) := by
  refine Met.ofW (cc := cX11_clearSlots) (maxL := 2) (ret := (some .int)) (by decide) rfl ?_
  intro p e s m args below meth c s₁ B hml hv
  obtain ⟨rfl, rfl, hP, hK, hSt, hNw⟩ := hv
  have hx := B.exec
  have hb := B.bytes
  have hr := B.returns
  have hts := atoms_spec (ws := wsX11_clearSlots) B.pre
  have hown : s.vm.findClass RX11 = some m.cls := findClass_of_methodNamed B.named
  have hlocks := B.notSynchronized
  have hS : va_S (mA ad s.heap.size) s.heap s.heap [] := va_S.rf
  have inX11 : ∀ w ∈ u_ws RX11 TX11 30, w ∈ wsX11_clearSlots := by decide +kernel
  have lk0 := hts (.fieldLink RX11 9 "FormationPlannerModel" "s" "[I") (by decide +kernel)
  have hl := lv_entry ([.ref (ad 0)]) (n := 2) (Nat.le_of_ble_eq_true rfl)
  rw [lg_entry_eq]
  generalize (lg_sl ([.ref (ad 0)]) ++ List.replicate (2 - (lg_sl ([.ref (ad 0)])).length) Slot.unset).toArray = ls at hl ⊢
  have hl : lv_has ls 2 [(0, .ref (ad 0))] := hl
  obtain ⟨Q, hQ⟩ : ∃ Q, Q = MQ below (va_Qi (fun (r : Int32) (u : gIv × gAr) => r.toInt = 0) (mPost D cy ad) (mA ad s.heap.size)) (([.ref (ad 0)] : List Value).toArray) s 0 0 (mA ad s.heap.size) := ⟨_, rfl⟩
  rw [← hQ]
  refine lv_aload_n hx hb dX11_clearSlots_0 rfl (lv_at hl 0 rfl) ?_
  refine m_callv (va_runV (As := []) (rest := []) ⟨hx, hb, hml, hown, hts⟩ (f_X11_changes l D cy ad hI _ iv ar hF_iv) (cwV 0 hts gX11_clearSlots_X11_changes rfl rfl rfl (by decide +kernel) ⟨Nat.le_of_ble_eq_true rfl, Nat.le_of_ble_eq_true rfl⟩) (m_preV hP hK hSt hNw hS (m_at11 (Nat.le_of_ble_eq_true rfl) rfl) rfl) rfl rfl hl.1 rfl (lv_room (Nat.le_of_ble_eq_true rfl)) dX11_clearSlots_1 ⟨Nat.zero_le _, Nat.zero_le _⟩) hS (fun iv_1 ar_1 H locs w_1 hP hS => ?_)
  try dsimp only at w_1
  refine lv_aload_n hx hb dX11_clearSlots_4 rfl (lv_at hl 0 rfl) ?_
  refine va_get (D := D) (ci := 11) (v := .ref (ad 1)) (C := RX11) (T := TX11) (N := 30) hx hb hts inX11 hown hK hP 0 (m_at11 (Nat.le_of_ble_eq_true rfl) rfl) rfl 0 (by decide) lk0 (fun _ h9 => h9) rfl dX11_clearSlots_5 ?_
  refine lv_bipush (v := 118) hx hb dX11_clearSlots_8 (by decide) ?_
  refine va_iald hx hb hK hP 1 0 (m_at12 (Nat.le_of_ble_eq_true rfl) rfl) rfl (g_in (N := 126) (show (118 : Int32).toInt = (118 : Int) from rfl) rfl (by omega) (by omega)) dX11_clearSlots_10 ?_
  refine lv_topi (fun v_2 ev_2 => ?_)
  refine lv_istore_n (lv' := [(1, .int v_2), (0, .ref (ad 0))]) hx hb dX11_clearSlots_11 rfl hl (by decide) rfl (fun ls hl => ?_)
  refine lv_aload_n hx hb dX11_clearSlots_12 rfl (lv_at hl 1 rfl) ?_
  refine va_get (D := D) (ci := 11) (v := .ref (ad 1)) (C := RX11) (T := TX11) (N := 30) hx hb hts inX11 hown hK hP 0 (m_at11 (Nat.le_of_ble_eq_true rfl) rfl) rfl 0 (by decide) lk0 (fun _ h9 => h9) rfl dX11_clearSlots_13 ?_
  refine lv_bipush (v := 118) hx hb dX11_clearSlots_16 (by decide) ?_
  refine lv_iconst (v := 0) hx hb dX11_clearSlots_18 (by decide) ?_
  refine va_iast hx hb hK hP (mD hI) hS 1 0 (m_at12 (Nat.le_of_ble_eq_true rfl) rfl) rfl (g_in (N := 126) (show (118 : Int32).toInt = (118 : Int) from rfl) rfl (by omega) (by omega)) dX11_clearSlots_19 (fun H locs hP _ hS => ?_)
  rw [m_pt12 (Nat.le_of_ble_eq_true rfl) rfl] at hP
  obtain ⟨ar_3, ear_3⟩ : ∃ z : gAr, z = va_up ar_1 1 (upd (ar_1 1) (118 : Int32).toNatClampNeg 0) := ⟨_, rfl⟩
  rw [← ear_3] at hP
  refine lv_iload_n hx hb dX11_clearSlots_20 rfl (lv_at hl 0 rfl) ?_
  rw [hQ]
  exact W.iret (v := v_2) hx hb hr (fun t ht hW => ⟨⟨v_2, (iv_1, ar_3), rfl, by have zr : v_2.toInt = (0 : Int) := (show v_2.toInt = (0 : Int) from by rw [ev_2]; rw [w_1.2 1 (by omega) (by omega)]; exact mra hF_iv 1 _ (by decide)); have z0 := i_l0; have z1 := i_l1; omega, by show va_P _ _ _ _; rw [ht]; exact hP⟩, hS.F ht⟩) hS.2.2 dX11_clearSlots_21
set_option maxHeartbeats 4000000 in
set_option maxRecDepth 100000 in
theorem f_X11_append (l : Launch) (D : va_G) (cy : Nat → ClassId) (ad : Nat → Nat) (hI : mInj ad) (sz : Nat) (iv : gIv) (ar : gAr) (a : Int32) (b : Int32) (hF_iv : mFr iv ar) : Met l yX11_append wsX11_append ({ frames := 1, cells := 0, slots := 0, locals := 22 } : Room) (va_Pc [.ref (ad 0), .int a, .int b] (mPre D cy ad sz iv ar)) (va_Qi (fun (r : Int32) (u : gIv × gAr) => (0 ≤ a.toInt ∧ a.toInt < 128 ∧ 1 ≤ b.toInt ∧ b.toInt ≤ 60) ∧ r.toInt = b.toInt ∨ ¬ (0 ≤ a.toInt ∧ a.toInt < 128 ∧ 1 ≤ b.toInt ∧ b.toInt ≤ 60) ∧ r.toInt = -2) (mPost D cy ad) (mA ad sz)) 0 0 (mA ad sz) := by
  refine Met.ofW (cc := cX11_append) (maxL := 4) (ret := (some .int)) (by decide) rfl ?_
  intro p e s m args below meth c s₁ B hml hv
  obtain ⟨rfl, rfl, hP, hK, hSt, hNw⟩ := hv
  have hx := B.exec
  have hb := B.bytes
  have hr := B.returns
  have hts := atoms_spec (ws := wsX11_append) B.pre
  have hown : s.vm.findClass RX11 = some m.cls := findClass_of_methodNamed B.named
  have hlocks := B.notSynchronized
  have hS : va_S (mA ad s.heap.size) s.heap s.heap [] := va_S.rf
  have inX11 : ∀ w ∈ u_ws RX11 TX11 30, w ∈ wsX11_append := by decide +kernel
  have lk0 := hts (.fieldLink RX11 105 "FormationPlannerModel" "written" "I") (by decide +kernel)
  have lk1 := hts (.fieldLink RX11 16 "FormationPlannerModel" "text" "[I") (by decide +kernel)
  have hl := lv_entry ([.ref (ad 0), .int a, .int b]) (n := 4) (Nat.le_of_ble_eq_true rfl)
  rw [lg_entry_eq]
  generalize (lg_sl ([.ref (ad 0), .int a, .int b]) ++ List.replicate (4 - (lg_sl ([.ref (ad 0), .int a, .int b])).length) Slot.unset).toArray = ls at hl ⊢
  have hl : lv_has ls 4 [(0, .ref (ad 0)), (1, .int a), (2, .int b)] := hl
  obtain ⟨Q, hQ⟩ : ∃ Q, Q = MQ below (va_Qi (fun (r : Int32) (u : gIv × gAr) => (0 ≤ a.toInt ∧ a.toInt < 128 ∧ 1 ≤ b.toInt ∧ b.toInt ≤ 60) ∧ r.toInt = b.toInt ∨ ¬ (0 ≤ a.toInt ∧ a.toInt < 128 ∧ 1 ≤ b.toInt ∧ b.toInt ≤ 60) ∧ r.toInt = -2) (mPost D cy ad) (mA ad s.heap.size)) (([.ref (ad 0), .int a, .int b] : List Value).toArray) s 0 0 (mA ad s.heap.size) := ⟨_, rfl⟩
  rw [← hQ]
  refine lv_iload_n hx hb dX11_append_0 rfl (lv_at hl 1 rfl) ?_
  refine lv_iconst (v := 0) hx hb dX11_append_1 (by decide) ?_
  refine lv_bipush (v := 127) hx hb dX11_append_2 (by decide) ?_
  have zl_1 : (0 : Int32).toInt = (0 : Int) := rfl
  have zl_2 : (127 : Int32).toInt = (127 : Int) := rfl
  refine g_callSi (va_runS (As := [.int a, .int 0, .int 127]) (rest := []) ⟨hx, hb, hml, hown, hts⟩ (c_X11_isIn l a 0 127) (va_cwS 3 hts gX11_append_X11_isIn rfl rfl rfl (by decide +kernel) ⟨Nat.le_of_ble_eq_true rfl, Nat.le_of_ble_eq_true rfl⟩) (g_preT) rfl rfl hl.1 rfl (lv_room (Nat.le_of_ble_eq_true rfl)) dX11_append_4 ⟨Nat.zero_le _, Nat.zero_le _⟩) (fun r_3 w_3 => ?_)
  try dsimp only at w_3
  refine lv_if_eq (tgt := 20) hx hb dX11_append_7 (by decide) (fun c_4 => ?_) (fun c_4 => ?_)
  · skip
    have q_4 : r_3.toInt = (0 : Int) := i_eq2 (rfl : r_3.toInt = r_3.toInt) (show (0 : Int32).toInt = (0 : Int) from rfl) c_4
    refine lv_bipush (v := (-2)) hx hb dX11_append_20 (by decide) ?_
    rw [hQ]
    exact W.iret (v := (-2)) hx hb hr (fun t ht hW => ⟨⟨(-2), (iv, ar), rfl, by have z2 := i_m2; omega, by show va_P _ _ _ _; rw [ht]; exact hP⟩, hS.F ht⟩) hS.2.2 dX11_append_22
  · skip
    have q_4 : r_3.toInt ≠ (0 : Int) := i_ne2 (rfl : r_3.toInt = r_3.toInt) (show (0 : Int32).toInt = (0 : Int) from rfl) c_4
    refine lv_iload_n hx hb dX11_append_10 rfl (lv_at hl 2 rfl) ?_
    refine lv_iconst (v := 1) hx hb dX11_append_11 (by decide) ?_
    refine lv_bipush (v := 60) hx hb dX11_append_12 (by decide) ?_
    have zl_5 : (1 : Int32).toInt = (1 : Int) := rfl
    have zl_6 : (60 : Int32).toInt = (60 : Int) := rfl
    refine g_callSi (va_runS (As := [.int b, .int 1, .int 60]) (rest := []) ⟨hx, hb, hml, hown, hts⟩ (c_X11_isIn l b 1 60) (va_cwS 3 hts gX11_append_X11_isIn rfl rfl rfl (by decide +kernel) ⟨Nat.le_of_ble_eq_true rfl, Nat.le_of_ble_eq_true rfl⟩) (g_preT) rfl rfl hl.1 rfl (lv_room (Nat.le_of_ble_eq_true rfl)) dX11_append_14 ⟨Nat.zero_le _, Nat.zero_le _⟩) (fun r_7 w_7 => ?_)
    try dsimp only at w_7
    refine lv_if_ne (tgt := 23) hx hb dX11_append_17 (by decide) (fun c_8 => ?_) (fun c_8 => ?_)
    · skip
      have q_8 : r_7.toInt ≠ (0 : Int) := i_ne2 (rfl : r_7.toInt = r_7.toInt) (show (0 : Int32).toInt = (0 : Int) from rfl) c_8
      refine lv_aload_n hx hb dX11_append_23 rfl (lv_at hl 0 rfl) ?_
      refine va_get (D := D) (ci := 11) (v := .int (iv 0 4)) (C := RX11) (T := TX11) (N := 30) hx hb hts inX11 hown hK hP 0 (m_at11 (Nat.le_of_ble_eq_true rfl) rfl) rfl 4 (by decide) lk0 (fun _ h9 => h9) rfl dX11_append_24 ?_
      refine lv_iload_n hx hb dX11_append_27 rfl (lv_at hl 2 rfl) ?_
      refine lv_iadd hx hb dX11_append_28 ?_
      refine lv_topi (fun v_9 ev_9 => ?_)
      have tv_9 : v_9.toInt = (0 : Int) + b.toInt := i_add (mr0 hF_iv 0 4 (by decide)) (rfl : b.toInt = b.toInt) (by omega) (by omega) ev_9
      refine lv_bipush (v := 60) hx hb dX11_append_29 (by decide) ?_
      refine lv_icmp_le (tgt := 37) hx hb dX11_append_31 (by decide) (fun c_10 => ?_) (fun c_10 => ?_)
      · skip
        have q_10 : v_9.toInt ≤ (60 : Int) := i_le2 (rfl : v_9.toInt = v_9.toInt) (show (60 : Int32).toInt = (60 : Int) from rfl) c_10
        refine lv_iconst (v := 0) hx hb dX11_append_37 (by decide) ?_
        refine lv_istore_n (lv' := [(3, .int 0), (0, .ref (ad 0)), (1, .int a), (2, .int b)]) hx hb dX11_append_38 rfl hl (by decide) rfl (fun ls hl => ?_)
        have loop13 : ∀ (n : Nat) (x3_11 : Int32) (iv_12 : gIv) (ar_12 : gAr) (H : Heap) (locs : List Loc) (ls : Array Slot), (((b.toInt) - (x3_11.toInt)).toNat) < n → (0 ≤ (x3_11.toInt) ∧ (x3_11.toInt) ≤ (b.toInt)) → ((iv_12 0 4).toInt = (x3_11.toInt)) → va_P D vwCl (MW cy ad iv_12 ar_12) H → va_S (mA ad s.heap.size) s.heap H locs → lv_has ls 4 [(3, .int x3_11), (0, .ref (ad 0)), (1, .int a), (2, .int b)] → W p l e (headSpec wsX11_append (({ frames := 1, cells := 0, slots := 0, locals := 22 } : Room))).room s m (([.ref (ad 0), .int a, .int b] : List Value).toArray) below meth c H locs 0 0 Q (F0 m 39 ls []) := by
          intro n
          induction n with
          | zero => intro x3_11 iv_12 ar_12 H locs ls hm; omega
          | succ n ih13 =>
            intro x3_11 iv_12 ar_12 H locs ls hm hg0 hgl hP hS hl
            refine lv_iload_n hx hb dX11_append_39 rfl (lv_at hl 0 rfl) ?_
            refine lv_iload_n hx hb dX11_append_40 rfl (lv_at hl 3 rfl) ?_
            refine lv_icmp_ge (tgt := 70) hx hb dX11_append_41 (by decide) (fun c_14 => ?_) (fun c_14 => ?_)
            · skip
              have q_14 : b.toInt ≤ x3_11.toInt := i_le2 (rfl : b.toInt = b.toInt) (rfl : x3_11.toInt = x3_11.toInt) c_14
              refine lv_aload_n hx hb dX11_append_70 rfl (lv_at hl 1 rfl) ?_
              refine va_get (D := D) (ci := 11) (v := .int (iv_12 0 4)) (C := RX11) (T := TX11) (N := 30) hx hb hts inX11 hown hK hP 0 (m_at11 (Nat.le_of_ble_eq_true rfl) rfl) rfl 4 (by decide) lk0 (fun _ h9 => h9) rfl dX11_append_71 ?_
              rw [hQ]
              exact W.iret (v := (iv_12 0 4)) hx hb hr (fun t ht hW => ⟨⟨(iv_12 0 4), (iv_12, ar_12), rfl, by have z2 := i_m2; omega, by show va_P _ _ _ _; rw [ht]; exact hP⟩, hS.F ht⟩) hS.2.2 dX11_append_74
            · skip
              have q_14 : x3_11.toInt < b.toInt := i_nle2 (rfl : b.toInt = b.toInt) (rfl : x3_11.toInt = x3_11.toInt) c_14
              refine lv_aload_n hx hb dX11_append_44 rfl (lv_at hl 1 rfl) ?_
              refine va_get (D := D) (ci := 11) (v := .ref (ad 3)) (C := RX11) (T := TX11) (N := 30) hx hb hts inX11 hown hK hP 0 (m_at11 (Nat.le_of_ble_eq_true rfl) rfl) rfl 2 (by decide) lk1 (fun _ h9 => h9) rfl dX11_append_45 ?_
              refine lv_aload_n hx hb dX11_append_48 rfl (lv_at hl 1 rfl) ?_
              refine va_get (D := D) (ci := 11) (v := .int (iv_12 0 4)) (C := RX11) (T := TX11) (N := 30) hx hb hts inX11 hown hK hP 0 (m_at11 (Nat.le_of_ble_eq_true rfl) rfl) rfl 4 (by decide) lk0 (fun _ h9 => h9) rfl dX11_append_49 ?_
              refine lv_iload_n hx hb dX11_append_52 rfl (lv_at hl 2 rfl) ?_
              refine va_iast hx hb hK hP (mD hI) hS 3 0 (m_at12 (Nat.le_of_ble_eq_true rfl) rfl) rfl (g_in (N := 60) (rfl : (iv_12 0 4).toInt = (iv_12 0 4).toInt) rfl (by omega) (by omega)) dX11_append_53 (fun H locs hP _ hS => ?_)
              rw [m_pt12 (Nat.le_of_ble_eq_true rfl) rfl] at hP
              obtain ⟨ar_15, ear_15⟩ : ∃ z : gAr, z = va_up ar_12 3 (upd (ar_12 3) (iv_12 0 4).toNatClampNeg a) := ⟨_, rfl⟩
              rw [← ear_15] at hP
              refine lv_aload_n hx hb dX11_append_54 rfl (lv_at hl 1 rfl) ?_
              refine lv_dup hx hb dX11_append_55 rfl ?_
              refine va_get (D := D) (ci := 11) (v := .int (iv_12 0 4)) (C := RX11) (T := TX11) (N := 30) hx hb hts inX11 hown hK hP 0 (m_at11 (Nat.le_of_ble_eq_true rfl) rfl) rfl 4 (by decide) lk0 (fun _ h9 => h9) rfl dX11_append_56 ?_
              refine lv_iconst (v := 1) hx hb dX11_append_59 (by decide) ?_
              refine lv_iadd hx hb dX11_append_60 ?_
              refine lv_topi (fun v_16 ev_16 => ?_)
              have rg_17 := i_rng (iv_12 0 4)
              have tv_16 : v_16.toInt = ((iv_12 0 4).toInt) + (1 : Int) := i_add (rfl : (iv_12 0 4).toInt = (iv_12 0 4).toInt) (show (1 : Int32).toInt = (1 : Int) from rfl) (by omega) (by omega) ev_16
              refine va_put (D := D) (ci := 11) (v := .int v_16) (ty := .int) (C := RX11) (T := TX11) (N := 30) hx hb hts inX11 tyX11 tyX11_ok nmX11 hown hK hP (mD hI) hS 0 (m_at11 (Nat.le_of_ble_eq_true rfl) rfl) rfl 4 (by decide) lk0 (fun _ h9 => h9) rfl (by decide +kernel) rfl rfl (Nat.le_of_ble_eq_true rfl) dX11_append_61 (fun H locs hP _ hS => ?_)
              have hP : va_P D vwCl (MW cy ad (u2 iv_12 0 4 v_16) ar_15) H := by rw [← m_pt11_4 (Nat.le_of_ble_eq_true rfl) rfl]; exact hP
              obtain ⟨iv_18, eiv_18⟩ : ∃ z : gIv, z = u2 iv_12 0 4 v_16 := ⟨_, rfl⟩
              rw [← eiv_18] at hP
              obtain ⟨x3_19, ex3_19⟩ : ∃ y : Int32, y = x3_11 + 1 := ⟨_, rfl⟩
              have tx3_19 : x3_19.toInt = x3_11.toInt + (1 : Int) := i_add (rfl : x3_11.toInt = x3_11.toInt) (show (1 : Int32).toInt = (1 : Int) from rfl) (by omega) (by omega) ex3_19
              refine lv_iinc (v := x3_19) (lv' := [(3, .int x3_19), (0, .ref (ad 0)), (1, .int a), (2, .int b)]) hx hb dX11_append_64 hl (k := 0) rfl (by rw [ex3_19]; rfl) (by decide) rfl (fun ls hl => ?_)
              refine lv_goto (tgt := 39) hx hb dX11_append_67 (by decide) ?_
              have hnl : (iv_18 0 4).toInt = (x3_19.toInt) := by rw [eiv_18, u2_s]; omega
              exact ih13 x3_19 iv_18 ar_15 _ _ _ (by omega) (by omega) hnl hP hS (lv_sub hl [0, 1, 2, 3] rfl)
        have zl_20 : (0 : Int32).toInt = (0 : Int) := rfl
        exact loop13 ((((b.toInt) - ((0 : Int))).toNat) + 1) 0 iv ar _ _ _ (by omega) (by omega) (by have := mr0 hF_iv 0 4 (by decide); omega) hP hS (lv_sub hl [0, 1, 2, 3] rfl)
      · skip
        have q_10 : (60 : Int) < v_9.toInt := i_nle2 (rfl : v_9.toInt = v_9.toInt) (show (60 : Int32).toInt = (60 : Int) from rfl) c_10
        refine lv_bipush (v := (-3)) hx hb dX11_append_34 (by decide) ?_
        rw [hQ]
        exact W.iret (v := (-3)) hx hb hr (fun t ht hW => ⟨⟨(-3), (iv, ar), rfl, by have z2 := i_m2; omega, by show va_P _ _ _ _; rw [ht]; exact hP⟩, hS.F ht⟩) hS.2.2 dX11_append_36
    · skip
      have q_8 : r_7.toInt = (0 : Int) := i_eq2 (rfl : r_7.toInt = r_7.toInt) (show (0 : Int32).toInt = (0 : Int) from rfl) c_8
      refine lv_bipush (v := (-2)) hx hb dX11_append_20 (by decide) ?_
      rw [hQ]
      exact W.iret (v := (-2)) hx hb hr (fun t ht hW => ⟨⟨(-2), (iv, ar), rfl, by have z2 := i_m2; omega, by show va_P _ _ _ _; rw [ht]; exact hP⟩, hS.F ht⟩) hS.2.2 dX11_append_22
set_option maxHeartbeats 4000000 in
set_option maxRecDepth 100000 in
theorem f_X11_readsAll (l : Launch) (D : va_G) (cy : Nat → ClassId) (ad : Nat → Nat) (hI : mInj ad) (sz : Nat) (iv : gIv) (ar : gAr)  (hF_iv : mFr iv ar) : Met l yX11_readsAll wsX11_readsAll ({ frames := 1, cells := 0, slots := 0, locals := 22 } : Room) (va_Pc [.ref (ad 0)] (mPre D cy ad sz iv ar)) (va_Qi (fun (r : Int32) (u : gIv × gAr) => r.toInt = -1 ∧ mFr u.1 u.2) (mPost D cy ad) (mA ad sz)) 0 0 (mA ad sz) := by
  refine Met.ofW (cc := cX11_readsAll) (maxL := 5) (ret := (some .int)) (by decide) rfl ?_
  intro p e s m args below meth c s₁ B hml hv
  obtain ⟨rfl, rfl, hP, hK, hSt, hNw⟩ := hv
  have hx := B.exec
  have hb := B.bytes
  have hr := B.returns
  have hts := atoms_spec (ws := wsX11_readsAll) B.pre
  have hown : s.vm.findClass RX11 = some m.cls := findClass_of_methodNamed B.named
  have hlocks := B.notSynchronized
  have hS : va_S (mA ad s.heap.size) s.heap s.heap [] := va_S.rf
  have inX11 : ∀ w ∈ u_ws RX11 TX11 30, w ∈ wsX11_readsAll := by decide +kernel
  have lk0 := hts (.fieldLink RX11 108 "FormationPlannerModel" "at" "I") (by decide +kernel)
  have hl := lv_entry ([.ref (ad 0)]) (n := 5) (Nat.le_of_ble_eq_true rfl)
  rw [lg_entry_eq]
  generalize (lg_sl ([.ref (ad 0)]) ++ List.replicate (5 - (lg_sl ([.ref (ad 0)])).length) Slot.unset).toArray = ls at hl ⊢
  have hl : lv_has ls 5 [(0, .ref (ad 0))] := hl
  obtain ⟨Q, hQ⟩ : ∃ Q, Q = MQ below (va_Qi (fun (r : Int32) (u : gIv × gAr) => r.toInt = -1 ∧ mFr u.1 u.2) (mPost D cy ad) (mA ad s.heap.size)) (([.ref (ad 0)] : List Value).toArray) s 0 0 (mA ad s.heap.size) := ⟨_, rfl⟩
  rw [← hQ]
  refine lv_aload_n hx hb dX11_readsAll_0 rfl (lv_at hl 0 rfl) ?_
  refine lv_iconst (v := 0) hx hb dX11_readsAll_1 (by decide) ?_
  refine va_put (D := D) (ci := 11) (v := .int 0) (ty := .int) (C := RX11) (T := TX11) (N := 30) hx hb hts inX11 tyX11 tyX11_ok nmX11 hown hK hP (mD hI) hS 0 (m_at11 (Nat.le_of_ble_eq_true rfl) rfl) rfl 5 (by decide) lk0 (fun _ h9 => h9) rfl (by decide +kernel) rfl rfl (Nat.le_of_ble_eq_true rfl) dX11_readsAll_2 (fun H locs hP _ hS => ?_)
  have hP : va_P D vwCl (MW cy ad (u2 iv 0 5 0) ar) H := by rw [← m_pt11_5 (Nat.le_of_ble_eq_true rfl) rfl]; exact hP
  obtain ⟨iv_1, eiv_1⟩ : ∃ z : gIv, z = u2 iv 0 5 0 := ⟨_, rfl⟩
  rw [← eiv_1] at hP
  have hF_iv_1 : mFr iv_1 ar := by rw [eiv_1]; exact mru hF_iv 0 5 (by decide) (show (0 : Int32).toInt = (0 : Int) from rfl)
  refine lv_iconst (v := 0) hx hb dX11_readsAll_5 (by decide) ?_
  refine lv_istore_n (lv' := [(1, .int 0), (0, .ref (ad 0))]) hx hb dX11_readsAll_6 rfl hl (by decide) rfl (fun ls hl => ?_)
  refine lv_aload_n hx hb dX11_readsAll_7 rfl (lv_at hl 1 rfl) ?_
  refine g_callSi (va_runV (As := []) (rest := []) ⟨hx, hb, hml, hown, hts⟩ (f_X11_here l D cy ad hI _ iv_1 ar hF_iv_1) (cwV 0 hts gX11_readsAll_X11_here rfl rfl rfl (by decide +kernel) ⟨Nat.le_of_ble_eq_true rfl, Nat.le_of_ble_eq_true rfl⟩) (m_preV hP hK hSt hNw hS (m_at11 (Nat.le_of_ble_eq_true rfl) rfl) rfl) rfl rfl hl.1 rfl (lv_room (Nat.le_of_ble_eq_true rfl)) dX11_readsAll_8 ⟨Nat.zero_le _, Nat.zero_le _⟩) (fun r_2 w_2 => ?_)
  try dsimp only at w_2
  refine lv_bipush (v := 97) hx hb dX11_readsAll_11 (by decide) ?_
  refine lv_bipush (v := 102) hx hb dX11_readsAll_13 (by decide) ?_
  have zl_3 : (97 : Int32).toInt = (97 : Int) := rfl
  have zl_4 : (102 : Int32).toInt = (102 : Int) := rfl
  refine g_callSi (va_runS (As := [.int r_2, .int 97, .int 102]) (rest := []) ⟨hx, hb, hml, hown, hts⟩ (c_X11_isIn l r_2 97 102) (va_cwS 3 hts gX11_readsAll_X11_isIn rfl rfl rfl (by decide +kernel) ⟨Nat.le_of_ble_eq_true rfl, Nat.le_of_ble_eq_true rfl⟩) (g_preT) rfl rfl hl.1 rfl (lv_room (Nat.le_of_ble_eq_true rfl)) dX11_readsAll_15 ⟨Nat.zero_le _, Nat.zero_le _⟩) (fun r_5 w_5 => ?_)
  try dsimp only at w_5
  have z_5 : r_5.toInt = 0 := by omega
  refine lv_if_ne (tgt := 23) hx hb dX11_readsAll_18 (by decide) (fun c_6 => ?_) (fun c_6 => ?_)
  · skip
    have q_6 : (0 : Int) ≠ (0 : Int) := i_ne2 z_5 (show (0 : Int32).toInt = (0 : Int) from rfl) c_6
    exfalso; omega
  · skip
    have q_6 : (0 : Int) = (0 : Int) := i_eq2 z_5 (show (0 : Int32).toInt = (0 : Int) from rfl) c_6
    refine lv_iconst (v := (-1)) hx hb dX11_readsAll_21 (by decide) ?_
    rw [hQ]
    exact W.iret (v := (-1)) hx hb hr (fun t ht hW => ⟨⟨(-1), (iv_1, ar), rfl, ⟨rfl, hF_iv_1⟩, by show va_P _ _ _ _; rw [ht]; exact hP⟩, hS.F ht⟩) hS.2.2 dX11_readsAll_22
set_option maxHeartbeats 4000000 in
set_option maxRecDepth 100000 in
theorem f_X11_readSlots (l : Launch) (D : va_G) (cy : Nat → ClassId) (ad : Nat → Nat) (hI : mInj ad) (sz : Nat) (iv : gIv) (ar : gAr)  (hF_iv : mFr iv ar) : Met l yX11_readSlots wsX11_readSlots ({ frames := 2, cells := 0, slots := 0, locals := 46 } : Room) (va_Pc [.ref (ad 0)] (mPre D cy ad sz iv ar)) (va_Qi (fun (r : Int32) (u : gIv × gAr) => r.toInt = -100) (mPost D cy ad) (mA ad sz)) 0 0 (mA ad sz) := by
  refine Met.ofW (cc := cX11_readSlots) (maxL := 3) (ret := (some .int)) (by decide) rfl ?_
  intro p e s m args below meth c s₁ B hml hv
  obtain ⟨rfl, rfl, hP, hK, hSt, hNw⟩ := hv
  have hx := B.exec
  have hb := B.bytes
  have hr := B.returns
  have hts := atoms_spec (ws := wsX11_readSlots) B.pre
  have hown : s.vm.findClass RX11 = some m.cls := findClass_of_methodNamed B.named
  have hlocks := B.notSynchronized
  have hS : va_S (mA ad s.heap.size) s.heap s.heap [] := va_S.rf
  have inX11 : ∀ w ∈ u_ws RX11 TX11 30, w ∈ wsX11_readSlots := by decide +kernel
  have lk0 := hts (.fieldLink RX11 105 "FormationPlannerModel" "written" "I") (by decide +kernel)
  have lk1 := hts (.fieldLink RX11 108 "FormationPlannerModel" "at" "I") (by decide +kernel)
  have hl := lv_entry ([.ref (ad 0)]) (n := 3) (Nat.le_of_ble_eq_true rfl)
  rw [lg_entry_eq]
  generalize (lg_sl ([.ref (ad 0)]) ++ List.replicate (3 - (lg_sl ([.ref (ad 0)])).length) Slot.unset).toArray = ls at hl ⊢
  have hl : lv_has ls 3 [(0, .ref (ad 0))] := hl
  obtain ⟨Q, hQ⟩ : ∃ Q, Q = MQ below (va_Qi (fun (r : Int32) (u : gIv × gAr) => r.toInt = -100) (mPost D cy ad) (mA ad s.heap.size)) (([.ref (ad 0)] : List Value).toArray) s 0 0 (mA ad s.heap.size) := ⟨_, rfl⟩
  rw [← hQ]
  refine lv_aload_n hx hb dX11_readSlots_0 rfl (lv_at hl 0 rfl) ?_
  refine m_calli (va_runV (As := []) (rest := []) ⟨hx, hb, hml, hown, hts⟩ (f_X11_readsAll l D cy ad hI _ iv ar hF_iv) (cwV 0 hts gX11_readSlots_X11_readsAll rfl rfl rfl (by decide +kernel) ⟨Nat.le_of_ble_eq_true rfl, Nat.le_of_ble_eq_true rfl⟩) (m_preV hP hK hSt hNw hS (m_at11 (Nat.le_of_ble_eq_true rfl) rfl) rfl) rfl rfl hl.1 rfl (lv_room (Nat.le_of_ble_eq_true rfl)) dX11_readSlots_1 ⟨Nat.zero_le _, Nat.zero_le _⟩) hS (fun r_1 iv_1 ar_1 H locs w_1 hP hS => ?_)
  try dsimp only at w_1
  have hF_iv_1 := w_1.2
  have z_1 : r_1.toInt = (-1) := w_1.1
  refine lv_istore_n (lv' := [(1, .int r_1), (0, .ref (ad 0))]) hx hb dX11_readSlots_4 rfl hl (by decide) rfl (fun ls hl => ?_)
  refine lv_aload_n hx hb dX11_readSlots_5 rfl (lv_at hl 1 rfl) ?_
  refine lv_iconst (v := 0) hx hb dX11_readSlots_6 (by decide) ?_
  refine va_put (D := D) (ci := 11) (v := .int 0) (ty := .int) (C := RX11) (T := TX11) (N := 30) hx hb hts inX11 tyX11 tyX11_ok nmX11 hown hK hP (mD hI) hS 0 (m_at11 (Nat.le_of_ble_eq_true rfl) rfl) rfl 4 (by decide) lk0 (fun _ h9 => h9) rfl (by decide +kernel) rfl rfl (Nat.le_of_ble_eq_true rfl) dX11_readSlots_7 (fun H locs hP _ hS => ?_)
  have hP : va_P D vwCl (MW cy ad (u2 iv_1 0 4 0) ar_1) H := by rw [← m_pt11_4 (Nat.le_of_ble_eq_true rfl) rfl]; exact hP
  obtain ⟨iv_2, eiv_2⟩ : ∃ z : gIv, z = u2 iv_1 0 4 0 := ⟨_, rfl⟩
  rw [← eiv_2] at hP
  have hF_iv_2 : mFr iv_2 ar_1 := by rw [eiv_2]; exact mru hF_iv_1 0 4 (by decide) (show (0 : Int32).toInt = (0 : Int) from rfl)
  refine lv_iload_n hx hb dX11_readSlots_10 rfl (lv_at hl 0 rfl) ?_
  refine lv_if_ge (tgt := 22) hx hb dX11_readSlots_11 (by decide) (fun c_3 => ?_) (fun c_3 => ?_)
  · skip
    have q_3 : (0 : Int) ≤ (-1 : Int) := i_le2 (show (0 : Int32).toInt = (0 : Int) from rfl) z_1 c_3
    exfalso; omega
  · skip
    have q_3 : (-1 : Int) < (0 : Int) := i_nle2 (show (0 : Int32).toInt = (0 : Int) from rfl) z_1 c_3
    refine lv_bipush (v := (-100)) hx hb dX11_readSlots_14 (by decide) ?_
    refine lv_aload_n hx hb dX11_readSlots_16 rfl (lv_at hl 1 rfl) ?_
    refine va_get (D := D) (ci := 11) (v := .int (iv_2 0 5)) (C := RX11) (T := TX11) (N := 30) hx hb hts inX11 hown hK hP 0 (m_at11 (Nat.le_of_ble_eq_true rfl) rfl) rfl 5 (by decide) lk1 (fun _ h9 => h9) rfl dX11_readSlots_17 ?_
    refine lv_isub hx hb dX11_readSlots_20 ?_
    refine lv_topi (fun v_4 ev_4 => ?_)
    have tv_4 : v_4.toInt = (-100 : Int) - (0 : Int) := i_sub (show ((-100) : Int32).toInt = (-100 : Int) from rfl) (mr0 hF_iv_2 0 5 (by decide)) (by omega) (by omega) ev_4
    rw [hQ]
    exact W.iret (v := v_4) hx hb hr (fun t ht hW => ⟨⟨v_4, (iv_2, ar_1), rfl, by have zr : v_4.toInt = v_4.toInt := (rfl : v_4.toInt = v_4.toInt); have z0 := i_l0; have z1 := i_l1; omega, by show va_P _ _ _ _; rw [ht]; exact hP⟩, hS.F ht⟩) hS.2.2 dX11_readSlots_21
set_option maxHeartbeats 4000000 in
set_option maxRecDepth 100000 in
theorem f_X11_at (l : Launch) (D : va_G) (cy : Nat → ClassId) (ad : Nat → Nat) (hI : mInj ad) (sz : Nat) (iv : gIv) (ar : gAr) (a : Int32) (b : Int32) (hF_iv : mFr iv ar) : Met l yX11_at wsX11_at ({ frames := 2, cells := 0, slots := 0, locals := 43 } : Room) (va_Pc [.ref (ad 0), .int a, .int b] (mPre D cy ad sz iv ar)) (vp_Si (fun r => r.toInt = -1)) 0 0 (fun _ => False) := by
  refine Met.ofW (cc := cX11_at) (maxL := 3) (ret := (some .int)) (by decide) rfl ?_
  intro p e s m args below meth c s₁ B hml hv
  obtain ⟨rfl, rfl, hP, hK, hSt, hNw⟩ := hv
  have hx := B.exec
  have hb := B.bytes
  have hr := B.returns
  have hts := atoms_spec (ws := wsX11_at) B.pre
  have hown : s.vm.findClass RX11 = some m.cls := findClass_of_methodNamed B.named
  have hlocks := B.notSynchronized
  have hS : va_S (mA ad s.heap.size) s.heap s.heap [] := va_S.rf
  have hl := lv_entry ([.ref (ad 0), .int a, .int b]) (n := 3) (Nat.le_of_ble_eq_true rfl)
  rw [lg_entry_eq]
  generalize (lg_sl ([.ref (ad 0), .int a, .int b]) ++ List.replicate (3 - (lg_sl ([.ref (ad 0), .int a, .int b])).length) Slot.unset).toArray = ls at hl ⊢
  have hl : lv_has ls 3 [(0, .ref (ad 0)), (1, .int a), (2, .int b)] := hl
  obtain ⟨Q, hQ⟩ : ∃ Q, Q = MQ below (vp_Si (fun r => r.toInt = -1)) (([.ref (ad 0), .int a, .int b] : List Value).toArray) s 0 0 (fun _ => False) := ⟨_, rfl⟩
  rw [← hQ]
  refine lv_aload_n hx hb dX11_at_0 rfl (lv_at hl 0 rfl) ?_
  refine lv_iload_n hx hb dX11_at_1 rfl (lv_at hl 1 rfl) ?_
  refine g_callSi (va_runV (As := [.int a]) (rest := []) ⟨hx, hb, hml, hown, hts⟩ (f_X11_isDrone l D cy ad hI _ iv ar a hF_iv) (cwV 1 hts gX11_at_X11_isDrone rfl rfl rfl (by decide +kernel) ⟨Nat.le_of_ble_eq_true rfl, Nat.le_of_ble_eq_true rfl⟩) (m_preV hP hK hSt hNw hS (m_at11 (Nat.le_of_ble_eq_true rfl) rfl) rfl) rfl rfl hl.1 rfl (lv_room (Nat.le_of_ble_eq_true rfl)) dX11_at_2 ⟨Nat.zero_le _, Nat.zero_le _⟩) (fun r_1 w_1 => ?_)
  try dsimp only at w_1
  refine lv_if_ne (tgt := 10) hx hb dX11_at_5 (by decide) (fun c_2 => ?_) (fun c_2 => ?_)
  · skip
    have q_2 : (0 : Int) ≠ (0 : Int) := i_ne2 w_1 (show (0 : Int32).toInt = (0 : Int) from rfl) c_2
    exfalso; omega
  · skip
    have q_2 : (0 : Int) = (0 : Int) := i_eq2 w_1 (show (0 : Int32).toInt = (0 : Int) from rfl) c_2
    refine lv_iconst (v := (-1)) hx hb dX11_at_8 (by decide) ?_
    rw [hQ]
    exact W.iret (v := (-1)) hx hb hr (fun t ht hW => ⟨(-1), rfl, by have zr : ((-1) : Int32).toInt = (-1 : Int) := (show ((-1) : Int32).toInt = (-1 : Int) from rfl); have z0 := i_l0; have z1 := i_l1; omega, ht⟩) (fun q h => by cases h) dX11_at_9
set_option maxHeartbeats 4000000 in
set_option maxRecDepth 100000 in
theorem f_X11_action (l : Launch) (D : va_G) (cy : Nat → ClassId) (ad : Nat → Nat) (hI : mInj ad) (sz : Nat) (iv : gIv) (ar : gAr) (a : Int32) (b : Int32) (hF_iv : mFr iv ar) : Met l yX11_action wsX11_action ({ frames := 2, cells := 0, slots := 0, locals := 43 } : Room) (va_Pc [.ref (ad 0), .int a, .int b] (mPre D cy ad sz iv ar)) (vp_Si (fun r => r.toInt = -1)) 0 0 (fun _ => False) := by
  refine Met.ofW (cc := cX11_action) (maxL := 3) (ret := (some .int)) (by decide) rfl ?_
  intro p e s m args below meth c s₁ B hml hv
  obtain ⟨rfl, rfl, hP, hK, hSt, hNw⟩ := hv
  have hx := B.exec
  have hb := B.bytes
  have hr := B.returns
  have hts := atoms_spec (ws := wsX11_action) B.pre
  have hown : s.vm.findClass RX11 = some m.cls := findClass_of_methodNamed B.named
  have hlocks := B.notSynchronized
  have hS : va_S (mA ad s.heap.size) s.heap s.heap [] := va_S.rf
  have hl := lv_entry ([.ref (ad 0), .int a, .int b]) (n := 3) (Nat.le_of_ble_eq_true rfl)
  rw [lg_entry_eq]
  generalize (lg_sl ([.ref (ad 0), .int a, .int b]) ++ List.replicate (3 - (lg_sl ([.ref (ad 0), .int a, .int b])).length) Slot.unset).toArray = ls at hl ⊢
  have hl : lv_has ls 3 [(0, .ref (ad 0)), (1, .int a), (2, .int b)] := hl
  obtain ⟨Q, hQ⟩ : ∃ Q, Q = MQ below (vp_Si (fun r => r.toInt = -1)) (([.ref (ad 0), .int a, .int b] : List Value).toArray) s 0 0 (fun _ => False) := ⟨_, rfl⟩
  rw [← hQ]
  refine lv_aload_n hx hb dX11_action_0 rfl (lv_at hl 0 rfl) ?_
  refine lv_iload_n hx hb dX11_action_1 rfl (lv_at hl 1 rfl) ?_
  refine g_callSi (va_runV (As := [.int a]) (rest := []) ⟨hx, hb, hml, hown, hts⟩ (f_X11_isDrone l D cy ad hI _ iv ar a hF_iv) (cwV 1 hts gX11_action_X11_isDrone rfl rfl rfl (by decide +kernel) ⟨Nat.le_of_ble_eq_true rfl, Nat.le_of_ble_eq_true rfl⟩) (m_preV hP hK hSt hNw hS (m_at11 (Nat.le_of_ble_eq_true rfl) rfl) rfl) rfl rfl hl.1 rfl (lv_room (Nat.le_of_ble_eq_true rfl)) dX11_action_2 ⟨Nat.zero_le _, Nat.zero_le _⟩) (fun r_1 w_1 => ?_)
  try dsimp only at w_1
  refine lv_if_ne (tgt := 10) hx hb dX11_action_5 (by decide) (fun c_2 => ?_) (fun c_2 => ?_)
  · skip
    have q_2 : (0 : Int) ≠ (0 : Int) := i_ne2 w_1 (show (0 : Int32).toInt = (0 : Int) from rfl) c_2
    exfalso; omega
  · skip
    have q_2 : (0 : Int) = (0 : Int) := i_eq2 w_1 (show (0 : Int32).toInt = (0 : Int) from rfl) c_2
    refine lv_iconst (v := (-1)) hx hb dX11_action_8 (by decide) ?_
    rw [hQ]
    exact W.iret (v := (-1)) hx hb hr (fun t ht hW => ⟨(-1), rfl, by have zr : ((-1) : Int32).toInt = (-1 : Int) := (show ((-1) : Int32).toInt = (-1 : Int) from rfl); have z0 := i_l0; have z1 := i_l1; omega, ht⟩) (fun q h => by cases h) dX11_action_9
set_option maxHeartbeats 4000000 in
set_option maxRecDepth 100000 in
theorem f_X11_flight (l : Launch) (D : va_G) (cy : Nat → ClassId) (ad : Nat → Nat) (hI : mInj ad) (sz : Nat) (iv : gIv) (ar : gAr) (a : Int32) (b : Int32) (hF_iv : mFr iv ar) : Met l yX11_flight wsX11_flight ({ frames := 2, cells := 0, slots := 0, locals := 43 } : Room) (va_Pc [.ref (ad 0), .int a, .int b] (mPre D cy ad sz iv ar)) (vp_Si (fun r => r.toInt = -1)) 0 0 (fun _ => False) := by
  refine Met.ofW (cc := cX11_flight) (maxL := 3) (ret := (some .int)) (by decide) rfl ?_
  intro p e s m args below meth c s₁ B hml hv
  obtain ⟨rfl, rfl, hP, hK, hSt, hNw⟩ := hv
  have hx := B.exec
  have hb := B.bytes
  have hr := B.returns
  have hts := atoms_spec (ws := wsX11_flight) B.pre
  have hown : s.vm.findClass RX11 = some m.cls := findClass_of_methodNamed B.named
  have hlocks := B.notSynchronized
  have hS : va_S (mA ad s.heap.size) s.heap s.heap [] := va_S.rf
  have hl := lv_entry ([.ref (ad 0), .int a, .int b]) (n := 3) (Nat.le_of_ble_eq_true rfl)
  rw [lg_entry_eq]
  generalize (lg_sl ([.ref (ad 0), .int a, .int b]) ++ List.replicate (3 - (lg_sl ([.ref (ad 0), .int a, .int b])).length) Slot.unset).toArray = ls at hl ⊢
  have hl : lv_has ls 3 [(0, .ref (ad 0)), (1, .int a), (2, .int b)] := hl
  obtain ⟨Q, hQ⟩ : ∃ Q, Q = MQ below (vp_Si (fun r => r.toInt = -1)) (([.ref (ad 0), .int a, .int b] : List Value).toArray) s 0 0 (fun _ => False) := ⟨_, rfl⟩
  rw [← hQ]
  refine lv_aload_n hx hb dX11_flight_0 rfl (lv_at hl 0 rfl) ?_
  refine lv_iload_n hx hb dX11_flight_1 rfl (lv_at hl 1 rfl) ?_
  refine g_callSi (va_runV (As := [.int a]) (rest := []) ⟨hx, hb, hml, hown, hts⟩ (f_X11_isDrone l D cy ad hI _ iv ar a hF_iv) (cwV 1 hts gX11_flight_X11_isDrone rfl rfl rfl (by decide +kernel) ⟨Nat.le_of_ble_eq_true rfl, Nat.le_of_ble_eq_true rfl⟩) (m_preV hP hK hSt hNw hS (m_at11 (Nat.le_of_ble_eq_true rfl) rfl) rfl) rfl rfl hl.1 rfl (lv_room (Nat.le_of_ble_eq_true rfl)) dX11_flight_2 ⟨Nat.zero_le _, Nat.zero_le _⟩) (fun r_1 w_1 => ?_)
  try dsimp only at w_1
  refine lv_if_ne (tgt := 10) hx hb dX11_flight_5 (by decide) (fun c_2 => ?_) (fun c_2 => ?_)
  · skip
    have q_2 : (0 : Int) ≠ (0 : Int) := i_ne2 w_1 (show (0 : Int32).toInt = (0 : Int) from rfl) c_2
    exfalso; omega
  · skip
    have q_2 : (0 : Int) = (0 : Int) := i_eq2 w_1 (show (0 : Int32).toInt = (0 : Int) from rfl) c_2
    refine lv_iconst (v := (-1)) hx hb dX11_flight_8 (by decide) ?_
    rw [hQ]
    exact W.iret (v := (-1)) hx hb hr (fun t ht hW => ⟨(-1), rfl, by have zr : ((-1) : Int32).toInt = (-1 : Int) := (show ((-1) : Int32).toInt = (-1 : Int) from rfl); have z0 := i_l0; have z1 := i_l1; omega, ht⟩) (fun q h => by cases h) dX11_flight_9
set_option maxHeartbeats 4000000 in
set_option maxRecDepth 100000 in
theorem f_X11_explain (l : Launch) (D : va_G) (cy : Nat → ClassId) (ad : Nat → Nat) (hI : mInj ad) (sz : Nat) (iv : gIv) (ar : gAr) (a : Int32) (b : Int32) (hF_iv : mFr iv ar) : Met l yX11_explain wsX11_explain ({ frames := 2, cells := 0, slots := 0, locals := 43 } : Room) (va_Pc [.ref (ad 0), .int a, .int b] (mPre D cy ad sz iv ar)) (vp_Si (fun r => r.toInt = -1)) 0 0 (fun _ => False) := by
  refine Met.ofW (cc := cX11_explain) (maxL := 7) (ret := (some .int)) (by decide) rfl ?_
  intro p e s m args below meth c s₁ B hml hv
  obtain ⟨rfl, rfl, hP, hK, hSt, hNw⟩ := hv
  have hx := B.exec
  have hb := B.bytes
  have hr := B.returns
  have hts := atoms_spec (ws := wsX11_explain) B.pre
  have hown : s.vm.findClass RX11 = some m.cls := findClass_of_methodNamed B.named
  have hlocks := B.notSynchronized
  have hS : va_S (mA ad s.heap.size) s.heap s.heap [] := va_S.rf
  have hl := lv_entry ([.ref (ad 0), .int a, .int b]) (n := 7) (Nat.le_of_ble_eq_true rfl)
  rw [lg_entry_eq]
  generalize (lg_sl ([.ref (ad 0), .int a, .int b]) ++ List.replicate (7 - (lg_sl ([.ref (ad 0), .int a, .int b])).length) Slot.unset).toArray = ls at hl ⊢
  have hl : lv_has ls 7 [(0, .ref (ad 0)), (1, .int a), (2, .int b)] := hl
  obtain ⟨Q, hQ⟩ : ∃ Q, Q = MQ below (vp_Si (fun r => r.toInt = -1)) (([.ref (ad 0), .int a, .int b] : List Value).toArray) s 0 0 (fun _ => False) := ⟨_, rfl⟩
  rw [← hQ]
  refine lv_aload_n hx hb dX11_explain_0 rfl (lv_at hl 0 rfl) ?_
  refine lv_iload_n hx hb dX11_explain_1 rfl (lv_at hl 1 rfl) ?_
  refine g_callSi (va_runV (As := [.int a]) (rest := []) ⟨hx, hb, hml, hown, hts⟩ (f_X11_isDrone l D cy ad hI _ iv ar a hF_iv) (cwV 1 hts gX11_explain_X11_isDrone rfl rfl rfl (by decide +kernel) ⟨Nat.le_of_ble_eq_true rfl, Nat.le_of_ble_eq_true rfl⟩) (m_preV hP hK hSt hNw hS (m_at11 (Nat.le_of_ble_eq_true rfl) rfl) rfl) rfl rfl hl.1 rfl (lv_room (Nat.le_of_ble_eq_true rfl)) dX11_explain_2 ⟨Nat.zero_le _, Nat.zero_le _⟩) (fun r_1 w_1 => ?_)
  try dsimp only at w_1
  refine lv_if_ne (tgt := 10) hx hb dX11_explain_5 (by decide) (fun c_2 => ?_) (fun c_2 => ?_)
  · skip
    have q_2 : (0 : Int) ≠ (0 : Int) := i_ne2 w_1 (show (0 : Int32).toInt = (0 : Int) from rfl) c_2
    exfalso; omega
  · skip
    have q_2 : (0 : Int) = (0 : Int) := i_eq2 w_1 (show (0 : Int32).toInt = (0 : Int) from rfl) c_2
    refine lv_iconst (v := (-1)) hx hb dX11_explain_8 (by decide) ?_
    rw [hQ]
    exact W.iret (v := (-1)) hx hb hr (fun t ht hW => ⟨(-1), rfl, by have zr : ((-1) : Int32).toInt = (-1 : Int) := (show ((-1) : Int32).toInt = (-1 : Int) from rfl); have z0 := i_l0; have z1 := i_l1; omega, ht⟩) (fun q h => by cases h) dX11_explain_9
set_option maxHeartbeats 4000000 in
set_option maxRecDepth 100000 in
theorem f_X11_assigned (l : Launch) (D : va_G) (cy : Nat → ClassId) (ad : Nat → Nat) (hI : mInj ad) (sz : Nat) (iv : gIv) (ar : gAr) (a : Int32) (hF_iv : mFr iv ar) : Met l yX11_assigned wsX11_assigned ({ frames := 2, cells := 0, slots := 0, locals := 43 } : Room) (va_Pc [.ref (ad 0), .int a] (mPre D cy ad sz iv ar)) (vp_Si (fun r => r.toInt = -1)) 0 0 (fun _ => False) := by
  refine Met.ofW (cc := cX11_assigned) (maxL := 3) (ret := (some .int)) (by decide) rfl ?_
  intro p e s m args below meth c s₁ B hml hv
  obtain ⟨rfl, rfl, hP, hK, hSt, hNw⟩ := hv
  have hx := B.exec
  have hb := B.bytes
  have hr := B.returns
  have hts := atoms_spec (ws := wsX11_assigned) B.pre
  have hown : s.vm.findClass RX11 = some m.cls := findClass_of_methodNamed B.named
  have hlocks := B.notSynchronized
  have hS : va_S (mA ad s.heap.size) s.heap s.heap [] := va_S.rf
  have hl := lv_entry ([.ref (ad 0), .int a]) (n := 3) (Nat.le_of_ble_eq_true rfl)
  rw [lg_entry_eq]
  generalize (lg_sl ([.ref (ad 0), .int a]) ++ List.replicate (3 - (lg_sl ([.ref (ad 0), .int a])).length) Slot.unset).toArray = ls at hl ⊢
  have hl : lv_has ls 3 [(0, .ref (ad 0)), (1, .int a)] := hl
  obtain ⟨Q, hQ⟩ : ∃ Q, Q = MQ below (vp_Si (fun r => r.toInt = -1)) (([.ref (ad 0), .int a] : List Value).toArray) s 0 0 (fun _ => False) := ⟨_, rfl⟩
  rw [← hQ]
  refine lv_aload_n hx hb dX11_assigned_0 rfl (lv_at hl 0 rfl) ?_
  refine lv_iload_n hx hb dX11_assigned_1 rfl (lv_at hl 1 rfl) ?_
  refine g_callSi (va_runV (As := [.int a]) (rest := []) ⟨hx, hb, hml, hown, hts⟩ (f_X11_isDrone l D cy ad hI _ iv ar a hF_iv) (cwV 1 hts gX11_assigned_X11_isDrone rfl rfl rfl (by decide +kernel) ⟨Nat.le_of_ble_eq_true rfl, Nat.le_of_ble_eq_true rfl⟩) (m_preV hP hK hSt hNw hS (m_at11 (Nat.le_of_ble_eq_true rfl) rfl) rfl) rfl rfl hl.1 rfl (lv_room (Nat.le_of_ble_eq_true rfl)) dX11_assigned_2 ⟨Nat.zero_le _, Nat.zero_le _⟩) (fun r_1 w_1 => ?_)
  try dsimp only at w_1
  refine lv_if_ne (tgt := 10) hx hb dX11_assigned_5 (by decide) (fun c_2 => ?_) (fun c_2 => ?_)
  · skip
    have q_2 : (0 : Int) ≠ (0 : Int) := i_ne2 w_1 (show (0 : Int32).toInt = (0 : Int) from rfl) c_2
    exfalso; omega
  · skip
    have q_2 : (0 : Int) = (0 : Int) := i_eq2 w_1 (show (0 : Int32).toInt = (0 : Int) from rfl) c_2
    refine lv_iconst (v := (-1)) hx hb dX11_assigned_8 (by decide) ?_
    rw [hQ]
    exact W.iret (v := (-1)) hx hb hr (fun t ht hW => ⟨(-1), rfl, by have zr : ((-1) : Int32).toInt = (-1 : Int) := (show ((-1) : Int32).toInt = (-1 : Int) from rfl); have z0 := i_l0; have z1 := i_l1; omega, ht⟩) (fun q h => by cases h) dX11_assigned_9
set_option maxHeartbeats 4000000 in
set_option maxRecDepth 100000 in
theorem f_X11_stuck (l : Launch) (D : va_G) (cy : Nat → ClassId) (ad : Nat → Nat) (hI : mInj ad) (sz : Nat) (iv : gIv) (ar : gAr)  (hF_iv : mFr iv ar) : Met l yX11_stuck wsX11_stuck ({ frames := 0, cells := 0, slots := 0, locals := 0 } : Room) (va_Pc [.ref (ad 0)] (mPre D cy ad sz iv ar)) (vp_Si (fun r => r.toInt = -1)) 0 0 (fun _ => False) := by
  refine Met.ofW (cc := cX11_stuck) (maxL := 1) (ret := (some .int)) (by decide) rfl ?_
  intro p e s m args below meth c s₁ B hml hv
  obtain ⟨rfl, rfl, hP, hK, hSt, hNw⟩ := hv
  have hx := B.exec
  have hb := B.bytes
  have hr := B.returns
  have hts := atoms_spec (ws := wsX11_stuck) B.pre
  have hown : s.vm.findClass RX11 = some m.cls := findClass_of_methodNamed B.named
  have hlocks := B.notSynchronized
  have hS : va_S (mA ad s.heap.size) s.heap s.heap [] := va_S.rf
  have inX11 : ∀ w ∈ u_ws RX11 TX11 30, w ∈ wsX11_stuck := by decide +kernel
  have lk0 := hts (.fieldLink RX11 35 "FormationPlannerModel" "stuck" "I") (by decide +kernel)
  have hl := lv_entry ([.ref (ad 0)]) (n := 1) (Nat.le_of_ble_eq_true rfl)
  rw [lg_entry_eq]
  generalize (lg_sl ([.ref (ad 0)]) ++ List.replicate (1 - (lg_sl ([.ref (ad 0)])).length) Slot.unset).toArray = ls at hl ⊢
  have hl : lv_has ls 1 [(0, .ref (ad 0))] := hl
  obtain ⟨Q, hQ⟩ : ∃ Q, Q = MQ below (vp_Si (fun r => r.toInt = -1)) (([.ref (ad 0)] : List Value).toArray) s 0 0 (fun _ => False) := ⟨_, rfl⟩
  rw [← hQ]
  refine lv_aload_n hx hb dX11_stuck_0 rfl (lv_at hl 0 rfl) ?_
  refine va_get (D := D) (ci := 11) (v := .int (iv 0 16)) (C := RX11) (T := TX11) (N := 30) hx hb hts inX11 hown hK hP 0 (m_at11 (Nat.le_of_ble_eq_true rfl) rfl) rfl 16 (by decide) lk0 (fun _ h9 => h9) rfl dX11_stuck_1 ?_
  rw [hQ]
  exact W.iret (v := (iv 0 16)) hx hb hr (fun t ht hW => ⟨(iv 0 16), rfl, by have zr : (iv 0 16).toInt = (-1 : Int) := (mrm hF_iv); have z0 := i_l0; have z1 := i_l1; omega, ht⟩) (fun q h => by cases h) dX11_stuck_4
set_option maxHeartbeats 4000000 in
set_option maxRecDepth 100000 in
theorem f_X11_conflictsWithout (l : Launch) (D : va_G) (cy : Nat → ClassId) (ad : Nat → Nat) (hI : mInj ad) (sz : Nat) (iv : gIv) (ar : gAr)  (hF_iv : mFr iv ar) : Met l yX11_conflictsWithout wsX11_conflictsWithout ({ frames := 0, cells := 0, slots := 0, locals := 0 } : Room) (va_Pc [.ref (ad 0)] (mPre D cy ad sz iv ar)) (vp_Si (fun r => r.toInt = -7)) 0 0 (fun _ => False) := by
  refine Met.ofW (cc := cX11_conflictsWithout) (maxL := 4) (ret := (some .int)) (by decide) rfl ?_
  intro p e s m args below meth c s₁ B hml hv
  obtain ⟨rfl, rfl, hP, hK, hSt, hNw⟩ := hv
  have hx := B.exec
  have hb := B.bytes
  have hr := B.returns
  have hts := atoms_spec (ws := wsX11_conflictsWithout) B.pre
  have hown : s.vm.findClass RX11 = some m.cls := findClass_of_methodNamed B.named
  have hlocks := B.notSynchronized
  have hS : va_S (mA ad s.heap.size) s.heap s.heap [] := va_S.rf
  have inX11 : ∀ w ∈ u_ws RX11 TX11 30, w ∈ wsX11_conflictsWithout := by decide +kernel
  have lk0 := hts (.fieldLink RX11 69 "FormationPlannerModel" "hasPlan" "Z") (by decide +kernel)
  have hl := lv_entry ([.ref (ad 0)]) (n := 4) (Nat.le_of_ble_eq_true rfl)
  rw [lg_entry_eq]
  generalize (lg_sl ([.ref (ad 0)]) ++ List.replicate (4 - (lg_sl ([.ref (ad 0)])).length) Slot.unset).toArray = ls at hl ⊢
  have hl : lv_has ls 4 [(0, .ref (ad 0))] := hl
  obtain ⟨Q, hQ⟩ : ∃ Q, Q = MQ below (vp_Si (fun r => r.toInt = -7)) (([.ref (ad 0)] : List Value).toArray) s 0 0 (fun _ => False) := ⟨_, rfl⟩
  rw [← hQ]
  refine lv_aload_n hx hb dX11_conflictsWithout_0 rfl (lv_at hl 0 rfl) ?_
  refine va_get (D := D) (ci := 11) (v := .int (iv 0 15)) (C := RX11) (T := TX11) (N := 30) hx hb hts inX11 hown hK hP 0 (m_at11 (Nat.le_of_ble_eq_true rfl) rfl) rfl 15 (by decide) lk0 (fun _ h9 => h9) rfl dX11_conflictsWithout_1 ?_
  refine lv_if_ne (tgt := 10) hx hb dX11_conflictsWithout_4 (by decide) (fun c_1 => ?_) (fun c_1 => ?_)
  · skip
    have q_1 : (0 : Int) ≠ (0 : Int) := i_ne2 (mr0 hF_iv 0 15 (by decide)) (show (0 : Int32).toInt = (0 : Int) from rfl) c_1
    exfalso; omega
  · skip
    have q_1 : (0 : Int) = (0 : Int) := i_eq2 (mr0 hF_iv 0 15 (by decide)) (show (0 : Int32).toInt = (0 : Int) from rfl) c_1
    refine lv_bipush (v := (-7)) hx hb dX11_conflictsWithout_7 (by decide) ?_
    rw [hQ]
    exact W.iret (v := (-7)) hx hb hr (fun t ht hW => ⟨(-7), rfl, by have zr : ((-7) : Int32).toInt = (-7 : Int) := (show ((-7) : Int32).toInt = (-7 : Int) from rfl); have z0 := i_l0; have z1 := i_l1; omega, ht⟩) (fun q h => by cases h) dX11_conflictsWithout_9
set_option maxHeartbeats 4000000 in
set_option maxRecDepth 100000 in
theorem f_X11_fly (l : Launch) (D : va_G) (cy : Nat → ClassId) (ad : Nat → Nat) (hI : mInj ad) (sz : Nat) (iv : gIv) (ar : gAr) (a : Int32) (hF_iv : mFr iv ar) : Met l yX11_fly wsX11_fly ({ frames := 1, cells := 0, slots := 0, locals := 22 } : Room) (va_Pc [.ref (ad 0), .int a] (mPre D cy ad sz iv ar)) (vp_Si (fun r => (1 ≤ a.toInt ∧ a.toInt ≤ 60) ∧ r.toInt = -7 ∨ ¬ (1 ≤ a.toInt ∧ a.toInt ≤ 60) ∧ r.toInt = -2)) 0 0 (fun _ => False) := by
  refine Met.ofW (cc := cX11_fly) (maxL := 4) (ret := (some .int)) (by decide) rfl ?_
  intro p e s m args below meth c s₁ B hml hv
  obtain ⟨rfl, rfl, hP, hK, hSt, hNw⟩ := hv
  have hx := B.exec
  have hb := B.bytes
  have hr := B.returns
  have hts := atoms_spec (ws := wsX11_fly) B.pre
  have hown : s.vm.findClass RX11 = some m.cls := findClass_of_methodNamed B.named
  have hlocks := B.notSynchronized
  have hS : va_S (mA ad s.heap.size) s.heap s.heap [] := va_S.rf
  have inX11 : ∀ w ∈ u_ws RX11 TX11 30, w ∈ wsX11_fly := by decide +kernel
  have lk0 := hts (.fieldLink RX11 69 "FormationPlannerModel" "hasPlan" "Z") (by decide +kernel)
  have hl := lv_entry ([.ref (ad 0), .int a]) (n := 4) (Nat.le_of_ble_eq_true rfl)
  rw [lg_entry_eq]
  generalize (lg_sl ([.ref (ad 0), .int a]) ++ List.replicate (4 - (lg_sl ([.ref (ad 0), .int a])).length) Slot.unset).toArray = ls at hl ⊢
  have hl : lv_has ls 4 [(0, .ref (ad 0)), (1, .int a)] := hl
  obtain ⟨Q, hQ⟩ : ∃ Q, Q = MQ below (vp_Si (fun r => (1 ≤ a.toInt ∧ a.toInt ≤ 60) ∧ r.toInt = -7 ∨ ¬ (1 ≤ a.toInt ∧ a.toInt ≤ 60) ∧ r.toInt = -2)) (([.ref (ad 0), .int a] : List Value).toArray) s 0 0 (fun _ => False) := ⟨_, rfl⟩
  rw [← hQ]
  refine lv_iload_n hx hb dX11_fly_0 rfl (lv_at hl 1 rfl) ?_
  refine lv_iconst (v := 1) hx hb dX11_fly_1 (by decide) ?_
  refine lv_bipush (v := 60) hx hb dX11_fly_2 (by decide) ?_
  have zl_1 : (1 : Int32).toInt = (1 : Int) := rfl
  have zl_2 : (60 : Int32).toInt = (60 : Int) := rfl
  refine g_callSi (va_runS (As := [.int a, .int 1, .int 60]) (rest := []) ⟨hx, hb, hml, hown, hts⟩ (c_X11_isIn l a 1 60) (va_cwS 3 hts gX11_fly_X11_isIn rfl rfl rfl (by decide +kernel) ⟨Nat.le_of_ble_eq_true rfl, Nat.le_of_ble_eq_true rfl⟩) (g_preT) rfl rfl hl.1 rfl (lv_room (Nat.le_of_ble_eq_true rfl)) dX11_fly_4 ⟨Nat.zero_le _, Nat.zero_le _⟩) (fun r_3 w_3 => ?_)
  try dsimp only at w_3
  refine lv_if_ne (tgt := 13) hx hb dX11_fly_7 (by decide) (fun c_4 => ?_) (fun c_4 => ?_)
  · skip
    have q_4 : r_3.toInt ≠ (0 : Int) := i_ne2 (rfl : r_3.toInt = r_3.toInt) (show (0 : Int32).toInt = (0 : Int) from rfl) c_4
    refine lv_aload_n hx hb dX11_fly_13 rfl (lv_at hl 0 rfl) ?_
    refine va_get (D := D) (ci := 11) (v := .int (iv 0 15)) (C := RX11) (T := TX11) (N := 30) hx hb hts inX11 hown hK hP 0 (m_at11 (Nat.le_of_ble_eq_true rfl) rfl) rfl 15 (by decide) lk0 (fun _ h9 => h9) rfl dX11_fly_14 ?_
    refine lv_if_ne (tgt := 23) hx hb dX11_fly_17 (by decide) (fun c_5 => ?_) (fun c_5 => ?_)
    · skip
      have q_5 : (0 : Int) ≠ (0 : Int) := i_ne2 (mr0 hF_iv 0 15 (by decide)) (show (0 : Int32).toInt = (0 : Int) from rfl) c_5
      exfalso; omega
    · skip
      have q_5 : (0 : Int) = (0 : Int) := i_eq2 (mr0 hF_iv 0 15 (by decide)) (show (0 : Int32).toInt = (0 : Int) from rfl) c_5
      refine lv_bipush (v := (-7)) hx hb dX11_fly_20 (by decide) ?_
      rw [hQ]
      exact W.iret (v := (-7)) hx hb hr (fun t ht hW => ⟨(-7), rfl, by have zr : ((-7) : Int32).toInt = (-7 : Int) := (show ((-7) : Int32).toInt = (-7 : Int) from rfl); have z0 := i_l0; have z1 := i_l1; omega, ht⟩) (fun q h => by cases h) dX11_fly_22
  · skip
    have q_4 : r_3.toInt = (0 : Int) := i_eq2 (rfl : r_3.toInt = r_3.toInt) (show (0 : Int32).toInt = (0 : Int) from rfl) c_4
    refine lv_bipush (v := (-2)) hx hb dX11_fly_10 (by decide) ?_
    rw [hQ]
    exact W.iret (v := (-2)) hx hb hr (fun t ht hW => ⟨(-2), rfl, by have zr : ((-2) : Int32).toInt = (-2 : Int) := (show ((-2) : Int32).toInt = (-2 : Int) from rfl); have z0 := i_l0; have z1 := i_l1; omega, ht⟩) (fun q h => by cases h) dX11_fly_12
set_option maxHeartbeats 4000000 in
set_option maxRecDepth 100000 in
theorem f_X11_look (l : Launch) (D : va_G) (cy : Nat → ClassId) (ad : Nat → Nat) (hI : mInj ad) (sz : Nat) (iv : gIv) (ar : gAr) (a : Int32) (hF_iv : mFr iv ar) : Met l yX11_look wsX11_look ({ frames := 2, cells := 0, slots := 0, locals := 42 } : Room) (va_Pc [.ref (ad 0), .int a] (mPre D cy ad sz iv ar)) (vp_Si (fun r => (0 ≤ a.toInt ∧ a.toInt < 108) ∧ r.toInt = 0 ∨ ¬ (0 ≤ a.toInt ∧ a.toInt < 108) ∧ r.toInt = -2)) 0 0 (fun _ => False) := by
  refine Met.ofW (cc := cX11_look) (maxL := 2) (ret := (some .int)) (by decide) rfl ?_
  intro p e s m args below meth c s₁ B hml hv
  obtain ⟨rfl, rfl, hP, hK, hSt, hNw⟩ := hv
  have hx := B.exec
  have hb := B.bytes
  have hr := B.returns
  have hts := atoms_spec (ws := wsX11_look) B.pre
  have hown : s.vm.findClass RX11 = some m.cls := findClass_of_methodNamed B.named
  have hlocks := B.notSynchronized
  have hS : va_S (mA ad s.heap.size) s.heap s.heap [] := va_S.rf
  have hl := lv_entry ([.ref (ad 0), .int a]) (n := 2) (Nat.le_of_ble_eq_true rfl)
  rw [lg_entry_eq]
  generalize (lg_sl ([.ref (ad 0), .int a]) ++ List.replicate (2 - (lg_sl ([.ref (ad 0), .int a])).length) Slot.unset).toArray = ls at hl ⊢
  have hl : lv_has ls 2 [(0, .ref (ad 0)), (1, .int a)] := hl
  obtain ⟨Q, hQ⟩ : ∃ Q, Q = MQ below (vp_Si (fun r => (0 ≤ a.toInt ∧ a.toInt < 108) ∧ r.toInt = 0 ∨ ¬ (0 ≤ a.toInt ∧ a.toInt < 108) ∧ r.toInt = -2)) (([.ref (ad 0), .int a] : List Value).toArray) s 0 0 (fun _ => False) := ⟨_, rfl⟩
  rw [← hQ]
  refine lv_iload_n hx hb dX11_look_0 rfl (lv_at hl 1 rfl) ?_
  refine g_callSi (va_runS (As := [.int a]) (rest := []) ⟨hx, hb, hml, hown, hts⟩ (c_X11_isCell l a) (va_cwS 1 hts gX11_look_X11_isCell rfl rfl rfl (by decide +kernel) ⟨Nat.le_of_ble_eq_true rfl, Nat.le_of_ble_eq_true rfl⟩) (g_preT) rfl rfl hl.1 rfl (lv_room (Nat.le_of_ble_eq_true rfl)) dX11_look_1 ⟨Nat.zero_le _, Nat.zero_le _⟩) (fun r_1 w_1 => ?_)
  try dsimp only at w_1
  refine lv_if_ne (tgt := 10) hx hb dX11_look_4 (by decide) (fun c_2 => ?_) (fun c_2 => ?_)
  · skip
    have q_2 : r_1.toInt ≠ (0 : Int) := i_ne2 (rfl : r_1.toInt = r_1.toInt) (show (0 : Int32).toInt = (0 : Int) from rfl) c_2
    refine lv_aload_n hx hb dX11_look_10 rfl (lv_at hl 0 rfl) ?_
    refine lv_iload_n hx hb dX11_look_11 rfl (lv_at hl 1 rfl) ?_
    refine g_callSi (va_runV (As := [.int a]) (rest := []) ⟨hx, hb, hml, hown, hts⟩ (f_X11_isObstacle l D cy ad hI _ iv ar a hF_iv (by omega)) (cwV 1 hts gX11_look_X11_isObstacle rfl rfl rfl (by decide +kernel) ⟨Nat.le_of_ble_eq_true rfl, Nat.le_of_ble_eq_true rfl⟩) (m_preV hP hK hSt hNw hS (m_at11 (Nat.le_of_ble_eq_true rfl) rfl) rfl) rfl rfl hl.1 rfl (lv_room (Nat.le_of_ble_eq_true rfl)) dX11_look_12 ⟨Nat.zero_le _, Nat.zero_le _⟩) (fun r_3 w_3 => ?_)
    try dsimp only at w_3
    refine lv_if_eq (tgt := 22) hx hb dX11_look_15 (by decide) (fun c_4 => ?_) (fun c_4 => ?_)
    · skip
      have q_4 : (0 : Int) = (0 : Int) := i_eq2 w_3 (show (0 : Int32).toInt = (0 : Int) from rfl) c_4
      refine lv_bipush (v := 10) hx hb dX11_look_22 (by decide) ?_
      refine lv_aload_n hx hb dX11_look_24 rfl (lv_at hl 0 rfl) ?_
      refine lv_iload_n hx hb dX11_look_25 rfl (lv_at hl 1 rfl) ?_
      refine g_callSi (va_runV (As := [.int a]) (rest := [.int 10]) ⟨hx, hb, hml, hown, hts⟩ (f_X11_droneAt l D cy ad hI _ iv ar a hF_iv) (cwV 1 hts gX11_look_X11_droneAt rfl rfl rfl (by decide +kernel) ⟨Nat.le_of_ble_eq_true rfl, Nat.le_of_ble_eq_true rfl⟩) (m_preV hP hK hSt hNw hS (m_at11 (Nat.le_of_ble_eq_true rfl) rfl) rfl) rfl rfl hl.1 rfl (lv_room (Nat.le_of_ble_eq_true rfl)) dX11_look_26 ⟨Nat.zero_le _, Nat.zero_le _⟩) (fun r_5 w_5 => ?_)
      try dsimp only at w_5
      refine lv_iconst (v := 1) hx hb dX11_look_29 (by decide) ?_
      refine lv_iadd hx hb dX11_look_30 ?_
      refine lv_topi (fun v_6 ev_6 => ?_)
      have tv_6 : v_6.toInt = (-1 : Int) + (1 : Int) := i_add w_5 (show (1 : Int32).toInt = (1 : Int) from rfl) (by omega) (by omega) ev_6
      refine lv_imul hx hb dX11_look_31 ?_
      refine lv_topi (fun v_7 ev_7 => ?_)
      have tv_7 : v_7.toInt = (10 : Int) * v_6.toInt := i_mul (show (10 : Int32).toInt = (10 : Int) from rfl) (rfl : v_6.toInt = v_6.toInt) (by omega) (by omega) ev_7
      refine lv_bipush (v := 100) hx hb dX11_look_32 (by decide) ?_
      refine lv_aload_n hx hb dX11_look_34 rfl (lv_at hl 0 rfl) ?_
      refine lv_iload_n hx hb dX11_look_35 rfl (lv_at hl 1 rfl) ?_
      refine g_callSi (va_runV (As := [.int a]) (rest := [.int 100, .int v_7]) ⟨hx, hb, hml, hown, hts⟩ (f_X11_slotAt l D cy ad hI _ iv ar a hF_iv) (cwV 1 hts gX11_look_X11_slotAt rfl rfl rfl (by decide +kernel) ⟨Nat.le_of_ble_eq_true rfl, Nat.le_of_ble_eq_true rfl⟩) (m_preV hP hK hSt hNw hS (m_at11 (Nat.le_of_ble_eq_true rfl) rfl) rfl) rfl rfl hl.1 rfl (lv_room (Nat.le_of_ble_eq_true rfl)) dX11_look_36 ⟨Nat.zero_le _, Nat.zero_le _⟩) (fun r_8 w_8 => ?_)
      try dsimp only at w_8
      refine lv_iconst (v := 1) hx hb dX11_look_39 (by decide) ?_
      refine lv_iadd hx hb dX11_look_40 ?_
      refine lv_topi (fun v_9 ev_9 => ?_)
      have tv_9 : v_9.toInt = (-1 : Int) + (1 : Int) := i_add w_8 (show (1 : Int32).toInt = (1 : Int) from rfl) (by omega) (by omega) ev_9
      refine lv_imul hx hb dX11_look_41 ?_
      refine lv_topi (fun v_10 ev_10 => ?_)
      have tv_10 : v_10.toInt = (100 : Int) * v_9.toInt := i_mul (show (100 : Int32).toInt = (100 : Int) from rfl) (rfl : v_9.toInt = v_9.toInt) (by omega) (by omega) ev_10
      refine lv_iadd hx hb dX11_look_42 ?_
      refine lv_topi (fun v_11 ev_11 => ?_)
      have tv_11 : v_11.toInt = v_7.toInt + v_10.toInt := i_add (rfl : v_7.toInt = v_7.toInt) (rfl : v_10.toInt = v_10.toInt) (by omega) (by omega) ev_11
      rw [hQ]
      exact W.iret (v := v_11) hx hb hr (fun t ht hW => ⟨v_11, rfl, by have zr : v_11.toInt = v_11.toInt := (rfl : v_11.toInt = v_11.toInt); have z0 := i_l0; have z1 := i_l1; omega, ht⟩) (fun q h => by cases h) dX11_look_43
    · skip
      have q_4 : (0 : Int) ≠ (0 : Int) := i_ne2 w_3 (show (0 : Int32).toInt = (0 : Int) from rfl) c_4
      exfalso; omega
  · skip
    have q_2 : r_1.toInt = (0 : Int) := i_eq2 (rfl : r_1.toInt = r_1.toInt) (show (0 : Int32).toInt = (0 : Int) from rfl) c_2
    refine lv_bipush (v := (-2)) hx hb dX11_look_7 (by decide) ?_
    rw [hQ]
    exact W.iret (v := (-2)) hx hb hr (fun t ht hW => ⟨(-2), rfl, by have zr : ((-2) : Int32).toInt = (-2 : Int) := (show ((-2) : Int32).toInt = (-2 : Int) from rfl); have z0 := i_l0; have z1 := i_l1; omega, ht⟩) (fun q h => by cases h) dX11_look_9
set_option maxHeartbeats 4000000 in
set_option maxRecDepth 100000 in
theorem f_X11_cellOf (l : Launch) (D : va_G) (cy : Nat → ClassId) (ad : Nat → Nat) (hI : mInj ad) (sz : Nat) (iv : gIv) (ar : gAr) (a : Int32) (b : Int32) (hF_iv : mFr iv ar) : Met l yX11_cellOf wsX11_cellOf ({ frames := 2, cells := 0, slots := 0, locals := 43 } : Room) (va_Pc [.ref (ad 0), .int a, .int b] (mPre D cy ad sz iv ar)) (vp_Si (fun r => (0 ≤ a.toInt ∧ a.toInt ≤ 1) ∧ r.toInt = -1 ∨ ¬ (0 ≤ a.toInt ∧ a.toInt ≤ 1) ∧ r.toInt = -2)) 0 0 (fun _ => False) := by
  refine Met.ofW (cc := cX11_cellOf) (maxL := 3) (ret := (some .int)) (by decide) rfl ?_
  intro p e s m args below meth c s₁ B hml hv
  obtain ⟨rfl, rfl, hP, hK, hSt, hNw⟩ := hv
  have hx := B.exec
  have hb := B.bytes
  have hr := B.returns
  have hts := atoms_spec (ws := wsX11_cellOf) B.pre
  have hown : s.vm.findClass RX11 = some m.cls := findClass_of_methodNamed B.named
  have hlocks := B.notSynchronized
  have hS : va_S (mA ad s.heap.size) s.heap s.heap [] := va_S.rf
  have inX11 : ∀ w ∈ u_ws RX11 TX11 30, w ∈ wsX11_cellOf := by decide +kernel
  have lk0 := hts (.fieldLink RX11 9 "FormationPlannerModel" "s" "[I") (by decide +kernel)
  have hl := lv_entry ([.ref (ad 0), .int a, .int b]) (n := 3) (Nat.le_of_ble_eq_true rfl)
  rw [lg_entry_eq]
  generalize (lg_sl ([.ref (ad 0), .int a, .int b]) ++ List.replicate (3 - (lg_sl ([.ref (ad 0), .int a, .int b])).length) Slot.unset).toArray = ls at hl ⊢
  have hl : lv_has ls 3 [(0, .ref (ad 0)), (1, .int a), (2, .int b)] := hl
  obtain ⟨Q, hQ⟩ : ∃ Q, Q = MQ below (vp_Si (fun r => (0 ≤ a.toInt ∧ a.toInt ≤ 1) ∧ r.toInt = -1 ∨ ¬ (0 ≤ a.toInt ∧ a.toInt ≤ 1) ∧ r.toInt = -2)) (([.ref (ad 0), .int a, .int b] : List Value).toArray) s 0 0 (fun _ => False) := ⟨_, rfl⟩
  rw [← hQ]
  refine lv_iload_n hx hb dX11_cellOf_0 rfl (lv_at hl 1 rfl) ?_
  refine lv_iconst (v := 0) hx hb dX11_cellOf_1 (by decide) ?_
  refine lv_iconst (v := 1) hx hb dX11_cellOf_2 (by decide) ?_
  have zl_1 : (0 : Int32).toInt = (0 : Int) := rfl
  have zl_2 : (1 : Int32).toInt = (1 : Int) := rfl
  refine g_callSi (va_runS (As := [.int a, .int 0, .int 1]) (rest := []) ⟨hx, hb, hml, hown, hts⟩ (c_X11_isIn l a 0 1) (va_cwS 3 hts gX11_cellOf_X11_isIn rfl rfl rfl (by decide +kernel) ⟨Nat.le_of_ble_eq_true rfl, Nat.le_of_ble_eq_true rfl⟩) (g_preT) rfl rfl hl.1 rfl (lv_room (Nat.le_of_ble_eq_true rfl)) dX11_cellOf_3 ⟨Nat.zero_le _, Nat.zero_le _⟩) (fun r_3 w_3 => ?_)
  try dsimp only at w_3
  refine lv_if_ne (tgt := 12) hx hb dX11_cellOf_6 (by decide) (fun c_4 => ?_) (fun c_4 => ?_)
  · skip
    have q_4 : r_3.toInt ≠ (0 : Int) := i_ne2 (rfl : r_3.toInt = r_3.toInt) (show (0 : Int32).toInt = (0 : Int) from rfl) c_4
    refine lv_iload_n hx hb dX11_cellOf_12 rfl (lv_at hl 1 rfl) ?_
    refine lv_if_ne (tgt := 38) hx hb dX11_cellOf_13 (by decide) (fun c_5 => ?_) (fun c_5 => ?_)
    · skip
      have q_5 : a.toInt ≠ (0 : Int) := i_ne2 (rfl : a.toInt = a.toInt) (show (0 : Int32).toInt = (0 : Int) from rfl) c_5
      refine lv_iload_n hx hb dX11_cellOf_38 rfl (lv_at hl 2 rfl) ?_
      refine lv_iconst (v := 0) hx hb dX11_cellOf_39 (by decide) ?_
      refine lv_aload_n hx hb dX11_cellOf_40 rfl (lv_at hl 0 rfl) ?_
      refine va_get (D := D) (ci := 11) (v := .ref (ad 1)) (C := RX11) (T := TX11) (N := 30) hx hb hts inX11 hown hK hP 0 (m_at11 (Nat.le_of_ble_eq_true rfl) rfl) rfl 0 (by decide) lk0 (fun _ h9 => h9) rfl dX11_cellOf_41 ?_
      refine lv_bipush (v := 118) hx hb dX11_cellOf_44 (by decide) ?_
      refine va_iald hx hb hK hP 1 0 (m_at12 (Nat.le_of_ble_eq_true rfl) rfl) rfl (g_in (N := 126) (show (118 : Int32).toInt = (118 : Int) from rfl) rfl (by omega) (by omega)) dX11_cellOf_46 ?_
      refine lv_topi (fun v_6 ev_6 => ?_)
      refine lv_iconst (v := 1) hx hb dX11_cellOf_47 (by decide) ?_
      refine lv_isub hx hb dX11_cellOf_48 ?_
      refine lv_topi (fun v_7 ev_7 => ?_)
      have tv_7 : v_7.toInt = (0 : Int) - (1 : Int) := i_sub (show v_6.toInt = (0 : Int) from by rw [ev_6]; exact mra hF_iv 1 _ (by decide)) (show (1 : Int32).toInt = (1 : Int) from rfl) (by omega) (by omega) ev_7
      have zl_8 : (0 : Int32).toInt = (0 : Int) := rfl
      refine g_callSi (va_runS (As := [.int b, .int 0, .int v_7]) (rest := []) ⟨hx, hb, hml, hown, hts⟩ (c_X11_isIn l b 0 v_7) (va_cwS 3 hts gX11_cellOf_X11_isIn rfl rfl rfl (by decide +kernel) ⟨Nat.le_of_ble_eq_true rfl, Nat.le_of_ble_eq_true rfl⟩) (g_preT) rfl rfl hl.1 rfl (lv_room (Nat.le_of_ble_eq_true rfl)) dX11_cellOf_49 ⟨Nat.zero_le _, Nat.zero_le _⟩) (fun r_9 w_9 => ?_)
      try dsimp only at w_9
      have z_9 : r_9.toInt = 0 := by have z0 := i_l0; omega
      refine lv_if_eq (tgt := 67) hx hb dX11_cellOf_52 (by decide) (fun c_10 => ?_) (fun c_10 => ?_)
      · skip
        have q_10 : (0 : Int) = (0 : Int) := i_eq2 z_9 (show (0 : Int32).toInt = (0 : Int) from rfl) c_10
        refine lv_iconst (v := (-1)) hx hb dX11_cellOf_67 (by decide) ?_
        rw [hQ]
        exact W.iret (v := (-1)) hx hb hr (fun t ht hW => ⟨(-1), rfl, by have zr : ((-1) : Int32).toInt = (-1 : Int) := (show ((-1) : Int32).toInt = (-1 : Int) from rfl); have z0 := i_l0; have z1 := i_l1; omega, ht⟩) (fun q h => by cases h) dX11_cellOf_68
      · skip
        have q_10 : (0 : Int) ≠ (0 : Int) := i_ne2 z_9 (show (0 : Int32).toInt = (0 : Int) from rfl) c_10
        exfalso; omega
    · skip
      have q_5 : a.toInt = (0 : Int) := i_eq2 (rfl : a.toInt = a.toInt) (show (0 : Int32).toInt = (0 : Int) from rfl) c_5
      refine lv_aload_n hx hb dX11_cellOf_16 rfl (lv_at hl 0 rfl) ?_
      refine lv_iload_n hx hb dX11_cellOf_17 rfl (lv_at hl 2 rfl) ?_
      refine g_callSi (va_runV (As := [.int b]) (rest := []) ⟨hx, hb, hml, hown, hts⟩ (f_X11_isDrone l D cy ad hI _ iv ar b hF_iv) (cwV 1 hts gX11_cellOf_X11_isDrone rfl rfl rfl (by decide +kernel) ⟨Nat.le_of_ble_eq_true rfl, Nat.le_of_ble_eq_true rfl⟩) (m_preV hP hK hSt hNw hS (m_at11 (Nat.le_of_ble_eq_true rfl) rfl) rfl) rfl rfl hl.1 rfl (lv_room (Nat.le_of_ble_eq_true rfl)) dX11_cellOf_18 ⟨Nat.zero_le _, Nat.zero_le _⟩) (fun r_11 w_11 => ?_)
      try dsimp only at w_11
      refine lv_if_eq (tgt := 36) hx hb dX11_cellOf_21 (by decide) (fun c_12 => ?_) (fun c_12 => ?_)
      · skip
        have q_12 : (0 : Int) = (0 : Int) := i_eq2 w_11 (show (0 : Int32).toInt = (0 : Int) from rfl) c_12
        refine lv_iconst (v := (-1)) hx hb dX11_cellOf_36 (by decide) ?_
        rw [hQ]
        exact W.iret (v := (-1)) hx hb hr (fun t ht hW => ⟨(-1), rfl, by have zr : ((-1) : Int32).toInt = (-1 : Int) := (show ((-1) : Int32).toInt = (-1 : Int) from rfl); have z0 := i_l0; have z1 := i_l1; omega, ht⟩) (fun q h => by cases h) dX11_cellOf_37
      · skip
        have q_12 : (0 : Int) ≠ (0 : Int) := i_ne2 w_11 (show (0 : Int32).toInt = (0 : Int) from rfl) c_12
        exfalso; omega
  · skip
    have q_4 : r_3.toInt = (0 : Int) := i_eq2 (rfl : r_3.toInt = r_3.toInt) (show (0 : Int32).toInt = (0 : Int) from rfl) c_4
    refine lv_bipush (v := (-2)) hx hb dX11_cellOf_9 (by decide) ?_
    rw [hQ]
    exact W.iret (v := (-2)) hx hb hr (fun t ht hW => ⟨(-2), rfl, by have zr : ((-2) : Int32).toInt = (-2 : Int) := (show ((-2) : Int32).toInt = (-2 : Int) from rfl); have z0 := i_l0; have z1 := i_l1; omega, ht⟩) (fun q h => by cases h) dX11_cellOf_11
set_option maxHeartbeats 4000000 in
set_option maxRecDepth 100000 in
theorem f_X11_obstacles (l : Launch) (D : va_G) (cy : Nat → ClassId) (ad : Nat → Nat) (hI : mInj ad) (sz : Nat) (iv : gIv) (ar : gAr)  (hF_iv : mFr iv ar) : Met l yX11_obstacles wsX11_obstacles ({ frames := 0, cells := 0, slots := 0, locals := 0 } : Room) (va_Pc [.ref (ad 0)] (mPre D cy ad sz iv ar)) (vp_Si (fun r => r.toInt = 0)) 0 0 (fun _ => False) := by
  refine Met.ofW (cc := cX11_obstacles) (maxL := 3) (ret := (some .int)) (by decide) rfl ?_
  intro p e s m args below meth c s₁ B hml hv
  obtain ⟨rfl, rfl, hP, hK, hSt, hNw⟩ := hv
  have hx := B.exec
  have hb := B.bytes
  have hr := B.returns
  have hts := atoms_spec (ws := wsX11_obstacles) B.pre
  have hown : s.vm.findClass RX11 = some m.cls := findClass_of_methodNamed B.named
  have hlocks := B.notSynchronized
  have hS : va_S (mA ad s.heap.size) s.heap s.heap [] := va_S.rf
  have inX11 : ∀ w ∈ u_ws RX11 TX11 30, w ∈ wsX11_obstacles := by decide +kernel
  have lk0 := hts (.fieldLink RX11 9 "FormationPlannerModel" "s" "[I") (by decide +kernel)
  have hl := lv_entry ([.ref (ad 0)]) (n := 3) (Nat.le_of_ble_eq_true rfl)
  rw [lg_entry_eq]
  generalize (lg_sl ([.ref (ad 0)]) ++ List.replicate (3 - (lg_sl ([.ref (ad 0)])).length) Slot.unset).toArray = ls at hl ⊢
  have hl : lv_has ls 3 [(0, .ref (ad 0))] := hl
  obtain ⟨Q, hQ⟩ : ∃ Q, Q = MQ below (vp_Si (fun r => r.toInt = 0)) (([.ref (ad 0)] : List Value).toArray) s 0 0 (fun _ => False) := ⟨_, rfl⟩
  rw [← hQ]
  refine lv_iconst (v := 0) hx hb dX11_obstacles_0 (by decide) ?_
  refine lv_istore_n (lv' := [(1, .int 0), (0, .ref (ad 0))]) hx hb dX11_obstacles_1 rfl hl (by decide) rfl (fun ls hl => ?_)
  refine lv_iconst (v := 0) hx hb dX11_obstacles_2 (by decide) ?_
  refine lv_istore_n (lv' := [(2, .int 0), (1, .int 0), (0, .ref (ad 0))]) hx hb dX11_obstacles_3 rfl hl (by decide) rfl (fun ls hl => ?_)
  have loop3 : ∀ (n : Nat) (x2_1 : Int32) (x1_2 : Int32) (ls : Array Slot), ((108 - (x2_1.toInt)).toNat) < n → (0 ≤ (x2_1.toInt) ∧ (x2_1.toInt) ≤ 108 ∧ (x1_2.toInt) = 0) → lv_has ls 3 [(2, .int x2_1), (1, .int x1_2), (0, .ref (ad 0))] → W p l e (headSpec wsX11_obstacles (({ frames := 0, cells := 0, slots := 0, locals := 0 } : Room))).room s m (([.ref (ad 0)] : List Value).toArray) below meth c s.heap [] 0 0 Q (F0 m 4 ls []) := by
    intro n
    induction n with
    | zero => intro x2_1 x1_2 ls hm; omega
    | succ n ih3 =>
      intro x2_1 x1_2 ls hm hg0 hl
      refine lv_iload_n hx hb dX11_obstacles_4 rfl (lv_at hl 0 rfl) ?_
      refine lv_bipush (v := 108) hx hb dX11_obstacles_5 (by decide) ?_
      refine lv_icmp_ge (tgt := 27) hx hb dX11_obstacles_7 (by decide) (fun c_4 => ?_) (fun c_4 => ?_)
      · skip
        have q_4 : (108 : Int) ≤ x2_1.toInt := i_le2 (show (108 : Int32).toInt = (108 : Int) from rfl) (rfl : x2_1.toInt = x2_1.toInt) c_4
        refine lv_iload_n hx hb dX11_obstacles_27 rfl (lv_at hl 1 rfl) ?_
        rw [hQ]
        exact W.iret (v := x1_2) hx hb hr (fun t ht hW => ⟨x1_2, rfl, hg0.2.2, ht⟩) (fun q h => by cases h) dX11_obstacles_28
      · skip
        have q_4 : x2_1.toInt < (108 : Int) := i_nle2 (show (108 : Int32).toInt = (108 : Int) from rfl) (rfl : x2_1.toInt = x2_1.toInt) c_4
        refine lv_iload_n hx hb dX11_obstacles_10 rfl (lv_at hl 1 rfl) ?_
        refine lv_aload_n hx hb dX11_obstacles_11 rfl (lv_at hl 2 rfl) ?_
        refine va_get (D := D) (ci := 11) (v := .ref (ad 1)) (C := RX11) (T := TX11) (N := 30) hx hb hts inX11 hown hK hP 0 (m_at11 (Nat.le_of_ble_eq_true rfl) rfl) rfl 0 (by decide) lk0 (fun _ h9 => h9) rfl dX11_obstacles_12 ?_
        refine lv_iconst (v := 3) hx hb dX11_obstacles_15 (by decide) ?_
        refine lv_iload_n hx hb dX11_obstacles_16 rfl (lv_at hl 0 rfl) ?_
        refine lv_iadd hx hb dX11_obstacles_17 ?_
        refine lv_topi (fun v_5 ev_5 => ?_)
        have tv_5 : v_5.toInt = (3 : Int) + x2_1.toInt := i_add (show (3 : Int32).toInt = (3 : Int) from rfl) (rfl : x2_1.toInt = x2_1.toInt) (by omega) (by omega) ev_5
        refine va_iald hx hb hK hP 1 0 (m_at12 (Nat.le_of_ble_eq_true rfl) rfl) rfl (g_in (N := 126) (rfl : v_5.toInt = v_5.toInt) rfl (by omega) (by omega)) dX11_obstacles_18 ?_
        refine lv_topi (fun v_6 ev_6 => ?_)
        refine lv_iadd hx hb dX11_obstacles_19 ?_
        refine lv_topi (fun v_7 ev_7 => ?_)
        have tv_7 : v_7.toInt = x1_2.toInt + (0 : Int) := i_add (rfl : x1_2.toInt = x1_2.toInt) (show v_6.toInt = (0 : Int) from by rw [ev_6]; exact mra hF_iv 1 _ (by decide)) (by omega) (by omega) ev_7
        refine lv_istore_n (lv' := [(1, .int v_7), (2, .int x2_1), (0, .ref (ad 0))]) hx hb dX11_obstacles_20 rfl hl (by decide) rfl (fun ls hl => ?_)
        obtain ⟨x2_8, ex2_8⟩ : ∃ y : Int32, y = x2_1 + 1 := ⟨_, rfl⟩
        have tx2_8 : x2_8.toInt = x2_1.toInt + (1 : Int) := i_add (rfl : x2_1.toInt = x2_1.toInt) (show (1 : Int32).toInt = (1 : Int) from rfl) (by omega) (by omega) ex2_8
        refine lv_iinc (v := x2_8) (lv' := [(2, .int x2_8), (1, .int v_7), (0, .ref (ad 0))]) hx hb dX11_obstacles_21 hl (k := 1) rfl (by rw [ex2_8]; rfl) (by decide) rfl (fun ls hl => ?_)
        refine lv_goto (tgt := 4) hx hb dX11_obstacles_24 (by decide) ?_
        exact ih3 x2_8 v_7 _ (by omega) (by omega) (lv_sub hl [0, 1, 2] rfl)
  have zl_9 : (0 : Int32).toInt = (0 : Int) := rfl
  have zl_10 : (0 : Int32).toInt = (0 : Int) := rfl
  exact loop3 (((108 - ((0 : Int))).toNat) + 1) 0 0 _ (by omega) (by omega) (lv_sub hl [0, 1, 2] rfl)
set_option maxHeartbeats 4000000 in
set_option maxRecDepth 100000 in
theorem f_X11_dronesAtSlots (l : Launch) (D : va_G) (cy : Nat → ClassId) (ad : Nat → Nat) (hI : mInj ad) (sz : Nat) (iv : gIv) (ar : gAr)  (hF_iv : mFr iv ar) : Met l yX11_dronesAtSlots wsX11_dronesAtSlots ({ frames := 0, cells := 0, slots := 0, locals := 0 } : Room) (va_Pc [.ref (ad 0)] (mPre D cy ad sz iv ar)) (vp_Si (fun r => r.toInt = 0)) 0 0 (fun _ => False) := by
  refine Met.ofW (cc := cX11_dronesAtSlots) (maxL := 3) (ret := (some .int)) (by decide) rfl ?_
  intro p e s m args below meth c s₁ B hml hv
  obtain ⟨rfl, rfl, hP, hK, hSt, hNw⟩ := hv
  have hx := B.exec
  have hb := B.bytes
  have hr := B.returns
  have hts := atoms_spec (ws := wsX11_dronesAtSlots) B.pre
  have hown : s.vm.findClass RX11 = some m.cls := findClass_of_methodNamed B.named
  have hlocks := B.notSynchronized
  have hS : va_S (mA ad s.heap.size) s.heap s.heap [] := va_S.rf
  have inX11 : ∀ w ∈ u_ws RX11 TX11 30, w ∈ wsX11_dronesAtSlots := by decide +kernel
  have lk0 := hts (.fieldLink RX11 9 "FormationPlannerModel" "s" "[I") (by decide +kernel)
  have hl := lv_entry ([.ref (ad 0)]) (n := 3) (Nat.le_of_ble_eq_true rfl)
  rw [lg_entry_eq]
  generalize (lg_sl ([.ref (ad 0)]) ++ List.replicate (3 - (lg_sl ([.ref (ad 0)])).length) Slot.unset).toArray = ls at hl ⊢
  have hl : lv_has ls 3 [(0, .ref (ad 0))] := hl
  obtain ⟨Q, hQ⟩ : ∃ Q, Q = MQ below (vp_Si (fun r => r.toInt = 0)) (([.ref (ad 0)] : List Value).toArray) s 0 0 (fun _ => False) := ⟨_, rfl⟩
  rw [← hQ]
  refine lv_iconst (v := 0) hx hb dX11_dronesAtSlots_0 (by decide) ?_
  refine lv_istore_n (lv' := [(1, .int 0), (0, .ref (ad 0))]) hx hb dX11_dronesAtSlots_1 rfl hl (by decide) rfl (fun ls hl => ?_)
  refine lv_iconst (v := 0) hx hb dX11_dronesAtSlots_2 (by decide) ?_
  refine lv_istore_n (lv' := [(2, .int 0), (1, .int 0), (0, .ref (ad 0))]) hx hb dX11_dronesAtSlots_3 rfl hl (by decide) rfl (fun ls hl => ?_)
  refine lv_iload_n hx hb dX11_dronesAtSlots_4 rfl (lv_at hl 0 rfl) ?_
  refine lv_aload_n hx hb dX11_dronesAtSlots_5 rfl (lv_at hl 2 rfl) ?_
  refine va_get (D := D) (ci := 11) (v := .ref (ad 1)) (C := RX11) (T := TX11) (N := 30) hx hb hts inX11 hown hK hP 0 (m_at11 (Nat.le_of_ble_eq_true rfl) rfl) rfl 0 (by decide) lk0 (fun _ h9 => h9) rfl dX11_dronesAtSlots_6 ?_
  refine lv_bipush (v := 111) hx hb dX11_dronesAtSlots_9 (by decide) ?_
  refine va_iald hx hb hK hP 1 0 (m_at12 (Nat.le_of_ble_eq_true rfl) rfl) rfl (g_in (N := 126) (show (111 : Int32).toInt = (111 : Int) from rfl) rfl (by omega) (by omega)) dX11_dronesAtSlots_11 ?_
  refine lv_topi (fun v_1 ev_1 => ?_)
  refine lv_icmp_ge (tgt := 45) hx hb dX11_dronesAtSlots_12 (by decide) (fun c_2 => ?_) (fun c_2 => ?_)
  · skip
    have q_2 : (0 : Int) ≤ (0 : Int) := i_le2 (show v_1.toInt = (0 : Int) from by rw [ev_1]; exact mra hF_iv 1 _ (by decide)) (show (0 : Int32).toInt = (0 : Int) from rfl) c_2
    refine lv_iload_n hx hb dX11_dronesAtSlots_45 rfl (lv_at hl 1 rfl) ?_
    rw [hQ]
    exact W.iret (v := 0) hx hb hr (fun t ht hW => ⟨0, rfl, by have zr : (0 : Int32).toInt = (0 : Int) := (show (0 : Int32).toInt = (0 : Int) from rfl); have z0 := i_l0; have z1 := i_l1; omega, ht⟩) (fun q h => by cases h) dX11_dronesAtSlots_46
  · skip
    have q_2 : (0 : Int) < (0 : Int) := i_nle2 (show v_1.toInt = (0 : Int) from by rw [ev_1]; exact mra hF_iv 1 _ (by decide)) (show (0 : Int32).toInt = (0 : Int) from rfl) c_2
    exfalso; omega
set_option maxHeartbeats 4000000 in
set_option maxRecDepth 100000 in
theorem f_X11_count (l : Launch) (D : va_G) (cy : Nat → ClassId) (ad : Nat → Nat) (hI : mInj ad) (sz : Nat) (iv : gIv) (ar : gAr) (a : Int32) (hF_iv : mFr iv ar) : Met l yX11_count wsX11_count ({ frames := 1, cells := 0, slots := 0, locals := 22 } : Room) (va_Pc [.ref (ad 0), .int a] (mPre D cy ad sz iv ar)) (vp_Si (fun r => (0 ≤ a.toInt ∧ a.toInt ≤ 7) ∧ r.toInt = 0 ∨ ¬ (0 ≤ a.toInt ∧ a.toInt ≤ 7) ∧ r.toInt = -2)) 0 0 (fun _ => False) := by
  refine Met.ofW (cc := cX11_count) (maxL := 2) (ret := (some .int)) (by decide) rfl ?_
  intro p e s m args below meth c s₁ B hml hv
  obtain ⟨rfl, rfl, hP, hK, hSt, hNw⟩ := hv
  have hx := B.exec
  have hb := B.bytes
  have hr := B.returns
  have hts := atoms_spec (ws := wsX11_count) B.pre
  have hown : s.vm.findClass RX11 = some m.cls := findClass_of_methodNamed B.named
  have hlocks := B.notSynchronized
  have hS : va_S (mA ad s.heap.size) s.heap s.heap [] := va_S.rf
  have inX11 : ∀ w ∈ u_ws RX11 TX11 30, w ∈ wsX11_count := by decide +kernel
  have lk0 := hts (.fieldLink RX11 9 "FormationPlannerModel" "s" "[I") (by decide +kernel)
  have lk1 := hts (.fieldLink RX11 77 "FormationPlannerModel" "changes" "I") (by decide +kernel)
  have lk2 := hts (.fieldLink RX11 105 "FormationPlannerModel" "written" "I") (by decide +kernel)
  have lk3 := hts (.fieldLink RX11 69 "FormationPlannerModel" "hasPlan" "Z") (by decide +kernel)
  have hl := lv_entry ([.ref (ad 0), .int a]) (n := 2) (Nat.le_of_ble_eq_true rfl)
  rw [lg_entry_eq]
  generalize (lg_sl ([.ref (ad 0), .int a]) ++ List.replicate (2 - (lg_sl ([.ref (ad 0), .int a])).length) Slot.unset).toArray = ls at hl ⊢
  have hl : lv_has ls 2 [(0, .ref (ad 0)), (1, .int a)] := hl
  obtain ⟨Q, hQ⟩ : ∃ Q, Q = MQ below (vp_Si (fun r => (0 ≤ a.toInt ∧ a.toInt ≤ 7) ∧ r.toInt = 0 ∨ ¬ (0 ≤ a.toInt ∧ a.toInt ≤ 7) ∧ r.toInt = -2)) (([.ref (ad 0), .int a] : List Value).toArray) s 0 0 (fun _ => False) := ⟨_, rfl⟩
  rw [← hQ]
  refine lv_iload_n hx hb dX11_count_0 rfl (lv_at hl 1 rfl) ?_
  by_cases z_1 : a.toInt = 0
  · skip
    refine lv_tableIn (off := 47) (tgt := 48) hx hb dX11_count_1 (by rw [(rfl : a.toInt = a.toInt), z_1]; decide) (by rw [(rfl : a.toInt = a.toInt), z_1]; decide) (by rw [(rfl : a.toInt = a.toInt), z_1]; rfl) (by decide) ?_
    refine lv_aload_n hx hb dX11_count_48 rfl (lv_at hl 0 rfl) ?_
    refine va_get (D := D) (ci := 11) (v := .ref (ad 1)) (C := RX11) (T := TX11) (N := 30) hx hb hts inX11 hown hK hP 0 (m_at11 (Nat.le_of_ble_eq_true rfl) rfl) rfl 0 (by decide) lk0 (fun _ h9 => h9) rfl dX11_count_49 ?_
    refine lv_bipush (v := 111) hx hb dX11_count_52 (by decide) ?_
    refine va_iald hx hb hK hP 1 0 (m_at12 (Nat.le_of_ble_eq_true rfl) rfl) rfl (g_in (N := 126) (show (111 : Int32).toInt = (111 : Int) from rfl) rfl (by omega) (by omega)) dX11_count_54 ?_
    refine lv_topi (fun v_2 ev_2 => ?_)
    rw [hQ]
    exact W.iret (v := v_2) hx hb hr (fun t ht hW => ⟨v_2, rfl, by have zr : v_2.toInt = (0 : Int) := (show v_2.toInt = (0 : Int) from by rw [ev_2]; exact mra hF_iv 1 _ (by decide)); have z0 := i_l0; have z1 := i_l1; omega, ht⟩) (fun q h => by cases h) dX11_count_55
  by_cases z_3 : a.toInt = 1
  · skip
    refine lv_tableIn (off := 55) (tgt := 56) hx hb dX11_count_1 (by rw [(rfl : a.toInt = a.toInt), z_3]; decide) (by rw [(rfl : a.toInt = a.toInt), z_3]; decide) (by rw [(rfl : a.toInt = a.toInt), z_3]; rfl) (by decide) ?_
    refine lv_aload_n hx hb dX11_count_56 rfl (lv_at hl 0 rfl) ?_
    refine va_get (D := D) (ci := 11) (v := .ref (ad 1)) (C := RX11) (T := TX11) (N := 30) hx hb hts inX11 hown hK hP 0 (m_at11 (Nat.le_of_ble_eq_true rfl) rfl) rfl 0 (by decide) lk0 (fun _ h9 => h9) rfl dX11_count_57 ?_
    refine lv_bipush (v := 118) hx hb dX11_count_60 (by decide) ?_
    refine va_iald hx hb hK hP 1 0 (m_at12 (Nat.le_of_ble_eq_true rfl) rfl) rfl (g_in (N := 126) (show (118 : Int32).toInt = (118 : Int) from rfl) rfl (by omega) (by omega)) dX11_count_62 ?_
    refine lv_topi (fun v_4 ev_4 => ?_)
    rw [hQ]
    exact W.iret (v := v_4) hx hb hr (fun t ht hW => ⟨v_4, rfl, by have zr : v_4.toInt = (0 : Int) := (show v_4.toInt = (0 : Int) from by rw [ev_4]; exact mra hF_iv 1 _ (by decide)); have z0 := i_l0; have z1 := i_l1; omega, ht⟩) (fun q h => by cases h) dX11_count_63
  by_cases z_5 : a.toInt = 2
  · skip
    refine lv_tableIn (off := 63) (tgt := 64) hx hb dX11_count_1 (by rw [(rfl : a.toInt = a.toInt), z_5]; decide) (by rw [(rfl : a.toInt = a.toInt), z_5]; decide) (by rw [(rfl : a.toInt = a.toInt), z_5]; rfl) (by decide) ?_
    refine lv_aload_n hx hb dX11_count_64 rfl (lv_at hl 0 rfl) ?_
    refine g_callSi (va_runV (As := []) (rest := []) ⟨hx, hb, hml, hown, hts⟩ (f_X11_obstacles l D cy ad hI _ iv ar hF_iv) (cwV 0 hts gX11_count_X11_obstacles rfl rfl rfl (by decide +kernel) ⟨Nat.le_of_ble_eq_true rfl, Nat.le_of_ble_eq_true rfl⟩) (m_preV hP hK hSt hNw hS (m_at11 (Nat.le_of_ble_eq_true rfl) rfl) rfl) rfl rfl hl.1 rfl (lv_room (Nat.le_of_ble_eq_true rfl)) dX11_count_65 ⟨Nat.zero_le _, Nat.zero_le _⟩) (fun r_6 w_6 => ?_)
    try dsimp only at w_6
    rw [hQ]
    exact W.iret (v := r_6) hx hb hr (fun t ht hW => ⟨r_6, rfl, by have zr : r_6.toInt = (0 : Int) := w_6; have z0 := i_l0; have z1 := i_l1; omega, ht⟩) (fun q h => by cases h) dX11_count_68
  by_cases z_7 : a.toInt = 3
  · skip
    refine lv_tableIn (off := 68) (tgt := 69) hx hb dX11_count_1 (by rw [(rfl : a.toInt = a.toInt), z_7]; decide) (by rw [(rfl : a.toInt = a.toInt), z_7]; decide) (by rw [(rfl : a.toInt = a.toInt), z_7]; rfl) (by decide) ?_
    refine lv_aload_n hx hb dX11_count_69 rfl (lv_at hl 0 rfl) ?_
    refine g_callSi (va_runV (As := []) (rest := []) ⟨hx, hb, hml, hown, hts⟩ (f_X11_dronesAtSlots l D cy ad hI _ iv ar hF_iv) (cwV 0 hts gX11_count_X11_dronesAtSlots rfl rfl rfl (by decide +kernel) ⟨Nat.le_of_ble_eq_true rfl, Nat.le_of_ble_eq_true rfl⟩) (m_preV hP hK hSt hNw hS (m_at11 (Nat.le_of_ble_eq_true rfl) rfl) rfl) rfl rfl hl.1 rfl (lv_room (Nat.le_of_ble_eq_true rfl)) dX11_count_70 ⟨Nat.zero_le _, Nat.zero_le _⟩) (fun r_8 w_8 => ?_)
    try dsimp only at w_8
    rw [hQ]
    exact W.iret (v := r_8) hx hb hr (fun t ht hW => ⟨r_8, rfl, by have zr : r_8.toInt = (0 : Int) := w_8; have z0 := i_l0; have z1 := i_l1; omega, ht⟩) (fun q h => by cases h) dX11_count_73
  by_cases z_9 : a.toInt = 4
  · skip
    refine lv_tableIn (off := 73) (tgt := 74) hx hb dX11_count_1 (by rw [(rfl : a.toInt = a.toInt), z_9]; decide) (by rw [(rfl : a.toInt = a.toInt), z_9]; decide) (by rw [(rfl : a.toInt = a.toInt), z_9]; rfl) (by decide) ?_
    refine lv_aload_n hx hb dX11_count_74 rfl (lv_at hl 0 rfl) ?_
    refine va_get (D := D) (ci := 11) (v := .ref (ad 1)) (C := RX11) (T := TX11) (N := 30) hx hb hts inX11 hown hK hP 0 (m_at11 (Nat.le_of_ble_eq_true rfl) rfl) rfl 0 (by decide) lk0 (fun _ h9 => h9) rfl dX11_count_75 ?_
    refine lv_bipush (v := 125) hx hb dX11_count_78 (by decide) ?_
    refine va_iald hx hb hK hP 1 0 (m_at12 (Nat.le_of_ble_eq_true rfl) rfl) rfl (g_in (N := 126) (show (125 : Int32).toInt = (125 : Int) from rfl) rfl (by omega) (by omega)) dX11_count_80 ?_
    refine lv_topi (fun v_10 ev_10 => ?_)
    rw [hQ]
    exact W.iret (v := v_10) hx hb hr (fun t ht hW => ⟨v_10, rfl, by have zr : v_10.toInt = (0 : Int) := (show v_10.toInt = (0 : Int) from by rw [ev_10]; exact mra hF_iv 1 _ (by decide)); have z0 := i_l0; have z1 := i_l1; omega, ht⟩) (fun q h => by cases h) dX11_count_81
  by_cases z_11 : a.toInt = 5
  · skip
    refine lv_tableIn (off := 81) (tgt := 82) hx hb dX11_count_1 (by rw [(rfl : a.toInt = a.toInt), z_11]; decide) (by rw [(rfl : a.toInt = a.toInt), z_11]; decide) (by rw [(rfl : a.toInt = a.toInt), z_11]; rfl) (by decide) ?_
    refine lv_aload_n hx hb dX11_count_82 rfl (lv_at hl 0 rfl) ?_
    refine va_get (D := D) (ci := 11) (v := .int (iv 0 3)) (C := RX11) (T := TX11) (N := 30) hx hb hts inX11 hown hK hP 0 (m_at11 (Nat.le_of_ble_eq_true rfl) rfl) rfl 3 (by decide) lk1 (fun _ h9 => h9) rfl dX11_count_83 ?_
    rw [hQ]
    exact W.iret (v := (iv 0 3)) hx hb hr (fun t ht hW => ⟨(iv 0 3), rfl, by have zr : (iv 0 3).toInt = (0 : Int) := (mr0 hF_iv 0 3 (by decide)); have z0 := i_l0; have z1 := i_l1; omega, ht⟩) (fun q h => by cases h) dX11_count_86
  by_cases z_12 : a.toInt = 6
  · skip
    refine lv_tableIn (off := 86) (tgt := 87) hx hb dX11_count_1 (by rw [(rfl : a.toInt = a.toInt), z_12]; decide) (by rw [(rfl : a.toInt = a.toInt), z_12]; decide) (by rw [(rfl : a.toInt = a.toInt), z_12]; rfl) (by decide) ?_
    refine lv_aload_n hx hb dX11_count_87 rfl (lv_at hl 0 rfl) ?_
    refine va_get (D := D) (ci := 11) (v := .int (iv 0 4)) (C := RX11) (T := TX11) (N := 30) hx hb hts inX11 hown hK hP 0 (m_at11 (Nat.le_of_ble_eq_true rfl) rfl) rfl 4 (by decide) lk2 (fun _ h9 => h9) rfl dX11_count_88 ?_
    rw [hQ]
    exact W.iret (v := (iv 0 4)) hx hb hr (fun t ht hW => ⟨(iv 0 4), rfl, by have zr : (iv 0 4).toInt = (0 : Int) := (mr0 hF_iv 0 4 (by decide)); have z0 := i_l0; have z1 := i_l1; omega, ht⟩) (fun q h => by cases h) dX11_count_91
  by_cases z_13 : a.toInt = 7
  · skip
    refine lv_tableIn (off := 91) (tgt := 92) hx hb dX11_count_1 (by rw [(rfl : a.toInt = a.toInt), z_13]; decide) (by rw [(rfl : a.toInt = a.toInt), z_13]; decide) (by rw [(rfl : a.toInt = a.toInt), z_13]; rfl) (by decide) ?_
    refine lv_aload_n hx hb dX11_count_92 rfl (lv_at hl 0 rfl) ?_
    refine va_get (D := D) (ci := 11) (v := .int (iv 0 15)) (C := RX11) (T := TX11) (N := 30) hx hb hts inX11 hown hK hP 0 (m_at11 (Nat.le_of_ble_eq_true rfl) rfl) rfl 15 (by decide) lk3 (fun _ h9 => h9) rfl dX11_count_93 ?_
    refine lv_if_eq (tgt := 103) hx hb dX11_count_96 (by decide) (fun c_14 => ?_) (fun c_14 => ?_)
    · skip
      have q_14 : (0 : Int) = (0 : Int) := i_eq2 (mr0 hF_iv 0 15 (by decide)) (show (0 : Int32).toInt = (0 : Int) from rfl) c_14
      refine lv_iconst (v := 0) hx hb dX11_count_103 (by decide) ?_
      rw [hQ]
      exact W.iret (v := 0) hx hb hr (fun t ht hW => ⟨0, rfl, by have zr : (0 : Int32).toInt = (0 : Int) := (show (0 : Int32).toInt = (0 : Int) from rfl); have z0 := i_l0; have z1 := i_l1; omega, ht⟩) (fun q h => by cases h) dX11_count_104
    · skip
      have q_14 : (0 : Int) ≠ (0 : Int) := i_ne2 (mr0 hF_iv 0 15 (by decide)) (show (0 : Int32).toInt = (0 : Int) from rfl) c_14
      exfalso; omega
  refine lv_tableOut (tgt := 105) hx hb dX11_count_1 (by rw [(rfl : a.toInt = a.toInt)]; omega) (by decide) ?_
  refine lv_bipush (v := (-2)) hx hb dX11_count_105 (by decide) ?_
  rw [hQ]
  exact W.iret (v := (-2)) hx hb hr (fun t ht hW => ⟨(-2), rfl, by have zr : ((-2) : Int32).toInt = (-2 : Int) := (show ((-2) : Int32).toInt = (-2 : Int) from rfl); have z0 := i_l0; have z1 := i_l1; omega, ht⟩) (fun q h => by cases h) dX11_count_107
set_option maxHeartbeats 4000000 in
set_option maxRecDepth 100000 in
theorem c_X11_forgets (l : Launch) (D : va_G) (cy : Nat → ClassId) (ad : Nat → Nat) (hI : mInj ad) (sz : Nat) (iv : gIv) (ar : gAr)   : Met l yX11_forgets wsX11_forgets ({ frames := 0, cells := 0, slots := 0, locals := 0 } : Room) (va_Pc [.ref (ad 0)] (mPre D cy ad sz iv ar)) (va_Qv (fun (u : gIv × gAr) => u.1 = iv ∧ ∀ a, a ≠ 6 → u.2 a = ar a) (mPost D cy ad) (mA ad sz)) 0 0 (mA ad sz) := by
  refine Met.ofW (cc := cX11_forgets) (maxL := 2) (ret := none) (by decide) rfl ?_
  intro p e s m args below meth c s₁ B hml hv
  obtain ⟨rfl, rfl, hP, hK, hSt, hNw⟩ := hv
  have hx := B.exec
  have hb := B.bytes
  have hr := B.returns
  have hts := atoms_spec (ws := wsX11_forgets) B.pre
  have hown : s.vm.findClass RX11 = some m.cls := findClass_of_methodNamed B.named
  have hlocks := B.notSynchronized
  have hS : va_S (mA ad s.heap.size) s.heap s.heap [] := va_S.rf
  have inX11 : ∀ w ∈ u_ws RX11 TX11 30, w ∈ wsX11_forgets := by decide +kernel
  have lk0 := hts (.fieldLink RX11 25 "FormationPlannerModel" "isKnown" "[Z") (by decide +kernel)
  have hl := lv_entry ([.ref (ad 0)]) (n := 2) (Nat.le_of_ble_eq_true rfl)
  rw [lg_entry_eq]
  generalize (lg_sl ([.ref (ad 0)]) ++ List.replicate (2 - (lg_sl ([.ref (ad 0)])).length) Slot.unset).toArray = ls at hl ⊢
  have hl : lv_has ls 2 [(0, .ref (ad 0))] := hl
  obtain ⟨Q, hQ⟩ : ∃ Q, Q = MQ below (va_Qv (fun (u : gIv × gAr) => u.1 = iv ∧ ∀ a, a ≠ 6 → u.2 a = ar a) (mPost D cy ad) (mA ad s.heap.size)) (([.ref (ad 0)] : List Value).toArray) s 0 0 (mA ad s.heap.size) := ⟨_, rfl⟩
  rw [← hQ]
  refine lv_iconst (v := 0) hx hb dX11_forgets_0 (by decide) ?_
  refine lv_istore_n (lv' := [(1, .int 0), (0, .ref (ad 0))]) hx hb dX11_forgets_1 rfl hl (by decide) rfl (fun ls hl => ?_)
  have loop3 : ∀ (n : Nat) (x1_1 : Int32) (ar_2 : gAr) (H : Heap) (locs : List Loc) (ls : Array Slot), ((108 - (x1_1.toInt)).toNat) < n → (0 ≤ (x1_1.toInt) ∧ (x1_1.toInt) ≤ 108) → (∀ a, a ≠ 6 → ar_2 a = ar a) → va_P D vwCl (MW cy ad iv ar_2) H → va_S (mA ad s.heap.size) s.heap H locs → lv_has ls 2 [(1, .int x1_1), (0, .ref (ad 0))] → W p l e (headSpec wsX11_forgets (({ frames := 0, cells := 0, slots := 0, locals := 0 } : Room))).room s m (([.ref (ad 0)] : List Value).toArray) below meth c H locs 0 0 Q (F0 m 2 ls []) := by
    intro n
    induction n with
    | zero => intro x1_1 ar_2 H locs ls hm; omega
    | succ n ih3 =>
      intro x1_1 ar_2 H locs ls hm hg0 hga hP hS hl
      refine lv_iload_n hx hb dX11_forgets_2 rfl (lv_at hl 0 rfl) ?_
      refine lv_bipush (v := 108) hx hb dX11_forgets_3 (by decide) ?_
      refine lv_icmp_ge (tgt := 21) hx hb dX11_forgets_5 (by decide) (fun c_4 => ?_) (fun c_4 => ?_)
      · skip
        have q_4 : (108 : Int) ≤ x1_1.toInt := i_le2 (show (108 : Int32).toInt = (108 : Int) from rfl) (rfl : x1_1.toInt = x1_1.toInt) c_4
        rw [hQ]
        exact W.vret hx hb hr (fun t ht hW => ⟨⟨(iv, ar_2), rfl, ⟨rfl, hga⟩, by show va_P _ _ _ _; rw [ht]; exact hP⟩, hS.F ht⟩) hS.2.2 dX11_forgets_21
      · skip
        have q_4 : x1_1.toInt < (108 : Int) := i_nle2 (show (108 : Int32).toInt = (108 : Int) from rfl) (rfl : x1_1.toInt = x1_1.toInt) c_4
        refine lv_aload_n hx hb dX11_forgets_8 rfl (lv_at hl 1 rfl) ?_
        refine va_get (D := D) (ci := 11) (v := .ref (ad 6)) (C := RX11) (T := TX11) (N := 30) hx hb hts inX11 hown hK hP 0 (m_at11 (Nat.le_of_ble_eq_true rfl) rfl) rfl 8 (by decide) lk0 (fun _ h9 => h9) rfl dX11_forgets_9 ?_
        refine lv_iload_n hx hb dX11_forgets_12 rfl (lv_at hl 0 rfl) ?_
        refine lv_iconst (v := 0) hx hb dX11_forgets_13 (by decide) ?_
        refine va_zast hx hb hK hP (mD hI) hS 6 1 (m_at13 (Nat.le_of_ble_eq_true rfl) rfl) rfl (g_in (N := 108) (rfl : x1_1.toInt = x1_1.toInt) rfl (by omega) (by omega)) dX11_forgets_14 (fun H locs hP _ hS => ?_)
        rw [m_pt13 (Nat.le_of_ble_eq_true rfl) rfl] at hP
        obtain ⟨ar_5, ear_5⟩ : ∃ z : gAr, z = va_up ar_2 6 (upd (ar_2 6) x1_1.toNatClampNeg 0) := ⟨_, rfl⟩
        have hP : va_P D vwCl (MW cy ad iv ar_5) H := by rw [ear_5]; exact hP
        obtain ⟨x1_6, ex1_6⟩ : ∃ y : Int32, y = x1_1 + 1 := ⟨_, rfl⟩
        have tx1_6 : x1_6.toInt = x1_1.toInt + (1 : Int) := i_add (rfl : x1_1.toInt = x1_1.toInt) (show (1 : Int32).toInt = (1 : Int) from rfl) (by omega) (by omega) ex1_6
        refine lv_iinc (v := x1_6) (lv' := [(1, .int x1_6), (0, .ref (ad 0))]) hx hb dX11_forgets_15 hl (k := 0) rfl (by rw [ex1_6]; rfl) (by decide) rfl (fun ls hl => ?_)
        refine lv_goto (tgt := 2) hx hb dX11_forgets_18 (by decide) ?_
        exact ih3 x1_6 ar_5 _ _ _ (by omega) (by omega) (fun a h => by rw [ear_5, ua_o h]; exact hga a h) hP hS (lv_sub hl [0, 1] rfl)
  have zl_7 : (0 : Int32).toInt = (0 : Int) := rfl
  exact loop3 (((108 - ((0 : Int))).toNat) + 1) 0 ar _ _ _ (by omega) (by omega) (fun _ _ => rfl) hP hS (lv_sub hl [0, 1] rfl)
set_option maxHeartbeats 4000000 in
set_option maxRecDepth 100000 in
theorem c0_tries (l : Launch) (D : va_G) (cy : Nat → ClassId) (ad : Nat → Nat) (hI : mInj ad) (sz : Nat) (iv : gIv) (ar : gAr) (a : Int32) (b : Int32) (d : Int32) (f : Int32) (h1 : (ar 1 111).toInt = 0) (h14 : (iv 0 14).toInt = 0) (ha : a.toInt = 0 ∧ d.toInt = 0 ∧ f.toInt = 0) : Met l yX11_tries wsX11_tries ({ frames := 0, cells := 0, slots := 0, locals := 0 } : Room) (va_Pc [.ref (ad 0), .int a, .int b, .int d, .int f] (mPre D cy ad sz iv ar)) (va_Qv (fun (u : gIv × gAr) => ((u.1 0 14).toInt = 1 ∧ (u.1 0 11).toInt = 0 ∧ (u.1 0 12).toInt = 0 ∧ (u.1 0 13).toInt = 1) ∧ (∀ a b, ¬ (a = 0 ∧ (b = 14 ∨ b = 11 ∨ b = 12 ∨ b = 13)) → u.1 a b = iv a b) ∧ ∀ a, u.2 a = ar a) (mPost D cy ad) (mA ad sz)) 0 0 (mA ad sz) := by
  refine Met.ofW (cc := cX11_tries) (maxL := 7) (ret := none) (by decide) rfl ?_
  intro p e s m args below meth c s₁ B hml hv
  obtain ⟨rfl, rfl, hP, hK, hSt, hNw⟩ := hv
  have hx := B.exec
  have hb := B.bytes
  have hr := B.returns
  have hts := atoms_spec (ws := wsX11_tries) B.pre
  have hown : s.vm.findClass RX11 = some m.cls := findClass_of_methodNamed B.named
  have hlocks := B.notSynchronized
  have hS : va_S (mA ad s.heap.size) s.heap s.heap [] := va_S.rf
  have inX11 : ∀ w ∈ u_ws RX11 TX11 30, w ∈ wsX11_tries := by decide +kernel
  have lk0 := hts (.fieldLink RX11 9 "FormationPlannerModel" "s" "[I") (by decide +kernel)
  have lk1 := hts (.fieldLink RX11 139 "FormationPlannerModel" "assignments" "I") (by decide +kernel)
  have lk2 := hts (.fieldLink RX11 148 "FormationPlannerModel" "withGreatest" "I") (by decide +kernel)
  have lk3 := hts (.fieldLink RX11 142 "FormationPlannerModel" "greatest" "I") (by decide +kernel)
  have lk4 := hts (.fieldLink RX11 145 "FormationPlannerModel" "sum" "I") (by decide +kernel)
  have hl := lv_entry ([.ref (ad 0), .int a, .int b, .int d, .int f]) (n := 7) (Nat.le_of_ble_eq_true rfl)
  rw [lg_entry_eq]
  generalize (lg_sl ([.ref (ad 0), .int a, .int b, .int d, .int f]) ++ List.replicate (7 - (lg_sl ([.ref (ad 0), .int a, .int b, .int d, .int f])).length) Slot.unset).toArray = ls at hl ⊢
  have hl : lv_has ls 7 [(0, .ref (ad 0)), (1, .int a), (2, .int b), (3, .int d), (4, .int f)] := hl
  obtain ⟨Q, hQ⟩ : ∃ Q, Q = MQ below (va_Qv (fun (u : gIv × gAr) => ((u.1 0 14).toInt = 1 ∧ (u.1 0 11).toInt = 0 ∧ (u.1 0 12).toInt = 0 ∧ (u.1 0 13).toInt = 1) ∧ (∀ a b, ¬ (a = 0 ∧ (b = 14 ∨ b = 11 ∨ b = 12 ∨ b = 13)) → u.1 a b = iv a b) ∧ ∀ a, u.2 a = ar a) (mPost D cy ad) (mA ad s.heap.size)) (([.ref (ad 0), .int a, .int b, .int d, .int f] : List Value).toArray) s 0 0 (mA ad s.heap.size) := ⟨_, rfl⟩
  rw [← hQ]
  refine lv_iload_n hx hb dX11_tries_0 rfl (lv_at hl 1 rfl) ?_
  refine lv_aload_n hx hb dX11_tries_1 rfl (lv_at hl 0 rfl) ?_
  refine va_get (D := D) (ci := 11) (v := .ref (ad 1)) (C := RX11) (T := TX11) (N := 30) hx hb hts inX11 hown hK hP 0 (m_at11 (Nat.le_of_ble_eq_true rfl) rfl) rfl 0 (by decide) lk0 (fun _ h9 => h9) rfl dX11_tries_2 ?_
  refine lv_bipush (v := 111) hx hb dX11_tries_5 (by decide) ?_
  refine va_iald hx hb hK hP 1 0 (m_at12 (Nat.le_of_ble_eq_true rfl) rfl) rfl (g_in (N := 126) (show (111 : Int32).toInt = (111 : Int) from rfl) rfl (by omega) (by omega)) dX11_tries_7 ?_
  refine lv_topi (fun v_1 ev_1 => ?_)
  refine lv_icmp_ne (tgt := 158) hx hb dX11_tries_8 (by decide) (fun c_2 => ?_) (fun c_2 => ?_)
  · skip
    have q_2 : a.toInt ≠ (0 : Int) := i_ne2 (rfl : a.toInt = a.toInt) (show v_1.toInt = (0 : Int) from by rw [ev_1]; exact h1) c_2
    exfalso; omega
  · skip
    have q_2 : a.toInt = (0 : Int) := i_eq2 (rfl : a.toInt = a.toInt) (show v_1.toInt = (0 : Int) from by rw [ev_1]; exact h1) c_2
    refine lv_aload_n hx hb dX11_tries_11 rfl (lv_at hl 0 rfl) ?_
    refine lv_dup hx hb dX11_tries_12 rfl ?_
    refine va_get (D := D) (ci := 11) (v := .int (iv 0 14)) (C := RX11) (T := TX11) (N := 30) hx hb hts inX11 hown hK hP 0 (m_at11 (Nat.le_of_ble_eq_true rfl) rfl) rfl 14 (by decide) lk1 (fun _ h9 => h9) rfl dX11_tries_13 ?_
    refine lv_iconst (v := 1) hx hb dX11_tries_16 (by decide) ?_
    refine lv_iadd hx hb dX11_tries_17 ?_
    refine lv_topi (fun v_3 ev_3 => ?_)
    have tv_3 : v_3.toInt = (0 : Int) + (1 : Int) := i_add h14 (show (1 : Int32).toInt = (1 : Int) from rfl) (by omega) (by omega) ev_3
    refine va_put (D := D) (ci := 11) (v := .int v_3) (ty := .int) (C := RX11) (T := TX11) (N := 30) hx hb hts inX11 tyX11 tyX11_ok nmX11 hown hK hP (mD hI) hS 0 (m_at11 (Nat.le_of_ble_eq_true rfl) rfl) rfl 14 (by decide) lk1 (fun _ h9 => h9) rfl (by decide +kernel) rfl rfl (Nat.le_of_ble_eq_true rfl) dX11_tries_18 (fun H locs hP _ hS => ?_)
    have hP : va_P D vwCl (MW cy ad (u2 iv 0 14 v_3) ar) H := by rw [← m_pt11_14 (Nat.le_of_ble_eq_true rfl) rfl]; exact hP
    obtain ⟨iv_4, eiv_4⟩ : ∃ z : gIv, z = u2 iv 0 14 v_3 := ⟨_, rfl⟩
    rw [← eiv_4] at hP
    refine lv_aload_n hx hb dX11_tries_21 rfl (lv_at hl 0 rfl) ?_
    refine va_get (D := D) (ci := 11) (v := .int (iv_4 0 14)) (C := RX11) (T := TX11) (N := 30) hx hb hts inX11 hown hK hP 0 (m_at11 (Nat.le_of_ble_eq_true rfl) rfl) rfl 14 (by decide) lk1 (fun _ h9 => h9) rfl dX11_tries_22 ?_
    have f_5 : iv_4 0 14 = v_3 := by rw [eiv_4]; exact u2_s _ _ _ _
    refine lv_iconst (v := 1) hx hb dX11_tries_25 (by decide) ?_
    refine lv_icmp_eq (tgt := 54) hx hb dX11_tries_26 (by decide) (fun c_6 => ?_) (fun c_6 => ?_)
    · skip
      have q_6 : v_3.toInt = (1 : Int) := i_eq2 ((congrArg Int32.toInt f_5).trans (rfl : v_3.toInt = v_3.toInt)) (show (1 : Int32).toInt = (1 : Int) from rfl) c_6
      refine lv_iconst (v := 1) hx hb dX11_tries_54 (by decide) ?_
      refine lv_goto (tgt := 59) hx hb dX11_tries_55 (by decide) ?_
      refine lv_istore (lv' := [(5, .int 1), (0, .ref (ad 0)), (1, .int a), (2, .int b), (3, .int d), (4, .int f)]) hx hb dX11_tries_59 hl (by decide) rfl (fun ls hl => ?_)
      refine lv_aload_n hx hb dX11_tries_61 rfl (lv_at hl 1 rfl) ?_
      refine lv_aload_n hx hb dX11_tries_62 rfl (lv_at hl 1 rfl) ?_
      refine va_get (D := D) (ci := 11) (v := .int (iv_4 0 14)) (C := RX11) (T := TX11) (N := 30) hx hb hts inX11 hown hK hP 0 (m_at11 (Nat.le_of_ble_eq_true rfl) rfl) rfl 14 (by decide) lk1 (fun _ h9 => h9) rfl dX11_tries_63 ?_
      have f_7 : iv_4 0 14 = v_3 := by rw [eiv_4]; exact u2_s _ _ _ _
      refine lv_iconst (v := 1) hx hb dX11_tries_66 (by decide) ?_
      refine lv_icmp_eq (tgt := 78) hx hb dX11_tries_67 (by decide) (fun c_8 => ?_) (fun c_8 => ?_)
      · skip
        have q_8 : v_3.toInt = (1 : Int) := i_eq2 ((congrArg Int32.toInt f_7).trans (rfl : v_3.toInt = v_3.toInt)) (show (1 : Int32).toInt = (1 : Int) from rfl) c_8
        refine lv_iconst (v := 1) hx hb dX11_tries_78 (by decide) ?_
        refine lv_goto (tgt := 103) hx hb dX11_tries_79 (by decide) ?_
        refine va_put (D := D) (ci := 11) (v := .int 1) (ty := .int) (C := RX11) (T := TX11) (N := 30) hx hb hts inX11 tyX11 tyX11_ok nmX11 hown hK hP (mD hI) hS 0 (m_at11 (Nat.le_of_ble_eq_true rfl) rfl) rfl 13 (by decide) lk2 (fun _ h9 => h9) rfl (by decide +kernel) rfl rfl (Nat.le_of_ble_eq_true rfl) dX11_tries_103 (fun H locs hP _ hS => ?_)
        have hP : va_P D vwCl (MW cy ad (u2 iv_4 0 13 1) ar) H := by rw [← m_pt11_13 (Nat.le_of_ble_eq_true rfl) rfl]; exact hP
        obtain ⟨iv_9, eiv_9⟩ : ∃ z : gIv, z = u2 iv_4 0 13 1 := ⟨_, rfl⟩
        rw [← eiv_9] at hP
        refine lv_iload hx hb dX11_tries_106 (lv_at hl 0 rfl) ?_
        refine lv_if_eq (tgt := 157) hx hb dX11_tries_108 (by decide) (fun c_10 => ?_) (fun c_10 => ?_)
        · skip
          have q_10 : (1 : Int) = (0 : Int) := i_eq2 (show (1 : Int32).toInt = (1 : Int) from rfl) (show (0 : Int32).toInt = (0 : Int) from rfl) c_10
          exfalso; omega
        · skip
          have q_10 : (1 : Int) ≠ (0 : Int) := i_ne2 (show (1 : Int32).toInt = (1 : Int) from rfl) (show (0 : Int32).toInt = (0 : Int) from rfl) c_10
          refine lv_aload_n hx hb dX11_tries_111 rfl (lv_at hl 1 rfl) ?_
          refine lv_iload_n hx hb dX11_tries_112 rfl (lv_at hl 4 rfl) ?_
          refine va_put (D := D) (ci := 11) (v := .int d) (ty := .int) (C := RX11) (T := TX11) (N := 30) hx hb hts inX11 tyX11 tyX11_ok nmX11 hown hK hP (mD hI) hS 0 (m_at11 (Nat.le_of_ble_eq_true rfl) rfl) rfl 11 (by decide) lk3 (fun _ h9 => h9) rfl (by decide +kernel) rfl rfl (Nat.le_of_ble_eq_true rfl) dX11_tries_113 (fun H locs hP _ hS => ?_)
          have hP : va_P D vwCl (MW cy ad (u2 iv_9 0 11 d) ar) H := by rw [← m_pt11_11 (Nat.le_of_ble_eq_true rfl) rfl]; exact hP
          obtain ⟨iv_11, eiv_11⟩ : ∃ z : gIv, z = u2 iv_9 0 11 d := ⟨_, rfl⟩
          rw [← eiv_11] at hP
          refine lv_aload_n hx hb dX11_tries_116 rfl (lv_at hl 1 rfl) ?_
          refine lv_iload hx hb dX11_tries_117 (lv_at hl 5 rfl) ?_
          refine va_put (D := D) (ci := 11) (v := .int f) (ty := .int) (C := RX11) (T := TX11) (N := 30) hx hb hts inX11 tyX11 tyX11_ok nmX11 hown hK hP (mD hI) hS 0 (m_at11 (Nat.le_of_ble_eq_true rfl) rfl) rfl 12 (by decide) lk4 (fun _ h9 => h9) rfl (by decide +kernel) rfl rfl (Nat.le_of_ble_eq_true rfl) dX11_tries_119 (fun H locs hP _ hS => ?_)
          have hP : va_P D vwCl (MW cy ad (u2 iv_11 0 12 f) ar) H := by rw [← m_pt11_12 (Nat.le_of_ble_eq_true rfl) rfl]; exact hP
          obtain ⟨iv_12, eiv_12⟩ : ∃ z : gIv, z = u2 iv_11 0 12 f := ⟨_, rfl⟩
          rw [← eiv_12] at hP
          refine lv_iconst (v := 0) hx hb dX11_tries_122 (by decide) ?_
          refine lv_istore (lv' := [(6, .int 0), (5, .int 1), (0, .ref (ad 0)), (1, .int a), (2, .int b), (3, .int d), (4, .int f)]) hx hb dX11_tries_123 hl (by decide) rfl (fun ls hl => ?_)
          refine lv_iload hx hb dX11_tries_125 (lv_at hl 0 rfl) ?_
          refine lv_aload_n hx hb dX11_tries_127 rfl (lv_at hl 2 rfl) ?_
          refine va_get (D := D) (ci := 11) (v := .ref (ad 1)) (C := RX11) (T := TX11) (N := 30) hx hb hts inX11 hown hK hP 0 (m_at11 (Nat.le_of_ble_eq_true rfl) rfl) rfl 0 (by decide) lk0 (fun _ h9 => h9) rfl dX11_tries_128 ?_
          refine lv_bipush (v := 111) hx hb dX11_tries_131 (by decide) ?_
          refine va_iald hx hb hK hP 1 0 (m_at12 (Nat.le_of_ble_eq_true rfl) rfl) rfl (g_in (N := 126) (show (111 : Int32).toInt = (111 : Int) from rfl) rfl (by omega) (by omega)) dX11_tries_133 ?_
          refine lv_topi (fun v_13 ev_13 => ?_)
          refine lv_icmp_ge (tgt := 157) hx hb dX11_tries_134 (by decide) (fun c_14 => ?_) (fun c_14 => ?_)
          · skip
            have q_14 : (0 : Int) ≤ (0 : Int) := i_le2 (show v_13.toInt = (0 : Int) from by rw [ev_13]; exact h1) (show (0 : Int32).toInt = (0 : Int) from rfl) c_14
            have f_15 : iv_12 0 14 = v_3 := by rw [eiv_12, u2_o (by omega)]; rw [eiv_11, u2_o (by omega)]; rw [eiv_9, u2_o (by omega)]; rw [eiv_4]; exact u2_s _ _ _ _
            have f_16 : iv_12 0 11 = d := by rw [eiv_12, u2_o (by omega)]; rw [eiv_11]; exact u2_s _ _ _ _
            have f_17 : iv_12 0 12 = f := by rw [eiv_12]; exact u2_s _ _ _ _
            have f_18 : iv_12 0 13 = 1 := by rw [eiv_12, u2_o (by omega)]; rw [eiv_11, u2_o (by omega)]; rw [eiv_9]; exact u2_s _ _ _ _
            rw [hQ]
            exact W.vret hx hb hr (fun t ht hW => ⟨⟨(iv_12, ar), rfl, ⟨⟨(((congrArg Int32.toInt f_15).trans (rfl : v_3.toInt = v_3.toInt))).trans (by omega), (((congrArg Int32.toInt f_16).trans (rfl : d.toInt = d.toInt))).trans (by omega), (((congrArg Int32.toInt f_17).trans (rfl : f.toInt = f.toInt))).trans (by omega), (((congrArg Int32.toInt f_18).trans (show (1 : Int32).toInt = (1 : Int) from rfl))).trans (by omega)⟩, fun a b h => by show iv_12 a b = iv a b; rw [eiv_12, u2_o (by omega)]; rw [eiv_11, u2_o (by omega)]; rw [eiv_9, u2_o (by omega)]; rw [eiv_4, u2_o (by omega)], fun _ => rfl⟩, by show va_P _ _ _ _; rw [ht]; exact hP⟩, hS.F ht⟩) hS.2.2 dX11_tries_157
          · skip
            have q_14 : (0 : Int) < (0 : Int) := i_nle2 (show v_13.toInt = (0 : Int) from by rw [ev_13]; exact h1) (show (0 : Int32).toInt = (0 : Int) from rfl) c_14
            exfalso; omega
      · skip
        have q_8 : v_3.toInt ≠ (1 : Int) := i_ne2 ((congrArg Int32.toInt f_7).trans (rfl : v_3.toInt = v_3.toInt)) (show (1 : Int32).toInt = (1 : Int) from rfl) c_8
        exfalso; omega
    · skip
      have q_6 : v_3.toInt ≠ (1 : Int) := i_ne2 ((congrArg Int32.toInt f_5).trans (rfl : v_3.toInt = v_3.toInt)) (show (1 : Int32).toInt = (1 : Int) from rfl) c_6
      exfalso; omega
set_option maxHeartbeats 4000000 in
set_option maxRecDepth 100000 in
theorem c0_assigns (l : Launch) (D : va_G) (cy : Nat → ClassId) (ad : Nat → Nat) (hI : mInj ad) (sz : Nat) (iv : gIv) (ar : gAr)  (h1 : (ar 1 111).toInt = 0) (h2 : (ar 1 118).toInt = 0) : Met l yX11_assigns wsX11_assigns ({ frames := 1, cells := 0, slots := 0, locals := 26 } : Room) (va_Pc [.ref (ad 0)] (mPre D cy ad sz iv ar)) (va_Qi (fun (r : Int32) (u : gIv × gAr) => r.toInt = 0 ∧ ((u.1 0 14).toInt = 1 ∧ (u.1 0 11).toInt = 0 ∧ (u.1 0 12).toInt = 0 ∧ (u.1 0 13).toInt = 1) ∧ (∀ a b, ¬ (a = 0 ∧ (b = 14 ∨ b = 11 ∨ b = 12 ∨ b = 13)) → u.1 a b = iv a b) ∧ ∀ a, u.2 a = ar a) (mPost D cy ad) (mA ad sz)) 0 0 (mA ad sz) := by
  refine Met.ofW (cc := cX11_assigns) (maxL := 1) (ret := (some .int)) (by decide) rfl ?_
  intro p e s m args below meth c s₁ B hml hv
  obtain ⟨rfl, rfl, hP, hK, hSt, hNw⟩ := hv
  have hx := B.exec
  have hb := B.bytes
  have hr := B.returns
  have hts := atoms_spec (ws := wsX11_assigns) B.pre
  have hown : s.vm.findClass RX11 = some m.cls := findClass_of_methodNamed B.named
  have hlocks := B.notSynchronized
  have hS : va_S (mA ad s.heap.size) s.heap s.heap [] := va_S.rf
  have inX11 : ∀ w ∈ u_ws RX11 TX11 30, w ∈ wsX11_assigns := by decide +kernel
  have lk0 := hts (.fieldLink RX11 9 "FormationPlannerModel" "s" "[I") (by decide +kernel)
  have lk1 := hts (.fieldLink RX11 139 "FormationPlannerModel" "assignments" "I") (by decide +kernel)
  have hl := lv_entry ([.ref (ad 0)]) (n := 1) (Nat.le_of_ble_eq_true rfl)
  rw [lg_entry_eq]
  generalize (lg_sl ([.ref (ad 0)]) ++ List.replicate (1 - (lg_sl ([.ref (ad 0)])).length) Slot.unset).toArray = ls at hl ⊢
  have hl : lv_has ls 1 [(0, .ref (ad 0))] := hl
  obtain ⟨Q, hQ⟩ : ∃ Q, Q = MQ below (va_Qi (fun (r : Int32) (u : gIv × gAr) => r.toInt = 0 ∧ ((u.1 0 14).toInt = 1 ∧ (u.1 0 11).toInt = 0 ∧ (u.1 0 12).toInt = 0 ∧ (u.1 0 13).toInt = 1) ∧ (∀ a b, ¬ (a = 0 ∧ (b = 14 ∨ b = 11 ∨ b = 12 ∨ b = 13)) → u.1 a b = iv a b) ∧ ∀ a, u.2 a = ar a) (mPost D cy ad) (mA ad s.heap.size)) (([.ref (ad 0)] : List Value).toArray) s 0 0 (mA ad s.heap.size) := ⟨_, rfl⟩
  rw [← hQ]
  refine lv_aload_n hx hb dX11_assigns_0 rfl (lv_at hl 0 rfl) ?_
  refine va_get (D := D) (ci := 11) (v := .ref (ad 1)) (C := RX11) (T := TX11) (N := 30) hx hb hts inX11 hown hK hP 0 (m_at11 (Nat.le_of_ble_eq_true rfl) rfl) rfl 0 (by decide) lk0 (fun _ h9 => h9) rfl dX11_assigns_1 ?_
  refine lv_bipush (v := 111) hx hb dX11_assigns_4 (by decide) ?_
  refine va_iald hx hb hK hP 1 0 (m_at12 (Nat.le_of_ble_eq_true rfl) rfl) rfl (g_in (N := 126) (show (111 : Int32).toInt = (111 : Int) from rfl) rfl (by omega) (by omega)) dX11_assigns_6 ?_
  refine lv_topi (fun v_1 ev_1 => ?_)
  refine lv_aload_n hx hb dX11_assigns_7 rfl (lv_at hl 0 rfl) ?_
  refine va_get (D := D) (ci := 11) (v := .ref (ad 1)) (C := RX11) (T := TX11) (N := 30) hx hb hts inX11 hown hK hP 0 (m_at11 (Nat.le_of_ble_eq_true rfl) rfl) rfl 0 (by decide) lk0 (fun _ h9 => h9) rfl dX11_assigns_8 ?_
  refine lv_bipush (v := 118) hx hb dX11_assigns_11 (by decide) ?_
  refine va_iald hx hb hK hP 1 0 (m_at12 (Nat.le_of_ble_eq_true rfl) rfl) rfl (g_in (N := 126) (show (118 : Int32).toInt = (118 : Int) from rfl) rfl (by omega) (by omega)) dX11_assigns_13 ?_
  refine lv_topi (fun v_2 ev_2 => ?_)
  refine lv_icmp_eq (tgt := 20) hx hb dX11_assigns_14 (by decide) (fun c_3 => ?_) (fun c_3 => ?_)
  · skip
    have q_3 : (0 : Int) = (0 : Int) := i_eq2 (show v_1.toInt = (0 : Int) from by rw [ev_1]; exact h1) (show v_2.toInt = (0 : Int) from by rw [ev_2]; exact h2) c_3
    refine lv_aload_n hx hb dX11_assigns_20 rfl (lv_at hl 0 rfl) ?_
    refine lv_iconst (v := 0) hx hb dX11_assigns_21 (by decide) ?_
    refine va_put (D := D) (ci := 11) (v := .int 0) (ty := .int) (C := RX11) (T := TX11) (N := 30) hx hb hts inX11 tyX11 tyX11_ok nmX11 hown hK hP (mD hI) hS 0 (m_at11 (Nat.le_of_ble_eq_true rfl) rfl) rfl 14 (by decide) lk1 (fun _ h9 => h9) rfl (by decide +kernel) rfl rfl (Nat.le_of_ble_eq_true rfl) dX11_assigns_22 (fun H locs hP _ hS => ?_)
    have hP : va_P D vwCl (MW cy ad (u2 iv 0 14 0) ar) H := by rw [← m_pt11_14 (Nat.le_of_ble_eq_true rfl) rfl]; exact hP
    obtain ⟨iv_4, eiv_4⟩ : ∃ z : gIv, z = u2 iv 0 14 0 := ⟨_, rfl⟩
    rw [← eiv_4] at hP
    refine lv_aload_n hx hb dX11_assigns_25 rfl (lv_at hl 0 rfl) ?_
    refine lv_iconst (v := 0) hx hb dX11_assigns_26 (by decide) ?_
    refine lv_iconst (v := 0) hx hb dX11_assigns_27 (by decide) ?_
    refine lv_iconst (v := 0) hx hb dX11_assigns_28 (by decide) ?_
    refine lv_iconst (v := 0) hx hb dX11_assigns_29 (by decide) ?_
    have f_5 : iv_4 0 14 = 0 := by rw [eiv_4]; exact u2_s _ _ _ _
    have hh1 := h1
    have hh14 : (iv_4 0 14).toInt = 0 := ((congrArg Int32.toInt f_5).trans (show (0 : Int32).toInt = (0 : Int) from rfl))
    have zl_6 : (0 : Int32).toInt = (0 : Int) := rfl
    have zl_7 : (0 : Int32).toInt = (0 : Int) := rfl
    have zl_8 : (0 : Int32).toInt = (0 : Int) := rfl
    have zl_9 : (0 : Int32).toInt = (0 : Int) := rfl
    refine m_callv (va_runV (As := [.int 0, .int 0, .int 0, .int 0]) (rest := []) ⟨hx, hb, hml, hown, hts⟩ (c0_tries l D cy ad hI _ iv_4 ar 0 0 0 0 hh1 hh14 ⟨rfl, rfl, rfl⟩) (cwV 4 hts gX11_assigns_X11_tries rfl rfl rfl (by decide +kernel) ⟨Nat.le_of_ble_eq_true rfl, Nat.le_of_ble_eq_true rfl⟩) (m_preV hP hK hSt hNw hS (m_at11 (Nat.le_of_ble_eq_true rfl) rfl) rfl) rfl rfl hl.1 rfl (lv_room (Nat.le_of_ble_eq_true rfl)) dX11_assigns_30 ⟨Nat.zero_le _, Nat.zero_le _⟩) hS (fun iv_10 ar_10 H locs w_10 hP hS => ?_)
    try dsimp only at w_10
    have ht14 : (iv_10 0 14).toInt = 1 := w_10.1.1
    refine lv_aload_n hx hb dX11_assigns_33 rfl (lv_at hl 0 rfl) ?_
    refine va_get (D := D) (ci := 11) (v := .int (iv_10 0 14)) (C := RX11) (T := TX11) (N := 30) hx hb hts inX11 hown hK hP 0 (m_at11 (Nat.le_of_ble_eq_true rfl) rfl) rfl 14 (by decide) lk1 (fun _ h9 => h9) rfl dX11_assigns_34 ?_
    refine lv_if_ne (tgt := 45) hx hb dX11_assigns_37 (by decide) (fun c_11 => ?_) (fun c_11 => ?_)
    · skip
      have q_11 : (iv_10 0 14).toInt ≠ (0 : Int) := i_ne2 (rfl : (iv_10 0 14).toInt = (iv_10 0 14).toInt) (show (0 : Int32).toInt = (0 : Int) from rfl) c_11
      refine lv_iconst (v := 0) hx hb dX11_assigns_45 (by decide) ?_
      rw [hQ]
      exact W.iret (v := 0) hx hb hr (fun t ht hW => ⟨⟨0, (iv_10, ar_10), rfl, ⟨by have z0 := i_l0; omega, w_10.1, fun a b h => by show iv_10 a b = iv a b; rw [w_10.2.1 a b (by omega)]; rw [eiv_4, u2_o (by omega)], w_10.2.2⟩, by show va_P _ _ _ _; rw [ht]; exact hP⟩, hS.F ht⟩) hS.2.2 dX11_assigns_46
    · skip
      have q_11 : (iv_10 0 14).toInt = (0 : Int) := i_eq2 (rfl : (iv_10 0 14).toInt = (iv_10 0 14).toInt) (show (0 : Int32).toInt = (0 : Int) from rfl) c_11
      refine lv_bipush (v := (-6)) hx hb dX11_assigns_40 (by decide) ?_
      refine lv_goto (tgt := 46) hx hb dX11_assigns_42 (by decide) ?_
      rw [hQ]
      exact W.iret (v := (-6)) hx hb hr (fun t ht hW => ⟨⟨(-6), (iv_10, ar_10), rfl, ⟨by have z0 := i_l0; omega, w_10.1, fun a b h => by show iv_10 a b = iv a b; rw [w_10.2.1 a b (by omega)]; rw [eiv_4, u2_o (by omega)], w_10.2.2⟩, by show va_P _ _ _ _; rw [ht]; exact hP⟩, hS.F ht⟩) hS.2.2 dX11_assigns_46
  · skip
    have q_3 : (0 : Int) ≠ (0 : Int) := i_ne2 (show v_1.toInt = (0 : Int) from by rw [ev_1]; exact h1) (show v_2.toInt = (0 : Int) from by rw [ev_2]; exact h2) c_3
    exfalso; omega
set_option maxHeartbeats 4000000 in
set_option maxRecDepth 100000 in
theorem f_X11_assignment (l : Launch) (D : va_G) (cy : Nat → ClassId) (ad : Nat → Nat) (hI : mInj ad) (sz : Nat) (iv : gIv) (ar : gAr) (a : Int32) (hF_iv : mFr iv ar) : Met l yX11_assignment wsX11_assignment ({ frames := 2, cells := 0, slots := 0, locals := 46 } : Room) (va_Pc [.ref (ad 0), .int a] (mPre D cy ad sz iv ar)) (va_Qi (fun (r : Int32) (u : gIv × gAr) => (¬ (0 ≤ a.toInt ∧ a.toInt ≤ 3) ∧ r.toInt = -2) ∨ (0 ≤ a.toInt ∧ a.toInt ≤ 1 ∧ r.toInt = 0) ∨ (2 ≤ a.toInt ∧ a.toInt ≤ 3 ∧ r.toInt = 1)) (mPost D cy ad) (mA ad sz)) 0 0 (mA ad sz) := by
  refine Met.ofW (cc := cX11_assignment) (maxL := 3) (ret := (some .int)) (by decide) rfl ?_
  intro p e s m args below meth c s₁ B hml hv
  obtain ⟨rfl, rfl, hP, hK, hSt, hNw⟩ := hv
  have hx := B.exec
  have hb := B.bytes
  have hr := B.returns
  have hts := atoms_spec (ws := wsX11_assignment) B.pre
  have hown : s.vm.findClass RX11 = some m.cls := findClass_of_methodNamed B.named
  have hlocks := B.notSynchronized
  have hS : va_S (mA ad s.heap.size) s.heap s.heap [] := va_S.rf
  have inX11 : ∀ w ∈ u_ws RX11 TX11 30, w ∈ wsX11_assignment := by decide +kernel
  have lk0 := hts (.fieldLink RX11 139 "FormationPlannerModel" "assignments" "I") (by decide +kernel)
  have lk1 := hts (.fieldLink RX11 148 "FormationPlannerModel" "withGreatest" "I") (by decide +kernel)
  have lk2 := hts (.fieldLink RX11 145 "FormationPlannerModel" "sum" "I") (by decide +kernel)
  have lk3 := hts (.fieldLink RX11 142 "FormationPlannerModel" "greatest" "I") (by decide +kernel)
  have hl := lv_entry ([.ref (ad 0), .int a]) (n := 3) (Nat.le_of_ble_eq_true rfl)
  rw [lg_entry_eq]
  generalize (lg_sl ([.ref (ad 0), .int a]) ++ List.replicate (3 - (lg_sl ([.ref (ad 0), .int a])).length) Slot.unset).toArray = ls at hl ⊢
  have hl : lv_has ls 3 [(0, .ref (ad 0)), (1, .int a)] := hl
  obtain ⟨Q, hQ⟩ : ∃ Q, Q = MQ below (va_Qi (fun (r : Int32) (u : gIv × gAr) => (¬ (0 ≤ a.toInt ∧ a.toInt ≤ 3) ∧ r.toInt = -2) ∨ (0 ≤ a.toInt ∧ a.toInt ≤ 1 ∧ r.toInt = 0) ∨ (2 ≤ a.toInt ∧ a.toInt ≤ 3 ∧ r.toInt = 1)) (mPost D cy ad) (mA ad s.heap.size)) (([.ref (ad 0), .int a] : List Value).toArray) s 0 0 (mA ad s.heap.size) := ⟨_, rfl⟩
  rw [← hQ]
  refine lv_iload_n hx hb dX11_assignment_0 rfl (lv_at hl 1 rfl) ?_
  refine lv_iconst (v := 0) hx hb dX11_assignment_1 (by decide) ?_
  refine lv_iconst (v := 3) hx hb dX11_assignment_2 (by decide) ?_
  have zl_1 : (0 : Int32).toInt = (0 : Int) := rfl
  have zl_2 : (3 : Int32).toInt = (3 : Int) := rfl
  refine g_callSi (va_runS (As := [.int a, .int 0, .int 3]) (rest := []) ⟨hx, hb, hml, hown, hts⟩ (c_X11_isIn l a 0 3) (va_cwS 3 hts gX11_assignment_X11_isIn rfl rfl rfl (by decide +kernel) ⟨Nat.le_of_ble_eq_true rfl, Nat.le_of_ble_eq_true rfl⟩) (g_preT) rfl rfl hl.1 rfl (lv_room (Nat.le_of_ble_eq_true rfl)) dX11_assignment_3 ⟨Nat.zero_le _, Nat.zero_le _⟩) (fun r_3 w_3 => ?_)
  try dsimp only at w_3
  refine lv_if_ne (tgt := 12) hx hb dX11_assignment_6 (by decide) (fun c_4 => ?_) (fun c_4 => ?_)
  · skip
    have q_4 : r_3.toInt ≠ (0 : Int) := i_ne2 (rfl : r_3.toInt = r_3.toInt) (show (0 : Int32).toInt = (0 : Int) from rfl) c_4
    refine lv_aload_n hx hb dX11_assignment_12 rfl (lv_at hl 0 rfl) ?_
    refine m_calli (va_runV (As := []) (rest := []) ⟨hx, hb, hml, hown, hts⟩ (c0_assigns l D cy ad hI _ iv ar (mra hF_iv 1 111 (by decide)) (mra hF_iv 1 118 (by decide))) (cwV 0 hts gX11_assignment_X11_assigns rfl rfl rfl (by decide +kernel) ⟨Nat.le_of_ble_eq_true rfl, Nat.le_of_ble_eq_true rfl⟩) (m_preV hP hK hSt hNw hS (m_at11 (Nat.le_of_ble_eq_true rfl) rfl) rfl) rfl rfl hl.1 rfl (lv_room (Nat.le_of_ble_eq_true rfl)) dX11_assignment_13 ⟨Nat.zero_le _, Nat.zero_le _⟩) hS (fun r_5 iv_5 ar_5 H locs w_5 hP hS => ?_)
    try dsimp only at w_5
    have z_5 : r_5.toInt = 0 := w_5.1
    obtain ⟨_, ⟨wq1, wq2, wq3, wq4⟩, _, _⟩ := w_5
    refine lv_istore_n (lv' := [(2, .int r_5), (0, .ref (ad 0)), (1, .int a)]) hx hb dX11_assignment_16 rfl hl (by decide) rfl (fun ls hl => ?_)
    refine lv_iload_n hx hb dX11_assignment_17 rfl (lv_at hl 0 rfl) ?_
    refine lv_if_eq (tgt := 25) hx hb dX11_assignment_18 (by decide) (fun c_6 => ?_) (fun c_6 => ?_)
    · skip
      have q_6 : (0 : Int) = (0 : Int) := i_eq2 z_5 (show (0 : Int32).toInt = (0 : Int) from rfl) c_6
      refine lv_iload_n hx hb dX11_assignment_25 rfl (lv_at hl 2 rfl) ?_
      refine lv_if_ne (tgt := 36) hx hb dX11_assignment_26 (by decide) (fun c_7 => ?_) (fun c_7 => ?_)
      · skip
        have q_7 : a.toInt ≠ (0 : Int) := i_ne2 (rfl : a.toInt = a.toInt) (show (0 : Int32).toInt = (0 : Int) from rfl) c_7
        refine lv_iload_n hx hb dX11_assignment_36 rfl (lv_at hl 2 rfl) ?_
        refine lv_iconst (v := 1) hx hb dX11_assignment_37 (by decide) ?_
        refine lv_icmp_ne (tgt := 48) hx hb dX11_assignment_38 (by decide) (fun c_8 => ?_) (fun c_8 => ?_)
        · skip
          have q_8 : a.toInt ≠ (1 : Int) := i_ne2 (rfl : a.toInt = a.toInt) (show (1 : Int32).toInt = (1 : Int) from rfl) c_8
          refine lv_iload_n hx hb dX11_assignment_48 rfl (lv_at hl 2 rfl) ?_
          refine lv_iconst (v := 2) hx hb dX11_assignment_49 (by decide) ?_
          refine lv_icmp_ne (tgt := 60) hx hb dX11_assignment_50 (by decide) (fun c_9 => ?_) (fun c_9 => ?_)
          · skip
            have q_9 : a.toInt ≠ (2 : Int) := i_ne2 (rfl : a.toInt = a.toInt) (show (2 : Int32).toInt = (2 : Int) from rfl) c_9
            refine lv_aload_n hx hb dX11_assignment_60 rfl (lv_at hl 1 rfl) ?_
            refine va_get (D := D) (ci := 11) (v := .int (iv_5 0 14)) (C := RX11) (T := TX11) (N := 30) hx hb hts inX11 hown hK hP 0 (m_at11 (Nat.le_of_ble_eq_true rfl) rfl) rfl 14 (by decide) lk0 (fun _ h9 => h9) rfl dX11_assignment_61 ?_
            rw [hQ]
            exact W.iret (v := (iv_5 0 14)) hx hb hr (fun t ht hW => ⟨⟨(iv_5 0 14), (iv_5, ar_5), rfl, by have zr : (iv_5 0 14).toInt = (iv_5 0 14).toInt := (rfl : (iv_5 0 14).toInt = (iv_5 0 14).toInt); have z0 := i_l0; have z1 := i_l1; omega, by show va_P _ _ _ _; rw [ht]; exact hP⟩, hS.F ht⟩) hS.2.2 dX11_assignment_64
          · skip
            have q_9 : a.toInt = (2 : Int) := i_eq2 (rfl : a.toInt = a.toInt) (show (2 : Int32).toInt = (2 : Int) from rfl) c_9
            refine lv_aload_n hx hb dX11_assignment_53 rfl (lv_at hl 1 rfl) ?_
            refine va_get (D := D) (ci := 11) (v := .int (iv_5 0 13)) (C := RX11) (T := TX11) (N := 30) hx hb hts inX11 hown hK hP 0 (m_at11 (Nat.le_of_ble_eq_true rfl) rfl) rfl 13 (by decide) lk1 (fun _ h9 => h9) rfl dX11_assignment_54 ?_
            refine lv_goto (tgt := 64) hx hb dX11_assignment_57 (by decide) ?_
            rw [hQ]
            exact W.iret (v := (iv_5 0 13)) hx hb hr (fun t ht hW => ⟨⟨(iv_5 0 13), (iv_5, ar_5), rfl, by have zr : (iv_5 0 13).toInt = (iv_5 0 13).toInt := (rfl : (iv_5 0 13).toInt = (iv_5 0 13).toInt); have z0 := i_l0; have z1 := i_l1; omega, by show va_P _ _ _ _; rw [ht]; exact hP⟩, hS.F ht⟩) hS.2.2 dX11_assignment_64
        · skip
          have q_8 : a.toInt = (1 : Int) := i_eq2 (rfl : a.toInt = a.toInt) (show (1 : Int32).toInt = (1 : Int) from rfl) c_8
          refine lv_aload_n hx hb dX11_assignment_41 rfl (lv_at hl 1 rfl) ?_
          refine va_get (D := D) (ci := 11) (v := .int (iv_5 0 12)) (C := RX11) (T := TX11) (N := 30) hx hb hts inX11 hown hK hP 0 (m_at11 (Nat.le_of_ble_eq_true rfl) rfl) rfl 12 (by decide) lk2 (fun _ h9 => h9) rfl dX11_assignment_42 ?_
          refine lv_goto (tgt := 64) hx hb dX11_assignment_45 (by decide) ?_
          rw [hQ]
          exact W.iret (v := (iv_5 0 12)) hx hb hr (fun t ht hW => ⟨⟨(iv_5 0 12), (iv_5, ar_5), rfl, by have zr : (iv_5 0 12).toInt = (iv_5 0 12).toInt := (rfl : (iv_5 0 12).toInt = (iv_5 0 12).toInt); have z0 := i_l0; have z1 := i_l1; omega, by show va_P _ _ _ _; rw [ht]; exact hP⟩, hS.F ht⟩) hS.2.2 dX11_assignment_64
      · skip
        have q_7 : a.toInt = (0 : Int) := i_eq2 (rfl : a.toInt = a.toInt) (show (0 : Int32).toInt = (0 : Int) from rfl) c_7
        refine lv_aload_n hx hb dX11_assignment_29 rfl (lv_at hl 1 rfl) ?_
        refine va_get (D := D) (ci := 11) (v := .int (iv_5 0 11)) (C := RX11) (T := TX11) (N := 30) hx hb hts inX11 hown hK hP 0 (m_at11 (Nat.le_of_ble_eq_true rfl) rfl) rfl 11 (by decide) lk3 (fun _ h9 => h9) rfl dX11_assignment_30 ?_
        refine lv_goto (tgt := 64) hx hb dX11_assignment_33 (by decide) ?_
        rw [hQ]
        exact W.iret (v := (iv_5 0 11)) hx hb hr (fun t ht hW => ⟨⟨(iv_5 0 11), (iv_5, ar_5), rfl, by have zr : (iv_5 0 11).toInt = (iv_5 0 11).toInt := (rfl : (iv_5 0 11).toInt = (iv_5 0 11).toInt); have z0 := i_l0; have z1 := i_l1; omega, by show va_P _ _ _ _; rw [ht]; exact hP⟩, hS.F ht⟩) hS.2.2 dX11_assignment_64
    · skip
      have q_6 : (0 : Int) ≠ (0 : Int) := i_ne2 z_5 (show (0 : Int32).toInt = (0 : Int) from rfl) c_6
      exfalso; omega
  · skip
    have q_4 : r_3.toInt = (0 : Int) := i_eq2 (rfl : r_3.toInt = r_3.toInt) (show (0 : Int32).toInt = (0 : Int) from rfl) c_4
    refine lv_bipush (v := (-2)) hx hb dX11_assignment_9 (by decide) ?_
    rw [hQ]
    exact W.iret (v := (-2)) hx hb hr (fun t ht hW => ⟨⟨(-2), (iv, ar), rfl, by have zr : ((-2) : Int32).toInt = (-2 : Int) := (show ((-2) : Int32).toInt = (-2 : Int) from rfl); have z0 := i_l0; have z1 := i_l1; omega, by show va_P _ _ _ _; rw [ht]; exact hP⟩, hS.F ht⟩) hS.2.2 dX11_assignment_11
set_option maxHeartbeats 4000000 in
set_option maxRecDepth 100000 in
theorem f_X11_greatestWith (l : Launch) (D : va_G) (cy : Nat → ClassId) (ad : Nat → Nat) (hI : mInj ad) (sz : Nat) (iv : gIv) (ar : gAr) (a : Int32) (b : Int32) (hF_iv : mFr iv ar) : Met l yX11_greatestWith wsX11_greatestWith ({ frames := 2, cells := 0, slots := 0, locals := 46 } : Room) (va_Pc [.ref (ad 0), .int a, .int b] (mPre D cy ad sz iv ar)) (va_Qi (fun (r : Int32) (u : gIv × gAr) => (0 ≤ a.toInt ∧ a.toInt < 3 ∧ 0 ≤ b.toInt ∧ b.toInt < 5) ∧ r.toInt = 0 ∨ ¬ (0 ≤ a.toInt ∧ a.toInt < 3 ∧ 0 ≤ b.toInt ∧ b.toInt < 5) ∧ r.toInt = -2) (mPost D cy ad) (mA ad sz)) 0 0 (mA ad sz) := by
  refine Met.ofW (cc := cX11_greatestWith) (maxL := 5) (ret := (some .int)) (by decide) rfl ?_
  intro p e s m args below meth c s₁ B hml hv
  obtain ⟨rfl, rfl, hP, hK, hSt, hNw⟩ := hv
  have hx := B.exec
  have hb := B.bytes
  have hr := B.returns
  have hts := atoms_spec (ws := wsX11_greatestWith) B.pre
  have hown : s.vm.findClass RX11 = some m.cls := findClass_of_methodNamed B.named
  have hlocks := B.notSynchronized
  have hS : va_S (mA ad s.heap.size) s.heap s.heap [] := va_S.rf
  have inX11 : ∀ w ∈ u_ws RX11 TX11 30, w ∈ wsX11_greatestWith := by decide +kernel
  have lk0 := hts (.fieldLink RX11 9 "FormationPlannerModel" "s" "[I") (by decide +kernel)
  have lk1 := hts (.fieldLink RX11 142 "FormationPlannerModel" "greatest" "I") (by decide +kernel)
  have hl := lv_entry ([.ref (ad 0), .int a, .int b]) (n := 5) (Nat.le_of_ble_eq_true rfl)
  rw [lg_entry_eq]
  generalize (lg_sl ([.ref (ad 0), .int a, .int b]) ++ List.replicate (5 - (lg_sl ([.ref (ad 0), .int a, .int b])).length) Slot.unset).toArray = ls at hl ⊢
  have hl : lv_has ls 5 [(0, .ref (ad 0)), (1, .int a), (2, .int b)] := hl
  obtain ⟨Q, hQ⟩ : ∃ Q, Q = MQ below (va_Qi (fun (r : Int32) (u : gIv × gAr) => (0 ≤ a.toInt ∧ a.toInt < 3 ∧ 0 ≤ b.toInt ∧ b.toInt < 5) ∧ r.toInt = 0 ∨ ¬ (0 ≤ a.toInt ∧ a.toInt < 3 ∧ 0 ≤ b.toInt ∧ b.toInt < 5) ∧ r.toInt = -2) (mPost D cy ad) (mA ad s.heap.size)) (([.ref (ad 0), .int a, .int b] : List Value).toArray) s 0 0 (mA ad s.heap.size) := ⟨_, rfl⟩
  rw [← hQ]
  refine lv_iload_n hx hb dX11_greatestWith_0 rfl (lv_at hl 1 rfl) ?_
  refine lv_iconst (v := 0) hx hb dX11_greatestWith_1 (by decide) ?_
  refine lv_iconst (v := 2) hx hb dX11_greatestWith_2 (by decide) ?_
  have zl_1 : (0 : Int32).toInt = (0 : Int) := rfl
  have zl_2 : (2 : Int32).toInt = (2 : Int) := rfl
  refine g_callSi (va_runS (As := [.int a, .int 0, .int 2]) (rest := []) ⟨hx, hb, hml, hown, hts⟩ (c_X11_isIn l a 0 2) (va_cwS 3 hts gX11_greatestWith_X11_isIn rfl rfl rfl (by decide +kernel) ⟨Nat.le_of_ble_eq_true rfl, Nat.le_of_ble_eq_true rfl⟩) (g_preT) rfl rfl hl.1 rfl (lv_room (Nat.le_of_ble_eq_true rfl)) dX11_greatestWith_3 ⟨Nat.zero_le _, Nat.zero_le _⟩) (fun r_3 w_3 => ?_)
  try dsimp only at w_3
  refine lv_if_eq (tgt := 18) hx hb dX11_greatestWith_6 (by decide) (fun c_4 => ?_) (fun c_4 => ?_)
  · skip
    have q_4 : r_3.toInt = (0 : Int) := i_eq2 (rfl : r_3.toInt = r_3.toInt) (show (0 : Int32).toInt = (0 : Int) from rfl) c_4
    refine lv_bipush (v := (-2)) hx hb dX11_greatestWith_18 (by decide) ?_
    rw [hQ]
    exact W.iret (v := (-2)) hx hb hr (fun t ht hW => ⟨⟨(-2), (iv, ar), rfl, by have zr : ((-2) : Int32).toInt = (-2 : Int) := (show ((-2) : Int32).toInt = (-2 : Int) from rfl); have z0 := i_l0; have z1 := i_l1; omega, by show va_P _ _ _ _; rw [ht]; exact hP⟩, hS.F ht⟩) hS.2.2 dX11_greatestWith_20
  · skip
    have q_4 : r_3.toInt ≠ (0 : Int) := i_ne2 (rfl : r_3.toInt = r_3.toInt) (show (0 : Int32).toInt = (0 : Int) from rfl) c_4
    refine lv_iload_n hx hb dX11_greatestWith_9 rfl (lv_at hl 2 rfl) ?_
    refine lv_iconst (v := 0) hx hb dX11_greatestWith_10 (by decide) ?_
    refine lv_iconst (v := 4) hx hb dX11_greatestWith_11 (by decide) ?_
    have zl_5 : (0 : Int32).toInt = (0 : Int) := rfl
    have zl_6 : (4 : Int32).toInt = (4 : Int) := rfl
    refine g_callSi (va_runS (As := [.int b, .int 0, .int 4]) (rest := []) ⟨hx, hb, hml, hown, hts⟩ (c_X11_isIn l b 0 4) (va_cwS 3 hts gX11_greatestWith_X11_isIn rfl rfl rfl (by decide +kernel) ⟨Nat.le_of_ble_eq_true rfl, Nat.le_of_ble_eq_true rfl⟩) (g_preT) rfl rfl hl.1 rfl (lv_room (Nat.le_of_ble_eq_true rfl)) dX11_greatestWith_12 ⟨Nat.zero_le _, Nat.zero_le _⟩) (fun r_7 w_7 => ?_)
    try dsimp only at w_7
    refine lv_if_ne (tgt := 21) hx hb dX11_greatestWith_15 (by decide) (fun c_8 => ?_) (fun c_8 => ?_)
    · skip
      have q_8 : r_7.toInt ≠ (0 : Int) := i_ne2 (rfl : r_7.toInt = r_7.toInt) (show (0 : Int32).toInt = (0 : Int) from rfl) c_8
      refine lv_aload_n hx hb dX11_greatestWith_21 rfl (lv_at hl 0 rfl) ?_
      refine va_get (D := D) (ci := 11) (v := .ref (ad 1)) (C := RX11) (T := TX11) (N := 30) hx hb hts inX11 hown hK hP 0 (m_at11 (Nat.le_of_ble_eq_true rfl) rfl) rfl 0 (by decide) lk0 (fun _ h9 => h9) rfl dX11_greatestWith_22 ?_
      refine lv_iconst (v := 0) hx hb dX11_greatestWith_25 (by decide) ?_
      refine lv_iload_n hx hb dX11_greatestWith_26 rfl (lv_at hl 1 rfl) ?_
      refine lv_iadd hx hb dX11_greatestWith_27 ?_
      refine lv_topi (fun v_9 ev_9 => ?_)
      have tv_9 : v_9.toInt = (0 : Int) + a.toInt := i_add (show (0 : Int32).toInt = (0 : Int) from rfl) (rfl : a.toInt = a.toInt) (by omega) (by omega) ev_9
      refine va_iald hx hb hK hP 1 0 (m_at12 (Nat.le_of_ble_eq_true rfl) rfl) rfl (g_in (N := 126) (rfl : v_9.toInt = v_9.toInt) rfl (by omega) (by omega)) dX11_greatestWith_28 ?_
      refine lv_topi (fun v_10 ev_10 => ?_)
      refine lv_istore_n (lv' := [(3, .int v_10), (0, .ref (ad 0)), (1, .int a), (2, .int b)]) hx hb dX11_greatestWith_29 rfl hl (by decide) rfl (fun ls hl => ?_)
      refine lv_aload_n hx hb dX11_greatestWith_30 rfl (lv_at hl 1 rfl) ?_
      refine va_get (D := D) (ci := 11) (v := .ref (ad 1)) (C := RX11) (T := TX11) (N := 30) hx hb hts inX11 hown hK hP 0 (m_at11 (Nat.le_of_ble_eq_true rfl) rfl) rfl 0 (by decide) lk0 (fun _ h9 => h9) rfl dX11_greatestWith_31 ?_
      refine lv_iconst (v := 0) hx hb dX11_greatestWith_34 (by decide) ?_
      refine lv_iload_n hx hb dX11_greatestWith_35 rfl (lv_at hl 2 rfl) ?_
      refine lv_iadd hx hb dX11_greatestWith_36 ?_
      refine lv_topi (fun v_11 ev_11 => ?_)
      have tv_11 : v_11.toInt = (0 : Int) + a.toInt := i_add (show (0 : Int32).toInt = (0 : Int) from rfl) (rfl : a.toInt = a.toInt) (by omega) (by omega) ev_11
      refine lv_iload_n hx hb dX11_greatestWith_37 rfl (lv_at hl 3 rfl) ?_
      refine va_iast hx hb hK hP (mD hI) hS 1 0 (m_at12 (Nat.le_of_ble_eq_true rfl) rfl) rfl (g_in (N := 126) (rfl : v_11.toInt = v_11.toInt) rfl (by omega) (by omega)) dX11_greatestWith_38 (fun H locs hP _ hS => ?_)
      rw [m_pt12 (Nat.le_of_ble_eq_true rfl) rfl] at hP
      obtain ⟨ar_12, ear_12⟩ : ∃ z : gAr, z = va_up ar 1 (upd (ar 1) v_11.toNatClampNeg b) := ⟨_, rfl⟩
      rw [← ear_12] at hP
      refine lv_aload_n hx hb dX11_greatestWith_39 rfl (lv_at hl 1 rfl) ?_
      refine m_callv (va_runV (As := []) (rest := []) ⟨hx, hb, hml, hown, hts⟩ (c_X11_forgets l D cy ad hI _ iv ar_12) (cwV 0 hts gX11_greatestWith_X11_forgets rfl rfl rfl (by decide +kernel) ⟨Nat.le_of_ble_eq_true rfl, Nat.le_of_ble_eq_true rfl⟩) (m_preV hP hK hSt hNw hS (m_at11 (Nat.le_of_ble_eq_true rfl) rfl) rfl) rfl rfl hl.1 rfl (lv_room (Nat.le_of_ble_eq_true rfl)) dX11_greatestWith_40 ⟨Nat.zero_le _, Nat.zero_le _⟩) hS (fun iv_13 ar_13 H locs w_13 hP hS => ?_)
      try dsimp only at w_13
      have hd1 : (ar_13 1 111).toInt = 0 := by rw [w_13.2 1 (by omega), ear_12, ua_s, g_un (show (111 : Nat) ≠ _ from by rw [g_cN (rfl : v_11.toInt = v_11.toInt)]; omega)]; exact mra hF_iv 1 111 (by decide)
      have hd2 : (ar_13 1 118).toInt = 0 := by rw [w_13.2 1 (by omega), ear_12, ua_s, g_un (show (118 : Nat) ≠ _ from by rw [g_cN (rfl : v_11.toInt = v_11.toInt)]; omega)]; exact mra hF_iv 1 118 (by decide)
      refine lv_aload_n hx hb dX11_greatestWith_43 rfl (lv_at hl 1 rfl) ?_
      refine m_calli (va_runV (As := []) (rest := []) ⟨hx, hb, hml, hown, hts⟩ (c0_assigns l D cy ad hI _ iv_13 ar_13 hd1 hd2) (cwV 0 hts gX11_greatestWith_X11_assigns rfl rfl rfl (by decide +kernel) ⟨Nat.le_of_ble_eq_true rfl, Nat.le_of_ble_eq_true rfl⟩) (m_preV hP hK hSt hNw hS (m_at11 (Nat.le_of_ble_eq_true rfl) rfl) rfl) rfl rfl hl.1 rfl (lv_room (Nat.le_of_ble_eq_true rfl)) dX11_greatestWith_44 ⟨Nat.zero_le _, Nat.zero_le _⟩) hS (fun r_14 iv_14 ar_14 H locs w_14 hP hS => ?_)
      try dsimp only at w_14
      have z_14 : r_14.toInt = 0 := w_14.1
      have wq := w_14.2.1.2.1
      refine lv_istore (lv' := [(4, .int r_14), (3, .int v_10), (0, .ref (ad 0)), (1, .int a), (2, .int b)]) hx hb dX11_greatestWith_47 hl (by decide) rfl (fun ls hl => ?_)
      refine lv_aload_n hx hb dX11_greatestWith_49 rfl (lv_at hl 2 rfl) ?_
      refine va_get (D := D) (ci := 11) (v := .ref (ad 1)) (C := RX11) (T := TX11) (N := 30) hx hb hts inX11 hown hK hP 0 (m_at11 (Nat.le_of_ble_eq_true rfl) rfl) rfl 0 (by decide) lk0 (fun _ h9 => h9) rfl dX11_greatestWith_50 ?_
      refine lv_iconst (v := 0) hx hb dX11_greatestWith_53 (by decide) ?_
      refine lv_iload_n hx hb dX11_greatestWith_54 rfl (lv_at hl 3 rfl) ?_
      refine lv_iadd hx hb dX11_greatestWith_55 ?_
      refine lv_topi (fun v_15 ev_15 => ?_)
      have tv_15 : v_15.toInt = (0 : Int) + a.toInt := i_add (show (0 : Int32).toInt = (0 : Int) from rfl) (rfl : a.toInt = a.toInt) (by omega) (by omega) ev_15
      refine lv_iload_n hx hb dX11_greatestWith_56 rfl (lv_at hl 1 rfl) ?_
      refine va_iast hx hb hK hP (mD hI) hS 1 0 (m_at12 (Nat.le_of_ble_eq_true rfl) rfl) rfl (g_in (N := 126) (rfl : v_15.toInt = v_15.toInt) rfl (by omega) (by omega)) dX11_greatestWith_57 (fun H locs hP _ hS => ?_)
      rw [m_pt12 (Nat.le_of_ble_eq_true rfl) rfl] at hP
      obtain ⟨ar_16, ear_16⟩ : ∃ z : gAr, z = va_up ar_14 1 (upd (ar_14 1) v_15.toNatClampNeg v_10) := ⟨_, rfl⟩
      rw [← ear_16] at hP
      refine lv_aload_n hx hb dX11_greatestWith_58 rfl (lv_at hl 2 rfl) ?_
      refine m_callv (va_runV (As := []) (rest := []) ⟨hx, hb, hml, hown, hts⟩ (c_X11_forgets l D cy ad hI _ iv_14 ar_16) (cwV 0 hts gX11_greatestWith_X11_forgets rfl rfl rfl (by decide +kernel) ⟨Nat.le_of_ble_eq_true rfl, Nat.le_of_ble_eq_true rfl⟩) (m_preV hP hK hSt hNw hS (m_at11 (Nat.le_of_ble_eq_true rfl) rfl) rfl) rfl rfl hl.1 rfl (lv_room (Nat.le_of_ble_eq_true rfl)) dX11_greatestWith_59 ⟨Nat.zero_le _, Nat.zero_le _⟩) hS (fun iv_17 ar_17 H locs w_17 hP hS => ?_)
      try dsimp only at w_17
      refine lv_iload hx hb dX11_greatestWith_62 (lv_at hl 0 rfl) ?_
      refine lv_if_eq (tgt := 72) hx hb dX11_greatestWith_64 (by decide) (fun c_18 => ?_) (fun c_18 => ?_)
      · skip
        have q_18 : (0 : Int) = (0 : Int) := i_eq2 z_14 (show (0 : Int32).toInt = (0 : Int) from rfl) c_18
        refine lv_aload_n hx hb dX11_greatestWith_72 rfl (lv_at hl 2 rfl) ?_
        refine va_get (D := D) (ci := 11) (v := .int (iv_17 0 11)) (C := RX11) (T := TX11) (N := 30) hx hb hts inX11 hown hK hP 0 (m_at11 (Nat.le_of_ble_eq_true rfl) rfl) rfl 11 (by decide) lk1 (fun _ h9 => h9) rfl dX11_greatestWith_73 ?_
        have f_19 : iv_17 0 11 = iv_14 0 11 := by rw [w_17.1]
        have hwq : (iv_17 0 11).toInt = 0 := by rw [w_17.1]; exact wq
        rw [hQ]
        exact W.iret (v := (iv_17 0 11)) hx hb hr (fun t ht hW => ⟨⟨(iv_17 0 11), (iv_17, ar_17), rfl, by omega, by show va_P _ _ _ _; rw [ht]; exact hP⟩, hS.F ht⟩) hS.2.2 dX11_greatestWith_76
      · skip
        have q_18 : (0 : Int) ≠ (0 : Int) := i_ne2 z_14 (show (0 : Int32).toInt = (0 : Int) from rfl) c_18
        exfalso; omega
    · skip
      have q_8 : r_7.toInt = (0 : Int) := i_eq2 (rfl : r_7.toInt = r_7.toInt) (show (0 : Int32).toInt = (0 : Int) from rfl) c_8
      refine lv_bipush (v := (-2)) hx hb dX11_greatestWith_18 (by decide) ?_
      rw [hQ]
      exact W.iret (v := (-2)) hx hb hr (fun t ht hW => ⟨⟨(-2), (iv, ar), rfl, by have zr : ((-2) : Int32).toInt = (-2 : Int) := (show ((-2) : Int32).toInt = (-2 : Int) from rfl); have z0 := i_l0; have z1 := i_l1; omega, by show va_P _ _ _ _; rw [ht]; exact hP⟩, hS.F ht⟩) hS.2.2 dX11_greatestWith_20
set_option maxHeartbeats 4000000 in
set_option maxRecDepth 100000 in
theorem f_X11_plan (l : Launch) (D : va_G) (cy : Nat → ClassId) (ad : Nat → Nat) (hI : mInj ad) (sz : Nat) (iv : gIv) (ar : gAr)  (hF_iv : mFr iv ar) : Met l yX11_plan wsX11_plan ({ frames := 2, cells := 0, slots := 0, locals := 46 } : Room) (va_Pc [.ref (ad 0)] (mPre D cy ad sz iv ar)) (va_Qi (fun (r : Int32) (u : gIv × gAr) => r.toInt = 0) (mPost D cy ad) (mA ad sz)) 0 0 (mA ad sz) := by
  refine Met.ofW (cc := cX11_plan) (maxL := 5) (ret := (some .int)) (by decide) rfl ?_
  intro p e s m args below meth c s₁ B hml hv
  obtain ⟨rfl, rfl, hP, hK, hSt, hNw⟩ := hv
  have hx := B.exec
  have hb := B.bytes
  have hr := B.returns
  have hts := atoms_spec (ws := wsX11_plan) B.pre
  have hown : s.vm.findClass RX11 = some m.cls := findClass_of_methodNamed B.named
  have hlocks := B.notSynchronized
  have hS : va_S (mA ad s.heap.size) s.heap s.heap [] := va_S.rf
  have inX11 : ∀ w ∈ u_ws RX11 TX11 30, w ∈ wsX11_plan := by decide +kernel
  have lk0 := hts (.fieldLink RX11 69 "FormationPlannerModel" "hasPlan" "Z") (by decide +kernel)
  have lk1 := hts (.fieldLink RX11 35 "FormationPlannerModel" "stuck" "I") (by decide +kernel)
  have lk2 := hts (.fieldLink RX11 189 "FormationPlannerModel" "planned" "I") (by decide +kernel)
  have lk3 := hts (.fieldLink RX11 192 "FormationPlannerModel" "present" "I") (by decide +kernel)
  have lk4 := hts (.fieldLink RX11 195 "FormationPlannerModel" "end" "I") (by decide +kernel)
  have lk5 := hts (.fieldLink RX11 9 "FormationPlannerModel" "s" "[I") (by decide +kernel)
  have lk6 := hts (.fieldLink RX11 57 "FormationPlannerModel" "taken" "[I") (by decide +kernel)
  have hl := lv_entry ([.ref (ad 0)]) (n := 5) (Nat.le_of_ble_eq_true rfl)
  rw [lg_entry_eq]
  generalize (lg_sl ([.ref (ad 0)]) ++ List.replicate (5 - (lg_sl ([.ref (ad 0)])).length) Slot.unset).toArray = ls at hl ⊢
  have hl : lv_has ls 5 [(0, .ref (ad 0))] := hl
  obtain ⟨Q, hQ⟩ : ∃ Q, Q = MQ below (va_Qi (fun (r : Int32) (u : gIv × gAr) => r.toInt = 0) (mPost D cy ad) (mA ad s.heap.size)) (([.ref (ad 0)] : List Value).toArray) s 0 0 (mA ad s.heap.size) := ⟨_, rfl⟩
  rw [← hQ]
  refine lv_aload_n hx hb dX11_plan_0 rfl (lv_at hl 0 rfl) ?_
  refine m_calli (va_runV (As := []) (rest := []) ⟨hx, hb, hml, hown, hts⟩ (c0_assigns l D cy ad hI _ iv ar (mra hF_iv 1 111 (by decide)) (mra hF_iv 1 118 (by decide))) (cwV 0 hts gX11_plan_X11_assigns rfl rfl rfl (by decide +kernel) ⟨Nat.le_of_ble_eq_true rfl, Nat.le_of_ble_eq_true rfl⟩) (m_preV hP hK hSt hNw hS (m_at11 (Nat.le_of_ble_eq_true rfl) rfl) rfl) rfl rfl hl.1 rfl (lv_room (Nat.le_of_ble_eq_true rfl)) dX11_plan_1 ⟨Nat.zero_le _, Nat.zero_le _⟩) hS (fun r_1 iv_1 ar_1 H locs w_1 hP hS => ?_)
  try dsimp only at w_1
  have z_1 : r_1.toInt = 0 := w_1.1
  have hq0 : (ar_1 1 111).toInt = 0 := by rw [w_1.2.2.2 1]; exact mra hF_iv 1 111 (by decide)
  refine lv_istore_n (lv' := [(1, .int r_1), (0, .ref (ad 0))]) hx hb dX11_plan_4 rfl hl (by decide) rfl (fun ls hl => ?_)
  refine lv_iload_n hx hb dX11_plan_5 rfl (lv_at hl 0 rfl) ?_
  refine lv_if_eq (tgt := 11) hx hb dX11_plan_6 (by decide) (fun c_2 => ?_) (fun c_2 => ?_)
  · skip
    have q_2 : (0 : Int) = (0 : Int) := i_eq2 z_1 (show (0 : Int32).toInt = (0 : Int) from rfl) c_2
    refine lv_aload_n hx hb dX11_plan_11 rfl (lv_at hl 1 rfl) ?_
    refine lv_iconst (v := 0) hx hb dX11_plan_12 (by decide) ?_
    refine va_put (D := D) (ci := 11) (v := .int 0) (ty := .boolean) (C := RX11) (T := TX11) (N := 30) hx hb hts inX11 tyX11 tyX11_ok nmX11 hown hK hP (mD hI) hS 0 (m_at11 (Nat.le_of_ble_eq_true rfl) rfl) rfl 15 (by decide) lk0 (fun _ h9 => h9) rfl (by decide +kernel) rfl rfl (Nat.le_of_ble_eq_true rfl) dX11_plan_13 (fun H locs hP _ hS => ?_)
    have hP : va_P D vwCl (MW cy ad (u2 iv_1 0 15 0) ar_1) H := by rw [← m_pt11_15 (Nat.le_of_ble_eq_true rfl) rfl]; exact hP
    obtain ⟨iv_3, eiv_3⟩ : ∃ z : gIv, z = u2 iv_1 0 15 0 := ⟨_, rfl⟩
    rw [← eiv_3] at hP
    refine lv_aload_n hx hb dX11_plan_16 rfl (lv_at hl 1 rfl) ?_
    refine lv_iconst (v := (-1)) hx hb dX11_plan_17 (by decide) ?_
    refine va_put (D := D) (ci := 11) (v := .int (-1)) (ty := .int) (C := RX11) (T := TX11) (N := 30) hx hb hts inX11 tyX11 tyX11_ok nmX11 hown hK hP (mD hI) hS 0 (m_at11 (Nat.le_of_ble_eq_true rfl) rfl) rfl 16 (by decide) lk1 (fun _ h9 => h9) rfl (by decide +kernel) rfl rfl (Nat.le_of_ble_eq_true rfl) dX11_plan_18 (fun H locs hP _ hS => ?_)
    have hP : va_P D vwCl (MW cy ad (u2 iv_3 0 16 (-1)) ar_1) H := by rw [← m_pt11_16 (Nat.le_of_ble_eq_true rfl) rfl]; exact hP
    obtain ⟨iv_4, eiv_4⟩ : ∃ z : gIv, z = u2 iv_3 0 16 (-1) := ⟨_, rfl⟩
    rw [← eiv_4] at hP
    refine lv_aload_n hx hb dX11_plan_21 rfl (lv_at hl 1 rfl) ?_
    refine lv_iconst (v := 0) hx hb dX11_plan_22 (by decide) ?_
    refine va_put (D := D) (ci := 11) (v := .int 0) (ty := .int) (C := RX11) (T := TX11) (N := 30) hx hb hts inX11 tyX11 tyX11_ok nmX11 hown hK hP (mD hI) hS 0 (m_at11 (Nat.le_of_ble_eq_true rfl) rfl) rfl 25 (by decide) lk2 (fun _ h9 => h9) rfl (by decide +kernel) rfl rfl (Nat.le_of_ble_eq_true rfl) dX11_plan_23 (fun H locs hP _ hS => ?_)
    have hP : va_P D vwCl (MW cy ad (u2 iv_4 0 25 0) ar_1) H := by rw [← m_pt11_25 (Nat.le_of_ble_eq_true rfl) rfl]; exact hP
    obtain ⟨iv_5, eiv_5⟩ : ∃ z : gIv, z = u2 iv_4 0 25 0 := ⟨_, rfl⟩
    rw [← eiv_5] at hP
    refine lv_aload_n hx hb dX11_plan_26 rfl (lv_at hl 1 rfl) ?_
    refine lv_iconst (v := 0) hx hb dX11_plan_27 (by decide) ?_
    refine va_put (D := D) (ci := 11) (v := .int 0) (ty := .int) (C := RX11) (T := TX11) (N := 30) hx hb hts inX11 tyX11 tyX11_ok nmX11 hown hK hP (mD hI) hS 0 (m_at11 (Nat.le_of_ble_eq_true rfl) rfl) rfl 17 (by decide) lk3 (fun _ h9 => h9) rfl (by decide +kernel) rfl rfl (Nat.le_of_ble_eq_true rfl) dX11_plan_28 (fun H locs hP _ hS => ?_)
    have hP : va_P D vwCl (MW cy ad (u2 iv_5 0 17 0) ar_1) H := by rw [← m_pt11_17 (Nat.le_of_ble_eq_true rfl) rfl]; exact hP
    obtain ⟨iv_6, eiv_6⟩ : ∃ z : gIv, z = u2 iv_5 0 17 0 := ⟨_, rfl⟩
    rw [← eiv_6] at hP
    refine lv_aload_n hx hb dX11_plan_31 rfl (lv_at hl 1 rfl) ?_
    refine lv_iconst (v := 0) hx hb dX11_plan_32 (by decide) ?_
    refine va_put (D := D) (ci := 11) (v := .int 0) (ty := .int) (C := RX11) (T := TX11) (N := 30) hx hb hts inX11 tyX11 tyX11_ok nmX11 hown hK hP (mD hI) hS 0 (m_at11 (Nat.le_of_ble_eq_true rfl) rfl) rfl 18 (by decide) lk4 (fun _ h9 => h9) rfl (by decide +kernel) rfl rfl (Nat.le_of_ble_eq_true rfl) dX11_plan_33 (fun H locs hP _ hS => ?_)
    have hP : va_P D vwCl (MW cy ad (u2 iv_6 0 18 0) ar_1) H := by rw [← m_pt11_18 (Nat.le_of_ble_eq_true rfl) rfl]; exact hP
    obtain ⟨iv_7, eiv_7⟩ : ∃ z : gIv, z = u2 iv_6 0 18 0 := ⟨_, rfl⟩
    rw [← eiv_7] at hP
    refine lv_iconst (v := 0) hx hb dX11_plan_36 (by decide) ?_
    refine lv_istore_n (lv' := [(2, .int 0), (1, .int r_1), (0, .ref (ad 0))]) hx hb dX11_plan_37 rfl hl (by decide) rfl (fun ls hl => ?_)
    refine lv_iconst (v := 0) hx hb dX11_plan_38 (by decide) ?_
    refine lv_istore_n (lv' := [(3, .int 0), (2, .int 0), (1, .int r_1), (0, .ref (ad 0))]) hx hb dX11_plan_39 rfl hl (by decide) rfl (fun ls hl => ?_)
    have loop10 : ∀ (n : Nat) (x3_8 : Int32) (ar_9 : gAr) (H : Heap) (locs : List Loc) (ls : Array Slot), ((6588 - (x3_8.toInt)).toNat) < n → (0 ≤ (x3_8.toInt) ∧ (x3_8.toInt) ≤ 6588) → ((ar_9 1 111).toInt = 0) → va_P D vwCl (MW cy ad iv_7 ar_9) H → va_S (mA ad s.heap.size) s.heap H locs → lv_has ls 5 [(3, .int x3_8), (2, .int 0), (1, .int r_1), (0, .ref (ad 0))] → W p l e (headSpec wsX11_plan (({ frames := 2, cells := 0, slots := 0, locals := 46 } : Room))).room s m (([.ref (ad 0)] : List Value).toArray) below meth c H locs 0 0 Q (F0 m 40 ls []) := by
      intro n
      induction n with
      | zero => intro x3_8 ar_9 H locs ls hm; omega
      | succ n ih10 =>
        intro x3_8 ar_9 H locs ls hm hg0 hga hP hS hl
        refine lv_iload_n hx hb dX11_plan_40 rfl (lv_at hl 0 rfl) ?_
        refine lv_sipush (v := 6588) hx hb dX11_plan_41 (by decide) ?_
        refine lv_icmp_ge (tgt := 60) hx hb dX11_plan_44 (by decide) (fun c_11 => ?_) (fun c_11 => ?_)
        · skip
          have q_11 : (6588 : Int) ≤ x3_8.toInt := i_le2 (show (6588 : Int32).toInt = (6588 : Int) from rfl) (rfl : x3_8.toInt = x3_8.toInt) c_11
          refine lv_iconst (v := 0) hx hb dX11_plan_60 (by decide) ?_
          refine lv_istore_n (lv' := [(3, .int 0), (2, .int 0), (1, .int r_1), (0, .ref (ad 0))]) hx hb dX11_plan_61 rfl hl (by decide) rfl (fun ls hl => ?_)
          refine lv_iload_n hx hb dX11_plan_62 rfl (lv_at hl 0 rfl) ?_
          refine lv_aload_n hx hb dX11_plan_63 rfl (lv_at hl 3 rfl) ?_
          refine va_get (D := D) (ci := 11) (v := .ref (ad 1)) (C := RX11) (T := TX11) (N := 30) hx hb hts inX11 hown hK hP 0 (m_at11 (Nat.le_of_ble_eq_true rfl) rfl) rfl 0 (by decide) lk5 (fun _ h9 => h9) rfl dX11_plan_64 ?_
          refine lv_bipush (v := 111) hx hb dX11_plan_67 (by decide) ?_
          refine va_iald hx hb hK hP 1 0 (m_at12 (Nat.le_of_ble_eq_true rfl) rfl) rfl (g_in (N := 126) (show (111 : Int32).toInt = (111 : Int) from rfl) rfl (by omega) (by omega)) dX11_plan_69 ?_
          refine lv_topi (fun v_12 ev_12 => ?_)
          refine lv_icmp_ge (tgt := 99) hx hb dX11_plan_70 (by decide) (fun c_13 => ?_) (fun c_13 => ?_)
          · skip
            have q_13 : (0 : Int) ≤ (0 : Int) := i_le2 (show v_12.toInt = (0 : Int) from by rw [ev_12]; exact hga) (show (0 : Int32).toInt = (0 : Int) from rfl) c_13
            refine lv_aload_n hx hb dX11_plan_99 rfl (lv_at hl 3 rfl) ?_
            refine va_get (D := D) (ci := 11) (v := .int (iv_7 0 25)) (C := RX11) (T := TX11) (N := 30) hx hb hts inX11 hown hK hP 0 (m_at11 (Nat.le_of_ble_eq_true rfl) rfl) rfl 25 (by decide) lk2 (fun _ h9 => h9) rfl dX11_plan_100 ?_
            have f_14 : iv_7 0 25 = 0 := by rw [eiv_7, u2_o (by omega)]; rw [eiv_6, u2_o (by omega)]; rw [eiv_5]; exact u2_s _ _ _ _
            refine lv_aload_n hx hb dX11_plan_103 rfl (lv_at hl 3 rfl) ?_
            refine va_get (D := D) (ci := 11) (v := .ref (ad 1)) (C := RX11) (T := TX11) (N := 30) hx hb hts inX11 hown hK hP 0 (m_at11 (Nat.le_of_ble_eq_true rfl) rfl) rfl 0 (by decide) lk5 (fun _ h9 => h9) rfl dX11_plan_104 ?_
            refine lv_bipush (v := 111) hx hb dX11_plan_107 (by decide) ?_
            refine va_iald hx hb hK hP 1 0 (m_at12 (Nat.le_of_ble_eq_true rfl) rfl) rfl (g_in (N := 126) (show (111 : Int32).toInt = (111 : Int) from rfl) rfl (by omega) (by omega)) dX11_plan_109 ?_
            refine lv_topi (fun v_15 ev_15 => ?_)
            refine lv_icmp_ge (tgt := 250) hx hb dX11_plan_110 (by decide) (fun c_16 => ?_) (fun c_16 => ?_)
            · skip
              have q_16 : (0 : Int) ≤ (0 : Int) := i_le2 (show v_15.toInt = (0 : Int) from by rw [ev_15]; exact hga) ((congrArg Int32.toInt f_14).trans (show (0 : Int32).toInt = (0 : Int) from rfl)) c_16
              refine lv_aload_n hx hb dX11_plan_250 rfl (lv_at hl 3 rfl) ?_
              refine lv_iconst (v := 1) hx hb dX11_plan_251 (by decide) ?_
              refine va_put (D := D) (ci := 11) (v := .int 1) (ty := .boolean) (C := RX11) (T := TX11) (N := 30) hx hb hts inX11 tyX11 tyX11_ok nmX11 hown hK hP (mD hI) hS 0 (m_at11 (Nat.le_of_ble_eq_true rfl) rfl) rfl 15 (by decide) lk0 (fun _ h9 => h9) rfl (by decide +kernel) rfl rfl (Nat.le_of_ble_eq_true rfl) dX11_plan_252 (fun H locs hP _ hS => ?_)
              have hP : va_P D vwCl (MW cy ad (u2 iv_7 0 15 1) ar_9) H := by rw [← m_pt11_15 (Nat.le_of_ble_eq_true rfl) rfl]; exact hP
              obtain ⟨iv_17, eiv_17⟩ : ∃ z : gIv, z = u2 iv_7 0 15 1 := ⟨_, rfl⟩
              rw [← eiv_17] at hP
              refine lv_aload_n hx hb dX11_plan_255 rfl (lv_at hl 3 rfl) ?_
              refine va_get (D := D) (ci := 11) (v := .int (iv_17 0 18)) (C := RX11) (T := TX11) (N := 30) hx hb hts inX11 hown hK hP 0 (m_at11 (Nat.le_of_ble_eq_true rfl) rfl) rfl 18 (by decide) lk4 (fun _ h9 => h9) rfl dX11_plan_256 ?_
              have f_18 : iv_17 0 18 = 0 := by rw [eiv_17, u2_o (by omega)]; rw [eiv_7]; exact u2_s _ _ _ _
              rw [hQ]
              exact W.iret (v := (iv_17 0 18)) hx hb hr (fun t ht hW => ⟨⟨(iv_17 0 18), (iv_17, ar_9), rfl, by have zr : (iv_17 0 18).toInt = (0 : Int) := ((congrArg Int32.toInt f_18).trans (show (0 : Int32).toInt = (0 : Int) from rfl)); have z0 := i_l0; have z1 := i_l1; omega, by show va_P _ _ _ _; rw [ht]; exact hP⟩, hS.F ht⟩) hS.2.2 dX11_plan_259
            · skip
              have q_16 : (0 : Int) < (0 : Int) := i_nle2 (show v_15.toInt = (0 : Int) from by rw [ev_15]; exact hga) ((congrArg Int32.toInt f_14).trans (show (0 : Int32).toInt = (0 : Int) from rfl)) c_16
              exfalso; omega
          · skip
            have q_13 : (0 : Int) < (0 : Int) := i_nle2 (show v_12.toInt = (0 : Int) from by rw [ev_12]; exact hga) (show (0 : Int32).toInt = (0 : Int) from rfl) c_13
            exfalso; omega
        · skip
          have q_11 : x3_8.toInt < (6588 : Int) := i_nle2 (show (6588 : Int32).toInt = (6588 : Int) from rfl) (rfl : x3_8.toInt = x3_8.toInt) c_11
          refine lv_aload_n hx hb dX11_plan_47 rfl (lv_at hl 3 rfl) ?_
          refine va_get (D := D) (ci := 11) (v := .ref (ad 15)) (C := RX11) (T := TX11) (N := 30) hx hb hts inX11 hown hK hP 0 (m_at11 (Nat.le_of_ble_eq_true rfl) rfl) rfl 26 (by decide) lk6 (fun _ h9 => h9) rfl dX11_plan_48 ?_
          refine lv_iload_n hx hb dX11_plan_51 rfl (lv_at hl 0 rfl) ?_
          refine lv_iconst (v := 0) hx hb dX11_plan_52 (by decide) ?_
          refine va_iast hx hb hK hP (mD hI) hS 15 0 (m_at12 (Nat.le_of_ble_eq_true rfl) rfl) rfl (g_in (N := 6588) (rfl : x3_8.toInt = x3_8.toInt) rfl (by omega) (by omega)) dX11_plan_53 (fun H locs hP _ hS => ?_)
          rw [m_pt12 (Nat.le_of_ble_eq_true rfl) rfl] at hP
          obtain ⟨ar_19, ear_19⟩ : ∃ z : gAr, z = va_up ar_9 15 (upd (ar_9 15) x3_8.toNatClampNeg 0) := ⟨_, rfl⟩
          rw [← ear_19] at hP
          obtain ⟨x3_20, ex3_20⟩ : ∃ y : Int32, y = x3_8 + 1 := ⟨_, rfl⟩
          have tx3_20 : x3_20.toInt = x3_8.toInt + (1 : Int) := i_add (rfl : x3_8.toInt = x3_8.toInt) (show (1 : Int32).toInt = (1 : Int) from rfl) (by omega) (by omega) ex3_20
          refine lv_iinc (v := x3_20) (lv' := [(3, .int x3_20), (2, .int 0), (1, .int r_1), (0, .ref (ad 0))]) hx hb dX11_plan_54 hl (k := 0) rfl (by rw [ex3_20]; rfl) (by decide) rfl (fun ls hl => ?_)
          refine lv_goto (tgt := 40) hx hb dX11_plan_57 (by decide) ?_
          exact ih10 x3_20 ar_19 _ _ _ (by omega) (by omega) (by rw [ear_19, ua_o (by omega)]; exact hga) hP hS (lv_sub hl [0, 1, 2, 3] rfl)
    have zl_21 : (0 : Int32).toInt = (0 : Int) := rfl
    exact loop10 (((6588 - ((0 : Int))).toNat) + 1) 0 ar_1 _ _ _ (by omega) (by omega) hq0 hP hS (lv_sub hl [0, 1, 2, 3] rfl)
  · skip
    have q_2 : (0 : Int) ≠ (0 : Int) := i_ne2 z_1 (show (0 : Int32).toInt = (0 : Int) from rfl) c_2
    exfalso; omega
