set_option maxHeartbeats 4000000 in
set_option maxRecDepth 100000 in
theorem c_X6_flightOf (l : Launch) (D : va_G) (cy : Nat → ClassId) (ad : Nat → Nat) (hI : gInj ad) (sz : Nat) (iv : gIv) (ar : gAr) (a : Int32)  : Met l yX6_flightOf wsX6_flightOf ({ frames := 1, cells := 0, slots := 0, locals := 15 } : Room) (va_Pc [.ref (ad 90), .int a] (gPre D cy ad sz iv ar)) (va_Sr (fun r => r < 135 ∧ kd r = 1) (fun r => .ref (ad r))) 0 0 (fun _ => False) := by
  refine Met.ofW (cc := cX6_flightOf) (maxL := 2) (ret := (some (.object "FormationPlanner$Flight"))) (by decide) rfl ?_
  intro p e s m args below meth c s₁ B hml hv
  obtain ⟨rfl, rfl, hP, hK, hSt, hNw⟩ := hv
  have hx := B.exec
  have hb := B.bytes
  have hr := B.returns
  have hts := atoms_spec (ws := wsX6_flightOf) B.pre
  have hown : s.vm.findClass RX6 = some m.cls := findClass_of_methodNamed B.named
  have hlocks := B.notSynchronized
  have hS : va_S (gA ad s.heap.size) s.heap s.heap [] := va_S.rf
  have inX6 : ∀ w ∈ u_ws RX6 TX6 11, w ∈ wsX6_flightOf := by decide +kernel
  have lk0 := hts (.fieldLink RX6 11 "FormationPlanner$Plan" "flights" "[LFormationPlanner$Flight;") (by decide +kernel)
  have lk1 := hts (.methodLink RX6 68 Lib.Math.min.name) (by decide +kernel)
  have lk2 := hts (.static Lib.Math.min.name) (by decide +kernel)
  have lk3 := hts (.initialized "java/lang/Math") (by decide +kernel)
  have lk4 := hts (.code Lib.Math.min.name Lib.Math.min.code 2 (some .int)) (by decide +kernel)
  have lk5 := hts (.methodLink RX6 116 Lib.Math.max.name) (by decide +kernel)
  have lk6 := hts (.static Lib.Math.max.name) (by decide +kernel)
  have lk7 := hts (.code Lib.Math.max.name Lib.Math.max.code 2 (some .int)) (by decide +kernel)
  have hl := lv_entry ([.ref (ad 90), .int a]) (n := 2) (Nat.le_of_ble_eq_true rfl)
  rw [lg_entry_eq]
  generalize (lg_sl ([.ref (ad 90), .int a]) ++ List.replicate (2 - (lg_sl ([.ref (ad 90), .int a])).length) Slot.unset).toArray = ls at hl ⊢
  have hl : lv_has ls 2 [(0, .ref (ad 90)), (1, .int a)] := hl
  obtain ⟨Q, hQ⟩ : ∃ Q, Q = MQ below (va_Sr (fun r => r < 135 ∧ kd r = 1) (fun r => .ref (ad r))) (([.ref (ad 90), .int a] : List Value).toArray) s 0 0 (fun _ => False) := ⟨_, rfl⟩
  rw [← hQ]
  refine lv_aload_n hx hb dX6_flightOf_0 rfl (lv_at hl 0 rfl) ?_
  refine va_get (D := D) (ci := 6) (v := .ref (ad 96)) (C := RX6) (T := TX6) (N := 11) hx hb hts inX6 hown hK hP 90 (g_at6 (Nat.le_of_ble_eq_true rfl) rfl) rfl 4 (by decide) lk0 (fun _ h9 => h9) rfl dX6_flightOf_1 ?_
  refine lv_iconst (v := 0) hx hb dX6_flightOf_4 (by decide) ?_
  refine lv_iload_n hx hb dX6_flightOf_5 rfl (lv_at hl 1 rfl) ?_
  refine lv_iconst (v := 5) hx hb dX6_flightOf_6 (by decide) ?_
  refine va_mmin (rest := [.int 0, .ref (ad 96)]) hx hb (hml.trans hl.1.symm) hown lk1 lk2 lk3 lk4 (Nat.le_of_ble_eq_true rfl) (Nat.le_of_ble_eq_true rfl) (Nat.zero_le _) (Nat.zero_le _) dX6_flightOf_7 ?_
  refine lv_topi (fun v_1 ev_1 => ?_)
  have tv_1 : v_1.toInt = min a.toInt (5 : Int) := i_min (rfl : a.toInt = a.toInt) (show (5 : Int32).toInt = (5 : Int) from rfl) ev_1
  refine va_mmax (rest := [.ref (ad 96)]) hx hb (hml.trans hl.1.symm) hown lk5 lk6 lk3 lk7 (Nat.le_of_ble_eq_true rfl) (Nat.le_of_ble_eq_true rfl) (Nat.zero_le _) (Nat.zero_le _) dX6_flightOf_10 ?_
  refine lv_topi (fun v_2 ev_2 => ?_)
  have tv_2 : v_2.toInt = max (0 : Int) v_1.toInt := i_max (show (0 : Int32).toInt = (0 : Int) from rfl) (rfl : v_1.toInt = v_1.toInt) ev_2
  refine va_aldq hx hb hK hP 96 1 (g_at14 (Nat.le_of_ble_eq_true rfl) rfl) rfl (g_in (N := 6) (rfl : v_2.toInt = v_2.toInt) rfl (by omega) (by omega)) dX6_flightOf_13 ?_
  obtain ⟨k_3, ek_3⟩ : ∃ z : Nat, z = ln 96 + 3 * v_2.toNatClampNeg := ⟨_, rfl⟩
  have hk_3 : k_3 < 135 ∧ kd k_3 = 1 := by rw [ek_3]; exact g_ch96 (g_cl (rfl : v_2.toInt = v_2.toInt) (by omega) (by omega))
  show W p l e _ s m _ below meth c _ _ _ _ Q (F0 m 14 _ (Value.ref (ad (ln 96 + 3 * v_2.toNatClampNeg)) :: []))
  rw [← ek_3]
  have hck_3 := g_cN (rfl : v_2.toInt = v_2.toInt)
  rw [hQ]
  exact W.aret (v := .ref (ad k_3)) hx hb hr (Or.inl ⟨_, rfl⟩) (Or.inr ⟨_, rfl⟩) (fun t ht hW => ⟨k_3, rfl, hk_3, ht⟩) (fun q h => by cases h) dX6_flightOf_14
set_option maxHeartbeats 4000000 in
set_option maxRecDepth 100000 in
theorem c_X6_goalOf (l : Launch) (D : va_G) (cy : Nat → ClassId) (ad : Nat → Nat) (hI : gInj ad) (sz : Nat) (iv : gIv) (ar : gAr) (a : Int32)  : Met l yX6_goalOf wsX6_goalOf ({ frames := 2, cells := 0, slots := 0, locals := 42 } : Room) (va_Pc [.ref (ad 90), .int a] (gPre D cy ad sz iv ar)) (vp_Si (fun r => True)) 0 0 (fun _ => False) := by
  refine Met.ofW (cc := cX6_goalOf) (maxL := 2) (ret := (some .int)) (by decide) rfl ?_
  intro p e s m args below meth c s₁ B hml hv
  obtain ⟨rfl, rfl, hP, hK, hSt, hNw⟩ := hv
  have hx := B.exec
  have hb := B.bytes
  have hr := B.returns
  have hts := atoms_spec (ws := wsX6_goalOf) B.pre
  have hown : s.vm.findClass RX6 = some m.cls := findClass_of_methodNamed B.named
  have hlocks := B.notSynchronized
  have hS : va_S (gA ad s.heap.size) s.heap s.heap [] := va_S.rf
  have inX1 : ∀ w ∈ u_ws RX1 TX1 5, w ∈ wsX6_goalOf := by decide +kernel
  have inX6 : ∀ w ∈ u_ws RX6 TX6 11, w ∈ wsX6_goalOf := by decide +kernel
  have inX8 : ∀ w ∈ u_ws RX8 TX8 5, w ∈ wsX6_goalOf := by decide +kernel
  have lk0 := hts (.fieldLink RX6 28 "FormationPlanner$Plan" "scene" "LFormationPlanner$Scene;") (by decide +kernel)
  have lk1 := hts (.fieldLink RX6 168 "FormationPlanner$Scene" "slots" "LFormationPlanner$Places;") (by decide +kernel)
  have lk2 := hts (.fieldLink RX6 126 "FormationPlanner$Flight" "slot" "I") (by decide +kernel)
  have hl := lv_entry ([.ref (ad 90), .int a]) (n := 2) (Nat.le_of_ble_eq_true rfl)
  rw [lg_entry_eq]
  generalize (lg_sl ([.ref (ad 90), .int a]) ++ List.replicate (2 - (lg_sl ([.ref (ad 90), .int a])).length) Slot.unset).toArray = ls at hl ⊢
  have hl : lv_has ls 2 [(0, .ref (ad 90)), (1, .int a)] := hl
  obtain ⟨Q, hQ⟩ : ∃ Q, Q = MQ below (vp_Si (fun r => True)) (([.ref (ad 90), .int a] : List Value).toArray) s 0 0 (fun _ => False) := ⟨_, rfl⟩
  rw [← hQ]
  refine lv_aload_n hx hb dX6_goalOf_0 rfl (lv_at hl 0 rfl) ?_
  refine va_get (D := D) (ci := 6) (v := .ref (ad 1)) (C := RX6) (T := TX6) (N := 11) hx hb hts inX6 hown hK hP 90 (g_at6 (Nat.le_of_ble_eq_true rfl) rfl) rfl 0 (by decide) lk0 (fun _ h9 => h9) rfl dX6_goalOf_1 ?_
  refine va_get (D := D) (ci := 8) (v := .ref (ad 6)) (C := RX8) (T := TX8) (N := 5) hx hb hts inX8 hown hK hP 1 (g_at8 (Nat.le_of_ble_eq_true rfl) rfl) rfl 3 (by decide) lk1 (fun _ h9 => h9) rfl dX6_goalOf_4 ?_
  refine lv_aload_n hx hb dX6_goalOf_7 rfl (lv_at hl 0 rfl) ?_
  refine lv_iload_n hx hb dX6_goalOf_8 rfl (lv_at hl 1 rfl) ?_
  refine g_callSr (va_runV (As := [.int a]) (rest := [.ref (ad 6)]) ⟨hx, hb, hml, hown, hts⟩ (c_X6_flightOf l D cy ad hI _ iv ar a) (cwV 1 hts gX6_goalOf_X6_flightOf rfl rfl rfl (by decide +kernel) ⟨Nat.le_of_ble_eq_true rfl, Nat.le_of_ble_eq_true rfl⟩) (g_preV hP hK hSt hNw hS (g_at6 (Nat.le_of_ble_eq_true rfl) rfl) rfl) rfl rfl hl.1 rfl (lv_room (Nat.le_of_ble_eq_true rfl)) dX6_goalOf_9 ⟨Nat.zero_le _, Nat.zero_le _⟩) (fun r_1 w_1 => ?_)
  try dsimp only at w_1
  refine va_get (D := D) (ci := 1) (v := .int (iv r_1 3)) (C := RX1) (T := TX1) (N := 5) hx hb hts inX1 hown hK hP r_1 (g_at1 w_1.1 w_1.2) rfl 3 (by decide) lk2 (fun _ h9 => h9) rfl dX6_goalOf_12 ?_
  refine g_callSi (va_runV (As := [.int (iv r_1 3)]) (rest := []) ⟨hx, hb, hml, hown, hts⟩ (c_X5_cellAt l D cy ad hI _ iv ar 6 (Nat.le_of_ble_eq_true rfl) rfl (iv r_1 3)) (cwV 1 hts gX6_goalOf_X5_cellAt rfl rfl rfl (by decide +kernel) ⟨Nat.le_of_ble_eq_true rfl, Nat.le_of_ble_eq_true rfl⟩) (g_preV hP hK hSt hNw hS (g_at5 (Nat.le_of_ble_eq_true rfl) rfl) rfl) rfl rfl hl.1 rfl (lv_room (Nat.le_of_ble_eq_true rfl)) dX6_goalOf_15 ⟨Nat.zero_le _, Nat.zero_le _⟩) (fun r_2 w_2 => ?_)
  try dsimp only at w_2
  rw [hQ]
  exact W.iret (v := r_2) hx hb hr (fun t ht hW => ⟨r_2, rfl, trivial, ht⟩) (fun q h => by cases h) dX6_goalOf_18
set_option maxHeartbeats 4000000 in
set_option maxRecDepth 100000 in
theorem c_X6_cellOfDrone (l : Launch) (D : va_G) (cy : Nat → ClassId) (ad : Nat → Nat) (hI : gInj ad) (sz : Nat) (iv : gIv) (ar : gAr) (a : Int32) (b : Int32)  : Met l yX6_cellOfDrone wsX6_cellOfDrone ({ frames := 2, cells := 0, slots := 0, locals := 36 } : Room) (va_Pc [.ref (ad 90), .int a, .int b] (gPre D cy ad sz iv ar)) (vp_Si (fun r => True)) 0 0 (fun _ => False) := by
  refine Met.ofW (cc := cX6_cellOfDrone) (maxL := 3) (ret := (some .int)) (by decide) rfl ?_
  intro p e s m args below meth c s₁ B hml hv
  obtain ⟨rfl, rfl, hP, hK, hSt, hNw⟩ := hv
  have hx := B.exec
  have hb := B.bytes
  have hr := B.returns
  have hts := atoms_spec (ws := wsX6_cellOfDrone) B.pre
  have hown : s.vm.findClass RX6 = some m.cls := findClass_of_methodNamed B.named
  have hlocks := B.notSynchronized
  have hS : va_S (gA ad s.heap.size) s.heap s.heap [] := va_S.rf
  have inX6 : ∀ w ∈ u_ws RX6 TX6 11, w ∈ wsX6_cellOfDrone := by decide +kernel
  have lk0 := hts (.fieldLink RX6 60 "FormationPlanner$Plan" "now" "I") (by decide +kernel)
  have hl := lv_entry ([.ref (ad 90), .int a, .int b]) (n := 3) (Nat.le_of_ble_eq_true rfl)
  rw [lg_entry_eq]
  generalize (lg_sl ([.ref (ad 90), .int a, .int b]) ++ List.replicate (3 - (lg_sl ([.ref (ad 90), .int a, .int b])).length) Slot.unset).toArray = ls at hl ⊢
  have hl : lv_has ls 3 [(0, .ref (ad 90)), (1, .int a), (2, .int b)] := hl
  obtain ⟨Q, hQ⟩ : ∃ Q, Q = MQ below (vp_Si (fun r => True)) (([.ref (ad 90), .int a, .int b] : List Value).toArray) s 0 0 (fun _ => False) := ⟨_, rfl⟩
  rw [← hQ]
  refine lv_aload_n hx hb dX6_cellOfDrone_0 rfl (lv_at hl 0 rfl) ?_
  refine lv_iload_n hx hb dX6_cellOfDrone_1 rfl (lv_at hl 1 rfl) ?_
  refine g_callSr (va_runV (As := [.int a]) (rest := []) ⟨hx, hb, hml, hown, hts⟩ (c_X6_flightOf l D cy ad hI _ iv ar a) (cwV 1 hts gX6_cellOfDrone_X6_flightOf rfl rfl rfl (by decide +kernel) ⟨Nat.le_of_ble_eq_true rfl, Nat.le_of_ble_eq_true rfl⟩) (g_preV hP hK hSt hNw hS (g_at6 (Nat.le_of_ble_eq_true rfl) rfl) rfl) rfl rfl hl.1 rfl (lv_room (Nat.le_of_ble_eq_true rfl)) dX6_cellOfDrone_2 ⟨Nat.zero_le _, Nat.zero_le _⟩) (fun r_1 w_1 => ?_)
  try dsimp only at w_1
  refine lv_aload_n hx hb dX6_cellOfDrone_5 rfl (lv_at hl 0 rfl) ?_
  refine va_get (D := D) (ci := 6) (v := .int (iv 90 10)) (C := RX6) (T := TX6) (N := 11) hx hb hts inX6 hown hK hP 90 (g_at6 (Nat.le_of_ble_eq_true rfl) rfl) rfl 10 (by decide) lk0 (fun _ h9 => h9) rfl dX6_cellOfDrone_6 ?_
  refine lv_iload_n hx hb dX6_cellOfDrone_9 rfl (lv_at hl 2 rfl) ?_
  refine lv_iadd hx hb dX6_cellOfDrone_10 ?_
  refine lv_topi (fun v_2 ev_2 => ?_)
  refine g_callSi (va_runV (As := [.int v_2]) (rest := []) ⟨hx, hb, hml, hown, hts⟩ (c_X1_cellAt l D cy ad hI _ iv ar r_1 w_1.1 w_1.2 v_2) (cwV 1 hts gX6_cellOfDrone_X1_cellAt rfl rfl rfl (by decide +kernel) ⟨Nat.le_of_ble_eq_true rfl, Nat.le_of_ble_eq_true rfl⟩) (g_preV hP hK hSt hNw hS (g_at1 w_1.1 w_1.2) rfl) rfl rfl hl.1 rfl (lv_room (Nat.le_of_ble_eq_true rfl)) dX6_cellOfDrone_11 ⟨Nat.zero_le _, Nat.zero_le _⟩) (fun r_3 w_3 => ?_)
  try dsimp only at w_3
  rw [hQ]
  exact W.iret (v := r_3) hx hb hr (fun t ht hW => ⟨r_3, rfl, trivial, ht⟩) (fun q h => by cases h) dX6_cellOfDrone_14
set_option maxHeartbeats 4000000 in
set_option maxRecDepth 100000 in
theorem c_X6_actionOfDrone (l : Launch) (D : va_G) (cy : Nat → ClassId) (ad : Nat → Nat) (hI : gInj ad) (sz : Nat) (iv : gIv) (ar : gAr) (a : Int32) (b : Int32)  : Met l yX6_actionOfDrone wsX6_actionOfDrone ({ frames := 2, cells := 0, slots := 0, locals := 36 } : Room) (va_Pc [.ref (ad 90), .int a, .int b] (gPre D cy ad sz iv ar)) (vp_Si (fun r => True)) 0 0 (fun _ => False) := by
  refine Met.ofW (cc := cX6_actionOfDrone) (maxL := 3) (ret := (some .int)) (by decide) rfl ?_
  intro p e s m args below meth c s₁ B hml hv
  obtain ⟨rfl, rfl, hP, hK, hSt, hNw⟩ := hv
  have hx := B.exec
  have hb := B.bytes
  have hr := B.returns
  have hts := atoms_spec (ws := wsX6_actionOfDrone) B.pre
  have hown : s.vm.findClass RX6 = some m.cls := findClass_of_methodNamed B.named
  have hlocks := B.notSynchronized
  have hS : va_S (gA ad s.heap.size) s.heap s.heap [] := va_S.rf
  have inX6 : ∀ w ∈ u_ws RX6 TX6 11, w ∈ wsX6_actionOfDrone := by decide +kernel
  have lk0 := hts (.fieldLink RX6 60 "FormationPlanner$Plan" "now" "I") (by decide +kernel)
  have hl := lv_entry ([.ref (ad 90), .int a, .int b]) (n := 3) (Nat.le_of_ble_eq_true rfl)
  rw [lg_entry_eq]
  generalize (lg_sl ([.ref (ad 90), .int a, .int b]) ++ List.replicate (3 - (lg_sl ([.ref (ad 90), .int a, .int b])).length) Slot.unset).toArray = ls at hl ⊢
  have hl : lv_has ls 3 [(0, .ref (ad 90)), (1, .int a), (2, .int b)] := hl
  obtain ⟨Q, hQ⟩ : ∃ Q, Q = MQ below (vp_Si (fun r => True)) (([.ref (ad 90), .int a, .int b] : List Value).toArray) s 0 0 (fun _ => False) := ⟨_, rfl⟩
  rw [← hQ]
  refine lv_aload_n hx hb dX6_actionOfDrone_0 rfl (lv_at hl 0 rfl) ?_
  refine lv_iload_n hx hb dX6_actionOfDrone_1 rfl (lv_at hl 1 rfl) ?_
  refine g_callSr (va_runV (As := [.int a]) (rest := []) ⟨hx, hb, hml, hown, hts⟩ (c_X6_flightOf l D cy ad hI _ iv ar a) (cwV 1 hts gX6_actionOfDrone_X6_flightOf rfl rfl rfl (by decide +kernel) ⟨Nat.le_of_ble_eq_true rfl, Nat.le_of_ble_eq_true rfl⟩) (g_preV hP hK hSt hNw hS (g_at6 (Nat.le_of_ble_eq_true rfl) rfl) rfl) rfl rfl hl.1 rfl (lv_room (Nat.le_of_ble_eq_true rfl)) dX6_actionOfDrone_2 ⟨Nat.zero_le _, Nat.zero_le _⟩) (fun r_1 w_1 => ?_)
  try dsimp only at w_1
  refine lv_aload_n hx hb dX6_actionOfDrone_5 rfl (lv_at hl 0 rfl) ?_
  refine va_get (D := D) (ci := 6) (v := .int (iv 90 10)) (C := RX6) (T := TX6) (N := 11) hx hb hts inX6 hown hK hP 90 (g_at6 (Nat.le_of_ble_eq_true rfl) rfl) rfl 10 (by decide) lk0 (fun _ h9 => h9) rfl dX6_actionOfDrone_6 ?_
  refine lv_iload_n hx hb dX6_actionOfDrone_9 rfl (lv_at hl 2 rfl) ?_
  refine lv_iadd hx hb dX6_actionOfDrone_10 ?_
  refine lv_topi (fun v_2 ev_2 => ?_)
  refine g_callSi (va_runV (As := [.int v_2]) (rest := []) ⟨hx, hb, hml, hown, hts⟩ (c_X1_actionAt l D cy ad hI _ iv ar r_1 w_1.1 w_1.2 v_2) (cwV 1 hts gX6_actionOfDrone_X1_actionAt rfl rfl rfl (by decide +kernel) ⟨Nat.le_of_ble_eq_true rfl, Nat.le_of_ble_eq_true rfl⟩) (g_preV hP hK hSt hNw hS (g_at1 w_1.1 w_1.2) rfl) rfl rfl hl.1 rfl (lv_room (Nat.le_of_ble_eq_true rfl)) dX6_actionOfDrone_11 ⟨Nat.zero_le _, Nat.zero_le _⟩) (fun r_3 w_3 => ?_)
  try dsimp only at w_3
  rw [hQ]
  exact W.iret (v := r_3) hx hb hr (fun t ht hW => ⟨r_3, rfl, trivial, ht⟩) (fun q h => by cases h) dX6_actionOfDrone_14
set_option maxHeartbeats 4000000 in
set_option maxRecDepth 100000 in
theorem c_X6_positionOf (l : Launch) (D : va_G) (cy : Nat → ClassId) (ad : Nat → Nat) (hI : gInj ad) (sz : Nat) (iv : gIv) (ar : gAr) (a : Int32)  : Met l yX6_positionOf wsX6_positionOf ({ frames := 2, cells := 0, slots := 0, locals := 36 } : Room) (va_Pc [.ref (ad 90), .int a] (gPre D cy ad sz iv ar)) (vp_Si (fun r => True)) 0 0 (fun _ => False) := by
  refine Met.ofW (cc := cX6_positionOf) (maxL := 2) (ret := (some .int)) (by decide) rfl ?_
  intro p e s m args below meth c s₁ B hml hv
  obtain ⟨rfl, rfl, hP, hK, hSt, hNw⟩ := hv
  have hx := B.exec
  have hb := B.bytes
  have hr := B.returns
  have hts := atoms_spec (ws := wsX6_positionOf) B.pre
  have hown : s.vm.findClass RX6 = some m.cls := findClass_of_methodNamed B.named
  have hlocks := B.notSynchronized
  have hS : va_S (gA ad s.heap.size) s.heap s.heap [] := va_S.rf
  have inX1 : ∀ w ∈ u_ws RX1 TX1 5, w ∈ wsX6_positionOf := by decide +kernel
  have lk0 := hts (.fieldLink RX6 123 "FormationPlanner$Flight" "position" "I") (by decide +kernel)
  have hl := lv_entry ([.ref (ad 90), .int a]) (n := 2) (Nat.le_of_ble_eq_true rfl)
  rw [lg_entry_eq]
  generalize (lg_sl ([.ref (ad 90), .int a]) ++ List.replicate (2 - (lg_sl ([.ref (ad 90), .int a])).length) Slot.unset).toArray = ls at hl ⊢
  have hl : lv_has ls 2 [(0, .ref (ad 90)), (1, .int a)] := hl
  obtain ⟨Q, hQ⟩ : ∃ Q, Q = MQ below (vp_Si (fun r => True)) (([.ref (ad 90), .int a] : List Value).toArray) s 0 0 (fun _ => False) := ⟨_, rfl⟩
  rw [← hQ]
  refine lv_aload_n hx hb dX6_positionOf_0 rfl (lv_at hl 0 rfl) ?_
  refine lv_iload_n hx hb dX6_positionOf_1 rfl (lv_at hl 1 rfl) ?_
  refine g_callSr (va_runV (As := [.int a]) (rest := []) ⟨hx, hb, hml, hown, hts⟩ (c_X6_flightOf l D cy ad hI _ iv ar a) (cwV 1 hts gX6_positionOf_X6_flightOf rfl rfl rfl (by decide +kernel) ⟨Nat.le_of_ble_eq_true rfl, Nat.le_of_ble_eq_true rfl⟩) (g_preV hP hK hSt hNw hS (g_at6 (Nat.le_of_ble_eq_true rfl) rfl) rfl) rfl rfl hl.1 rfl (lv_room (Nat.le_of_ble_eq_true rfl)) dX6_positionOf_2 ⟨Nat.zero_le _, Nat.zero_le _⟩) (fun r_1 w_1 => ?_)
  try dsimp only at w_1
  refine va_get (D := D) (ci := 1) (v := .int (iv r_1 4)) (C := RX1) (T := TX1) (N := 5) hx hb hts inX1 hown hK hP r_1 (g_at1 w_1.1 w_1.2) rfl 4 (by decide) lk0 (fun _ h9 => h9) rfl dX6_positionOf_5 ?_
  rw [hQ]
  exact W.iret (v := (iv r_1 4)) hx hb hr (fun t ht hW => ⟨(iv r_1 4), rfl, trivial, ht⟩) (fun q h => by cases h) dX6_positionOf_8
set_option maxHeartbeats 4000000 in
set_option maxRecDepth 100000 in
theorem c_X6_slotOf (l : Launch) (D : va_G) (cy : Nat → ClassId) (ad : Nat → Nat) (hI : gInj ad) (sz : Nat) (iv : gIv) (ar : gAr) (a : Int32)  : Met l yX6_slotOf wsX6_slotOf ({ frames := 2, cells := 0, slots := 0, locals := 36 } : Room) (va_Pc [.ref (ad 90), .int a] (gPre D cy ad sz iv ar)) (vp_Si (fun r => True)) 0 0 (fun _ => False) := by
  refine Met.ofW (cc := cX6_slotOf) (maxL := 2) (ret := (some .int)) (by decide) rfl ?_
  intro p e s m args below meth c s₁ B hml hv
  obtain ⟨rfl, rfl, hP, hK, hSt, hNw⟩ := hv
  have hx := B.exec
  have hb := B.bytes
  have hr := B.returns
  have hts := atoms_spec (ws := wsX6_slotOf) B.pre
  have hown : s.vm.findClass RX6 = some m.cls := findClass_of_methodNamed B.named
  have hlocks := B.notSynchronized
  have hS : va_S (gA ad s.heap.size) s.heap s.heap [] := va_S.rf
  have inX1 : ∀ w ∈ u_ws RX1 TX1 5, w ∈ wsX6_slotOf := by decide +kernel
  have lk0 := hts (.fieldLink RX6 126 "FormationPlanner$Flight" "slot" "I") (by decide +kernel)
  have hl := lv_entry ([.ref (ad 90), .int a]) (n := 2) (Nat.le_of_ble_eq_true rfl)
  rw [lg_entry_eq]
  generalize (lg_sl ([.ref (ad 90), .int a]) ++ List.replicate (2 - (lg_sl ([.ref (ad 90), .int a])).length) Slot.unset).toArray = ls at hl ⊢
  have hl : lv_has ls 2 [(0, .ref (ad 90)), (1, .int a)] := hl
  obtain ⟨Q, hQ⟩ : ∃ Q, Q = MQ below (vp_Si (fun r => True)) (([.ref (ad 90), .int a] : List Value).toArray) s 0 0 (fun _ => False) := ⟨_, rfl⟩
  rw [← hQ]
  refine lv_aload_n hx hb dX6_slotOf_0 rfl (lv_at hl 0 rfl) ?_
  refine lv_iload_n hx hb dX6_slotOf_1 rfl (lv_at hl 1 rfl) ?_
  refine g_callSr (va_runV (As := [.int a]) (rest := []) ⟨hx, hb, hml, hown, hts⟩ (c_X6_flightOf l D cy ad hI _ iv ar a) (cwV 1 hts gX6_slotOf_X6_flightOf rfl rfl rfl (by decide +kernel) ⟨Nat.le_of_ble_eq_true rfl, Nat.le_of_ble_eq_true rfl⟩) (g_preV hP hK hSt hNw hS (g_at6 (Nat.le_of_ble_eq_true rfl) rfl) rfl) rfl rfl hl.1 rfl (lv_room (Nat.le_of_ble_eq_true rfl)) dX6_slotOf_2 ⟨Nat.zero_le _, Nat.zero_le _⟩) (fun r_1 w_1 => ?_)
  try dsimp only at w_1
  refine va_get (D := D) (ci := 1) (v := .int (iv r_1 3)) (C := RX1) (T := TX1) (N := 5) hx hb hts inX1 hown hK hP r_1 (g_at1 w_1.1 w_1.2) rfl 3 (by decide) lk0 (fun _ h9 => h9) rfl dX6_slotOf_5 ?_
  rw [hQ]
  exact W.iret (v := (iv r_1 3)) hx hb hr (fun t ht hW => ⟨(iv r_1 3), rfl, trivial, ht⟩) (fun q h => by cases h) dX6_slotOf_8
set_option maxHeartbeats 4000000 in
set_option maxRecDepth 100000 in
theorem c_X6_ticksLeft (l : Launch) (D : va_G) (cy : Nat → ClassId) (ad : Nat → Nat) (hI : gInj ad) (sz : Nat) (iv : gIv) (ar : gAr) (a : Int32)  : Met l yX6_ticksLeft wsX6_ticksLeft ({ frames := 2, cells := 0, slots := 0, locals := 36 } : Room) (va_Pc [.ref (ad 90), .int a] (gPre D cy ad sz iv ar)) (vp_Si (fun r => True)) 0 0 (fun _ => False) := by
  refine Met.ofW (cc := cX6_ticksLeft) (maxL := 2) (ret := (some .int)) (by decide) rfl ?_
  intro p e s m args below meth c s₁ B hml hv
  obtain ⟨rfl, rfl, hP, hK, hSt, hNw⟩ := hv
  have hx := B.exec
  have hb := B.bytes
  have hr := B.returns
  have hts := atoms_spec (ws := wsX6_ticksLeft) B.pre
  have hown : s.vm.findClass RX6 = some m.cls := findClass_of_methodNamed B.named
  have hlocks := B.notSynchronized
  have hS : va_S (gA ad s.heap.size) s.heap s.heap [] := va_S.rf
  have inX1 : ∀ w ∈ u_ws RX1 TX1 5, w ∈ wsX6_ticksLeft := by decide +kernel
  have inX6 : ∀ w ∈ u_ws RX6 TX6 11, w ∈ wsX6_ticksLeft := by decide +kernel
  have lk0 := hts (.fieldLink RX6 129 "FormationPlanner$Flight" "arrival" "I") (by decide +kernel)
  have lk1 := hts (.fieldLink RX6 60 "FormationPlanner$Plan" "now" "I") (by decide +kernel)
  have lk2 := hts (.methodLink RX6 116 Lib.Math.max.name) (by decide +kernel)
  have lk3 := hts (.static Lib.Math.max.name) (by decide +kernel)
  have lk4 := hts (.initialized "java/lang/Math") (by decide +kernel)
  have lk5 := hts (.code Lib.Math.max.name Lib.Math.max.code 2 (some .int)) (by decide +kernel)
  have hl := lv_entry ([.ref (ad 90), .int a]) (n := 2) (Nat.le_of_ble_eq_true rfl)
  rw [lg_entry_eq]
  generalize (lg_sl ([.ref (ad 90), .int a]) ++ List.replicate (2 - (lg_sl ([.ref (ad 90), .int a])).length) Slot.unset).toArray = ls at hl ⊢
  have hl : lv_has ls 2 [(0, .ref (ad 90)), (1, .int a)] := hl
  obtain ⟨Q, hQ⟩ : ∃ Q, Q = MQ below (vp_Si (fun r => True)) (([.ref (ad 90), .int a] : List Value).toArray) s 0 0 (fun _ => False) := ⟨_, rfl⟩
  rw [← hQ]
  refine lv_iconst (v := 0) hx hb dX6_ticksLeft_0 (by decide) ?_
  refine lv_aload_n hx hb dX6_ticksLeft_1 rfl (lv_at hl 0 rfl) ?_
  refine lv_iload_n hx hb dX6_ticksLeft_2 rfl (lv_at hl 1 rfl) ?_
  refine g_callSr (va_runV (As := [.int a]) (rest := [.int 0]) ⟨hx, hb, hml, hown, hts⟩ (c_X6_flightOf l D cy ad hI _ iv ar a) (cwV 1 hts gX6_ticksLeft_X6_flightOf rfl rfl rfl (by decide +kernel) ⟨Nat.le_of_ble_eq_true rfl, Nat.le_of_ble_eq_true rfl⟩) (g_preV hP hK hSt hNw hS (g_at6 (Nat.le_of_ble_eq_true rfl) rfl) rfl) rfl rfl hl.1 rfl (lv_room (Nat.le_of_ble_eq_true rfl)) dX6_ticksLeft_3 ⟨Nat.zero_le _, Nat.zero_le _⟩) (fun r_1 w_1 => ?_)
  try dsimp only at w_1
  refine va_get (D := D) (ci := 1) (v := .int (iv r_1 2)) (C := RX1) (T := TX1) (N := 5) hx hb hts inX1 hown hK hP r_1 (g_at1 w_1.1 w_1.2) rfl 2 (by decide) lk0 (fun _ h9 => h9) rfl dX6_ticksLeft_6 ?_
  refine lv_aload_n hx hb dX6_ticksLeft_9 rfl (lv_at hl 0 rfl) ?_
  refine va_get (D := D) (ci := 6) (v := .int (iv 90 10)) (C := RX6) (T := TX6) (N := 11) hx hb hts inX6 hown hK hP 90 (g_at6 (Nat.le_of_ble_eq_true rfl) rfl) rfl 10 (by decide) lk1 (fun _ h9 => h9) rfl dX6_ticksLeft_10 ?_
  refine lv_isub hx hb dX6_ticksLeft_13 ?_
  refine lv_topi (fun v_2 ev_2 => ?_)
  refine va_mmax (rest := []) hx hb (hml.trans hl.1.symm) hown lk2 lk3 lk4 lk5 (Nat.le_of_ble_eq_true rfl) (Nat.le_of_ble_eq_true rfl) (Nat.zero_le _) (Nat.zero_le _) dX6_ticksLeft_14 ?_
  refine lv_topi (fun v_3 ev_3 => ?_)
  have tv_3 : v_3.toInt = max (0 : Int) v_2.toInt := i_max (show (0 : Int32).toInt = (0 : Int) from rfl) (rfl : v_2.toInt = v_2.toInt) ev_3
  rw [hQ]
  exact W.iret (v := v_3) hx hb hr (fun t ht hW => ⟨v_3, rfl, trivial, ht⟩) (fun q h => by cases h) dX6_ticksLeft_17
set_option maxHeartbeats 4000000 in
set_option maxRecDepth 100000 in
theorem c_X6_waitsLeft (l : Launch) (D : va_G) (cy : Nat → ClassId) (ad : Nat → Nat) (hI : gInj ad) (sz : Nat) (iv : gIv) (ar : gAr) (a : Int32)  : Met l yX6_waitsLeft wsX6_waitsLeft ({ frames := 2, cells := 0, slots := 0, locals := 36 } : Room) (va_Pc [.ref (ad 90), .int a] (gPre D cy ad sz iv ar)) (vp_Si (fun r => True)) 0 0 (fun _ => False) := by
  refine Met.ofW (cc := cX6_waitsLeft) (maxL := 5) (ret := (some .int)) (by decide) rfl ?_
  intro p e s m args below meth c s₁ B hml hv
  obtain ⟨rfl, rfl, hP, hK, hSt, hNw⟩ := hv
  have hx := B.exec
  have hb := B.bytes
  have hr := B.returns
  have hts := atoms_spec (ws := wsX6_waitsLeft) B.pre
  have hown : s.vm.findClass RX6 = some m.cls := findClass_of_methodNamed B.named
  have hlocks := B.notSynchronized
  have hS : va_S (gA ad s.heap.size) s.heap s.heap [] := va_S.rf
  have inX1 : ∀ w ∈ u_ws RX1 TX1 5, w ∈ wsX6_waitsLeft := by decide +kernel
  have inX6 : ∀ w ∈ u_ws RX6 TX6 11, w ∈ wsX6_waitsLeft := by decide +kernel
  have lk0 := hts (.fieldLink RX6 60 "FormationPlanner$Plan" "now" "I") (by decide +kernel)
  have lk1 := hts (.fieldLink RX6 129 "FormationPlanner$Flight" "arrival" "I") (by decide +kernel)
  have hl := lv_entry ([.ref (ad 90), .int a]) (n := 5) (Nat.le_of_ble_eq_true rfl)
  rw [lg_entry_eq]
  generalize (lg_sl ([.ref (ad 90), .int a]) ++ List.replicate (5 - (lg_sl ([.ref (ad 90), .int a])).length) Slot.unset).toArray = ls at hl ⊢
  have hl : lv_has ls 5 [(0, .ref (ad 90)), (1, .int a)] := hl
  obtain ⟨Q, hQ⟩ : ∃ Q, Q = MQ below (vp_Si (fun r => True)) (([.ref (ad 90), .int a] : List Value).toArray) s 0 0 (fun _ => False) := ⟨_, rfl⟩
  rw [← hQ]
  refine lv_aload_n hx hb dX6_waitsLeft_0 rfl (lv_at hl 0 rfl) ?_
  refine lv_iload_n hx hb dX6_waitsLeft_1 rfl (lv_at hl 1 rfl) ?_
  refine g_callSr (va_runV (As := [.int a]) (rest := []) ⟨hx, hb, hml, hown, hts⟩ (c_X6_flightOf l D cy ad hI _ iv ar a) (cwV 1 hts gX6_waitsLeft_X6_flightOf rfl rfl rfl (by decide +kernel) ⟨Nat.le_of_ble_eq_true rfl, Nat.le_of_ble_eq_true rfl⟩) (g_preV hP hK hSt hNw hS (g_at6 (Nat.le_of_ble_eq_true rfl) rfl) rfl) rfl rfl hl.1 rfl (lv_room (Nat.le_of_ble_eq_true rfl)) dX6_waitsLeft_2 ⟨Nat.zero_le _, Nat.zero_le _⟩) (fun r_1 w_1 => ?_)
  try dsimp only at w_1
  refine lv_astore_n (lv' := [(2, .ref (ad r_1)), (0, .ref (ad 90)), (1, .int a)]) hx hb dX6_waitsLeft_5 rfl hl (by decide) rfl (fun ls hl => ?_)
  refine lv_iconst (v := 0) hx hb dX6_waitsLeft_6 (by decide) ?_
  refine lv_istore_n (lv' := [(3, .int 0), (2, .ref (ad r_1)), (0, .ref (ad 90)), (1, .int a)]) hx hb dX6_waitsLeft_7 rfl hl (by decide) rfl (fun ls hl => ?_)
  refine lv_aload_n hx hb dX6_waitsLeft_8 rfl (lv_at hl 2 rfl) ?_
  refine va_get (D := D) (ci := 6) (v := .int (iv 90 10)) (C := RX6) (T := TX6) (N := 11) hx hb hts inX6 hown hK hP 90 (g_at6 (Nat.le_of_ble_eq_true rfl) rfl) rfl 10 (by decide) lk0 (fun _ h9 => h9) rfl dX6_waitsLeft_9 ?_
  refine lv_istore (lv' := [(4, .int (iv 90 10)), (3, .int 0), (2, .ref (ad r_1)), (0, .ref (ad 90)), (1, .int a)]) hx hb dX6_waitsLeft_12 hl (by decide) rfl (fun ls hl => ?_)
  have loop4 : ∀ (n : Nat) (x4_2 : Int32) (x3_3 : Int32) (ls : Array Slot), (((iv r_1 2).toInt - (x4_2.toInt)).toNat) < n → lv_has ls 5 [(4, .int x4_2), (3, .int x3_3), (2, .ref (ad r_1)), (0, .ref (ad 90)), (1, .int a)] → W p l e (headSpec wsX6_waitsLeft (({ frames := 2, cells := 0, slots := 0, locals := 36 } : Room))).room s m (([.ref (ad 90), .int a] : List Value).toArray) below meth c s.heap [] 0 0 Q (F0 m 14 ls []) := by
    intro n
    induction n with
    | zero => intro x4_2 x3_3 ls hm; omega
    | succ n ih4 =>
      intro x4_2 x3_3 ls hm  hl
      refine lv_iload hx hb dX6_waitsLeft_14 (lv_at hl 0 rfl) ?_
      refine lv_aload_n hx hb dX6_waitsLeft_16 rfl (lv_at hl 2 rfl) ?_
      refine va_get (D := D) (ci := 1) (v := .int (iv r_1 2)) (C := RX1) (T := TX1) (N := 5) hx hb hts inX1 hown hK hP r_1 (g_at1 w_1.1 w_1.2) rfl 2 (by decide) lk1 (fun _ h9 => h9) rfl dX6_waitsLeft_17 ?_
      refine lv_icmp_ge (tgt := 41) hx hb dX6_waitsLeft_20 (by decide) (fun c_5 => ?_) (fun c_5 => ?_)
      · skip
        have q_5 : (iv r_1 2).toInt ≤ x4_2.toInt := i_le2 (rfl : (iv r_1 2).toInt = (iv r_1 2).toInt) (rfl : x4_2.toInt = x4_2.toInt) c_5
        refine lv_iload_n hx hb dX6_waitsLeft_41 rfl (lv_at hl 1 rfl) ?_
        rw [hQ]
        exact W.iret (v := x3_3) hx hb hr (fun t ht hW => ⟨x3_3, rfl, trivial, ht⟩) (fun q h => by cases h) dX6_waitsLeft_42
      · skip
        have q_5 : x4_2.toInt < (iv r_1 2).toInt := i_nle2 (rfl : (iv r_1 2).toInt = (iv r_1 2).toInt) (rfl : x4_2.toInt = x4_2.toInt) c_5
        have hrg := i_rng (iv r_1 2)
        have hrg2 := i_rng x4_2
        refine lv_aload_n hx hb dX6_waitsLeft_23 rfl (lv_at hl 2 rfl) ?_
        refine lv_iload hx hb dX6_waitsLeft_24 (lv_at hl 0 rfl) ?_
        refine g_callSi (va_runV (As := [.int x4_2]) (rest := []) ⟨hx, hb, hml, hown, hts⟩ (c_X1_actionAt l D cy ad hI _ iv ar r_1 w_1.1 w_1.2 x4_2) (cwV 1 hts gX6_waitsLeft_X1_actionAt rfl rfl rfl (by decide +kernel) ⟨Nat.le_of_ble_eq_true rfl, Nat.le_of_ble_eq_true rfl⟩) (g_preV hP hK hSt hNw hS (g_at1 w_1.1 w_1.2) rfl) rfl rfl hl.1 rfl (lv_room (Nat.le_of_ble_eq_true rfl)) dX6_waitsLeft_26 ⟨Nat.zero_le _, Nat.zero_le _⟩) (fun r_6 w_6 => ?_)
        try dsimp only at w_6
        refine lv_if_ne (tgt := 35) hx hb dX6_waitsLeft_29 (by decide) (fun c_7 => ?_) (fun c_7 => ?_)
        · skip
          have q_7 : r_6.toInt ≠ (0 : Int) := i_ne2 (rfl : r_6.toInt = r_6.toInt) (show (0 : Int32).toInt = (0 : Int) from rfl) c_7
          obtain ⟨x4_8, ex4_8⟩ : ∃ y : Int32, y = x4_2 + 1 := ⟨_, rfl⟩
          have tx4_8 : x4_8.toInt = x4_2.toInt + (1 : Int) := i_add (rfl : x4_2.toInt = x4_2.toInt) (show (1 : Int32).toInt = (1 : Int) from rfl) (by omega) (by omega) ex4_8
          refine lv_iinc (v := x4_8) (lv' := [(4, .int x4_8), (3, .int x3_3), (2, .ref (ad r_1)), (0, .ref (ad 90)), (1, .int a)]) hx hb dX6_waitsLeft_35 hl (k := 0) rfl (by rw [ex4_8]; rfl) (by decide) rfl (fun ls hl => ?_)
          refine lv_goto (tgt := 14) hx hb dX6_waitsLeft_38 (by decide) ?_
          exact ih4 x4_8 x3_3 _ (by omega) (lv_sub hl [0, 1, 2, 3, 4] rfl)
        · skip
          have q_7 : r_6.toInt = (0 : Int) := i_eq2 (rfl : r_6.toInt = r_6.toInt) (show (0 : Int32).toInt = (0 : Int) from rfl) c_7
          obtain ⟨x3_9, ex3_9⟩ : ∃ y : Int32, y = x3_3 + 1 := ⟨_, rfl⟩
          refine lv_iinc (v := x3_9) (lv' := [(3, .int x3_9), (4, .int x4_2), (2, .ref (ad r_1)), (0, .ref (ad 90)), (1, .int a)]) hx hb dX6_waitsLeft_32 hl (k := 1) rfl (by rw [ex3_9]; rfl) (by decide) rfl (fun ls hl => ?_)
          obtain ⟨x4_10, ex4_10⟩ : ∃ y : Int32, y = x4_2 + 1 := ⟨_, rfl⟩
          have tx4_10 : x4_10.toInt = x4_2.toInt + (1 : Int) := i_add (rfl : x4_2.toInt = x4_2.toInt) (show (1 : Int32).toInt = (1 : Int) from rfl) (by omega) (by omega) ex4_10
          refine lv_iinc (v := x4_10) (lv' := [(4, .int x4_10), (3, .int x3_9), (2, .ref (ad r_1)), (0, .ref (ad 90)), (1, .int a)]) hx hb dX6_waitsLeft_35 hl (k := 1) rfl (by rw [ex4_10]; rfl) (by decide) rfl (fun ls hl => ?_)
          refine lv_goto (tgt := 14) hx hb dX6_waitsLeft_38 (by decide) ?_
          exact ih4 x4_10 x3_9 _ (by omega) (lv_sub hl [0, 1, 2, 3, 4] rfl)
  have zl_11 : (0 : Int32).toInt = (0 : Int) := rfl
  exact loop4 ((((iv r_1 2).toInt - ((iv 90 10).toInt)).toNat) + 1) (iv 90 10) 0 _ (by omega) (lv_sub hl [0, 1, 2, 3, 4] rfl)
set_option maxHeartbeats 4000000 in
set_option maxRecDepth 100000 in
theorem c_X6_timeWithoutOthers (l : Launch) (D : va_G) (cy : Nat → ClassId) (ad : Nat → Nat) (hI : gInj ad) (sz : Nat) (iv : gIv) (ar : gAr) (a : Int32)  : Met l yX6_timeWithoutOthers wsX6_timeWithoutOthers ({ frames := 4, cells := 0, slots := 0, locals := 93 } : Room) (va_Pc [.ref (ad 90), .int a] (gPre D cy ad sz iv ar)) (va_Qi (fun (r : Int32) (u : gIv × gAr) => u.1 = iv) (gPost D cy ad) (gA ad sz)) 0 0 (gA ad sz) := by
  refine Met.ofW (cc := cX6_timeWithoutOthers) (maxL := 2) (ret := (some .int)) (by decide) rfl ?_
  intro p e s m args below meth c s₁ B hml hv
  obtain ⟨rfl, rfl, hP, hK, hSt, hNw⟩ := hv
  have hx := B.exec
  have hb := B.bytes
  have hr := B.returns
  have hts := atoms_spec (ws := wsX6_timeWithoutOthers) B.pre
  have hown : s.vm.findClass RX6 = some m.cls := findClass_of_methodNamed B.named
  have hlocks := B.notSynchronized
  have hS : va_S (gA ad s.heap.size) s.heap s.heap [] := va_S.rf
  have inX6 : ∀ w ∈ u_ws RX6 TX6 11, w ∈ wsX6_timeWithoutOthers := by decide +kernel
  have inX8 : ∀ w ∈ u_ws RX8 TX8 5, w ∈ wsX6_timeWithoutOthers := by decide +kernel
  have lk0 := hts (.fieldLink RX6 41 "FormationPlanner$Plan" "timesTo" "LFormationPlanner$TimesTo;") (by decide +kernel)
  have lk1 := hts (.fieldLink RX6 28 "FormationPlanner$Plan" "scene" "LFormationPlanner$Scene;") (by decide +kernel)
  have lk2 := hts (.fieldLink RX6 82 "FormationPlanner$Scene" "drones" "LFormationPlanner$Places;") (by decide +kernel)
  have hl := lv_entry ([.ref (ad 90), .int a]) (n := 2) (Nat.le_of_ble_eq_true rfl)
  rw [lg_entry_eq]
  generalize (lg_sl ([.ref (ad 90), .int a]) ++ List.replicate (2 - (lg_sl ([.ref (ad 90), .int a])).length) Slot.unset).toArray = ls at hl ⊢
  have hl : lv_has ls 2 [(0, .ref (ad 90)), (1, .int a)] := hl
  obtain ⟨Q, hQ⟩ : ∃ Q, Q = MQ below (va_Qi (fun (r : Int32) (u : gIv × gAr) => u.1 = iv) (gPost D cy ad) (gA ad s.heap.size)) (([.ref (ad 90), .int a] : List Value).toArray) s 0 0 (gA ad s.heap.size) := ⟨_, rfl⟩
  rw [← hQ]
  refine lv_aload_n hx hb dX6_timeWithoutOthers_0 rfl (lv_at hl 0 rfl) ?_
  refine va_get (D := D) (ci := 6) (v := .ref (ad 91)) (C := RX6) (T := TX6) (N := 11) hx hb hts inX6 hown hK hP 90 (g_at6 (Nat.le_of_ble_eq_true rfl) rfl) rfl 2 (by decide) lk0 (fun _ h9 => h9) rfl dX6_timeWithoutOthers_1 ?_
  refine lv_aload_n hx hb dX6_timeWithoutOthers_4 rfl (lv_at hl 0 rfl) ?_
  refine lv_iload_n hx hb dX6_timeWithoutOthers_5 rfl (lv_at hl 1 rfl) ?_
  refine g_callSi (va_runV (As := [.int a]) (rest := [.ref (ad 91)]) ⟨hx, hb, hml, hown, hts⟩ (c_X6_goalOf l D cy ad hI _ iv ar a) (cwV 1 hts gX6_timeWithoutOthers_X6_goalOf rfl rfl rfl (by decide +kernel) ⟨Nat.le_of_ble_eq_true rfl, Nat.le_of_ble_eq_true rfl⟩) (g_preV hP hK hSt hNw hS (g_at6 (Nat.le_of_ble_eq_true rfl) rfl) rfl) rfl rfl hl.1 rfl (lv_room (Nat.le_of_ble_eq_true rfl)) dX6_timeWithoutOthers_6 ⟨Nat.zero_le _, Nat.zero_le _⟩) (fun r_1 w_1 => ?_)
  try dsimp only at w_1
  refine g_callv (va_runV (As := [.int r_1]) (rest := []) ⟨hx, hb, hml, hown, hts⟩ (c_X9_measure l D cy ad hI _ iv ar 91 (Nat.le_of_ble_eq_true rfl) rfl r_1) (cwV 1 hts gX6_timeWithoutOthers_X9_measure rfl rfl rfl (by decide +kernel) ⟨Nat.le_of_ble_eq_true rfl, Nat.le_of_ble_eq_true rfl⟩) (g_preV hP hK hSt hNw hS (g_at9 (Nat.le_of_ble_eq_true rfl) rfl) rfl) rfl rfl hl.1 rfl (lv_room (Nat.le_of_ble_eq_true rfl)) dX6_timeWithoutOthers_9 ⟨Nat.zero_le _, Nat.zero_le _⟩) hS (fun iv_2 ar_2 H locs w_2 hP hS => ?_)
  try dsimp only at w_2
  have wi_2 := (w_2).symm
  subst wi_2
  refine lv_aload_n hx hb dX6_timeWithoutOthers_12 rfl (lv_at hl 0 rfl) ?_
  refine va_get (D := D) (ci := 6) (v := .ref (ad 91)) (C := RX6) (T := TX6) (N := 11) hx hb hts inX6 hown hK hP 90 (g_at6 (Nat.le_of_ble_eq_true rfl) rfl) rfl 2 (by decide) lk0 (fun _ h9 => h9) rfl dX6_timeWithoutOthers_13 ?_
  refine lv_aload_n hx hb dX6_timeWithoutOthers_16 rfl (lv_at hl 0 rfl) ?_
  refine va_get (D := D) (ci := 6) (v := .ref (ad 1)) (C := RX6) (T := TX6) (N := 11) hx hb hts inX6 hown hK hP 90 (g_at6 (Nat.le_of_ble_eq_true rfl) rfl) rfl 0 (by decide) lk1 (fun _ h9 => h9) rfl dX6_timeWithoutOthers_17 ?_
  refine va_get (D := D) (ci := 8) (v := .ref (ad 4)) (C := RX8) (T := TX8) (N := 5) hx hb hts inX8 hown hK hP 1 (g_at8 (Nat.le_of_ble_eq_true rfl) rfl) rfl 2 (by decide) lk2 (fun _ h9 => h9) rfl dX6_timeWithoutOthers_20 ?_
  refine lv_iload_n hx hb dX6_timeWithoutOthers_23 rfl (lv_at hl 1 rfl) ?_
  refine g_callSi (va_runV (As := [.int a]) (rest := [.ref (ad 91)]) ⟨hx, hb, hml, hown, hts⟩ (c_X5_cellAt l D cy ad hI _ iv ar_2 4 (Nat.le_of_ble_eq_true rfl) rfl a) (cwV 1 hts gX6_timeWithoutOthers_X5_cellAt rfl rfl rfl (by decide +kernel) ⟨Nat.le_of_ble_eq_true rfl, Nat.le_of_ble_eq_true rfl⟩) (g_preV hP hK hSt hNw hS (g_at5 (Nat.le_of_ble_eq_true rfl) rfl) rfl) rfl rfl hl.1 rfl (lv_room (Nat.le_of_ble_eq_true rfl)) dX6_timeWithoutOthers_24 ⟨Nat.zero_le _, Nat.zero_le _⟩) (fun r_3 w_3 => ?_)
  try dsimp only at w_3
  refine g_callSi (va_runV (As := [.int r_3]) (rest := []) ⟨hx, hb, hml, hown, hts⟩ (c_X9_timeFrom l D cy ad hI _ iv ar_2 91 (Nat.le_of_ble_eq_true rfl) rfl r_3) (cwV 1 hts gX6_timeWithoutOthers_X9_timeFrom rfl rfl rfl (by decide +kernel) ⟨Nat.le_of_ble_eq_true rfl, Nat.le_of_ble_eq_true rfl⟩) (g_preV hP hK hSt hNw hS (g_at9 (Nat.le_of_ble_eq_true rfl) rfl) rfl) rfl rfl hl.1 rfl (lv_room (Nat.le_of_ble_eq_true rfl)) dX6_timeWithoutOthers_27 ⟨Nat.zero_le _, Nat.zero_le _⟩) (fun r_4 w_4 => ?_)
  try dsimp only at w_4
  rw [hQ]
  exact W.iret (v := r_4) hx hb hr (fun t ht hW => ⟨⟨r_4, (iv, ar_2), rfl, rfl, by show va_P _ _ _ _; rw [ht]; exact hP⟩, hS.F ht⟩) hS.2.2 dX6_timeWithoutOthers_30
set_option maxHeartbeats 4000000 in
set_option maxRecDepth 100000 in
theorem c_X6_isMet (l : Launch) (D : va_G) (cy : Nat → ClassId) (ad : Nat → Nat) (hI : gInj ad) (sz : Nat) (iv : gIv) (ar : gAr) (k2 : Nat) (hk_k2 : k2 < 135) (hd_k2 : kd k2 = 1) (b : Int32) (d : Int32) (f : Int32)  : Met l yX6_isMet wsX6_isMet ({ frames := 2, cells := 0, slots := 0, locals := 43 } : Room) (va_Pc [.ref (ad 90), .ref (ad k2), .int b, .int d, .int f] (gPre D cy ad sz iv ar)) (vp_Si (fun r => True)) 0 0 (fun _ => False) := by
  refine Met.ofW (cc := cX6_isMet) (maxL := 8) (ret := (some .boolean)) (by decide) rfl ?_
  intro p e s m args below meth c s₁ B hml hv
  obtain ⟨rfl, rfl, hP, hK, hSt, hNw⟩ := hv
  have hx := B.exec
  have hb := B.bytes
  have hr := B.returns
  have hts := atoms_spec (ws := wsX6_isMet) B.pre
  have hown : s.vm.findClass RX6 = some m.cls := findClass_of_methodNamed B.named
  have hlocks := B.notSynchronized
  have hS : va_S (gA ad s.heap.size) s.heap s.heap [] := va_S.rf
  have inX6 : ∀ w ∈ u_ws RX6 TX6 11, w ∈ wsX6_isMet := by decide +kernel
  have lk0 := hts (.fieldLink RX6 32 "FormationPlanner$Plan" "lattice" "LFormationPlanner$Lattice;") (by decide +kernel)
  have hl := lv_entry ([.ref (ad 90), .ref (ad k2), .int b, .int d, .int f]) (n := 8) (Nat.le_of_ble_eq_true rfl)
  rw [lg_entry_eq]
  generalize (lg_sl ([.ref (ad 90), .ref (ad k2), .int b, .int d, .int f]) ++ List.replicate (8 - (lg_sl ([.ref (ad 90), .ref (ad k2), .int b, .int d, .int f])).length) Slot.unset).toArray = ls at hl ⊢
  have hl : lv_has ls 8 [(0, .ref (ad 90)), (1, .ref (ad k2)), (2, .int b), (3, .int d), (4, .int f)] := hl
  obtain ⟨Q, hQ⟩ : ∃ Q, Q = MQ below (vp_Si (fun r => True)) (([.ref (ad 90), .ref (ad k2), .int b, .int d, .int f] : List Value).toArray) s 0 0 (fun _ => False) := ⟨_, rfl⟩
  rw [← hQ]
  refine lv_aload_n hx hb dX6_isMet_0 rfl (lv_at hl 0 rfl) ?_
  refine va_get (D := D) (ci := 6) (v := .ref (ad 70)) (C := RX6) (T := TX6) (N := 11) hx hb hts inX6 hown hK hP 90 (g_at6 (Nat.le_of_ble_eq_true rfl) rfl) rfl 1 (by decide) lk0 (fun _ h9 => h9) rfl dX6_isMet_1 ?_
  refine lv_iload_n hx hb dX6_isMet_4 rfl (lv_at hl 3 rfl) ?_
  refine lv_iload hx hb dX6_isMet_5 (lv_at hl 4 rfl) ?_
  refine g_callSi (va_runV (As := [.int d, .int f]) (rest := []) ⟨hx, hb, hml, hown, hts⟩ (c_X4_next l D cy ad hI _ iv ar d f) (cwV 2 hts gX6_isMet_X4_next rfl rfl rfl (by decide +kernel) ⟨Nat.le_of_ble_eq_true rfl, Nat.le_of_ble_eq_true rfl⟩) (g_preV hP hK hSt hNw hS (g_at4 (Nat.le_of_ble_eq_true rfl) rfl) rfl) rfl rfl hl.1 rfl (lv_room (Nat.le_of_ble_eq_true rfl)) dX6_isMet_7 ⟨Nat.zero_le _, Nat.zero_le _⟩) (fun r_1 w_1 => ?_)
  try dsimp only at w_1
  refine lv_istore (lv' := [(5, .int r_1), (0, .ref (ad 90)), (1, .ref (ad k2)), (2, .int b), (3, .int d), (4, .int f)]) hx hb dX6_isMet_10 hl (by decide) rfl (fun ls hl => ?_)
  refine lv_aload_n hx hb dX6_isMet_12 rfl (lv_at hl 1 rfl) ?_
  refine va_get (D := D) (ci := 6) (v := .ref (ad 70)) (C := RX6) (T := TX6) (N := 11) hx hb hts inX6 hown hK hP 90 (g_at6 (Nat.le_of_ble_eq_true rfl) rfl) rfl 1 (by decide) lk0 (fun _ h9 => h9) rfl dX6_isMet_13 ?_
  refine lv_iload_n hx hb dX6_isMet_16 rfl (lv_at hl 4 rfl) ?_
  refine lv_iload hx hb dX6_isMet_17 (lv_at hl 5 rfl) ?_
  refine g_callSi (va_runV (As := [.int d, .int f]) (rest := []) ⟨hx, hb, hml, hown, hts⟩ (c_X4_ticks l D cy ad hI _ iv ar d f) (cwV 2 hts gX6_isMet_X4_ticks rfl rfl rfl (by decide +kernel) ⟨Nat.le_of_ble_eq_true rfl, Nat.le_of_ble_eq_true rfl⟩) (g_preV hP hK hSt hNw hS (g_at4 (Nat.le_of_ble_eq_true rfl) rfl) rfl) rfl rfl hl.1 rfl (lv_room (Nat.le_of_ble_eq_true rfl)) dX6_isMet_19 ⟨Nat.zero_le _, Nat.zero_le _⟩) (fun r_2 w_2 => ?_)
  try dsimp only at w_2
  refine lv_istore (lv' := [(6, .int r_2), (5, .int r_1), (0, .ref (ad 90)), (1, .ref (ad k2)), (2, .int b), (3, .int d), (4, .int f)]) hx hb dX6_isMet_22 hl (by decide) rfl (fun ls hl => ?_)
  refine lv_iload_n hx hb dX6_isMet_24 rfl (lv_at hl 4 rfl) ?_
  refine lv_iload hx hb dX6_isMet_25 (lv_at hl 0 rfl) ?_
  refine lv_iadd hx hb dX6_isMet_27 ?_
  refine lv_topi (fun v_3 ev_3 => ?_)
  refine lv_istore (lv' := [(7, .int v_3), (6, .int r_2), (5, .int r_1), (0, .ref (ad 90)), (1, .ref (ad k2)), (2, .int b), (3, .int d), (4, .int f)]) hx hb dX6_isMet_28 hl (by decide) rfl (fun ls hl => ?_)
  refine lv_iload hx hb dX6_isMet_30 (lv_at hl 1 rfl) ?_
  refine lv_iconst (v := 2) hx hb dX6_isMet_32 (by decide) ?_
  refine lv_icmp_ne (tgt := 49) hx hb dX6_isMet_33 (by decide) (fun c_4 => ?_) (fun c_4 => ?_)
  · skip
    have q_4 : r_2.toInt ≠ (2 : Int) := i_ne2 (rfl : r_2.toInt = r_2.toInt) (show (2 : Int32).toInt = (2 : Int) from rfl) c_4
    refine lv_aload_n hx hb dX6_isMet_49 rfl (lv_at hl 4 rfl) ?_
    refine lv_iload hx hb dX6_isMet_50 (lv_at hl 0 rfl) ?_
    refine g_callSi (va_runV (As := [.int v_3]) (rest := []) ⟨hx, hb, hml, hown, hts⟩ (c_X1_cellAt l D cy ad hI _ iv ar k2 hk_k2 hd_k2 v_3) (cwV 1 hts gX6_isMet_X1_cellAt rfl rfl rfl (by decide +kernel) ⟨Nat.le_of_ble_eq_true rfl, Nat.le_of_ble_eq_true rfl⟩) (g_preV hP hK hSt hNw hS (g_at1 hk_k2 hd_k2) rfl) rfl rfl hl.1 rfl (lv_room (Nat.le_of_ble_eq_true rfl)) dX6_isMet_52 ⟨Nat.zero_le _, Nat.zero_le _⟩) (fun r_5 w_5 => ?_)
    try dsimp only at w_5
    refine lv_iload hx hb dX6_isMet_55 (lv_at hl 2 rfl) ?_
    refine lv_icmp_ne (tgt := 62) hx hb dX6_isMet_57 (by decide) (fun c_6 => ?_) (fun c_6 => ?_)
    · skip
      have q_6 : r_5.toInt ≠ r_1.toInt := i_ne2 (rfl : r_5.toInt = r_5.toInt) (rfl : r_1.toInt = r_1.toInt) c_6
      refine lv_aload_n hx hb dX6_isMet_62 rfl (lv_at hl 4 rfl) ?_
      refine lv_iload hx hb dX6_isMet_63 (lv_at hl 0 rfl) ?_
      refine lv_iconst (v := 1) hx hb dX6_isMet_65 (by decide) ?_
      refine lv_isub hx hb dX6_isMet_66 ?_
      refine lv_topi (fun v_7 ev_7 => ?_)
      refine g_callSi (va_runV (As := [.int v_7]) (rest := []) ⟨hx, hb, hml, hown, hts⟩ (c_X1_cellAt l D cy ad hI _ iv ar k2 hk_k2 hd_k2 v_7) (cwV 1 hts gX6_isMet_X1_cellAt rfl rfl rfl (by decide +kernel) ⟨Nat.le_of_ble_eq_true rfl, Nat.le_of_ble_eq_true rfl⟩) (g_preV hP hK hSt hNw hS (g_at1 hk_k2 hd_k2) rfl) rfl rfl hl.1 rfl (lv_room (Nat.le_of_ble_eq_true rfl)) dX6_isMet_67 ⟨Nat.zero_le _, Nat.zero_le _⟩) (fun r_8 w_8 => ?_)
      try dsimp only at w_8
      refine lv_iload hx hb dX6_isMet_70 (lv_at hl 2 rfl) ?_
      refine lv_icmp_ne (tgt := 89) hx hb dX6_isMet_72 (by decide) (fun c_9 => ?_) (fun c_9 => ?_)
      · skip
        have q_9 : r_8.toInt ≠ r_1.toInt := i_ne2 (rfl : r_8.toInt = r_8.toInt) (rfl : r_1.toInt = r_1.toInt) c_9
        refine lv_iconst (v := 0) hx hb dX6_isMet_89 (by decide) ?_
        rw [hQ]
        exact W.zret (v := 0) hx hb hr rfl (fun t ht hW => ⟨0, rfl, trivial, ht⟩) (fun q h => by cases h) dX6_isMet_90
      · skip
        have q_9 : r_8.toInt = r_1.toInt := i_eq2 (rfl : r_8.toInt = r_8.toInt) (rfl : r_1.toInt = r_1.toInt) c_9
        refine lv_aload_n hx hb dX6_isMet_75 rfl (lv_at hl 4 rfl) ?_
        refine lv_iload hx hb dX6_isMet_76 (lv_at hl 0 rfl) ?_
        refine g_callSi (va_runV (As := [.int v_3]) (rest := []) ⟨hx, hb, hml, hown, hts⟩ (c_X1_cellAt l D cy ad hI _ iv ar k2 hk_k2 hd_k2 v_3) (cwV 1 hts gX6_isMet_X1_cellAt rfl rfl rfl (by decide +kernel) ⟨Nat.le_of_ble_eq_true rfl, Nat.le_of_ble_eq_true rfl⟩) (g_preV hP hK hSt hNw hS (g_at1 hk_k2 hd_k2) rfl) rfl rfl hl.1 rfl (lv_room (Nat.le_of_ble_eq_true rfl)) dX6_isMet_78 ⟨Nat.zero_le _, Nat.zero_le _⟩) (fun r_10 w_10 => ?_)
        try dsimp only at w_10
        refine lv_iload_n hx hb dX6_isMet_81 rfl (lv_at hl 6 rfl) ?_
        refine lv_icmp_ne (tgt := 89) hx hb dX6_isMet_82 (by decide) (fun c_11 => ?_) (fun c_11 => ?_)
        · skip
          have q_11 : r_10.toInt ≠ d.toInt := i_ne2 (rfl : r_10.toInt = r_10.toInt) (rfl : d.toInt = d.toInt) c_11
          refine lv_iconst (v := 0) hx hb dX6_isMet_89 (by decide) ?_
          rw [hQ]
          exact W.zret (v := 0) hx hb hr rfl (fun t ht hW => ⟨0, rfl, trivial, ht⟩) (fun q h => by cases h) dX6_isMet_90
        · skip
          have q_11 : r_10.toInt = d.toInt := i_eq2 (rfl : r_10.toInt = r_10.toInt) (rfl : d.toInt = d.toInt) c_11
          refine lv_iconst (v := 1) hx hb dX6_isMet_85 (by decide) ?_
          refine lv_goto (tgt := 90) hx hb dX6_isMet_86 (by decide) ?_
          rw [hQ]
          exact W.zret (v := 1) hx hb hr rfl (fun t ht hW => ⟨1, rfl, trivial, ht⟩) (fun q h => by cases h) dX6_isMet_90
    · skip
      have q_6 : r_5.toInt = r_1.toInt := i_eq2 (rfl : r_5.toInt = r_5.toInt) (rfl : r_1.toInt = r_1.toInt) c_6
      refine lv_iconst (v := 1) hx hb dX6_isMet_60 (by decide) ?_
      rw [hQ]
      exact W.zret (v := 1) hx hb hr rfl (fun t ht hW => ⟨1, rfl, trivial, ht⟩) (fun q h => by cases h) dX6_isMet_61
  · skip
    have q_4 : r_2.toInt = (2 : Int) := i_eq2 (rfl : r_2.toInt = r_2.toInt) (show (2 : Int32).toInt = (2 : Int) from rfl) c_4
    refine lv_aload_n hx hb dX6_isMet_36 rfl (lv_at hl 4 rfl) ?_
    refine lv_iload_n hx hb dX6_isMet_37 rfl (lv_at hl 5 rfl) ?_
    refine lv_iconst (v := 1) hx hb dX6_isMet_38 (by decide) ?_
    refine lv_iadd hx hb dX6_isMet_39 ?_
    refine lv_topi (fun v_12 ev_12 => ?_)
    refine g_callSi (va_runV (As := [.int v_12]) (rest := []) ⟨hx, hb, hml, hown, hts⟩ (c_X1_cellAt l D cy ad hI _ iv ar k2 hk_k2 hd_k2 v_12) (cwV 1 hts gX6_isMet_X1_cellAt rfl rfl rfl (by decide +kernel) ⟨Nat.le_of_ble_eq_true rfl, Nat.le_of_ble_eq_true rfl⟩) (g_preV hP hK hSt hNw hS (g_at1 hk_k2 hd_k2) rfl) rfl rfl hl.1 rfl (lv_room (Nat.le_of_ble_eq_true rfl)) dX6_isMet_40 ⟨Nat.zero_le _, Nat.zero_le _⟩) (fun r_13 w_13 => ?_)
    try dsimp only at w_13
    refine lv_iload_n hx hb dX6_isMet_43 rfl (lv_at hl 6 rfl) ?_
    refine lv_icmp_ne (tgt := 49) hx hb dX6_isMet_44 (by decide) (fun c_14 => ?_) (fun c_14 => ?_)
    · skip
      have q_14 : r_13.toInt ≠ d.toInt := i_ne2 (rfl : r_13.toInt = r_13.toInt) (rfl : d.toInt = d.toInt) c_14
      refine lv_aload_n hx hb dX6_isMet_49 rfl (lv_at hl 4 rfl) ?_
      refine lv_iload hx hb dX6_isMet_50 (lv_at hl 0 rfl) ?_
      refine g_callSi (va_runV (As := [.int v_3]) (rest := []) ⟨hx, hb, hml, hown, hts⟩ (c_X1_cellAt l D cy ad hI _ iv ar k2 hk_k2 hd_k2 v_3) (cwV 1 hts gX6_isMet_X1_cellAt rfl rfl rfl (by decide +kernel) ⟨Nat.le_of_ble_eq_true rfl, Nat.le_of_ble_eq_true rfl⟩) (g_preV hP hK hSt hNw hS (g_at1 hk_k2 hd_k2) rfl) rfl rfl hl.1 rfl (lv_room (Nat.le_of_ble_eq_true rfl)) dX6_isMet_52 ⟨Nat.zero_le _, Nat.zero_le _⟩) (fun r_15 w_15 => ?_)
      try dsimp only at w_15
      refine lv_iload hx hb dX6_isMet_55 (lv_at hl 2 rfl) ?_
      refine lv_icmp_ne (tgt := 62) hx hb dX6_isMet_57 (by decide) (fun c_16 => ?_) (fun c_16 => ?_)
      · skip
        have q_16 : r_15.toInt ≠ r_1.toInt := i_ne2 (rfl : r_15.toInt = r_15.toInt) (rfl : r_1.toInt = r_1.toInt) c_16
        refine lv_aload_n hx hb dX6_isMet_62 rfl (lv_at hl 4 rfl) ?_
        refine lv_iload hx hb dX6_isMet_63 (lv_at hl 0 rfl) ?_
        refine lv_iconst (v := 1) hx hb dX6_isMet_65 (by decide) ?_
        refine lv_isub hx hb dX6_isMet_66 ?_
        refine lv_topi (fun v_17 ev_17 => ?_)
        refine g_callSi (va_runV (As := [.int v_17]) (rest := []) ⟨hx, hb, hml, hown, hts⟩ (c_X1_cellAt l D cy ad hI _ iv ar k2 hk_k2 hd_k2 v_17) (cwV 1 hts gX6_isMet_X1_cellAt rfl rfl rfl (by decide +kernel) ⟨Nat.le_of_ble_eq_true rfl, Nat.le_of_ble_eq_true rfl⟩) (g_preV hP hK hSt hNw hS (g_at1 hk_k2 hd_k2) rfl) rfl rfl hl.1 rfl (lv_room (Nat.le_of_ble_eq_true rfl)) dX6_isMet_67 ⟨Nat.zero_le _, Nat.zero_le _⟩) (fun r_18 w_18 => ?_)
        try dsimp only at w_18
        refine lv_iload hx hb dX6_isMet_70 (lv_at hl 2 rfl) ?_
        refine lv_icmp_ne (tgt := 89) hx hb dX6_isMet_72 (by decide) (fun c_19 => ?_) (fun c_19 => ?_)
        · skip
          have q_19 : r_18.toInt ≠ r_1.toInt := i_ne2 (rfl : r_18.toInt = r_18.toInt) (rfl : r_1.toInt = r_1.toInt) c_19
          refine lv_iconst (v := 0) hx hb dX6_isMet_89 (by decide) ?_
          rw [hQ]
          exact W.zret (v := 0) hx hb hr rfl (fun t ht hW => ⟨0, rfl, trivial, ht⟩) (fun q h => by cases h) dX6_isMet_90
        · skip
          have q_19 : r_18.toInt = r_1.toInt := i_eq2 (rfl : r_18.toInt = r_18.toInt) (rfl : r_1.toInt = r_1.toInt) c_19
          refine lv_aload_n hx hb dX6_isMet_75 rfl (lv_at hl 4 rfl) ?_
          refine lv_iload hx hb dX6_isMet_76 (lv_at hl 0 rfl) ?_
          refine g_callSi (va_runV (As := [.int v_3]) (rest := []) ⟨hx, hb, hml, hown, hts⟩ (c_X1_cellAt l D cy ad hI _ iv ar k2 hk_k2 hd_k2 v_3) (cwV 1 hts gX6_isMet_X1_cellAt rfl rfl rfl (by decide +kernel) ⟨Nat.le_of_ble_eq_true rfl, Nat.le_of_ble_eq_true rfl⟩) (g_preV hP hK hSt hNw hS (g_at1 hk_k2 hd_k2) rfl) rfl rfl hl.1 rfl (lv_room (Nat.le_of_ble_eq_true rfl)) dX6_isMet_78 ⟨Nat.zero_le _, Nat.zero_le _⟩) (fun r_20 w_20 => ?_)
          try dsimp only at w_20
          refine lv_iload_n hx hb dX6_isMet_81 rfl (lv_at hl 6 rfl) ?_
          refine lv_icmp_ne (tgt := 89) hx hb dX6_isMet_82 (by decide) (fun c_21 => ?_) (fun c_21 => ?_)
          · skip
            have q_21 : r_20.toInt ≠ d.toInt := i_ne2 (rfl : r_20.toInt = r_20.toInt) (rfl : d.toInt = d.toInt) c_21
            refine lv_iconst (v := 0) hx hb dX6_isMet_89 (by decide) ?_
            rw [hQ]
            exact W.zret (v := 0) hx hb hr rfl (fun t ht hW => ⟨0, rfl, trivial, ht⟩) (fun q h => by cases h) dX6_isMet_90
          · skip
            have q_21 : r_20.toInt = d.toInt := i_eq2 (rfl : r_20.toInt = r_20.toInt) (rfl : d.toInt = d.toInt) c_21
            refine lv_iconst (v := 1) hx hb dX6_isMet_85 (by decide) ?_
            refine lv_goto (tgt := 90) hx hb dX6_isMet_86 (by decide) ?_
            rw [hQ]
            exact W.zret (v := 1) hx hb hr rfl (fun t ht hW => ⟨1, rfl, trivial, ht⟩) (fun q h => by cases h) dX6_isMet_90
      · skip
        have q_16 : r_15.toInt = r_1.toInt := i_eq2 (rfl : r_15.toInt = r_15.toInt) (rfl : r_1.toInt = r_1.toInt) c_16
        refine lv_iconst (v := 1) hx hb dX6_isMet_60 (by decide) ?_
        rw [hQ]
        exact W.zret (v := 1) hx hb hr rfl (fun t ht hW => ⟨1, rfl, trivial, ht⟩) (fun q h => by cases h) dX6_isMet_61
    · skip
      have q_14 : r_13.toInt = d.toInt := i_eq2 (rfl : r_13.toInt = r_13.toInt) (rfl : d.toInt = d.toInt) c_14
      refine lv_iconst (v := 1) hx hb dX6_isMet_47 (by decide) ?_
      rw [hQ]
      exact W.zret (v := 1) hx hb hr rfl (fun t ht hW => ⟨1, rfl, trivial, ht⟩) (fun q h => by cases h) dX6_isMet_48
set_option maxHeartbeats 4000000 in
set_option maxRecDepth 100000 in
theorem c_X6_hinderer (l : Launch) (D : va_G) (cy : Nat → ClassId) (ad : Nat → Nat) (hI : gInj ad) (sz : Nat) (iv : gIv) (ar : gAr) (a : Int32) (b : Int32)  : Met l yX6_hinderer wsX6_hinderer ({ frames := 4, cells := 0, slots := 0, locals := 93 } : Room) (va_Pc [.ref (ad 90), .int a, .int b] (gPre D cy ad sz iv ar)) (va_Qi (fun (r : Int32) (u : gIv × gAr) => u.1 = iv) (gPost D cy ad) (gA ad sz)) 0 0 (gA ad sz) := by
  refine Met.ofW (cc := cX6_hinderer) (maxL := 9) (ret := (some .int)) (by decide) rfl ?_
  intro p e s m args below meth c s₁ B hml hv
  obtain ⟨rfl, rfl, hP, hK, hSt, hNw⟩ := hv
  have hx := B.exec
  have hb := B.bytes
  have hr := B.returns
  have hts := atoms_spec (ws := wsX6_hinderer) B.pre
  have hown : s.vm.findClass RX6 = some m.cls := findClass_of_methodNamed B.named
  have hlocks := B.notSynchronized
  have hS : va_S (gA ad s.heap.size) s.heap s.heap [] := va_S.rf
  have inX1 : ∀ w ∈ u_ws RX1 TX1 5, w ∈ wsX6_hinderer := by decide +kernel
  have inX6 : ∀ w ∈ u_ws RX6 TX6 11, w ∈ wsX6_hinderer := by decide +kernel
  have lk0 := hts (.fieldLink RX6 60 "FormationPlanner$Plan" "now" "I") (by decide +kernel)
  have lk1 := hts (.fieldLink RX6 129 "FormationPlanner$Flight" "arrival" "I") (by decide +kernel)
  have lk2 := hts (.fieldLink RX6 41 "FormationPlanner$Plan" "timesTo" "LFormationPlanner$TimesTo;") (by decide +kernel)
  have lk3 := hts (.fieldLink RX6 74 "FormationPlanner$Plan" "size" "I") (by decide +kernel)
  have lk4 := hts (.fieldLink RX6 11 "FormationPlanner$Plan" "flights" "[LFormationPlanner$Flight;") (by decide +kernel)
  have lk5 := hts (.fieldLink RX6 123 "FormationPlanner$Flight" "position" "I") (by decide +kernel)
  have hl := lv_entry ([.ref (ad 90), .int a, .int b]) (n := 9) (Nat.le_of_ble_eq_true rfl)
  rw [lg_entry_eq]
  generalize (lg_sl ([.ref (ad 90), .int a, .int b]) ++ List.replicate (9 - (lg_sl ([.ref (ad 90), .int a, .int b])).length) Slot.unset).toArray = ls at hl ⊢
  have hl : lv_has ls 9 [(0, .ref (ad 90)), (1, .int a), (2, .int b)] := hl
  obtain ⟨Q, hQ⟩ : ∃ Q, Q = MQ below (va_Qi (fun (r : Int32) (u : gIv × gAr) => u.1 = iv) (gPost D cy ad) (gA ad s.heap.size)) (([.ref (ad 90), .int a, .int b] : List Value).toArray) s 0 0 (gA ad s.heap.size) := ⟨_, rfl⟩
  rw [← hQ]
  refine lv_aload_n hx hb dX6_hinderer_0 rfl (lv_at hl 0 rfl) ?_
  refine lv_iload_n hx hb dX6_hinderer_1 rfl (lv_at hl 1 rfl) ?_
  refine g_callSr (va_runV (As := [.int a]) (rest := []) ⟨hx, hb, hml, hown, hts⟩ (c_X6_flightOf l D cy ad hI _ iv ar a) (cwV 1 hts gX6_hinderer_X6_flightOf rfl rfl rfl (by decide +kernel) ⟨Nat.le_of_ble_eq_true rfl, Nat.le_of_ble_eq_true rfl⟩) (g_preV hP hK hSt hNw hS (g_at6 (Nat.le_of_ble_eq_true rfl) rfl) rfl) rfl rfl hl.1 rfl (lv_room (Nat.le_of_ble_eq_true rfl)) dX6_hinderer_2 ⟨Nat.zero_le _, Nat.zero_le _⟩) (fun r_1 w_1 => ?_)
  try dsimp only at w_1
  refine lv_astore_n (lv' := [(3, .ref (ad r_1)), (0, .ref (ad 90)), (1, .int a), (2, .int b)]) hx hb dX6_hinderer_5 rfl hl (by decide) rfl (fun ls hl => ?_)
  refine lv_aload_n hx hb dX6_hinderer_6 rfl (lv_at hl 1 rfl) ?_
  refine va_get (D := D) (ci := 6) (v := .int (iv 90 10)) (C := RX6) (T := TX6) (N := 11) hx hb hts inX6 hown hK hP 90 (g_at6 (Nat.le_of_ble_eq_true rfl) rfl) rfl 10 (by decide) lk0 (fun _ h9 => h9) rfl dX6_hinderer_7 ?_
  refine lv_iload_n hx hb dX6_hinderer_10 rfl (lv_at hl 3 rfl) ?_
  refine lv_iadd hx hb dX6_hinderer_11 ?_
  refine lv_topi (fun v_2 ev_2 => ?_)
  refine lv_istore (lv' := [(4, .int v_2), (3, .ref (ad r_1)), (0, .ref (ad 90)), (1, .int a), (2, .int b)]) hx hb dX6_hinderer_12 hl (by decide) rfl (fun ls hl => ?_)
  refine lv_iload hx hb dX6_hinderer_14 (lv_at hl 0 rfl) ?_
  refine lv_aload_n hx hb dX6_hinderer_16 rfl (lv_at hl 1 rfl) ?_
  refine va_get (D := D) (ci := 1) (v := .int (iv r_1 2)) (C := RX1) (T := TX1) (N := 5) hx hb hts inX1 hown hK hP r_1 (g_at1 w_1.1 w_1.2) rfl 2 (by decide) lk1 (fun _ h9 => h9) rfl dX6_hinderer_17 ?_
  refine lv_icmp_ge (tgt := 32) hx hb dX6_hinderer_20 (by decide) (fun c_3 => ?_) (fun c_3 => ?_)
  · skip
    have q_3 : (iv r_1 2).toInt ≤ v_2.toInt := i_le2 (rfl : (iv r_1 2).toInt = (iv r_1 2).toInt) (rfl : v_2.toInt = v_2.toInt) c_3
    refine lv_iconst (v := (-1)) hx hb dX6_hinderer_32 (by decide) ?_
    rw [hQ]
    exact W.iret (v := (-1)) hx hb hr (fun t ht hW => ⟨⟨(-1), (iv, ar), rfl, rfl, by show va_P _ _ _ _; rw [ht]; exact hP⟩, hS.F ht⟩) hS.2.2 dX6_hinderer_33
  · skip
    have q_3 : v_2.toInt < (iv r_1 2).toInt := i_nle2 (rfl : (iv r_1 2).toInt = (iv r_1 2).toInt) (rfl : v_2.toInt = v_2.toInt) c_3
    refine lv_aload_n hx hb dX6_hinderer_23 rfl (lv_at hl 1 rfl) ?_
    refine lv_iload hx hb dX6_hinderer_24 (lv_at hl 0 rfl) ?_
    refine g_callSi (va_runV (As := [.int v_2]) (rest := []) ⟨hx, hb, hml, hown, hts⟩ (c_X1_actionAt l D cy ad hI _ iv ar r_1 w_1.1 w_1.2 v_2) (cwV 1 hts gX6_hinderer_X1_actionAt rfl rfl rfl (by decide +kernel) ⟨Nat.le_of_ble_eq_true rfl, Nat.le_of_ble_eq_true rfl⟩) (g_preV hP hK hSt hNw hS (g_at1 w_1.1 w_1.2) rfl) rfl rfl hl.1 rfl (lv_room (Nat.le_of_ble_eq_true rfl)) dX6_hinderer_26 ⟨Nat.zero_le _, Nat.zero_le _⟩) (fun r_4 w_4 => ?_)
    try dsimp only at w_4
    refine lv_if_eq (tgt := 34) hx hb dX6_hinderer_29 (by decide) (fun c_5 => ?_) (fun c_5 => ?_)
    · skip
      have q_5 : r_4.toInt = (0 : Int) := i_eq2 (rfl : r_4.toInt = r_4.toInt) (show (0 : Int32).toInt = (0 : Int) from rfl) c_5
      refine lv_aload_n hx hb dX6_hinderer_34 rfl (lv_at hl 2 rfl) ?_
      refine va_get (D := D) (ci := 6) (v := .ref (ad 91)) (C := RX6) (T := TX6) (N := 11) hx hb hts inX6 hown hK hP 90 (g_at6 (Nat.le_of_ble_eq_true rfl) rfl) rfl 2 (by decide) lk2 (fun _ h9 => h9) rfl dX6_hinderer_35 ?_
      refine lv_aload_n hx hb dX6_hinderer_38 rfl (lv_at hl 2 rfl) ?_
      refine lv_iload_n hx hb dX6_hinderer_39 rfl (lv_at hl 3 rfl) ?_
      refine g_callSi (va_runV (As := [.int a]) (rest := [.ref (ad 91)]) ⟨hx, hb, hml, hown, hts⟩ (c_X6_goalOf l D cy ad hI _ iv ar a) (cwV 1 hts gX6_hinderer_X6_goalOf rfl rfl rfl (by decide +kernel) ⟨Nat.le_of_ble_eq_true rfl, Nat.le_of_ble_eq_true rfl⟩) (g_preV hP hK hSt hNw hS (g_at6 (Nat.le_of_ble_eq_true rfl) rfl) rfl) rfl rfl hl.1 rfl (lv_room (Nat.le_of_ble_eq_true rfl)) dX6_hinderer_40 ⟨Nat.zero_le _, Nat.zero_le _⟩) (fun r_6 w_6 => ?_)
      try dsimp only at w_6
      refine g_callv (va_runV (As := [.int r_6]) (rest := []) ⟨hx, hb, hml, hown, hts⟩ (c_X9_measure l D cy ad hI _ iv ar 91 (Nat.le_of_ble_eq_true rfl) rfl r_6) (cwV 1 hts gX6_hinderer_X9_measure rfl rfl rfl (by decide +kernel) ⟨Nat.le_of_ble_eq_true rfl, Nat.le_of_ble_eq_true rfl⟩) (g_preV hP hK hSt hNw hS (g_at9 (Nat.le_of_ble_eq_true rfl) rfl) rfl) rfl rfl hl.1 rfl (lv_room (Nat.le_of_ble_eq_true rfl)) dX6_hinderer_43 ⟨Nat.zero_le _, Nat.zero_le _⟩) hS (fun iv_7 ar_7 H locs w_7 hP hS => ?_)
      try dsimp only at w_7
      have wi_7 := (w_7).symm
      subst wi_7
      refine lv_aload_n hx hb dX6_hinderer_46 rfl (lv_at hl 1 rfl) ?_
      refine lv_iload hx hb dX6_hinderer_47 (lv_at hl 0 rfl) ?_
      refine g_callSi (va_runV (As := [.int v_2]) (rest := []) ⟨hx, hb, hml, hown, hts⟩ (c_X1_cellAt l D cy ad hI _ iv ar_7 r_1 w_1.1 w_1.2 v_2) (cwV 1 hts gX6_hinderer_X1_cellAt rfl rfl rfl (by decide +kernel) ⟨Nat.le_of_ble_eq_true rfl, Nat.le_of_ble_eq_true rfl⟩) (g_preV hP hK hSt hNw hS (g_at1 w_1.1 w_1.2) rfl) rfl rfl hl.1 rfl (lv_room (Nat.le_of_ble_eq_true rfl)) dX6_hinderer_49 ⟨Nat.zero_le _, Nat.zero_le _⟩) (fun r_8 w_8 => ?_)
      try dsimp only at w_8
      refine lv_istore (lv' := [(5, .int r_8), (4, .int v_2), (3, .ref (ad r_1)), (0, .ref (ad 90)), (1, .int a), (2, .int b)]) hx hb dX6_hinderer_52 hl (by decide) rfl (fun ls hl => ?_)
      refine lv_aload_n hx hb dX6_hinderer_54 rfl (lv_at hl 3 rfl) ?_
      refine va_get (D := D) (ci := 6) (v := .ref (ad 91)) (C := RX6) (T := TX6) (N := 11) hx hb hts inX6 hown hK hP 90 (g_at6 (Nat.le_of_ble_eq_true rfl) rfl) rfl 2 (by decide) lk2 (fun _ h9 => h9) rfl dX6_hinderer_55 ?_
      refine lv_iload hx hb dX6_hinderer_58 (lv_at hl 0 rfl) ?_
      refine g_callSi (va_runV (As := [.int r_8]) (rest := []) ⟨hx, hb, hml, hown, hts⟩ (c_X9_firstAction l D cy ad hI _ iv ar_7 91 (Nat.le_of_ble_eq_true rfl) rfl r_8) (cwV 1 hts gX6_hinderer_X9_firstAction rfl rfl rfl (by decide +kernel) ⟨Nat.le_of_ble_eq_true rfl, Nat.le_of_ble_eq_true rfl⟩) (g_preV hP hK hSt hNw hS (g_at9 (Nat.le_of_ble_eq_true rfl) rfl) rfl) rfl rfl hl.1 rfl (lv_room (Nat.le_of_ble_eq_true rfl)) dX6_hinderer_60 ⟨Nat.zero_le _, Nat.zero_le _⟩) (fun r_9 w_9 => ?_)
      try dsimp only at w_9
      refine lv_istore (lv' := [(6, .int r_9), (5, .int r_8), (4, .int v_2), (3, .ref (ad r_1)), (0, .ref (ad 90)), (1, .int a), (2, .int b)]) hx hb dX6_hinderer_63 hl (by decide) rfl (fun ls hl => ?_)
      refine lv_iload hx hb dX6_hinderer_65 (lv_at hl 0 rfl) ?_
      refine lv_if_ne (tgt := 72) hx hb dX6_hinderer_67 (by decide) (fun c_10 => ?_) (fun c_10 => ?_)
      · skip
        have q_10 : r_9.toInt ≠ (0 : Int) := i_ne2 (rfl : r_9.toInt = r_9.toInt) (show (0 : Int32).toInt = (0 : Int) from rfl) c_10
        refine lv_iconst (v := 0) hx hb dX6_hinderer_72 (by decide) ?_
        refine lv_istore (lv' := [(7, .int 0), (6, .int r_9), (5, .int r_8), (4, .int v_2), (3, .ref (ad r_1)), (0, .ref (ad 90)), (1, .int a), (2, .int b)]) hx hb dX6_hinderer_73 hl (by decide) rfl (fun ls hl => ?_)
        have loop12 : ∀ (n : Nat) (x7_11 : Int32) (ls : Array Slot), ((6 - (x7_11.toInt)).toNat) < n → (0 ≤ (x7_11.toInt) ∧ (x7_11.toInt) ≤ 6) → lv_has ls 9 [(7, .int x7_11), (6, .int r_9), (5, .int r_8), (4, .int v_2), (3, .ref (ad r_1)), (0, .ref (ad 90)), (1, .int a), (2, .int b)] → W p l e (headSpec wsX6_hinderer (({ frames := 4, cells := 0, slots := 0, locals := 93 } : Room))).room s m (([.ref (ad 90), .int a, .int b] : List Value).toArray) below meth c H locs 0 0 Q (F0 m 75 ls []) := by
          intro n
          induction n with
          | zero => intro x7_11 ls hm; omega
          | succ n ih12 =>
            intro x7_11 ls hm hg0 hl
            refine lv_iload hx hb dX6_hinderer_75 (lv_at hl 0 rfl) ?_
            refine lv_aload_n hx hb dX6_hinderer_77 rfl (lv_at hl 5 rfl) ?_
            refine va_get (D := D) (ci := 6) (v := .int (iv 90 9)) (C := RX6) (T := TX6) (N := 11) hx hb hts inX6 hown hK hP 90 (g_at6 (Nat.le_of_ble_eq_true rfl) rfl) rfl 9 (by decide) lk3 (fun _ h9 => h9) rfl dX6_hinderer_78 ?_
            refine lv_icmp_ge (tgt := 149) hx hb dX6_hinderer_81 (by decide) (fun c_13 => ?_) (fun c_13 => ?_)
            · skip
              have q_13 : (iv 90 9).toInt ≤ x7_11.toInt := i_le2 (rfl : (iv 90 9).toInt = (iv 90 9).toInt) (rfl : x7_11.toInt = x7_11.toInt) c_13
              refine lv_iconst (v := (-1)) hx hb dX6_hinderer_149 (by decide) ?_
              rw [hQ]
              exact W.iret (v := (-1)) hx hb hr (fun t ht hW => ⟨⟨(-1), (iv, ar_7), rfl, rfl, by show va_P _ _ _ _; rw [ht]; exact hP⟩, hS.F ht⟩) hS.2.2 dX6_hinderer_150
            · skip
              have q_13 : x7_11.toInt < (iv 90 9).toInt := i_nle2 (rfl : (iv 90 9).toInt = (iv 90 9).toInt) (rfl : x7_11.toInt = x7_11.toInt) c_13
              refine lv_iload hx hb dX6_hinderer_84 (lv_at hl 0 rfl) ?_
              refine lv_bipush (v := 6) hx hb dX6_hinderer_86 (by decide) ?_
              refine lv_icmp_ge (tgt := 149) hx hb dX6_hinderer_88 (by decide) (fun c_14 => ?_) (fun c_14 => ?_)
              · skip
                have q_14 : (6 : Int) ≤ x7_11.toInt := i_le2 (show (6 : Int32).toInt = (6 : Int) from rfl) (rfl : x7_11.toInt = x7_11.toInt) c_14
                refine lv_iconst (v := (-1)) hx hb dX6_hinderer_149 (by decide) ?_
                rw [hQ]
                exact W.iret (v := (-1)) hx hb hr (fun t ht hW => ⟨⟨(-1), (iv, ar_7), rfl, rfl, by show va_P _ _ _ _; rw [ht]; exact hP⟩, hS.F ht⟩) hS.2.2 dX6_hinderer_150
              · skip
                have q_14 : x7_11.toInt < (6 : Int) := i_nle2 (show (6 : Int32).toInt = (6 : Int) from rfl) (rfl : x7_11.toInt = x7_11.toInt) c_14
                have join16 : ∀ (x8_15 : Int32) (ls : Array Slot), lv_has ls 9 [(8, .int x8_15), (7, .int x7_11), (6, .int r_9), (5, .int r_8), (4, .int v_2), (3, .ref (ad r_1)), (0, .ref (ad 90)), (1, .int a), (2, .int b)] → W p l e (headSpec wsX6_hinderer (({ frames := 4, cells := 0, slots := 0, locals := 93 } : Room))).room s m (([.ref (ad 90), .int a, .int b] : List Value).toArray) below meth c H locs 0 0 Q (F0 m 115 ls []) := by
                  intro x8_15 ls  hl
                  refine lv_iload hx hb dX6_hinderer_115 (lv_at hl 0 rfl) ?_
                  refine lv_if_eq (tgt := 143) hx hb dX6_hinderer_117 (by decide) (fun c_17 => ?_) (fun c_17 => ?_)
                  · skip
                    have q_17 : x8_15.toInt = (0 : Int) := i_eq2 (rfl : x8_15.toInt = x8_15.toInt) (show (0 : Int32).toInt = (0 : Int) from rfl) c_17
                    obtain ⟨x7_18, ex7_18⟩ : ∃ y : Int32, y = x7_11 + 1 := ⟨_, rfl⟩
                    have tx7_18 : x7_18.toInt = x7_11.toInt + (1 : Int) := i_add (rfl : x7_11.toInt = x7_11.toInt) (show (1 : Int32).toInt = (1 : Int) from rfl) (by omega) (by omega) ex7_18
                    refine lv_iinc (v := x7_18) (lv' := [(7, .int x7_18), (8, .int x8_15), (6, .int r_9), (5, .int r_8), (4, .int v_2), (3, .ref (ad r_1)), (0, .ref (ad 90)), (1, .int a), (2, .int b)]) hx hb dX6_hinderer_143 hl (k := 1) rfl (by rw [ex7_18]; rfl) (by decide) rfl (fun ls hl => ?_)
                    refine lv_goto (tgt := 75) hx hb dX6_hinderer_146 (by decide) ?_
                    exact ih12 x7_18 _ (by omega) (by omega) (lv_sub hl [0, 2, 3, 4, 5, 6, 7, 8] rfl)
                  · skip
                    have q_17 : x8_15.toInt ≠ (0 : Int) := i_ne2 (rfl : x8_15.toInt = x8_15.toInt) (show (0 : Int32).toInt = (0 : Int) from rfl) c_17
                    refine lv_aload_n hx hb dX6_hinderer_120 rfl (lv_at hl 6 rfl) ?_
                    refine lv_aload_n hx hb dX6_hinderer_121 rfl (lv_at hl 6 rfl) ?_
                    refine va_get (D := D) (ci := 6) (v := .ref (ad 96)) (C := RX6) (T := TX6) (N := 11) hx hb hts inX6 hown hK hP 90 (g_at6 (Nat.le_of_ble_eq_true rfl) rfl) rfl 4 (by decide) lk4 (fun _ h9 => h9) rfl dX6_hinderer_122 ?_
                    refine lv_iload hx hb dX6_hinderer_125 (lv_at hl 1 rfl) ?_
                    refine va_aldq hx hb hK hP 96 1 (g_at14 (Nat.le_of_ble_eq_true rfl) rfl) rfl (g_in (N := 6) (rfl : x7_11.toInt = x7_11.toInt) rfl (by omega) (by omega)) dX6_hinderer_127 ?_
                    obtain ⟨k_19, ek_19⟩ : ∃ z : Nat, z = ln 96 + 3 * x7_11.toNatClampNeg := ⟨_, rfl⟩
                    have hk_19 : k_19 < 135 ∧ kd k_19 = 1 := by rw [ek_19]; exact g_ch96 (g_cl (rfl : x7_11.toInt = x7_11.toInt) (by omega) (by omega))
                    show W p l e _ s m _ below meth c _ _ _ _ Q (F0 m 128 _ (Value.ref (ad (ln 96 + 3 * x7_11.toNatClampNeg)) :: .ref (ad 90) :: []))
                    rw [← ek_19]
                    have hck_19 := g_cN (rfl : x7_11.toInt = x7_11.toInt)
                    refine lv_iload hx hb dX6_hinderer_128 (lv_at hl 4 rfl) ?_
                    refine lv_iload hx hb dX6_hinderer_130 (lv_at hl 3 rfl) ?_
                    refine lv_iload hx hb dX6_hinderer_132 (lv_at hl 2 rfl) ?_
                    refine g_callSi (va_runV (As := [.ref (ad k_19), .int v_2, .int r_8, .int r_9]) (rest := []) ⟨hx, hb, hml, hown, hts⟩ (c_X6_isMet l D cy ad hI _ iv ar_7 k_19 hk_19.1 hk_19.2 v_2 r_8 r_9) (cwV 4 hts gX6_hinderer_X6_isMet rfl rfl rfl (by decide +kernel) ⟨Nat.le_of_ble_eq_true rfl, Nat.le_of_ble_eq_true rfl⟩) (g_preV hP hK hSt hNw hS (g_at6 (Nat.le_of_ble_eq_true rfl) rfl) rfl) rfl rfl hl.1 rfl (lv_room (Nat.le_of_ble_eq_true rfl)) dX6_hinderer_134 ⟨Nat.zero_le _, Nat.zero_le _⟩) (fun r_20 w_20 => ?_)
                    try dsimp only at w_20
                    refine lv_if_eq (tgt := 143) hx hb dX6_hinderer_137 (by decide) (fun c_21 => ?_) (fun c_21 => ?_)
                    · skip
                      have q_21 : r_20.toInt = (0 : Int) := i_eq2 (rfl : r_20.toInt = r_20.toInt) (show (0 : Int32).toInt = (0 : Int) from rfl) c_21
                      obtain ⟨x7_22, ex7_22⟩ : ∃ y : Int32, y = x7_11 + 1 := ⟨_, rfl⟩
                      have tx7_22 : x7_22.toInt = x7_11.toInt + (1 : Int) := i_add (rfl : x7_11.toInt = x7_11.toInt) (show (1 : Int32).toInt = (1 : Int) from rfl) (by omega) (by omega) ex7_22
                      refine lv_iinc (v := x7_22) (lv' := [(7, .int x7_22), (8, .int x8_15), (6, .int r_9), (5, .int r_8), (4, .int v_2), (3, .ref (ad r_1)), (0, .ref (ad 90)), (1, .int a), (2, .int b)]) hx hb dX6_hinderer_143 hl (k := 1) rfl (by rw [ex7_22]; rfl) (by decide) rfl (fun ls hl => ?_)
                      refine lv_goto (tgt := 75) hx hb dX6_hinderer_146 (by decide) ?_
                      exact ih12 x7_22 _ (by omega) (by omega) (lv_sub hl [0, 2, 3, 4, 5, 6, 7, 8] rfl)
                    · skip
                      have q_21 : r_20.toInt ≠ (0 : Int) := i_ne2 (rfl : r_20.toInt = r_20.toInt) (show (0 : Int32).toInt = (0 : Int) from rfl) c_21
                      refine lv_iload hx hb dX6_hinderer_140 (lv_at hl 1 rfl) ?_
                      rw [hQ]
                      exact W.iret (v := x7_11) hx hb hr (fun t ht hW => ⟨⟨x7_11, (iv, ar_7), rfl, rfl, by show va_P _ _ _ _; rw [ht]; exact hP⟩, hS.F ht⟩) hS.2.2 dX6_hinderer_142
                refine lv_aload_n hx hb dX6_hinderer_91 rfl (lv_at hl 5 rfl) ?_
                refine va_get (D := D) (ci := 6) (v := .ref (ad 96)) (C := RX6) (T := TX6) (N := 11) hx hb hts inX6 hown hK hP 90 (g_at6 (Nat.le_of_ble_eq_true rfl) rfl) rfl 4 (by decide) lk4 (fun _ h9 => h9) rfl dX6_hinderer_92 ?_
                refine lv_iload hx hb dX6_hinderer_95 (lv_at hl 0 rfl) ?_
                refine va_aldq hx hb hK hP 96 1 (g_at14 (Nat.le_of_ble_eq_true rfl) rfl) rfl (g_in (N := 6) (rfl : x7_11.toInt = x7_11.toInt) rfl (by omega) (by omega)) dX6_hinderer_97 ?_
                obtain ⟨k_23, ek_23⟩ : ∃ z : Nat, z = ln 96 + 3 * x7_11.toNatClampNeg := ⟨_, rfl⟩
                have hk_23 : k_23 < 135 ∧ kd k_23 = 1 := by rw [ek_23]; exact g_ch96 (g_cl (rfl : x7_11.toInt = x7_11.toInt) (by omega) (by omega))
                show W p l e _ s m _ below meth c _ _ _ _ Q (F0 m 98 _ (Value.ref (ad (ln 96 + 3 * x7_11.toNatClampNeg)) :: []))
                rw [← ek_23]
                have hck_23 := g_cN (rfl : x7_11.toInt = x7_11.toInt)
                refine va_get (D := D) (ci := 1) (v := .int (iv k_23 4)) (C := RX1) (T := TX1) (N := 5) hx hb hts inX1 hown hK hP k_23 (g_at1 hk_23.1 hk_23.2) rfl 4 (by decide) lk5 (fun _ h9 => h9) rfl dX6_hinderer_98 ?_
                refine lv_aload_n hx hb dX6_hinderer_101 rfl (lv_at hl 4 rfl) ?_
                refine va_get (D := D) (ci := 1) (v := .int (iv r_1 4)) (C := RX1) (T := TX1) (N := 5) hx hb hts inX1 hown hK hP r_1 (g_at1 w_1.1 w_1.2) rfl 4 (by decide) lk5 (fun _ h9 => h9) rfl dX6_hinderer_102 ?_
                refine lv_icmp_ge (tgt := 112) hx hb dX6_hinderer_105 (by decide) (fun c_24 => ?_) (fun c_24 => ?_)
                · skip
                  have q_24 : (iv r_1 4).toInt ≤ (iv k_23 4).toInt := i_le2 (rfl : (iv r_1 4).toInt = (iv r_1 4).toInt) (rfl : (iv k_23 4).toInt = (iv k_23 4).toInt) c_24
                  refine lv_iconst (v := 0) hx hb dX6_hinderer_112 (by decide) ?_
                  refine lv_istore (lv' := [(8, .int 0), (7, .int x7_11), (6, .int r_9), (5, .int r_8), (4, .int v_2), (3, .ref (ad r_1)), (0, .ref (ad 90)), (1, .int a), (2, .int b)]) hx hb dX6_hinderer_113 hl (by decide) rfl (fun ls hl => ?_)
                  have zl_25 : (0 : Int32).toInt = (0 : Int) := rfl
                  exact join16 0 _ (lv_sub hl [0, 1, 2, 3, 4, 5, 6, 7, 8] rfl)
                · skip
                  have q_24 : (iv k_23 4).toInt < (iv r_1 4).toInt := i_nle2 (rfl : (iv r_1 4).toInt = (iv r_1 4).toInt) (rfl : (iv k_23 4).toInt = (iv k_23 4).toInt) c_24
                  refine lv_iconst (v := 1) hx hb dX6_hinderer_108 (by decide) ?_
                  refine lv_goto (tgt := 113) hx hb dX6_hinderer_109 (by decide) ?_
                  refine lv_istore (lv' := [(8, .int 1), (7, .int x7_11), (6, .int r_9), (5, .int r_8), (4, .int v_2), (3, .ref (ad r_1)), (0, .ref (ad 90)), (1, .int a), (2, .int b)]) hx hb dX6_hinderer_113 hl (by decide) rfl (fun ls hl => ?_)
                  have zl_26 : (1 : Int32).toInt = (1 : Int) := rfl
                  exact join16 1 _ (lv_sub hl [0, 1, 2, 3, 4, 5, 6, 7, 8] rfl)
        have zl_27 : (0 : Int32).toInt = (0 : Int) := rfl
        exact loop12 (((6 - ((0 : Int))).toNat) + 1) 0 _ (by omega) (by omega) (lv_sub hl [0, 1, 2, 3, 4, 5, 6, 7] rfl)
      · skip
        have q_10 : r_9.toInt = (0 : Int) := i_eq2 (rfl : r_9.toInt = r_9.toInt) (show (0 : Int32).toInt = (0 : Int) from rfl) c_10
        refine lv_iconst (v := (-1)) hx hb dX6_hinderer_70 (by decide) ?_
        rw [hQ]
        exact W.iret (v := (-1)) hx hb hr (fun t ht hW => ⟨⟨(-1), (iv, ar_7), rfl, rfl, by show va_P _ _ _ _; rw [ht]; exact hP⟩, hS.F ht⟩) hS.2.2 dX6_hinderer_71
    · skip
      have q_5 : r_4.toInt ≠ (0 : Int) := i_ne2 (rfl : r_4.toInt = r_4.toInt) (show (0 : Int32).toInt = (0 : Int) from rfl) c_5
      refine lv_iconst (v := (-1)) hx hb dX6_hinderer_32 (by decide) ?_
      rw [hQ]
      exact W.iret (v := (-1)) hx hb hr (fun t ht hW => ⟨⟨(-1), (iv, ar), rfl, rfl, by show va_P _ _ _ _; rw [ht]; exact hP⟩, hS.F ht⟩) hS.2.2 dX6_hinderer_33
set_option maxHeartbeats 4000000 in
set_option maxRecDepth 100000 in
theorem c_X6_layWay (l : Launch) (D : va_G) (cy : Nat → ClassId) (ad : Nat → Nat) (hI : gInj ad) (sz : Nat) (iv : gIv) (ar : gAr) (a : Int32)  : Met l yX6_layWay wsX6_layWay ({ frames := 4, cells := 0, slots := 0, locals := 93 } : Room) (va_Pc [.ref (ad 90), .int a] (gPre D cy ad sz iv ar)) (va_Qv (fun (u : gIv × gAr) => FK iv u.1) (gPost D cy ad) (gA ad sz)) 0 0 (gA ad sz) := by
  refine Met.ofW (cc := cX6_layWay) (maxL := 6) (ret := none) (by decide) rfl ?_
  intro p e s m args below meth c s₁ B hml hv
  obtain ⟨rfl, rfl, hP, hK, hSt, hNw⟩ := hv
  have hx := B.exec
  have hb := B.bytes
  have hr := B.returns
  have hts := atoms_spec (ws := wsX6_layWay) B.pre
  have hown : s.vm.findClass RX6 = some m.cls := findClass_of_methodNamed B.named
  have hlocks := B.notSynchronized
  have hS : va_S (gA ad s.heap.size) s.heap s.heap [] := va_S.rf
  have inX6 : ∀ w ∈ u_ws RX6 TX6 11, w ∈ wsX6_layWay := by decide +kernel
  have inX8 : ∀ w ∈ u_ws RX8 TX8 5, w ∈ wsX6_layWay := by decide +kernel
  have lk0 := hts (.fieldLink RX6 41 "FormationPlanner$Plan" "timesTo" "LFormationPlanner$TimesTo;") (by decide +kernel)
  have lk1 := hts (.fieldLink RX6 28 "FormationPlanner$Plan" "scene" "LFormationPlanner$Scene;") (by decide +kernel)
  have lk2 := hts (.fieldLink RX6 82 "FormationPlanner$Scene" "drones" "LFormationPlanner$Places;") (by decide +kernel)
  have lk3 := hts (.fieldLink RX6 17 "FormationPlanner$Plan" "ways" "[LFormationPlanner$Flight;") (by decide +kernel)
  have lk4 := hts (.fieldLink RX6 32 "FormationPlanner$Plan" "lattice" "LFormationPlanner$Lattice;") (by decide +kernel)
  have hl := lv_entry ([.ref (ad 90), .int a]) (n := 6) (Nat.le_of_ble_eq_true rfl)
  rw [lg_entry_eq]
  generalize (lg_sl ([.ref (ad 90), .int a]) ++ List.replicate (6 - (lg_sl ([.ref (ad 90), .int a])).length) Slot.unset).toArray = ls at hl ⊢
  have hl : lv_has ls 6 [(0, .ref (ad 90)), (1, .int a)] := hl
  obtain ⟨Q, hQ⟩ : ∃ Q, Q = MQ below (va_Qv (fun (u : gIv × gAr) => FK iv u.1) (gPost D cy ad) (gA ad s.heap.size)) (([.ref (ad 90), .int a] : List Value).toArray) s 0 0 (gA ad s.heap.size) := ⟨_, rfl⟩
  rw [← hQ]
  have fk0 : FK iv iv := FK.rf
  refine lv_iload_n hx hb dX6_layWay_0 rfl (lv_at hl 1 rfl) ?_
  refine lv_if_lt (tgt := 10) hx hb dX6_layWay_1 (by decide) (fun c_1 => ?_) (fun c_1 => ?_)
  · skip
    have q_1 : a.toInt < (0 : Int) := i_lt2 (rfl : a.toInt = a.toInt) (show (0 : Int32).toInt = (0 : Int) from rfl) c_1
    rw [hQ]
    exact W.vret hx hb hr (fun t ht hW => ⟨⟨(iv, ar), rfl, fk0, by show va_P _ _ _ _; rw [ht]; exact hP⟩, hS.F ht⟩) hS.2.2 dX6_layWay_10
  · skip
    have q_1 : (0 : Int) ≤ a.toInt := i_nlt2 (rfl : a.toInt = a.toInt) (show (0 : Int32).toInt = (0 : Int) from rfl) c_1
    refine lv_iload_n hx hb dX6_layWay_4 rfl (lv_at hl 1 rfl) ?_
    refine lv_bipush (v := 6) hx hb dX6_layWay_5 (by decide) ?_
    refine lv_icmp_lt (tgt := 11) hx hb dX6_layWay_7 (by decide) (fun c_2 => ?_) (fun c_2 => ?_)
    · skip
      have q_2 : a.toInt < (6 : Int) := i_lt2 (rfl : a.toInt = a.toInt) (show (6 : Int32).toInt = (6 : Int) from rfl) c_2
      refine lv_aload_n hx hb dX6_layWay_11 rfl (lv_at hl 0 rfl) ?_
      refine va_get (D := D) (ci := 6) (v := .ref (ad 91)) (C := RX6) (T := TX6) (N := 11) hx hb hts inX6 hown hK hP 90 (g_at6 (Nat.le_of_ble_eq_true rfl) rfl) rfl 2 (by decide) lk0 (fun _ h9 => h9) rfl dX6_layWay_12 ?_
      refine lv_aload_n hx hb dX6_layWay_15 rfl (lv_at hl 0 rfl) ?_
      refine lv_iload_n hx hb dX6_layWay_16 rfl (lv_at hl 1 rfl) ?_
      refine g_callSi (va_runV (As := [.int a]) (rest := [.ref (ad 91)]) ⟨hx, hb, hml, hown, hts⟩ (c_X6_goalOf l D cy ad hI _ iv ar a) (cwV 1 hts gX6_layWay_X6_goalOf rfl rfl rfl (by decide +kernel) ⟨Nat.le_of_ble_eq_true rfl, Nat.le_of_ble_eq_true rfl⟩) (g_preV hP hK hSt hNw hS (g_at6 (Nat.le_of_ble_eq_true rfl) rfl) rfl) rfl rfl hl.1 rfl (lv_room (Nat.le_of_ble_eq_true rfl)) dX6_layWay_17 ⟨Nat.zero_le _, Nat.zero_le _⟩) (fun r_3 w_3 => ?_)
      try dsimp only at w_3
      refine g_callv (va_runV (As := [.int r_3]) (rest := []) ⟨hx, hb, hml, hown, hts⟩ (c_X9_measure l D cy ad hI _ iv ar 91 (Nat.le_of_ble_eq_true rfl) rfl r_3) (cwV 1 hts gX6_layWay_X9_measure rfl rfl rfl (by decide +kernel) ⟨Nat.le_of_ble_eq_true rfl, Nat.le_of_ble_eq_true rfl⟩) (g_preV hP hK hSt hNw hS (g_at9 (Nat.le_of_ble_eq_true rfl) rfl) rfl) rfl rfl hl.1 rfl (lv_room (Nat.le_of_ble_eq_true rfl)) dX6_layWay_20 ⟨Nat.zero_le _, Nat.zero_le _⟩) hS (fun iv_4 ar_4 H locs w_4 hP hS => ?_)
      try dsimp only at w_4
      have wi_4 := (w_4).symm
      subst wi_4
      refine lv_aload_n hx hb dX6_layWay_23 rfl (lv_at hl 0 rfl) ?_
      refine va_get (D := D) (ci := 6) (v := .ref (ad 1)) (C := RX6) (T := TX6) (N := 11) hx hb hts inX6 hown hK hP 90 (g_at6 (Nat.le_of_ble_eq_true rfl) rfl) rfl 0 (by decide) lk1 (fun _ h9 => h9) rfl dX6_layWay_24 ?_
      refine va_get (D := D) (ci := 8) (v := .ref (ad 4)) (C := RX8) (T := TX8) (N := 5) hx hb hts inX8 hown hK hP 1 (g_at8 (Nat.le_of_ble_eq_true rfl) rfl) rfl 2 (by decide) lk2 (fun _ h9 => h9) rfl dX6_layWay_27 ?_
      refine lv_iload_n hx hb dX6_layWay_30 rfl (lv_at hl 1 rfl) ?_
      refine g_callSi (va_runV (As := [.int a]) (rest := []) ⟨hx, hb, hml, hown, hts⟩ (c_X5_cellAt l D cy ad hI _ iv ar_4 4 (Nat.le_of_ble_eq_true rfl) rfl a) (cwV 1 hts gX6_layWay_X5_cellAt rfl rfl rfl (by decide +kernel) ⟨Nat.le_of_ble_eq_true rfl, Nat.le_of_ble_eq_true rfl⟩) (g_preV hP hK hSt hNw hS (g_at5 (Nat.le_of_ble_eq_true rfl) rfl) rfl) rfl rfl hl.1 rfl (lv_room (Nat.le_of_ble_eq_true rfl)) dX6_layWay_31 ⟨Nat.zero_le _, Nat.zero_le _⟩) (fun r_5 w_5 => ?_)
      try dsimp only at w_5
      refine lv_istore_n (lv' := [(2, .int r_5), (0, .ref (ad 90)), (1, .int a)]) hx hb dX6_layWay_34 rfl hl (by decide) rfl (fun ls hl => ?_)
      refine lv_aload_n hx hb dX6_layWay_35 rfl (lv_at hl 1 rfl) ?_
      refine va_get (D := D) (ci := 6) (v := .ref (ad 97)) (C := RX6) (T := TX6) (N := 11) hx hb hts inX6 hown hK hP 90 (g_at6 (Nat.le_of_ble_eq_true rfl) rfl) rfl 5 (by decide) lk3 (fun _ h9 => h9) rfl dX6_layWay_36 ?_
      refine lv_iload_n hx hb dX6_layWay_39 rfl (lv_at hl 2 rfl) ?_
      refine va_aldq hx hb hK hP 97 1 (g_at14 (Nat.le_of_ble_eq_true rfl) rfl) rfl (g_in (N := 6) (rfl : a.toInt = a.toInt) rfl (by omega) (by omega)) dX6_layWay_40 ?_
      obtain ⟨k_6, ek_6⟩ : ∃ z : Nat, z = ln 97 + 3 * a.toNatClampNeg := ⟨_, rfl⟩
      have hk_6 : k_6 < 135 ∧ kd k_6 = 1 := by rw [ek_6]; exact g_ch97 (g_cl (rfl : a.toInt = a.toInt) (by omega) (by omega))
      show W p l e _ s m _ below meth c _ _ _ _ Q (F0 m 41 _ (Value.ref (ad (ln 97 + 3 * a.toNatClampNeg)) :: []))
      rw [← ek_6]
      have hck_6 := g_cN (rfl : a.toInt = a.toInt)
      refine lv_iload_n hx hb dX6_layWay_41 rfl (lv_at hl 0 rfl) ?_
      refine g_callv (va_runV (As := [.int r_5]) (rest := []) ⟨hx, hb, hml, hown, hts⟩ (c_X1_begin l D cy ad hI _ iv ar_4 k_6 hk_6.1 hk_6.2 r_5) (cwV 1 hts gX6_layWay_X1_begin rfl rfl rfl (by decide +kernel) ⟨Nat.le_of_ble_eq_true rfl, Nat.le_of_ble_eq_true rfl⟩) (g_preV hP hK hSt hNw hS (g_at1 hk_6.1 hk_6.2) rfl) rfl rfl hl.1 rfl (lv_room (Nat.le_of_ble_eq_true rfl)) dX6_layWay_42 ⟨Nat.zero_le _, Nat.zero_le _⟩) hS (fun iv_7 ar_7 H locs w_7 hP hS => ?_)
      try dsimp only at w_7
      have fk_7 : FK iv iv_7 := fk0.tr (w_7)
      refine lv_aload_n hx hb dX6_layWay_45 rfl (lv_at hl 1 rfl) ?_
      refine va_get (D := D) (ci := 6) (v := .ref (ad 91)) (C := RX6) (T := TX6) (N := 11) hx hb hts inX6 hown hK hP 90 (g_at6 (Nat.le_of_ble_eq_true rfl) rfl) rfl 2 (by decide) lk0 (fun _ h9 => h9) rfl dX6_layWay_46 ?_
      refine lv_iload_n hx hb dX6_layWay_49 rfl (lv_at hl 0 rfl) ?_
      refine g_callSi (va_runV (As := [.int r_5]) (rest := []) ⟨hx, hb, hml, hown, hts⟩ (c_X9_firstAction l D cy ad hI _ iv_7 ar_7 91 (Nat.le_of_ble_eq_true rfl) rfl r_5) (cwV 1 hts gX6_layWay_X9_firstAction rfl rfl rfl (by decide +kernel) ⟨Nat.le_of_ble_eq_true rfl, Nat.le_of_ble_eq_true rfl⟩) (g_preV hP hK hSt hNw hS (g_at9 (Nat.le_of_ble_eq_true rfl) rfl) rfl) rfl rfl hl.1 rfl (lv_room (Nat.le_of_ble_eq_true rfl)) dX6_layWay_50 ⟨Nat.zero_le _, Nat.zero_le _⟩) (fun r_8 w_8 => ?_)
      try dsimp only at w_8
      refine lv_istore_n (lv' := [(3, .int r_8), (2, .int r_5), (0, .ref (ad 90)), (1, .int a)]) hx hb dX6_layWay_53 rfl hl (by decide) rfl (fun ls hl => ?_)
      refine lv_iconst (v := 0) hx hb dX6_layWay_54 (by decide) ?_
      refine lv_istore (lv' := [(4, .int 0), (3, .int r_8), (2, .int r_5), (0, .ref (ad 90)), (1, .int a)]) hx hb dX6_layWay_55 hl (by decide) rfl (fun ls hl => ?_)
      have loop13 : ∀ (n : Nat) (x4_9 : Int32) (x3_10 : Int32) (x2_11 : Int32) (iv_12 : gIv) (ar_12 : gAr) (H : Heap) (locs : List Loc) (ls : Array Slot), ((60 - (x4_9.toInt)).toNat) < n → (FK iv iv_12) → (0 ≤ (x4_9.toInt) ∧ (x4_9.toInt) ≤ 60) → va_P D vwCl (GW cy ad iv_12 ar_12) H → va_S (gA ad s.heap.size) s.heap H locs → lv_has ls 6 [(4, .int x4_9), (3, .int x3_10), (2, .int x2_11), (0, .ref (ad 90)), (1, .int a)] → W p l e (headSpec wsX6_layWay (({ frames := 4, cells := 0, slots := 0, locals := 93 } : Room))).room s m (([.ref (ad 90), .int a] : List Value).toArray) below meth c H locs 0 0 Q (F0 m 57 ls []) := by
        intro n
        induction n with
        | zero => intro x4_9 x3_10 x2_11 iv_12 ar_12 H locs ls hm; omega
        | succ n ih13 =>
          intro x4_9 x3_10 x2_11 iv_12 ar_12 H locs ls hm hfk hg0 hP hS hl
          refine lv_iload hx hb dX6_layWay_57 (lv_at hl 0 rfl) ?_
          refine lv_bipush (v := 60) hx hb dX6_layWay_59 (by decide) ?_
          refine lv_icmp_ge (tgt := 118) hx hb dX6_layWay_61 (by decide) (fun c_14 => ?_) (fun c_14 => ?_)
          · skip
            have q_14 : (60 : Int) ≤ x4_9.toInt := i_le2 (show (60 : Int32).toInt = (60 : Int) from rfl) (rfl : x4_9.toInt = x4_9.toInt) c_14
            rw [hQ]
            exact W.vret hx hb hr (fun t ht hW => ⟨⟨(iv_12, ar_12), rfl, hfk, by show va_P _ _ _ _; rw [ht]; exact hP⟩, hS.F ht⟩) hS.2.2 dX6_layWay_118
          · skip
            have q_14 : x4_9.toInt < (60 : Int) := i_nle2 (show (60 : Int32).toInt = (60 : Int) from rfl) (rfl : x4_9.toInt = x4_9.toInt) c_14
            refine lv_iload_n hx hb dX6_layWay_64 rfl (lv_at hl 1 rfl) ?_
            refine lv_if_eq (tgt := 118) hx hb dX6_layWay_65 (by decide) (fun c_15 => ?_) (fun c_15 => ?_)
            · skip
              have q_15 : x3_10.toInt = (0 : Int) := i_eq2 (rfl : x3_10.toInt = x3_10.toInt) (show (0 : Int32).toInt = (0 : Int) from rfl) c_15
              rw [hQ]
              exact W.vret hx hb hr (fun t ht hW => ⟨⟨(iv_12, ar_12), rfl, hfk, by show va_P _ _ _ _; rw [ht]; exact hP⟩, hS.F ht⟩) hS.2.2 dX6_layWay_118
            · skip
              have q_15 : x3_10.toInt ≠ (0 : Int) := i_ne2 (rfl : x3_10.toInt = x3_10.toInt) (show (0 : Int32).toInt = (0 : Int) from rfl) c_15
              refine lv_aload_n hx hb dX6_layWay_68 rfl (lv_at hl 3 rfl) ?_
              refine va_get (D := D) (ci := 6) (v := .ref (ad 70)) (C := RX6) (T := TX6) (N := 11) hx hb hts inX6 hown hK hP 90 (g_at6 (Nat.le_of_ble_eq_true rfl) rfl) rfl 1 (by decide) lk4 (fun _ h9 => h9) rfl dX6_layWay_69 ?_
              refine lv_iload_n hx hb dX6_layWay_72 rfl (lv_at hl 2 rfl) ?_
              refine lv_iload_n hx hb dX6_layWay_73 rfl (lv_at hl 1 rfl) ?_
              refine g_callSi (va_runV (As := [.int x2_11, .int x3_10]) (rest := []) ⟨hx, hb, hml, hown, hts⟩ (c_X4_next l D cy ad hI _ iv_12 ar_12 x2_11 x3_10) (cwV 2 hts gX6_layWay_X4_next rfl rfl rfl (by decide +kernel) ⟨Nat.le_of_ble_eq_true rfl, Nat.le_of_ble_eq_true rfl⟩) (g_preV hP hK hSt hNw hS (g_at4 (Nat.le_of_ble_eq_true rfl) rfl) rfl) rfl rfl hl.1 rfl (lv_room (Nat.le_of_ble_eq_true rfl)) dX6_layWay_74 ⟨Nat.zero_le _, Nat.zero_le _⟩) (fun r_16 w_16 => ?_)
              try dsimp only at w_16
              refine lv_istore (lv' := [(5, .int r_16), (4, .int x4_9), (3, .int x3_10), (2, .int x2_11), (0, .ref (ad 90)), (1, .int a)]) hx hb dX6_layWay_77 hl (by decide) rfl (fun ls hl => ?_)
              refine lv_aload_n hx hb dX6_layWay_79 rfl (lv_at hl 4 rfl) ?_
              refine va_get (D := D) (ci := 6) (v := .ref (ad 97)) (C := RX6) (T := TX6) (N := 11) hx hb hts inX6 hown hK hP 90 (g_at6 (Nat.le_of_ble_eq_true rfl) rfl) rfl 5 (by decide) lk3 (fun _ h9 => h9) rfl dX6_layWay_80 ?_
              refine lv_iload_n hx hb dX6_layWay_83 rfl (lv_at hl 5 rfl) ?_
              refine va_aldq hx hb hK hP 97 1 (g_at14 (Nat.le_of_ble_eq_true rfl) rfl) rfl (g_in (N := 6) (rfl : a.toInt = a.toInt) rfl (by omega) (by omega)) dX6_layWay_84 ?_
              obtain ⟨k_17, ek_17⟩ : ∃ z : Nat, z = ln 97 + 3 * a.toNatClampNeg := ⟨_, rfl⟩
              have hk_17 : k_17 < 135 ∧ kd k_17 = 1 := by rw [ek_17]; exact g_ch97 (g_cl (rfl : a.toInt = a.toInt) (by omega) (by omega))
              show W p l e _ s m _ below meth c _ _ _ _ Q (F0 m 85 _ (Value.ref (ad (ln 97 + 3 * a.toNatClampNeg)) :: []))
              rw [← ek_17]
              have hck_17 := g_cN (rfl : a.toInt = a.toInt)
              refine lv_iload_n hx hb dX6_layWay_85 rfl (lv_at hl 2 rfl) ?_
              refine lv_aload_n hx hb dX6_layWay_86 rfl (lv_at hl 4 rfl) ?_
              refine va_get (D := D) (ci := 6) (v := .ref (ad 70)) (C := RX6) (T := TX6) (N := 11) hx hb hts inX6 hown hK hP 90 (g_at6 (Nat.le_of_ble_eq_true rfl) rfl) rfl 1 (by decide) lk4 (fun _ h9 => h9) rfl dX6_layWay_87 ?_
              refine lv_iload_n hx hb dX6_layWay_90 rfl (lv_at hl 3 rfl) ?_
              refine lv_iload_n hx hb dX6_layWay_91 rfl (lv_at hl 2 rfl) ?_
              refine g_callSi (va_runV (As := [.int x2_11, .int x3_10]) (rest := [.int x3_10, .ref (ad k_17)]) ⟨hx, hb, hml, hown, hts⟩ (c_X4_ticks l D cy ad hI _ iv_12 ar_12 x2_11 x3_10) (cwV 2 hts gX6_layWay_X4_ticks rfl rfl rfl (by decide +kernel) ⟨Nat.le_of_ble_eq_true rfl, Nat.le_of_ble_eq_true rfl⟩) (g_preV hP hK hSt hNw hS (g_at4 (Nat.le_of_ble_eq_true rfl) rfl) rfl) rfl rfl hl.1 rfl (lv_room (Nat.le_of_ble_eq_true rfl)) dX6_layWay_92 ⟨Nat.zero_le _, Nat.zero_le _⟩) (fun r_18 w_18 => ?_)
              try dsimp only at w_18
              refine lv_iload hx hb dX6_layWay_95 (lv_at hl 0 rfl) ?_
              refine g_callv (va_runV (As := [.int x3_10, .int r_18, .int r_16]) (rest := []) ⟨hx, hb, hml, hown, hts⟩ (c_X1_add l D cy ad hI _ iv_12 ar_12 k_17 hk_17.1 hk_17.2 x3_10 r_18 r_16) (cwV 3 hts gX6_layWay_X1_add rfl rfl rfl (by decide +kernel) ⟨Nat.le_of_ble_eq_true rfl, Nat.le_of_ble_eq_true rfl⟩) (g_preV hP hK hSt hNw hS (g_at1 hk_17.1 hk_17.2) rfl) rfl rfl hl.1 rfl (lv_room (Nat.le_of_ble_eq_true rfl)) dX6_layWay_97 ⟨Nat.zero_le _, Nat.zero_le _⟩) hS (fun iv_19 ar_19 H locs w_19 hP hS => ?_)
              try dsimp only at w_19
              have fk_19 : FK iv iv_19 := hfk.tr (w_19)
              refine lv_iload hx hb dX6_layWay_100 (lv_at hl 0 rfl) ?_
              refine lv_istore_n (lv' := [(2, .int r_16), (5, .int r_16), (4, .int x4_9), (3, .int x3_10), (0, .ref (ad 90)), (1, .int a)]) hx hb dX6_layWay_102 rfl hl (by decide) rfl (fun ls hl => ?_)
              refine lv_aload_n hx hb dX6_layWay_103 rfl (lv_at hl 4 rfl) ?_
              refine va_get (D := D) (ci := 6) (v := .ref (ad 91)) (C := RX6) (T := TX6) (N := 11) hx hb hts inX6 hown hK hP 90 (g_at6 (Nat.le_of_ble_eq_true rfl) rfl) rfl 2 (by decide) lk0 (fun _ h9 => h9) rfl dX6_layWay_104 ?_
              refine lv_iload_n hx hb dX6_layWay_107 rfl (lv_at hl 0 rfl) ?_
              refine g_callSi (va_runV (As := [.int r_16]) (rest := []) ⟨hx, hb, hml, hown, hts⟩ (c_X9_firstAction l D cy ad hI _ iv_19 ar_19 91 (Nat.le_of_ble_eq_true rfl) rfl r_16) (cwV 1 hts gX6_layWay_X9_firstAction rfl rfl rfl (by decide +kernel) ⟨Nat.le_of_ble_eq_true rfl, Nat.le_of_ble_eq_true rfl⟩) (g_preV hP hK hSt hNw hS (g_at9 (Nat.le_of_ble_eq_true rfl) rfl) rfl) rfl rfl hl.1 rfl (lv_room (Nat.le_of_ble_eq_true rfl)) dX6_layWay_108 ⟨Nat.zero_le _, Nat.zero_le _⟩) (fun r_20 w_20 => ?_)
              try dsimp only at w_20
              refine lv_istore_n (lv' := [(3, .int r_20), (2, .int r_16), (5, .int r_16), (4, .int x4_9), (0, .ref (ad 90)), (1, .int a)]) hx hb dX6_layWay_111 rfl hl (by decide) rfl (fun ls hl => ?_)
              obtain ⟨x4_21, ex4_21⟩ : ∃ y : Int32, y = x4_9 + 1 := ⟨_, rfl⟩
              have tx4_21 : x4_21.toInt = x4_9.toInt + (1 : Int) := i_add (rfl : x4_9.toInt = x4_9.toInt) (show (1 : Int32).toInt = (1 : Int) from rfl) (by omega) (by omega) ex4_21
              refine lv_iinc (v := x4_21) (lv' := [(4, .int x4_21), (3, .int r_20), (2, .int r_16), (5, .int r_16), (0, .ref (ad 90)), (1, .int a)]) hx hb dX6_layWay_112 hl (k := 3) rfl (by rw [ex4_21]; rfl) (by decide) rfl (fun ls hl => ?_)
              refine lv_goto (tgt := 57) hx hb dX6_layWay_115 (by decide) ?_
              exact ih13 x4_21 r_20 r_16 iv_19 ar_19 _ _ _ (by omega) fk_19 (by omega) hP hS (lv_sub hl [0, 1, 2, 4, 5] rfl)
      have zl_22 : (0 : Int32).toInt = (0 : Int) := rfl
      exact loop13 (((60 - ((0 : Int))).toNat) + 1) 0 r_8 r_5 iv_7 ar_7 _ _ _ (by omega) fk_7 (by omega) hP hS (lv_sub hl [0, 1, 2, 3, 4] rfl)
    · skip
      have q_2 : (6 : Int) ≤ a.toInt := i_nlt2 (rfl : a.toInt = a.toInt) (show (6 : Int32).toInt = (6 : Int) from rfl) c_2
      rw [hQ]
      exact W.vret hx hb hr (fun t ht hW => ⟨⟨(iv, ar), rfl, fk0, by show va_P _ _ _ _; rw [ht]; exact hP⟩, hS.F ht⟩) hS.2.2 dX6_layWay_10
set_option maxHeartbeats 4000000 in
set_option maxRecDepth 100000 in
theorem c_X6_pairsInConflict (l : Launch) (D : va_G) (cy : Nat → ClassId) (ad : Nat → Nat) (hI : gInj ad) (sz : Nat) (iv : gIv) (ar : gAr)   : Met l yX6_pairsInConflict wsX6_pairsInConflict ({ frames := 5, cells := 0, slots := 0, locals := 118 } : Room) (va_Pc [.ref (ad 90)] (gPre D cy ad sz iv ar)) (va_Qi (fun (r : Int32) (u : gIv × gAr) => FK iv u.1) (gPost D cy ad) (gA ad sz)) 0 0 (gA ad sz) := by
  refine Met.ofW (cc := cX6_pairsInConflict) (maxL := 4) (ret := (some .int)) (by decide) rfl ?_
  intro p e s m args below meth c s₁ B hml hv
  obtain ⟨rfl, rfl, hP, hK, hSt, hNw⟩ := hv
  have hx := B.exec
  have hb := B.bytes
  have hr := B.returns
  have hts := atoms_spec (ws := wsX6_pairsInConflict) B.pre
  have hown : s.vm.findClass RX6 = some m.cls := findClass_of_methodNamed B.named
  have hlocks := B.notSynchronized
  have hS : va_S (gA ad s.heap.size) s.heap s.heap [] := va_S.rf
  have inX6 : ∀ w ∈ u_ws RX6 TX6 11, w ∈ wsX6_pairsInConflict := by decide +kernel
  have lk0 := hts (.fieldLink RX6 74 "FormationPlanner$Plan" "size" "I") (by decide +kernel)
  have lk1 := hts (.fieldLink RX6 17 "FormationPlanner$Plan" "ways" "[LFormationPlanner$Flight;") (by decide +kernel)
  have hl := lv_entry ([.ref (ad 90)]) (n := 4) (Nat.le_of_ble_eq_true rfl)
  rw [lg_entry_eq]
  generalize (lg_sl ([.ref (ad 90)]) ++ List.replicate (4 - (lg_sl ([.ref (ad 90)])).length) Slot.unset).toArray = ls at hl ⊢
  have hl : lv_has ls 4 [(0, .ref (ad 90))] := hl
  obtain ⟨Q, hQ⟩ : ∃ Q, Q = MQ below (va_Qi (fun (r : Int32) (u : gIv × gAr) => FK iv u.1) (gPost D cy ad) (gA ad s.heap.size)) (([.ref (ad 90)] : List Value).toArray) s 0 0 (gA ad s.heap.size) := ⟨_, rfl⟩
  rw [← hQ]
  have fk0 : FK iv iv := FK.rf
  refine lv_iconst (v := 0) hx hb dX6_pairsInConflict_0 (by decide) ?_
  refine lv_istore_n (lv' := [(1, .int 0), (0, .ref (ad 90))]) hx hb dX6_pairsInConflict_1 rfl hl (by decide) rfl (fun ls hl => ?_)
  refine lv_iconst (v := 0) hx hb dX6_pairsInConflict_2 (by decide) ?_
  refine lv_istore_n (lv' := [(2, .int 0), (1, .int 0), (0, .ref (ad 90))]) hx hb dX6_pairsInConflict_3 rfl hl (by decide) rfl (fun ls hl => ?_)
  have loop4 : ∀ (n : Nat) (x2_1 : Int32) (x1_2 : Int32) (iv_3 : gIv) (ar_3 : gAr) (H : Heap) (locs : List Loc) (ls : Array Slot), ((6 - (x2_1.toInt)).toNat) < n → (FK iv iv_3) → (0 ≤ (x2_1.toInt) ∧ (x2_1.toInt) ≤ 6) → va_P D vwCl (GW cy ad iv_3 ar_3) H → va_S (gA ad s.heap.size) s.heap H locs → lv_has ls 4 [(2, .int x2_1), (1, .int x1_2), (0, .ref (ad 90))] → W p l e (headSpec wsX6_pairsInConflict (({ frames := 5, cells := 0, slots := 0, locals := 118 } : Room))).room s m (([.ref (ad 90)] : List Value).toArray) below meth c H locs 0 0 Q (F0 m 4 ls []) := by
    intro n
    induction n with
    | zero => intro x2_1 x1_2 iv_3 ar_3 H locs ls hm; omega
    | succ n ih4 =>
      intro x2_1 x1_2 iv_3 ar_3 H locs ls hm hfk hg0 hP hS hl
      refine lv_iload_n hx hb dX6_pairsInConflict_4 rfl (lv_at hl 0 rfl) ?_
      refine lv_aload_n hx hb dX6_pairsInConflict_5 rfl (lv_at hl 2 rfl) ?_
      refine va_get (D := D) (ci := 6) (v := .int (iv_3 90 9)) (C := RX6) (T := TX6) (N := 11) hx hb hts inX6 hown hK hP 90 (g_at6 (Nat.le_of_ble_eq_true rfl) rfl) rfl 9 (by decide) lk0 (fun _ h9 => h9) rfl dX6_pairsInConflict_6 ?_
      refine lv_icmp_ge (tgt := 63) hx hb dX6_pairsInConflict_9 (by decide) (fun c_5 => ?_) (fun c_5 => ?_)
      · skip
        have q_5 : (iv_3 90 9).toInt ≤ x2_1.toInt := i_le2 (rfl : (iv_3 90 9).toInt = (iv_3 90 9).toInt) (rfl : x2_1.toInt = x2_1.toInt) c_5
        refine lv_iload_n hx hb dX6_pairsInConflict_63 rfl (lv_at hl 1 rfl) ?_
        rw [hQ]
        exact W.iret (v := x1_2) hx hb hr (fun t ht hW => ⟨⟨x1_2, (iv_3, ar_3), rfl, hfk, by show va_P _ _ _ _; rw [ht]; exact hP⟩, hS.F ht⟩) hS.2.2 dX6_pairsInConflict_64
      · skip
        have q_5 : x2_1.toInt < (iv_3 90 9).toInt := i_nle2 (rfl : (iv_3 90 9).toInt = (iv_3 90 9).toInt) (rfl : x2_1.toInt = x2_1.toInt) c_5
        refine lv_iload_n hx hb dX6_pairsInConflict_12 rfl (lv_at hl 0 rfl) ?_
        refine lv_bipush (v := 6) hx hb dX6_pairsInConflict_13 (by decide) ?_
        refine lv_icmp_ge (tgt := 63) hx hb dX6_pairsInConflict_15 (by decide) (fun c_6 => ?_) (fun c_6 => ?_)
        · skip
          have q_6 : (6 : Int) ≤ x2_1.toInt := i_le2 (show (6 : Int32).toInt = (6 : Int) from rfl) (rfl : x2_1.toInt = x2_1.toInt) c_6
          refine lv_iload_n hx hb dX6_pairsInConflict_63 rfl (lv_at hl 1 rfl) ?_
          rw [hQ]
          exact W.iret (v := x1_2) hx hb hr (fun t ht hW => ⟨⟨x1_2, (iv_3, ar_3), rfl, hfk, by show va_P _ _ _ _; rw [ht]; exact hP⟩, hS.F ht⟩) hS.2.2 dX6_pairsInConflict_64
        · skip
          have q_6 : x2_1.toInt < (6 : Int) := i_nle2 (show (6 : Int32).toInt = (6 : Int) from rfl) (rfl : x2_1.toInt = x2_1.toInt) c_6
          refine lv_aload_n hx hb dX6_pairsInConflict_18 rfl (lv_at hl 2 rfl) ?_
          refine lv_iload_n hx hb dX6_pairsInConflict_19 rfl (lv_at hl 0 rfl) ?_
          refine g_callv (va_runV (As := [.int x2_1]) (rest := []) ⟨hx, hb, hml, hown, hts⟩ (c_X6_layWay l D cy ad hI _ iv_3 ar_3 x2_1) (cwV 1 hts gX6_pairsInConflict_X6_layWay rfl rfl rfl (by decide +kernel) ⟨Nat.le_of_ble_eq_true rfl, Nat.le_of_ble_eq_true rfl⟩) (g_preV hP hK hSt hNw hS (g_at6 (Nat.le_of_ble_eq_true rfl) rfl) rfl) rfl rfl hl.1 rfl (lv_room (Nat.le_of_ble_eq_true rfl)) dX6_pairsInConflict_20 ⟨Nat.zero_le _, Nat.zero_le _⟩) hS (fun iv_7 ar_7 H locs w_7 hP hS => ?_)
          try dsimp only at w_7
          have fk_7 : FK iv iv_7 := hfk.tr (w_7)
          refine lv_iconst (v := 0) hx hb dX6_pairsInConflict_23 (by decide) ?_
          refine lv_istore_n (lv' := [(3, .int 0), (2, .int x2_1), (1, .int x1_2), (0, .ref (ad 90))]) hx hb dX6_pairsInConflict_24 rfl hl (by decide) rfl (fun ls hl => ?_)
          have loop10 : ∀ (n : Nat) (x3_8 : Int32) (x1_9 : Int32) (ls : Array Slot), (((x2_1.toInt) - (x3_8.toInt)).toNat) < n → (0 ≤ (x3_8.toInt) ∧ (x3_8.toInt) ≤ (x2_1.toInt)) → lv_has ls 4 [(3, .int x3_8), (2, .int x2_1), (1, .int x1_9), (0, .ref (ad 90))] → W p l e (headSpec wsX6_pairsInConflict (({ frames := 5, cells := 0, slots := 0, locals := 118 } : Room))).room s m (([.ref (ad 90)] : List Value).toArray) below meth c H locs 0 0 Q (F0 m 25 ls []) := by
            intro n
            induction n with
            | zero => intro x3_8 x1_9 ls hm; omega
            | succ n ih10 =>
              intro x3_8 x1_9 ls hm hk0 hl
              refine lv_iload_n hx hb dX6_pairsInConflict_25 rfl (lv_at hl 0 rfl) ?_
              refine lv_iload_n hx hb dX6_pairsInConflict_26 rfl (lv_at hl 1 rfl) ?_
              refine lv_icmp_ge (tgt := 57) hx hb dX6_pairsInConflict_27 (by decide) (fun c_11 => ?_) (fun c_11 => ?_)
              · skip
                have q_11 : x2_1.toInt ≤ x3_8.toInt := i_le2 (rfl : x2_1.toInt = x2_1.toInt) (rfl : x3_8.toInt = x3_8.toInt) c_11
                obtain ⟨x2_12, ex2_12⟩ : ∃ y : Int32, y = x2_1 + 1 := ⟨_, rfl⟩
                have tx2_12 : x2_12.toInt = x2_1.toInt + (1 : Int) := i_add (rfl : x2_1.toInt = x2_1.toInt) (show (1 : Int32).toInt = (1 : Int) from rfl) (by omega) (by omega) ex2_12
                refine lv_iinc (v := x2_12) (lv' := [(2, .int x2_12), (3, .int x3_8), (1, .int x1_9), (0, .ref (ad 90))]) hx hb dX6_pairsInConflict_57 hl (k := 1) rfl (by rw [ex2_12]; rfl) (by decide) rfl (fun ls hl => ?_)
                refine lv_goto (tgt := 4) hx hb dX6_pairsInConflict_60 (by decide) ?_
                exact ih4 x2_12 x1_9 iv_7 ar_7 _ _ _ (by omega) fk_7 (by omega) hP hS (lv_sub hl [0, 2, 3] rfl)
              · skip
                have q_11 : x3_8.toInt < x2_1.toInt := i_nle2 (rfl : x2_1.toInt = x2_1.toInt) (rfl : x3_8.toInt = x3_8.toInt) c_11
                refine lv_aload_n hx hb dX6_pairsInConflict_30 rfl (lv_at hl 3 rfl) ?_
                refine va_get (D := D) (ci := 6) (v := .ref (ad 97)) (C := RX6) (T := TX6) (N := 11) hx hb hts inX6 hown hK hP 90 (g_at6 (Nat.le_of_ble_eq_true rfl) rfl) rfl 5 (by decide) lk1 (fun _ h9 => h9) rfl dX6_pairsInConflict_31 ?_
                refine lv_iload_n hx hb dX6_pairsInConflict_34 rfl (lv_at hl 1 rfl) ?_
                refine va_aldq hx hb hK hP 97 1 (g_at14 (Nat.le_of_ble_eq_true rfl) rfl) rfl (g_in (N := 6) (rfl : x2_1.toInt = x2_1.toInt) rfl (by omega) (by omega)) dX6_pairsInConflict_35 ?_
                obtain ⟨k_13, ek_13⟩ : ∃ z : Nat, z = ln 97 + 3 * x2_1.toNatClampNeg := ⟨_, rfl⟩
                have hk_13 : k_13 < 135 ∧ kd k_13 = 1 := by rw [ek_13]; exact g_ch97 (g_cl (rfl : x2_1.toInt = x2_1.toInt) (by omega) (by omega))
                show W p l e _ s m _ below meth c _ _ _ _ Q (F0 m 36 _ (Value.ref (ad (ln 97 + 3 * x2_1.toNatClampNeg)) :: []))
                rw [← ek_13]
                have hck_13 := g_cN (rfl : x2_1.toInt = x2_1.toInt)
                refine lv_aload_n hx hb dX6_pairsInConflict_36 rfl (lv_at hl 3 rfl) ?_
                refine va_get (D := D) (ci := 6) (v := .ref (ad 97)) (C := RX6) (T := TX6) (N := 11) hx hb hts inX6 hown hK hP 90 (g_at6 (Nat.le_of_ble_eq_true rfl) rfl) rfl 5 (by decide) lk1 (fun _ h9 => h9) rfl dX6_pairsInConflict_37 ?_
                refine lv_iload_n hx hb dX6_pairsInConflict_40 rfl (lv_at hl 0 rfl) ?_
                refine va_aldq hx hb hK hP 97 1 (g_at14 (Nat.le_of_ble_eq_true rfl) rfl) rfl (g_in (N := 6) (rfl : x3_8.toInt = x3_8.toInt) rfl (by omega) (by omega)) dX6_pairsInConflict_41 ?_
                obtain ⟨k_14, ek_14⟩ : ∃ z : Nat, z = ln 97 + 3 * x3_8.toNatClampNeg := ⟨_, rfl⟩
                have hk_14 : k_14 < 135 ∧ kd k_14 = 1 := by rw [ek_14]; exact g_ch97 (g_cl (rfl : x3_8.toInt = x3_8.toInt) (by omega) (by omega))
                show W p l e _ s m _ below meth c _ _ _ _ Q (F0 m 42 _ (Value.ref (ad (ln 97 + 3 * x3_8.toNatClampNeg)) :: .ref (ad k_13) :: []))
                rw [← ek_14]
                have hck_14 := g_cN (rfl : x3_8.toInt = x3_8.toInt)
                refine g_callSi (va_runV (As := [.ref (ad k_14)]) (rest := []) ⟨hx, hb, hml, hown, hts⟩ (c_X1_meets l D cy ad hI _ iv_7 ar_7 k_13 hk_13.1 hk_13.2 k_14 hk_14.1 hk_14.2) (cwV 1 hts gX6_pairsInConflict_X1_meets rfl rfl rfl (by decide +kernel) ⟨Nat.le_of_ble_eq_true rfl, Nat.le_of_ble_eq_true rfl⟩) (g_preV hP hK hSt hNw hS (g_at1 hk_13.1 hk_13.2) rfl) rfl rfl hl.1 rfl (lv_room (Nat.le_of_ble_eq_true rfl)) dX6_pairsInConflict_42 ⟨Nat.zero_le _, Nat.zero_le _⟩) (fun r_15 w_15 => ?_)
                try dsimp only at w_15
                refine lv_if_eq (tgt := 51) hx hb dX6_pairsInConflict_45 (by decide) (fun c_16 => ?_) (fun c_16 => ?_)
                · skip
                  have q_16 : r_15.toInt = (0 : Int) := i_eq2 (rfl : r_15.toInt = r_15.toInt) (show (0 : Int32).toInt = (0 : Int) from rfl) c_16
                  obtain ⟨x3_17, ex3_17⟩ : ∃ y : Int32, y = x3_8 + 1 := ⟨_, rfl⟩
                  have tx3_17 : x3_17.toInt = x3_8.toInt + (1 : Int) := i_add (rfl : x3_8.toInt = x3_8.toInt) (show (1 : Int32).toInt = (1 : Int) from rfl) (by omega) (by omega) ex3_17
                  refine lv_iinc (v := x3_17) (lv' := [(3, .int x3_17), (2, .int x2_1), (1, .int x1_9), (0, .ref (ad 90))]) hx hb dX6_pairsInConflict_51 hl (k := 0) rfl (by rw [ex3_17]; rfl) (by decide) rfl (fun ls hl => ?_)
                  refine lv_goto (tgt := 25) hx hb dX6_pairsInConflict_54 (by decide) ?_
                  exact ih10 x3_17 x1_9 _ (by omega) (by omega) (lv_sub hl [0, 1, 2, 3] rfl)
                · skip
                  have q_16 : r_15.toInt ≠ (0 : Int) := i_ne2 (rfl : r_15.toInt = r_15.toInt) (show (0 : Int32).toInt = (0 : Int) from rfl) c_16
                  obtain ⟨x1_18, ex1_18⟩ : ∃ y : Int32, y = x1_9 + 1 := ⟨_, rfl⟩
                  refine lv_iinc (v := x1_18) (lv' := [(1, .int x1_18), (3, .int x3_8), (2, .int x2_1), (0, .ref (ad 90))]) hx hb dX6_pairsInConflict_48 hl (k := 2) rfl (by rw [ex1_18]; rfl) (by decide) rfl (fun ls hl => ?_)
                  obtain ⟨x3_19, ex3_19⟩ : ∃ y : Int32, y = x3_8 + 1 := ⟨_, rfl⟩
                  have tx3_19 : x3_19.toInt = x3_8.toInt + (1 : Int) := i_add (rfl : x3_8.toInt = x3_8.toInt) (show (1 : Int32).toInt = (1 : Int) from rfl) (by omega) (by omega) ex3_19
                  refine lv_iinc (v := x3_19) (lv' := [(3, .int x3_19), (1, .int x1_18), (2, .int x2_1), (0, .ref (ad 90))]) hx hb dX6_pairsInConflict_51 hl (k := 1) rfl (by rw [ex3_19]; rfl) (by decide) rfl (fun ls hl => ?_)
                  refine lv_goto (tgt := 25) hx hb dX6_pairsInConflict_54 (by decide) ?_
                  exact ih10 x3_19 x1_18 _ (by omega) (by omega) (lv_sub hl [0, 2, 1, 3] rfl)
          have zl_20 : (0 : Int32).toInt = (0 : Int) := rfl
          exact loop10 ((((x2_1.toInt) - ((0 : Int))).toNat) + 1) 0 x1_2 _ (by omega) (by omega) (lv_sub hl [0, 1, 2, 3] rfl)
  have zl_21 : (0 : Int32).toInt = (0 : Int) := rfl
  have zl_22 : (0 : Int32).toInt = (0 : Int) := rfl
  exact loop4 (((6 - ((0 : Int))).toNat) + 1) 0 0 iv ar _ _ _ (by omega) fk0 (by omega) hP hS (lv_sub hl [0, 1, 2] rfl)
set_option maxHeartbeats 4000000 in
set_option maxRecDepth 100000 in
theorem c_X6_takeOrder (l : Launch) (D : va_G) (cy : Nat → ClassId) (ad : Nat → Nat) (hI : gInj ad) (sz : Nat) (iv : gIv) (ar : gAr)   : Met l yX6_takeOrder wsX6_takeOrder ({ frames := 4, cells := 0, slots := 0, locals := 85 } : Room) (va_Pc [.ref (ad 90), .ref (ad 74)] (gPre D cy ad sz iv ar)) (va_Qv (fun (u : gIv × gAr) => FK iv u.1) (gPost D cy ad) (gA ad sz)) 0 0 (gA ad sz) := by
  refine Met.ofW (cc := cX6_takeOrder) (maxL := 6) (ret := none) (by decide) rfl ?_
  intro p e s m args below meth c s₁ B hml hv
  obtain ⟨rfl, rfl, hP, hK, hSt, hNw⟩ := hv
  have hx := B.exec
  have hb := B.bytes
  have hr := B.returns
  have hts := atoms_spec (ws := wsX6_takeOrder) B.pre
  have hown : s.vm.findClass RX6 = some m.cls := findClass_of_methodNamed B.named
  have hlocks := B.notSynchronized
  have hS : va_S (gA ad s.heap.size) s.heap s.heap [] := va_S.rf
  have inX1 : ∀ w ∈ u_ws RX1 TX1 5, w ∈ wsX6_takeOrder := by decide +kernel
  have inX6 : ∀ w ∈ u_ws RX6 TX6 11, w ∈ wsX6_takeOrder := by decide +kernel
  have lk0 := hts (.fieldLink RX6 74 "FormationPlanner$Plan" "size" "I") (by decide +kernel)
  have lk1 := hts (.fieldLink RX6 123 "FormationPlanner$Flight" "position" "I") (by decide +kernel)
  have lk2 := hts (.fieldLink RX6 126 "FormationPlanner$Flight" "slot" "I") (by decide +kernel)
  have lk3 := hts (.fieldLink RX6 20 "FormationPlanner$Plan" "order" "[I") (by decide +kernel)
  have hl := lv_entry ([.ref (ad 90), .ref (ad 74)]) (n := 6) (Nat.le_of_ble_eq_true rfl)
  rw [lg_entry_eq]
  generalize (lg_sl ([.ref (ad 90), .ref (ad 74)]) ++ List.replicate (6 - (lg_sl ([.ref (ad 90), .ref (ad 74)])).length) Slot.unset).toArray = ls at hl ⊢
  have hl : lv_has ls 6 [(0, .ref (ad 90)), (1, .ref (ad 74))] := hl
  obtain ⟨Q, hQ⟩ : ∃ Q, Q = MQ below (va_Qv (fun (u : gIv × gAr) => FK iv u.1) (gPost D cy ad) (gA ad s.heap.size)) (([.ref (ad 90), .ref (ad 74)] : List Value).toArray) s 0 0 (gA ad s.heap.size) := ⟨_, rfl⟩
  rw [← hQ]
  have fk0 : FK iv iv := FK.rf
  have hrg := i_rng (iv 90 9)
  refine lv_iconst (v := 0) hx hb dX6_takeOrder_0 (by decide) ?_
  refine lv_istore_n (lv' := [(2, .int 0), (0, .ref (ad 90)), (1, .ref (ad 74))]) hx hb dX6_takeOrder_1 rfl hl (by decide) rfl (fun ls hl => ?_)
  have loop3 : ∀ (n : Nat) (x2_1 : Int32) (iv_2 : gIv) (ar_2 : gAr) (H : Heap) (locs : List Loc) (ls : Array Slot), (((iv 90 9).toInt - (x2_1.toInt)).toNat) < n → (FK iv iv_2) → (0 ≤ (x2_1.toInt)) → ((iv_2 90 9).toInt = (iv 90 9).toInt) → va_P D vwCl (GW cy ad iv_2 ar_2) H → va_S (gA ad s.heap.size) s.heap H locs → lv_has ls 6 [(2, .int x2_1), (0, .ref (ad 90)), (1, .ref (ad 74))] → W p l e (headSpec wsX6_takeOrder (({ frames := 4, cells := 0, slots := 0, locals := 85 } : Room))).room s m (([.ref (ad 90), .ref (ad 74)] : List Value).toArray) below meth c H locs 0 0 Q (F0 m 2 ls []) := by
    intro n
    induction n with
    | zero => intro x2_1 iv_2 ar_2 H locs ls hm; omega
    | succ n ih3 =>
      intro x2_1 iv_2 ar_2 H locs ls hm hfk hg0 hsz hP hS hl
      refine lv_iload_n hx hb dX6_takeOrder_2 rfl (lv_at hl 0 rfl) ?_
      refine lv_aload_n hx hb dX6_takeOrder_3 rfl (lv_at hl 1 rfl) ?_
      refine va_get (D := D) (ci := 6) (v := .int (iv_2 90 9)) (C := RX6) (T := TX6) (N := 11) hx hb hts inX6 hown hK hP 90 (g_at6 (Nat.le_of_ble_eq_true rfl) rfl) rfl 9 (by decide) lk0 (fun _ h9 => h9) rfl dX6_takeOrder_4 ?_
      refine lv_icmp_ge (tgt := 104) hx hb dX6_takeOrder_7 (by decide) (fun c_4 => ?_) (fun c_4 => ?_)
      · skip
        have q_4 : (iv_2 90 9).toInt ≤ x2_1.toInt := i_le2 (rfl : (iv_2 90 9).toInt = (iv_2 90 9).toInt) (rfl : x2_1.toInt = x2_1.toInt) c_4
        rw [hQ]
        exact W.vret hx hb hr (fun t ht hW => ⟨⟨(iv_2, ar_2), rfl, hfk, by show va_P _ _ _ _; rw [ht]; exact hP⟩, hS.F ht⟩) hS.2.2 dX6_takeOrder_104
      · skip
        have q_4 : x2_1.toInt < (iv_2 90 9).toInt := i_nle2 (rfl : (iv_2 90 9).toInt = (iv_2 90 9).toInt) (rfl : x2_1.toInt = x2_1.toInt) c_4
        refine lv_iconst (v := 0) hx hb dX6_takeOrder_10 (by decide) ?_
        refine lv_istore_n (lv' := [(3, .int 0), (2, .int x2_1), (0, .ref (ad 90)), (1, .ref (ad 74))]) hx hb dX6_takeOrder_11 rfl hl (by decide) rfl (fun ls hl => ?_)
        refine lv_iconst (v := 0) hx hb dX6_takeOrder_12 (by decide) ?_
        refine lv_istore (lv' := [(4, .int 0), (3, .int 0), (2, .int x2_1), (0, .ref (ad 90)), (1, .ref (ad 74))]) hx hb dX6_takeOrder_13 hl (by decide) rfl (fun ls hl => ?_)
        have loop7 : ∀ (n : Nat) (x4_5 : Int32) (x3_6 : Int32) (ls : Array Slot), (((iv 90 9).toInt - (x4_5.toInt)).toNat) < n → (0 ≤ (x3_6.toInt) ∧ (x3_6.toInt) ≤ (x4_5.toInt)) → lv_has ls 6 [(4, .int x4_5), (3, .int x3_6), (2, .int x2_1), (0, .ref (ad 90)), (1, .ref (ad 74))] → W p l e (headSpec wsX6_takeOrder (({ frames := 4, cells := 0, slots := 0, locals := 85 } : Room))).room s m (([.ref (ad 90), .ref (ad 74)] : List Value).toArray) below meth c H locs 0 0 Q (F0 m 15 ls []) := by
          intro n
          induction n with
          | zero => intro x4_5 x3_6 ls hm; omega
          | succ n ih7 =>
            intro x4_5 x3_6 ls hm hk0 hl
            refine lv_iload hx hb dX6_takeOrder_15 (lv_at hl 0 rfl) ?_
            refine lv_aload_n hx hb dX6_takeOrder_17 rfl (lv_at hl 3 rfl) ?_
            refine va_get (D := D) (ci := 6) (v := .int (iv_2 90 9)) (C := RX6) (T := TX6) (N := 11) hx hb hts inX6 hown hK hP 90 (g_at6 (Nat.le_of_ble_eq_true rfl) rfl) rfl 9 (by decide) lk0 (fun _ h9 => h9) rfl dX6_takeOrder_18 ?_
            refine lv_icmp_ge (tgt := 63) hx hb dX6_takeOrder_21 (by decide) (fun c_8 => ?_) (fun c_8 => ?_)
            · skip
              have q_8 : (iv_2 90 9).toInt ≤ x4_5.toInt := i_le2 (rfl : (iv_2 90 9).toInt = (iv_2 90 9).toInt) (rfl : x4_5.toInt = x4_5.toInt) c_8
              refine lv_aload_n hx hb dX6_takeOrder_63 rfl (lv_at hl 3 rfl) ?_
              refine lv_iload_n hx hb dX6_takeOrder_64 rfl (lv_at hl 2 rfl) ?_
              refine g_callSr (va_runV (As := [.int x2_1]) (rest := []) ⟨hx, hb, hml, hown, hts⟩ (c_X6_flightOf l D cy ad hI _ iv_2 ar_2 x2_1) (cwV 1 hts gX6_takeOrder_X6_flightOf rfl rfl rfl (by decide +kernel) ⟨Nat.le_of_ble_eq_true rfl, Nat.le_of_ble_eq_true rfl⟩) (g_preV hP hK hSt hNw hS (g_at6 (Nat.le_of_ble_eq_true rfl) rfl) rfl) rfl rfl hl.1 rfl (lv_room (Nat.le_of_ble_eq_true rfl)) dX6_takeOrder_65 ⟨Nat.zero_le _, Nat.zero_le _⟩) (fun r_9 w_9 => ?_)
              try dsimp only at w_9
              refine lv_iload_n hx hb dX6_takeOrder_68 rfl (lv_at hl 1 rfl) ?_
              refine va_put (D := D) (ci := 1) (v := .int x3_6) (ty := .int) (C := RX1) (T := TX1) (N := 5) hx hb hts inX1 tyX1 tyX1_ok nmX1 hown hK hP (gD hI) hS r_9 (g_at1 w_9.1 w_9.2) rfl 4 (by decide) lk1 (fun _ h9 => h9) rfl (by decide +kernel) rfl rfl (Nat.le_of_ble_eq_true rfl) dX6_takeOrder_69 (fun H locs hP _ hS => ?_)
              have hP : va_P D vwCl (GW cy ad (u2 iv_2 r_9 4 x3_6) ar_2) H := by rw [← g_pt1_4 w_9.1 w_9.2]; exact hP
              obtain ⟨iv_10, eiv_10⟩ : ∃ z : gIv, z = u2 iv_2 r_9 4 x3_6 := ⟨_, rfl⟩
              rw [← eiv_10] at hP
              have fk_10 : FK iv iv_10 := by rw [eiv_10]; exact hfk.up (by rw [w_9.2]; decide) (fun q => by have h9 := w_9.2; rw [q] at h9; exact absurd h9 (by decide))
              have hs1 : (iv_10 90 9).toInt = (iv 90 9).toInt := by rw [eiv_10, u2_o (by omega)]; exact hsz
              refine lv_aload_n hx hb dX6_takeOrder_72 rfl (lv_at hl 3 rfl) ?_
              refine lv_iload_n hx hb dX6_takeOrder_73 rfl (lv_at hl 2 rfl) ?_
              refine g_callSr (va_runV (As := [.int x2_1]) (rest := []) ⟨hx, hb, hml, hown, hts⟩ (c_X6_flightOf l D cy ad hI _ iv_10 ar_2 x2_1) (cwV 1 hts gX6_takeOrder_X6_flightOf rfl rfl rfl (by decide +kernel) ⟨Nat.le_of_ble_eq_true rfl, Nat.le_of_ble_eq_true rfl⟩) (g_preV hP hK hSt hNw hS (g_at6 (Nat.le_of_ble_eq_true rfl) rfl) rfl) rfl rfl hl.1 rfl (lv_room (Nat.le_of_ble_eq_true rfl)) dX6_takeOrder_74 ⟨Nat.zero_le _, Nat.zero_le _⟩) (fun r_11 w_11 => ?_)
              try dsimp only at w_11
              refine lv_aload_n hx hb dX6_takeOrder_77 rfl (lv_at hl 4 rfl) ?_
              refine lv_iload_n hx hb dX6_takeOrder_78 rfl (lv_at hl 2 rfl) ?_
              refine g_callSi (va_runV (As := [.int x2_1]) (rest := [.ref (ad r_11)]) ⟨hx, hb, hml, hown, hts⟩ (c_X0_slotOf l D cy ad hI _ iv_10 ar_2 x2_1) (cwV 1 hts gX6_takeOrder_X0_slotOf rfl rfl rfl (by decide +kernel) ⟨Nat.le_of_ble_eq_true rfl, Nat.le_of_ble_eq_true rfl⟩) (g_preV hP hK hSt hNw hS (g_at0 (Nat.le_of_ble_eq_true rfl) rfl) rfl) rfl rfl hl.1 rfl (lv_room (Nat.le_of_ble_eq_true rfl)) dX6_takeOrder_79 ⟨Nat.zero_le _, Nat.zero_le _⟩) (fun r_12 w_12 => ?_)
              try dsimp only at w_12
              refine va_put (D := D) (ci := 1) (v := .int r_12) (ty := .int) (C := RX1) (T := TX1) (N := 5) hx hb hts inX1 tyX1 tyX1_ok nmX1 hown hK hP (gD hI) hS r_11 (g_at1 w_11.1 w_11.2) rfl 3 (by decide) lk2 (fun _ h9 => h9) rfl (by decide +kernel) rfl rfl (Nat.le_of_ble_eq_true rfl) dX6_takeOrder_82 (fun H locs hP _ hS => ?_)
              have hP : va_P D vwCl (GW cy ad (u2 iv_10 r_11 3 r_12) ar_2) H := by rw [← g_pt1_3 w_11.1 w_11.2]; exact hP
              obtain ⟨iv_13, eiv_13⟩ : ∃ z : gIv, z = u2 iv_10 r_11 3 r_12 := ⟨_, rfl⟩
              rw [← eiv_13] at hP
              have fk_13 : FK iv iv_13 := by rw [eiv_13]; exact fk_10.up (by rw [w_11.2]; decide) (fun q => by have h9 := w_11.2; rw [q] at h9; exact absurd h9 (by decide))
              have hs2 : (iv_13 90 9).toInt = (iv 90 9).toInt := by rw [eiv_13, u2_o (by omega)]; exact hs1
              refine lv_iload_n hx hb dX6_takeOrder_85 rfl (lv_at hl 1 rfl) ?_
              refine lv_bipush (v := 6) hx hb dX6_takeOrder_86 (by decide) ?_
              refine lv_icmp_ge (tgt := 98) hx hb dX6_takeOrder_88 (by decide) (fun c_14 => ?_) (fun c_14 => ?_)
              · skip
                have q_14 : (6 : Int) ≤ x3_6.toInt := i_le2 (show (6 : Int32).toInt = (6 : Int) from rfl) (rfl : x3_6.toInt = x3_6.toInt) c_14
                obtain ⟨x2_15, ex2_15⟩ : ∃ y : Int32, y = x2_1 + 1 := ⟨_, rfl⟩
                have tx2_15 : x2_15.toInt = x2_1.toInt + (1 : Int) := i_add (rfl : x2_1.toInt = x2_1.toInt) (show (1 : Int32).toInt = (1 : Int) from rfl) (by omega) (by omega) ex2_15
                refine lv_iinc (v := x2_15) (lv' := [(2, .int x2_15), (4, .int x4_5), (3, .int x3_6), (0, .ref (ad 90)), (1, .ref (ad 74))]) hx hb dX6_takeOrder_98 hl (k := 2) rfl (by rw [ex2_15]; rfl) (by decide) rfl (fun ls hl => ?_)
                refine lv_goto (tgt := 2) hx hb dX6_takeOrder_101 (by decide) ?_
                exact ih3 x2_15 iv_13 ar_2 _ _ _ (by omega) fk_13 (by omega) hs2 hP hS (lv_sub hl [0, 3, 4] rfl)
              · skip
                have q_14 : x3_6.toInt < (6 : Int) := i_nle2 (show (6 : Int32).toInt = (6 : Int) from rfl) (rfl : x3_6.toInt = x3_6.toInt) c_14
                refine lv_aload_n hx hb dX6_takeOrder_91 rfl (lv_at hl 3 rfl) ?_
                refine va_get (D := D) (ci := 6) (v := .ref (ad 98)) (C := RX6) (T := TX6) (N := 11) hx hb hts inX6 hown hK hP 90 (g_at6 (Nat.le_of_ble_eq_true rfl) rfl) rfl 6 (by decide) lk3 (fun _ h9 => h9) rfl dX6_takeOrder_92 ?_
                refine lv_iload_n hx hb dX6_takeOrder_95 rfl (lv_at hl 1 rfl) ?_
                refine lv_iload_n hx hb dX6_takeOrder_96 rfl (lv_at hl 2 rfl) ?_
                refine va_iast hx hb hK hP (gD hI) hS 98 0 (g_at12 (Nat.le_of_ble_eq_true rfl) rfl) rfl (g_in (N := 6) (rfl : x3_6.toInt = x3_6.toInt) rfl (by omega) (by omega)) dX6_takeOrder_97 (fun H locs hP _ hS => ?_)
                rw [g_pt12 (Nat.le_of_ble_eq_true rfl) rfl] at hP
                obtain ⟨ar_16, ear_16⟩ : ∃ z : gAr, z = va_up ar_2 98 (upd (ar_2 98) x3_6.toNatClampNeg x2_1) := ⟨_, rfl⟩
                rw [← ear_16] at hP
                obtain ⟨x2_17, ex2_17⟩ : ∃ y : Int32, y = x2_1 + 1 := ⟨_, rfl⟩
                have tx2_17 : x2_17.toInt = x2_1.toInt + (1 : Int) := i_add (rfl : x2_1.toInt = x2_1.toInt) (show (1 : Int32).toInt = (1 : Int) from rfl) (by omega) (by omega) ex2_17
                refine lv_iinc (v := x2_17) (lv' := [(2, .int x2_17), (4, .int x4_5), (3, .int x3_6), (0, .ref (ad 90)), (1, .ref (ad 74))]) hx hb dX6_takeOrder_98 hl (k := 2) rfl (by rw [ex2_17]; rfl) (by decide) rfl (fun ls hl => ?_)
                refine lv_goto (tgt := 2) hx hb dX6_takeOrder_101 (by decide) ?_
                exact ih3 x2_17 iv_13 ar_16 _ _ _ (by omega) fk_13 (by omega) hs2 hP hS (lv_sub hl [0, 3, 4] rfl)
            · skip
              have q_8 : x4_5.toInt < (iv_2 90 9).toInt := i_nle2 (rfl : (iv_2 90 9).toInt = (iv_2 90 9).toInt) (rfl : x4_5.toInt = x4_5.toInt) c_8
              refine lv_aload_n hx hb dX6_takeOrder_24 rfl (lv_at hl 4 rfl) ?_
              refine lv_iload hx hb dX6_takeOrder_25 (lv_at hl 0 rfl) ?_
              refine g_callSi (va_runV (As := [.int x4_5]) (rest := []) ⟨hx, hb, hml, hown, hts⟩ (c_X0_timeOf l D cy ad hI _ iv_2 ar_2 x4_5) (cwV 1 hts gX6_takeOrder_X0_timeOf rfl rfl rfl (by decide +kernel) ⟨Nat.le_of_ble_eq_true rfl, Nat.le_of_ble_eq_true rfl⟩) (g_preV hP hK hSt hNw hS (g_at0 (Nat.le_of_ble_eq_true rfl) rfl) rfl) rfl rfl hl.1 rfl (lv_room (Nat.le_of_ble_eq_true rfl)) dX6_takeOrder_27 ⟨Nat.zero_le _, Nat.zero_le _⟩) (fun r_18 w_18 => ?_)
              try dsimp only at w_18
              refine lv_aload_n hx hb dX6_takeOrder_30 rfl (lv_at hl 4 rfl) ?_
              refine lv_iload_n hx hb dX6_takeOrder_31 rfl (lv_at hl 2 rfl) ?_
              refine g_callSi (va_runV (As := [.int x2_1]) (rest := [.int r_18]) ⟨hx, hb, hml, hown, hts⟩ (c_X0_timeOf l D cy ad hI _ iv_2 ar_2 x2_1) (cwV 1 hts gX6_takeOrder_X0_timeOf rfl rfl rfl (by decide +kernel) ⟨Nat.le_of_ble_eq_true rfl, Nat.le_of_ble_eq_true rfl⟩) (g_preV hP hK hSt hNw hS (g_at0 (Nat.le_of_ble_eq_true rfl) rfl) rfl) rfl rfl hl.1 rfl (lv_room (Nat.le_of_ble_eq_true rfl)) dX6_takeOrder_32 ⟨Nat.zero_le _, Nat.zero_le _⟩) (fun r_19 w_19 => ?_)
              try dsimp only at w_19
              refine lv_isub hx hb dX6_takeOrder_35 ?_
              refine lv_topi (fun v_20 ev_20 => ?_)
              refine lv_istore (lv' := [(5, .int v_20), (4, .int x4_5), (3, .int x3_6), (2, .int x2_1), (0, .ref (ad 90)), (1, .ref (ad 74))]) hx hb dX6_takeOrder_36 hl (by decide) rfl (fun ls hl => ?_)
              refine lv_iload hx hb dX6_takeOrder_38 (lv_at hl 0 rfl) ?_
              refine lv_if_gt (tgt := 54) hx hb dX6_takeOrder_40 (by decide) (fun c_21 => ?_) (fun c_21 => ?_)
              · skip
                have q_21 : (0 : Int) < v_20.toInt := i_lt2 (show (0 : Int32).toInt = (0 : Int) from rfl) (rfl : v_20.toInt = v_20.toInt) c_21
                obtain ⟨x3_22, ex3_22⟩ : ∃ y : Int32, y = x3_6 + 1 := ⟨_, rfl⟩
                have tx3_22 : x3_22.toInt = x3_6.toInt + (1 : Int) := i_add (rfl : x3_6.toInt = x3_6.toInt) (show (1 : Int32).toInt = (1 : Int) from rfl) (by omega) (by omega) ex3_22
                refine lv_iinc (v := x3_22) (lv' := [(3, .int x3_22), (5, .int v_20), (4, .int x4_5), (2, .int x2_1), (0, .ref (ad 90)), (1, .ref (ad 74))]) hx hb dX6_takeOrder_54 hl (k := 2) rfl (by rw [ex3_22]; rfl) (by decide) rfl (fun ls hl => ?_)
                obtain ⟨x4_23, ex4_23⟩ : ∃ y : Int32, y = x4_5 + 1 := ⟨_, rfl⟩
                have tx4_23 : x4_23.toInt = x4_5.toInt + (1 : Int) := i_add (rfl : x4_5.toInt = x4_5.toInt) (show (1 : Int32).toInt = (1 : Int) from rfl) (by omega) (by omega) ex4_23
                refine lv_iinc (v := x4_23) (lv' := [(4, .int x4_23), (3, .int x3_22), (5, .int v_20), (2, .int x2_1), (0, .ref (ad 90)), (1, .ref (ad 74))]) hx hb dX6_takeOrder_57 hl (k := 2) rfl (by rw [ex4_23]; rfl) (by decide) rfl (fun ls hl => ?_)
                refine lv_goto (tgt := 15) hx hb dX6_takeOrder_60 (by decide) ?_
                exact ih7 x4_23 x3_22 _ (by omega) (by omega) (lv_sub hl [0, 1, 3, 4, 5] rfl)
              · skip
                have q_21 : v_20.toInt ≤ (0 : Int) := i_nlt2 (show (0 : Int32).toInt = (0 : Int) from rfl) (rfl : v_20.toInt = v_20.toInt) c_21
                refine lv_iload hx hb dX6_takeOrder_43 (lv_at hl 0 rfl) ?_
                refine lv_if_ne (tgt := 57) hx hb dX6_takeOrder_45 (by decide) (fun c_24 => ?_) (fun c_24 => ?_)
                · skip
                  have q_24 : v_20.toInt ≠ (0 : Int) := i_ne2 (rfl : v_20.toInt = v_20.toInt) (show (0 : Int32).toInt = (0 : Int) from rfl) c_24
                  obtain ⟨x4_25, ex4_25⟩ : ∃ y : Int32, y = x4_5 + 1 := ⟨_, rfl⟩
                  have tx4_25 : x4_25.toInt = x4_5.toInt + (1 : Int) := i_add (rfl : x4_5.toInt = x4_5.toInt) (show (1 : Int32).toInt = (1 : Int) from rfl) (by omega) (by omega) ex4_25
                  refine lv_iinc (v := x4_25) (lv' := [(4, .int x4_25), (5, .int v_20), (3, .int x3_6), (2, .int x2_1), (0, .ref (ad 90)), (1, .ref (ad 74))]) hx hb dX6_takeOrder_57 hl (k := 1) rfl (by rw [ex4_25]; rfl) (by decide) rfl (fun ls hl => ?_)
                  refine lv_goto (tgt := 15) hx hb dX6_takeOrder_60 (by decide) ?_
                  exact ih7 x4_25 x3_6 _ (by omega) (by omega) (lv_sub hl [0, 2, 3, 4, 5] rfl)
                · skip
                  have q_24 : v_20.toInt = (0 : Int) := i_eq2 (rfl : v_20.toInt = v_20.toInt) (show (0 : Int32).toInt = (0 : Int) from rfl) c_24
                  refine lv_iload hx hb dX6_takeOrder_48 (lv_at hl 1 rfl) ?_
                  refine lv_iload_n hx hb dX6_takeOrder_50 rfl (lv_at hl 3 rfl) ?_
                  refine lv_icmp_ge (tgt := 57) hx hb dX6_takeOrder_51 (by decide) (fun c_26 => ?_) (fun c_26 => ?_)
                  · skip
                    have q_26 : x2_1.toInt ≤ x4_5.toInt := i_le2 (rfl : x2_1.toInt = x2_1.toInt) (rfl : x4_5.toInt = x4_5.toInt) c_26
                    obtain ⟨x4_27, ex4_27⟩ : ∃ y : Int32, y = x4_5 + 1 := ⟨_, rfl⟩
                    have tx4_27 : x4_27.toInt = x4_5.toInt + (1 : Int) := i_add (rfl : x4_5.toInt = x4_5.toInt) (show (1 : Int32).toInt = (1 : Int) from rfl) (by omega) (by omega) ex4_27
                    refine lv_iinc (v := x4_27) (lv' := [(4, .int x4_27), (5, .int v_20), (3, .int x3_6), (2, .int x2_1), (0, .ref (ad 90)), (1, .ref (ad 74))]) hx hb dX6_takeOrder_57 hl (k := 1) rfl (by rw [ex4_27]; rfl) (by decide) rfl (fun ls hl => ?_)
                    refine lv_goto (tgt := 15) hx hb dX6_takeOrder_60 (by decide) ?_
                    exact ih7 x4_27 x3_6 _ (by omega) (by omega) (lv_sub hl [0, 2, 3, 4, 5] rfl)
                  · skip
                    have q_26 : x4_5.toInt < x2_1.toInt := i_nle2 (rfl : x2_1.toInt = x2_1.toInt) (rfl : x4_5.toInt = x4_5.toInt) c_26
                    obtain ⟨x3_28, ex3_28⟩ : ∃ y : Int32, y = x3_6 + 1 := ⟨_, rfl⟩
                    have tx3_28 : x3_28.toInt = x3_6.toInt + (1 : Int) := i_add (rfl : x3_6.toInt = x3_6.toInt) (show (1 : Int32).toInt = (1 : Int) from rfl) (by omega) (by omega) ex3_28
                    refine lv_iinc (v := x3_28) (lv' := [(3, .int x3_28), (5, .int v_20), (4, .int x4_5), (2, .int x2_1), (0, .ref (ad 90)), (1, .ref (ad 74))]) hx hb dX6_takeOrder_54 hl (k := 2) rfl (by rw [ex3_28]; rfl) (by decide) rfl (fun ls hl => ?_)
                    obtain ⟨x4_29, ex4_29⟩ : ∃ y : Int32, y = x4_5 + 1 := ⟨_, rfl⟩
                    have tx4_29 : x4_29.toInt = x4_5.toInt + (1 : Int) := i_add (rfl : x4_5.toInt = x4_5.toInt) (show (1 : Int32).toInt = (1 : Int) from rfl) (by omega) (by omega) ex4_29
                    refine lv_iinc (v := x4_29) (lv' := [(4, .int x4_29), (3, .int x3_28), (5, .int v_20), (2, .int x2_1), (0, .ref (ad 90)), (1, .ref (ad 74))]) hx hb dX6_takeOrder_57 hl (k := 2) rfl (by rw [ex4_29]; rfl) (by decide) rfl (fun ls hl => ?_)
                    refine lv_goto (tgt := 15) hx hb dX6_takeOrder_60 (by decide) ?_
                    exact ih7 x4_29 x3_28 _ (by omega) (by omega) (lv_sub hl [0, 1, 3, 4, 5] rfl)
        have zl_30 : (0 : Int32).toInt = (0 : Int) := rfl
        have zl_31 : (0 : Int32).toInt = (0 : Int) := rfl
        exact loop7 ((((iv 90 9).toInt - ((0 : Int))).toNat) + 1) 0 0 _ (by omega) (by omega) (lv_sub hl [0, 1, 2, 3, 4] rfl)
  have zl_32 : (0 : Int32).toInt = (0 : Int) := rfl
  exact loop3 ((((iv 90 9).toInt - ((0 : Int))).toNat) + 1) 0 iv ar _ _ _ (by omega) fk0 (by omega) rfl hP hS (lv_sub hl [0, 1, 2] rfl)
set_option maxHeartbeats 4000000 in
set_option maxRecDepth 100000 in
theorem c_X6_make (l : Launch) (D : va_G) (cy : Nat → ClassId) (ad : Nat → Nat) (hI : gInj ad) (sz : Nat) (iv : gIv) (ar : gAr)   : Met l yX6_make wsX6_make ({ frames := 5, cells := 0, slots := 0, locals := 121 } : Room) (va_Pc [.ref (ad 90), .ref (ad 74)] (gPre D cy ad sz iv ar)) (va_Qi (fun (r : Int32) (u : gIv × gAr) => FK iv u.1) (gPost D cy ad) (gA ad sz)) 0 0 (gA ad sz) := by
  refine Met.ofW (cc := cX6_make) (maxL := 7) (ret := (some .int)) (by decide) rfl ?_
  intro p e s m args below meth c s₁ B hml hv
  obtain ⟨rfl, rfl, hP, hK, hSt, hNw⟩ := hv
  have hx := B.exec
  have hb := B.bytes
  have hr := B.returns
  have hts := atoms_spec (ws := wsX6_make) B.pre
  have hown : s.vm.findClass RX6 = some m.cls := findClass_of_methodNamed B.named
  have hlocks := B.notSynchronized
  have hS : va_S (gA ad s.heap.size) s.heap s.heap [] := va_S.rf
  have inX0 : ∀ w ∈ u_ws RX0 TX0 9, w ∈ wsX6_make := by decide +kernel
  have inX6 : ∀ w ∈ u_ws RX6 TX6 11, w ∈ wsX6_make := by decide +kernel
  have inX8 : ∀ w ∈ u_ws RX8 TX8 5, w ∈ wsX6_make := by decide +kernel
  have lk0 := hts (.fieldLink RX6 60 "FormationPlanner$Plan" "now" "I") (by decide +kernel)
  have lk1 := hts (.fieldLink RX6 63 "FormationPlanner$Assigner" "size" "I") (by decide +kernel)
  have lk2 := hts (.methodLink RX6 68 Lib.Math.min.name) (by decide +kernel)
  have lk3 := hts (.static Lib.Math.min.name) (by decide +kernel)
  have lk4 := hts (.initialized "java/lang/Math") (by decide +kernel)
  have lk5 := hts (.code Lib.Math.min.name Lib.Math.min.code 2 (some .int)) (by decide +kernel)
  have lk6 := hts (.fieldLink RX6 74 "FormationPlanner$Plan" "size" "I") (by decide +kernel)
  have lk7 := hts (.fieldLink RX6 48 "FormationPlanner$Plan" "router" "LFormationPlanner$Router;") (by decide +kernel)
  have lk8 := hts (.fieldLink RX6 53 "FormationPlanner$Plan" "stands" "Z") (by decide +kernel)
  have lk9 := hts (.fieldLink RX6 20 "FormationPlanner$Plan" "order" "[I") (by decide +kernel)
  have lk10 := hts (.fieldLink RX6 28 "FormationPlanner$Plan" "scene" "LFormationPlanner$Scene;") (by decide +kernel)
  have lk11 := hts (.fieldLink RX6 82 "FormationPlanner$Scene" "drones" "LFormationPlanner$Places;") (by decide +kernel)
  have lk12 := hts (.methodLink RX6 116 Lib.Math.max.name) (by decide +kernel)
  have lk13 := hts (.static Lib.Math.max.name) (by decide +kernel)
  have lk14 := hts (.code Lib.Math.max.name Lib.Math.max.code 2 (some .int)) (by decide +kernel)
  have lk15 := hts (.fieldLink RX6 24 "FormationPlanner$Plan" "stuckDrone" "I") (by decide +kernel)
  have hl := lv_entry ([.ref (ad 90), .ref (ad 74)]) (n := 7) (Nat.le_of_ble_eq_true rfl)
  rw [lg_entry_eq]
  generalize (lg_sl ([.ref (ad 90), .ref (ad 74)]) ++ List.replicate (7 - (lg_sl ([.ref (ad 90), .ref (ad 74)])).length) Slot.unset).toArray = ls at hl ⊢
  have hl : lv_has ls 7 [(0, .ref (ad 90)), (1, .ref (ad 74))] := hl
  obtain ⟨Q, hQ⟩ : ∃ Q, Q = MQ below (va_Qi (fun (r : Int32) (u : gIv × gAr) => FK iv u.1) (gPost D cy ad) (gA ad s.heap.size)) (([.ref (ad 90), .ref (ad 74)] : List Value).toArray) s 0 0 (gA ad s.heap.size) := ⟨_, rfl⟩
  rw [← hQ]
  have fk0 : FK iv iv := FK.rf
  refine lv_aload_n hx hb dX6_make_0 rfl (lv_at hl 0 rfl) ?_
  refine g_callv (va_runV (As := []) (rest := []) ⟨hx, hb, hml, hown, hts⟩ (c_X6_discard l D cy ad hI _ iv ar) (cwV 0 hts gX6_make_X6_discard rfl rfl rfl (by decide +kernel) ⟨Nat.le_of_ble_eq_true rfl, Nat.le_of_ble_eq_true rfl⟩) (g_preV hP hK hSt hNw hS (g_at6 (Nat.le_of_ble_eq_true rfl) rfl) rfl) rfl rfl hl.1 rfl (lv_room (Nat.le_of_ble_eq_true rfl)) dX6_make_1 ⟨Nat.zero_le _, Nat.zero_le _⟩) hS (fun iv_1 ar_1 H locs w_1 hP hS => ?_)
  try dsimp only at w_1
  obtain ⟨iv_2, eiv_2⟩ : ∃ z : gIv, z = u2 iv 90 7 0 := ⟨_, rfl⟩
  have eiv_1 : iv_1 = u2 iv_2 90 8 (-1) := by rw [eiv_2]; exact w_1.1
  have fk_1 : FK iv iv_1 := (by rw [w_1.1]; exact (fk0.up (by decide) (by decide)).up (by decide) (by decide))
  refine lv_aload_n hx hb dX6_make_4 rfl (lv_at hl 0 rfl) ?_
  refine lv_iconst (v := 0) hx hb dX6_make_5 (by decide) ?_
  refine va_put (D := D) (ci := 6) (v := .int 0) (ty := .int) (C := RX6) (T := TX6) (N := 11) hx hb hts inX6 tyX6 tyX6_ok nmX6 hown hK hP (gD hI) hS 90 (g_at6 (Nat.le_of_ble_eq_true rfl) rfl) rfl 10 (by decide) lk0 (fun _ h9 => h9) rfl (by decide +kernel) rfl rfl (Nat.le_of_ble_eq_true rfl) dX6_make_6 (fun H locs hP _ hS => ?_)
  have hP : va_P D vwCl (GW cy ad (u2 iv_1 90 10 0) ar_1) H := by rw [← g_pt6_10 (Nat.le_of_ble_eq_true rfl) rfl]; exact hP
  obtain ⟨iv_3, eiv_3⟩ : ∃ z : gIv, z = u2 iv_1 90 10 0 := ⟨_, rfl⟩
  rw [← eiv_3] at hP
  have fk_3 : FK iv iv_3 := by rw [eiv_3]; exact fk_1.up (by decide) (by decide)
  refine lv_aload_n hx hb dX6_make_9 rfl (lv_at hl 0 rfl) ?_
  refine lv_aload_n hx hb dX6_make_10 rfl (lv_at hl 1 rfl) ?_
  refine va_get (D := D) (ci := 0) (v := .int (iv_3 74 4)) (C := RX0) (T := TX0) (N := 9) hx hb hts inX0 hown hK hP 74 (g_at0 (Nat.le_of_ble_eq_true rfl) rfl) rfl 4 (by decide) lk1 (fun _ h9 => h9) rfl dX6_make_11 ?_
  have f_4 : iv_3 74 4 = iv 74 4 := by rw [eiv_3, u2_o (by omega)]; rw [eiv_1, u2_o (by omega)]; rw [eiv_2, u2_o (by omega)]
  refine lv_bipush (v := 6) hx hb dX6_make_14 (by decide) ?_
  refine va_mmin (rest := [.ref (ad 90)]) hx hb (hml.trans hl.1.symm) hown lk2 lk3 lk4 lk5 (Nat.le_of_ble_eq_true rfl) (Nat.le_of_ble_eq_true rfl) (Nat.zero_le _) (Nat.zero_le _) dX6_make_16 ?_
  refine lv_topi (fun v_5 ev_5 => ?_)
  have tv_5 : v_5.toInt = min ((iv 74 4).toInt) (6 : Int) := i_min ((congrArg Int32.toInt f_4).trans (rfl : (iv 74 4).toInt = (iv 74 4).toInt)) (show (6 : Int32).toInt = (6 : Int) from rfl) ev_5
  refine va_put (D := D) (ci := 6) (v := .int v_5) (ty := .int) (C := RX6) (T := TX6) (N := 11) hx hb hts inX6 tyX6 tyX6_ok nmX6 hown hK hP (gD hI) hS 90 (g_at6 (Nat.le_of_ble_eq_true rfl) rfl) rfl 9 (by decide) lk6 (fun _ h9 => h9) rfl (by decide +kernel) rfl rfl (Nat.le_of_ble_eq_true rfl) dX6_make_19 (fun H locs hP _ hS => ?_)
  have hP : va_P D vwCl (GW cy ad (u2 iv_3 90 9 v_5) ar_1) H := by rw [← g_pt6_9 (Nat.le_of_ble_eq_true rfl) rfl]; exact hP
  obtain ⟨iv_6, eiv_6⟩ : ∃ z : gIv, z = u2 iv_3 90 9 v_5 := ⟨_, rfl⟩
  rw [← eiv_6] at hP
  have fk_6 : FK iv iv_6 := by rw [eiv_6]; exact fk_3.up (by decide) (by decide)
  refine lv_aload_n hx hb dX6_make_22 rfl (lv_at hl 0 rfl) ?_
  refine lv_aload_n hx hb dX6_make_23 rfl (lv_at hl 1 rfl) ?_
  refine g_callv (va_runV (As := [.ref (ad 74)]) (rest := []) ⟨hx, hb, hml, hown, hts⟩ (c_X6_takeOrder l D cy ad hI _ iv_6 ar_1) (cwV 1 hts gX6_make_X6_takeOrder rfl rfl rfl (by decide +kernel) ⟨Nat.le_of_ble_eq_true rfl, Nat.le_of_ble_eq_true rfl⟩) (g_preV hP hK hSt hNw hS (g_at6 (Nat.le_of_ble_eq_true rfl) rfl) rfl) rfl rfl hl.1 rfl (lv_room (Nat.le_of_ble_eq_true rfl)) dX6_make_24 ⟨Nat.zero_le _, Nat.zero_le _⟩) hS (fun iv_7 ar_7 H locs w_7 hP hS => ?_)
  try dsimp only at w_7
  have fk_7 : FK iv iv_7 := fk_6.tr (w_7)
  refine lv_aload_n hx hb dX6_make_27 rfl (lv_at hl 0 rfl) ?_
  refine va_get (D := D) (ci := 6) (v := .ref (ad 93)) (C := RX6) (T := TX6) (N := 11) hx hb hts inX6 hown hK hP 90 (g_at6 (Nat.le_of_ble_eq_true rfl) rfl) rfl 3 (by decide) lk7 (fun _ h9 => h9) rfl dX6_make_28 ?_
  refine g_callv (va_runV (As := []) (rest := []) ⟨hx, hb, hml, hown, hts⟩ (c_X7_free l D cy ad hI _ iv_7 ar_7) (cwV 0 hts gX6_make_X7_free rfl rfl rfl (by decide +kernel) ⟨Nat.le_of_ble_eq_true rfl, Nat.le_of_ble_eq_true rfl⟩) (g_preV hP hK hSt hNw hS (g_at7 (Nat.le_of_ble_eq_true rfl) rfl) rfl) rfl rfl hl.1 rfl (lv_room (Nat.le_of_ble_eq_true rfl)) dX6_make_31 ⟨Nat.zero_le _, Nat.zero_le _⟩) hS (fun iv_8 ar_8 H locs w_8 hP hS => ?_)
  try dsimp only at w_8
  have wi_8 := (w_8).symm
  subst wi_8
  refine lv_iconst (v := 0) hx hb dX6_make_34 (by decide) ?_
  refine lv_istore_n (lv' := [(2, .int 0), (0, .ref (ad 90)), (1, .ref (ad 74))]) hx hb dX6_make_35 rfl hl (by decide) rfl (fun ls hl => ?_)
  refine lv_iconst (v := 0) hx hb dX6_make_36 (by decide) ?_
  refine lv_istore_n (lv' := [(3, .int 0), (2, .int 0), (0, .ref (ad 90)), (1, .ref (ad 74))]) hx hb dX6_make_37 rfl hl (by decide) rfl (fun ls hl => ?_)
  have loop12 : ∀ (n : Nat) (x3_9 : Int32) (x2_10 : Int32) (iv_11 : gIv) (ar_11 : gAr) (H : Heap) (locs : List Loc) (ls : Array Slot), ((6 - (x3_9.toInt)).toNat) < n → (FK iv iv_11) → (0 ≤ (x3_9.toInt) ∧ (x3_9.toInt) ≤ 6) → va_P D vwCl (GW cy ad iv_11 ar_11) H → va_S (gA ad s.heap.size) s.heap H locs → lv_has ls 7 [(3, .int x3_9), (2, .int x2_10), (0, .ref (ad 90)), (1, .ref (ad 74))] → W p l e (headSpec wsX6_make (({ frames := 5, cells := 0, slots := 0, locals := 121 } : Room))).room s m (([.ref (ad 90), .ref (ad 74)] : List Value).toArray) below meth c H locs 0 0 Q (F0 m 38 ls []) := by
    intro n
    induction n with
    | zero => intro x3_9 x2_10 iv_11 ar_11 H locs ls hm; omega
    | succ n ih12 =>
      intro x3_9 x2_10 iv_11 ar_11 H locs ls hm hfk hg0 hP hS hl
      refine lv_iload_n hx hb dX6_make_38 rfl (lv_at hl 0 rfl) ?_
      refine lv_aload_n hx hb dX6_make_39 rfl (lv_at hl 2 rfl) ?_
      refine va_get (D := D) (ci := 6) (v := .int (iv_11 90 9)) (C := RX6) (T := TX6) (N := 11) hx hb hts inX6 hown hK hP 90 (g_at6 (Nat.le_of_ble_eq_true rfl) rfl) rfl 9 (by decide) lk6 (fun _ h9 => h9) rfl dX6_make_40 ?_
      refine lv_icmp_ge (tgt := 166) hx hb dX6_make_43 (by decide) (fun c_13 => ?_) (fun c_13 => ?_)
      · skip
        have q_13 : (iv_11 90 9).toInt ≤ x3_9.toInt := i_le2 (rfl : (iv_11 90 9).toInt = (iv_11 90 9).toInt) (rfl : x3_9.toInt = x3_9.toInt) c_13
        refine lv_aload_n hx hb dX6_make_166 rfl (lv_at hl 2 rfl) ?_
        refine lv_iconst (v := 1) hx hb dX6_make_167 (by decide) ?_
        refine va_put (D := D) (ci := 6) (v := .int 1) (ty := .boolean) (C := RX6) (T := TX6) (N := 11) hx hb hts inX6 tyX6 tyX6_ok nmX6 hown hK hP (gD hI) hS 90 (g_at6 (Nat.le_of_ble_eq_true rfl) rfl) rfl 7 (by decide) lk8 (fun _ h9 => h9) rfl (by decide +kernel) rfl rfl (Nat.le_of_ble_eq_true rfl) dX6_make_168 (fun H locs hP _ hS => ?_)
        have hP : va_P D vwCl (GW cy ad (u2 iv_11 90 7 1) ar_11) H := by rw [← g_pt6_7 (Nat.le_of_ble_eq_true rfl) rfl]; exact hP
        obtain ⟨iv_14, eiv_14⟩ : ∃ z : gIv, z = u2 iv_11 90 7 1 := ⟨_, rfl⟩
        rw [← eiv_14] at hP
        have fk_14 : FK iv iv_14 := by rw [eiv_14]; exact hfk.up (by decide) (by decide)
        refine lv_iload_n hx hb dX6_make_171 rfl (lv_at hl 1 rfl) ?_
        rw [hQ]
        exact W.iret (v := x2_10) hx hb hr (fun t ht hW => ⟨⟨x2_10, (iv_14, ar_11), rfl, fk_14, by show va_P _ _ _ _; rw [ht]; exact hP⟩, hS.F ht⟩) hS.2.2 dX6_make_172
      · skip
        have q_13 : x3_9.toInt < (iv_11 90 9).toInt := i_nle2 (rfl : (iv_11 90 9).toInt = (iv_11 90 9).toInt) (rfl : x3_9.toInt = x3_9.toInt) c_13
        refine lv_iload_n hx hb dX6_make_46 rfl (lv_at hl 0 rfl) ?_
        refine lv_bipush (v := 6) hx hb dX6_make_47 (by decide) ?_
        refine lv_icmp_ge (tgt := 166) hx hb dX6_make_49 (by decide) (fun c_15 => ?_) (fun c_15 => ?_)
        · skip
          have q_15 : (6 : Int) ≤ x3_9.toInt := i_le2 (show (6 : Int32).toInt = (6 : Int) from rfl) (rfl : x3_9.toInt = x3_9.toInt) c_15
          refine lv_aload_n hx hb dX6_make_166 rfl (lv_at hl 2 rfl) ?_
          refine lv_iconst (v := 1) hx hb dX6_make_167 (by decide) ?_
          refine va_put (D := D) (ci := 6) (v := .int 1) (ty := .boolean) (C := RX6) (T := TX6) (N := 11) hx hb hts inX6 tyX6 tyX6_ok nmX6 hown hK hP (gD hI) hS 90 (g_at6 (Nat.le_of_ble_eq_true rfl) rfl) rfl 7 (by decide) lk8 (fun _ h9 => h9) rfl (by decide +kernel) rfl rfl (Nat.le_of_ble_eq_true rfl) dX6_make_168 (fun H locs hP _ hS => ?_)
          have hP : va_P D vwCl (GW cy ad (u2 iv_11 90 7 1) ar_11) H := by rw [← g_pt6_7 (Nat.le_of_ble_eq_true rfl) rfl]; exact hP
          obtain ⟨iv_16, eiv_16⟩ : ∃ z : gIv, z = u2 iv_11 90 7 1 := ⟨_, rfl⟩
          rw [← eiv_16] at hP
          have fk_16 : FK iv iv_16 := by rw [eiv_16]; exact hfk.up (by decide) (by decide)
          refine lv_iload_n hx hb dX6_make_171 rfl (lv_at hl 1 rfl) ?_
          rw [hQ]
          exact W.iret (v := x2_10) hx hb hr (fun t ht hW => ⟨⟨x2_10, (iv_16, ar_11), rfl, fk_16, by show va_P _ _ _ _; rw [ht]; exact hP⟩, hS.F ht⟩) hS.2.2 dX6_make_172
        · skip
          have q_15 : x3_9.toInt < (6 : Int) := i_nle2 (show (6 : Int32).toInt = (6 : Int) from rfl) (rfl : x3_9.toInt = x3_9.toInt) c_15
          refine lv_aload_n hx hb dX6_make_52 rfl (lv_at hl 2 rfl) ?_
          refine va_get (D := D) (ci := 6) (v := .ref (ad 98)) (C := RX6) (T := TX6) (N := 11) hx hb hts inX6 hown hK hP 90 (g_at6 (Nat.le_of_ble_eq_true rfl) rfl) rfl 6 (by decide) lk9 (fun _ h9 => h9) rfl dX6_make_53 ?_
          refine lv_iload_n hx hb dX6_make_56 rfl (lv_at hl 0 rfl) ?_
          refine va_iald hx hb hK hP 98 0 (g_at12 (Nat.le_of_ble_eq_true rfl) rfl) rfl (g_in (N := 6) (rfl : x3_9.toInt = x3_9.toInt) rfl (by omega) (by omega)) dX6_make_57 ?_
          refine lv_topi (fun v_17 ev_17 => ?_)
          refine lv_istore (lv' := [(4, .int v_17), (3, .int x3_9), (2, .int x2_10), (0, .ref (ad 90)), (1, .ref (ad 74))]) hx hb dX6_make_58 hl (by decide) rfl (fun ls hl => ?_)
          refine lv_aload_n hx hb dX6_make_60 rfl (lv_at hl 3 rfl) ?_
          refine va_get (D := D) (ci := 6) (v := .ref (ad 1)) (C := RX6) (T := TX6) (N := 11) hx hb hts inX6 hown hK hP 90 (g_at6 (Nat.le_of_ble_eq_true rfl) rfl) rfl 0 (by decide) lk10 (fun _ h9 => h9) rfl dX6_make_61 ?_
          refine va_get (D := D) (ci := 8) (v := .ref (ad 4)) (C := RX8) (T := TX8) (N := 5) hx hb hts inX8 hown hK hP 1 (g_at8 (Nat.le_of_ble_eq_true rfl) rfl) rfl 2 (by decide) lk11 (fun _ h9 => h9) rfl dX6_make_64 ?_
          refine lv_iload hx hb dX6_make_67 (lv_at hl 0 rfl) ?_
          refine g_callSi (va_runV (As := [.int v_17]) (rest := []) ⟨hx, hb, hml, hown, hts⟩ (c_X5_cellAt l D cy ad hI _ iv_11 ar_11 4 (Nat.le_of_ble_eq_true rfl) rfl v_17) (cwV 1 hts gX6_make_X5_cellAt rfl rfl rfl (by decide +kernel) ⟨Nat.le_of_ble_eq_true rfl, Nat.le_of_ble_eq_true rfl⟩) (g_preV hP hK hSt hNw hS (g_at5 (Nat.le_of_ble_eq_true rfl) rfl) rfl) rfl rfl hl.1 rfl (lv_room (Nat.le_of_ble_eq_true rfl)) dX6_make_69 ⟨Nat.zero_le _, Nat.zero_le _⟩) (fun r_18 w_18 => ?_)
          try dsimp only at w_18
          refine lv_istore (lv' := [(5, .int r_18), (4, .int v_17), (3, .int x3_9), (2, .int x2_10), (0, .ref (ad 90)), (1, .ref (ad 74))]) hx hb dX6_make_72 hl (by decide) rfl (fun ls hl => ?_)
          refine lv_aload_n hx hb dX6_make_74 rfl (lv_at hl 4 rfl) ?_
          refine va_get (D := D) (ci := 6) (v := .ref (ad 93)) (C := RX6) (T := TX6) (N := 11) hx hb hts inX6 hown hK hP 90 (g_at6 (Nat.le_of_ble_eq_true rfl) rfl) rfl 3 (by decide) lk7 (fun _ h9 => h9) rfl dX6_make_75 ?_
          refine lv_iload hx hb dX6_make_78 (lv_at hl 0 rfl) ?_
          refine lv_aload_n hx hb dX6_make_80 rfl (lv_at hl 4 rfl) ?_
          refine lv_iload hx hb dX6_make_81 (lv_at hl 1 rfl) ?_
          refine g_callSi (va_runV (As := [.int v_17]) (rest := [.int r_18, .ref (ad 93)]) ⟨hx, hb, hml, hown, hts⟩ (c_X6_goalOf l D cy ad hI _ iv_11 ar_11 v_17) (cwV 1 hts gX6_make_X6_goalOf rfl rfl rfl (by decide +kernel) ⟨Nat.le_of_ble_eq_true rfl, Nat.le_of_ble_eq_true rfl⟩) (g_preV hP hK hSt hNw hS (g_at6 (Nat.le_of_ble_eq_true rfl) rfl) rfl) rfl rfl hl.1 rfl (lv_room (Nat.le_of_ble_eq_true rfl)) dX6_make_83 ⟨Nat.zero_le _, Nat.zero_le _⟩) (fun r_19 w_19 => ?_)
          try dsimp only at w_19
          refine g_calli (va_runV (As := [.int r_18, .int r_19]) (rest := []) ⟨hx, hb, hml, hown, hts⟩ (c_X7_earliestArrival l D cy ad hI _ iv_11 ar_11 r_18 r_19) (cwV 2 hts gX6_make_X7_earliestArrival rfl rfl rfl (by decide +kernel) ⟨Nat.le_of_ble_eq_true rfl, Nat.le_of_ble_eq_true rfl⟩) (g_preV hP hK hSt hNw hS (g_at7 (Nat.le_of_ble_eq_true rfl) rfl) rfl) rfl rfl hl.1 rfl (lv_room (Nat.le_of_ble_eq_true rfl)) dX6_make_86 ⟨Nat.zero_le _, Nat.zero_le _⟩) hS (fun r_20 iv_20 ar_20 H locs w_20 hP hS => ?_)
          try dsimp only at w_20
          have wi_20 := (w_20).symm
          subst wi_20
          refine lv_istore (lv' := [(6, .int r_20), (5, .int r_18), (4, .int v_17), (3, .int x3_9), (2, .int x2_10), (0, .ref (ad 90)), (1, .ref (ad 74))]) hx hb dX6_make_89 hl (by decide) rfl (fun ls hl => ?_)
          refine lv_iload hx hb dX6_make_91 (lv_at hl 0 rfl) ?_
          refine lv_iconst (v := (-1)) hx hb dX6_make_93 (by decide) ?_
          refine lv_icmp_ne (tgt := 106) hx hb dX6_make_94 (by decide) (fun c_21 => ?_) (fun c_21 => ?_)
          · skip
            have q_21 : r_20.toInt ≠ (-1 : Int) := i_ne2 (rfl : r_20.toInt = r_20.toInt) (show ((-1) : Int32).toInt = (-1 : Int) from rfl) c_21
            refine lv_aload_n hx hb dX6_make_106 rfl (lv_at hl 5 rfl) ?_
            refine va_get (D := D) (ci := 6) (v := .ref (ad 93)) (C := RX6) (T := TX6) (N := 11) hx hb hts inX6 hown hK hP 90 (g_at6 (Nat.le_of_ble_eq_true rfl) rfl) rfl 3 (by decide) lk7 (fun _ h9 => h9) rfl dX6_make_107 ?_
            refine lv_iload hx hb dX6_make_110 (lv_at hl 0 rfl) ?_
            refine lv_aload_n hx hb dX6_make_112 rfl (lv_at hl 5 rfl) ?_
            refine lv_iload hx hb dX6_make_113 (lv_at hl 2 rfl) ?_
            refine g_callSi (va_runV (As := [.int v_17]) (rest := [.int r_20, .ref (ad 93)]) ⟨hx, hb, hml, hown, hts⟩ (c_X6_goalOf l D cy ad hI _ iv_11 ar_20 v_17) (cwV 1 hts gX6_make_X6_goalOf rfl rfl rfl (by decide +kernel) ⟨Nat.le_of_ble_eq_true rfl, Nat.le_of_ble_eq_true rfl⟩) (g_preV hP hK hSt hNw hS (g_at6 (Nat.le_of_ble_eq_true rfl) rfl) rfl) rfl rfl hl.1 rfl (lv_room (Nat.le_of_ble_eq_true rfl)) dX6_make_115 ⟨Nat.zero_le _, Nat.zero_le _⟩) (fun r_22 w_22 => ?_)
            try dsimp only at w_22
            refine g_callv (va_runV (As := [.int r_20, .int r_22]) (rest := []) ⟨hx, hb, hml, hown, hts⟩ (c_X7_prune l D cy ad hI _ iv_11 ar_20 r_20 r_22) (cwV 2 hts gX6_make_X7_prune rfl rfl rfl (by decide +kernel) ⟨Nat.le_of_ble_eq_true rfl, Nat.le_of_ble_eq_true rfl⟩) (g_preV hP hK hSt hNw hS (g_at7 (Nat.le_of_ble_eq_true rfl) rfl) rfl) rfl rfl hl.1 rfl (lv_room (Nat.le_of_ble_eq_true rfl)) dX6_make_118 ⟨Nat.zero_le _, Nat.zero_le _⟩) hS (fun iv_23 ar_23 H locs w_23 hP hS => ?_)
            try dsimp only at w_23
            have wi_23 := (w_23).symm
            subst wi_23
            refine lv_aload_n hx hb dX6_make_121 rfl (lv_at hl 5 rfl) ?_
            refine va_get (D := D) (ci := 6) (v := .ref (ad 93)) (C := RX6) (T := TX6) (N := 11) hx hb hts inX6 hown hK hP 90 (g_at6 (Nat.le_of_ble_eq_true rfl) rfl) rfl 3 (by decide) lk7 (fun _ h9 => h9) rfl dX6_make_122 ?_
            refine lv_aload_n hx hb dX6_make_125 rfl (lv_at hl 5 rfl) ?_
            refine lv_iload hx hb dX6_make_126 (lv_at hl 2 rfl) ?_
            refine g_callSr (va_runV (As := [.int v_17]) (rest := [.ref (ad 93)]) ⟨hx, hb, hml, hown, hts⟩ (c_X6_flightOf l D cy ad hI _ iv_11 ar_23 v_17) (cwV 1 hts gX6_make_X6_flightOf rfl rfl rfl (by decide +kernel) ⟨Nat.le_of_ble_eq_true rfl, Nat.le_of_ble_eq_true rfl⟩) (g_preV hP hK hSt hNw hS (g_at6 (Nat.le_of_ble_eq_true rfl) rfl) rfl) rfl rfl hl.1 rfl (lv_room (Nat.le_of_ble_eq_true rfl)) dX6_make_128 ⟨Nat.zero_le _, Nat.zero_le _⟩) (fun r_24 w_24 => ?_)
            try dsimp only at w_24
            refine lv_iload hx hb dX6_make_131 (lv_at hl 1 rfl) ?_
            refine lv_iload hx hb dX6_make_133 (lv_at hl 0 rfl) ?_
            refine g_callv (va_runV (As := [.ref (ad r_24), .int r_18, .int r_20]) (rest := []) ⟨hx, hb, hml, hown, hts⟩ (c_X7_follow l D cy ad hI _ iv_11 ar_23 r_24 w_24.1 w_24.2 r_18 r_20) (cwV 3 hts gX6_make_X7_follow rfl rfl rfl (by decide +kernel) ⟨Nat.le_of_ble_eq_true rfl, Nat.le_of_ble_eq_true rfl⟩) (g_preV hP hK hSt hNw hS (g_at7 (Nat.le_of_ble_eq_true rfl) rfl) rfl) rfl rfl hl.1 rfl (lv_room (Nat.le_of_ble_eq_true rfl)) dX6_make_135 ⟨Nat.zero_le _, Nat.zero_le _⟩) hS (fun iv_25 ar_25 H locs w_25 hP hS => ?_)
            try dsimp only at w_25
            have fk_25 : FK iv iv_25 := hfk.tr (w_25)
            refine lv_aload_n hx hb dX6_make_138 rfl (lv_at hl 5 rfl) ?_
            refine va_get (D := D) (ci := 6) (v := .ref (ad 93)) (C := RX6) (T := TX6) (N := 11) hx hb hts inX6 hown hK hP 90 (g_at6 (Nat.le_of_ble_eq_true rfl) rfl) rfl 3 (by decide) lk7 (fun _ h9 => h9) rfl dX6_make_139 ?_
            refine lv_aload_n hx hb dX6_make_142 rfl (lv_at hl 5 rfl) ?_
            refine lv_iload hx hb dX6_make_143 (lv_at hl 2 rfl) ?_
            refine g_callSr (va_runV (As := [.int v_17]) (rest := [.ref (ad 93)]) ⟨hx, hb, hml, hown, hts⟩ (c_X6_flightOf l D cy ad hI _ iv_25 ar_25 v_17) (cwV 1 hts gX6_make_X6_flightOf rfl rfl rfl (by decide +kernel) ⟨Nat.le_of_ble_eq_true rfl, Nat.le_of_ble_eq_true rfl⟩) (g_preV hP hK hSt hNw hS (g_at6 (Nat.le_of_ble_eq_true rfl) rfl) rfl) rfl rfl hl.1 rfl (lv_room (Nat.le_of_ble_eq_true rfl)) dX6_make_145 ⟨Nat.zero_le _, Nat.zero_le _⟩) (fun r_26 w_26 => ?_)
            try dsimp only at w_26
            refine lv_iload hx hb dX6_make_148 (lv_at hl 2 rfl) ?_
            refine g_callv (va_runV (As := [.ref (ad r_26), .int v_17]) (rest := []) ⟨hx, hb, hml, hown, hts⟩ (c_X7_hold l D cy ad hI _ iv_25 ar_25 r_26 w_26.1 w_26.2 v_17) (cwV 2 hts gX6_make_X7_hold rfl rfl rfl (by decide +kernel) ⟨Nat.le_of_ble_eq_true rfl, Nat.le_of_ble_eq_true rfl⟩) (g_preV hP hK hSt hNw hS (g_at7 (Nat.le_of_ble_eq_true rfl) rfl) rfl) rfl rfl hl.1 rfl (lv_room (Nat.le_of_ble_eq_true rfl)) dX6_make_150 ⟨Nat.zero_le _, Nat.zero_le _⟩) hS (fun iv_27 ar_27 H locs w_27 hP hS => ?_)
            try dsimp only at w_27
            have wi_27 := (w_27).symm
            subst wi_27
            refine lv_iload_n hx hb dX6_make_153 rfl (lv_at hl 4 rfl) ?_
            refine lv_iload hx hb dX6_make_154 (lv_at hl 0 rfl) ?_
            refine va_mmax (rest := []) hx hb (hml.trans hl.1.symm) hown lk12 lk13 lk4 lk14 (Nat.le_of_ble_eq_true rfl) (Nat.le_of_ble_eq_true rfl) (Nat.zero_le _) (Nat.zero_le _) dX6_make_156 ?_
            refine lv_topi (fun v_28 ev_28 => ?_)
            have tv_28 : v_28.toInt = max x2_10.toInt r_20.toInt := i_max (rfl : x2_10.toInt = x2_10.toInt) (rfl : r_20.toInt = r_20.toInt) ev_28
            refine lv_istore_n (lv' := [(2, .int v_28), (6, .int r_20), (5, .int r_18), (4, .int v_17), (3, .int x3_9), (0, .ref (ad 90)), (1, .ref (ad 74))]) hx hb dX6_make_159 rfl hl (by decide) rfl (fun ls hl => ?_)
            obtain ⟨x3_29, ex3_29⟩ : ∃ y : Int32, y = x3_9 + 1 := ⟨_, rfl⟩
            have tx3_29 : x3_29.toInt = x3_9.toInt + (1 : Int) := i_add (rfl : x3_9.toInt = x3_9.toInt) (show (1 : Int32).toInt = (1 : Int) from rfl) (by omega) (by omega) ex3_29
            refine lv_iinc (v := x3_29) (lv' := [(3, .int x3_29), (2, .int v_28), (6, .int r_20), (5, .int r_18), (4, .int v_17), (0, .ref (ad 90)), (1, .ref (ad 74))]) hx hb dX6_make_160 hl (k := 4) rfl (by rw [ex3_29]; rfl) (by decide) rfl (fun ls hl => ?_)
            refine lv_goto (tgt := 38) hx hb dX6_make_163 (by decide) ?_
            exact ih12 x3_29 v_28 iv_25 ar_27 _ _ _ (by omega) fk_25 (by omega) hP hS (lv_sub hl [0, 1, 5, 6] rfl)
          · skip
            have q_21 : r_20.toInt = (-1 : Int) := i_eq2 (rfl : r_20.toInt = r_20.toInt) (show ((-1) : Int32).toInt = (-1 : Int) from rfl) c_21
            refine lv_aload_n hx hb dX6_make_97 rfl (lv_at hl 5 rfl) ?_
            refine lv_iload hx hb dX6_make_98 (lv_at hl 2 rfl) ?_
            refine va_put (D := D) (ci := 6) (v := .int v_17) (ty := .int) (C := RX6) (T := TX6) (N := 11) hx hb hts inX6 tyX6 tyX6_ok nmX6 hown hK hP (gD hI) hS 90 (g_at6 (Nat.le_of_ble_eq_true rfl) rfl) rfl 8 (by decide) lk15 (fun _ h9 => h9) rfl (by decide +kernel) rfl rfl (Nat.le_of_ble_eq_true rfl) dX6_make_100 (fun H locs hP _ hS => ?_)
            have hP : va_P D vwCl (GW cy ad (u2 iv_11 90 8 v_17) ar_20) H := by rw [← g_pt6_8 (Nat.le_of_ble_eq_true rfl) rfl]; exact hP
            obtain ⟨iv_30, eiv_30⟩ : ∃ z : gIv, z = u2 iv_11 90 8 v_17 := ⟨_, rfl⟩
            rw [← eiv_30] at hP
            have fk_30 : FK iv iv_30 := by rw [eiv_30]; exact hfk.up (by decide) (by decide)
            refine lv_bipush (v := (-7)) hx hb dX6_make_103 (by decide) ?_
            rw [hQ]
            exact W.iret (v := (-7)) hx hb hr (fun t ht hW => ⟨⟨(-7), (iv_30, ar_20), rfl, fk_30, by show va_P _ _ _ _; rw [ht]; exact hP⟩, hS.F ht⟩) hS.2.2 dX6_make_105
  have zl_31 : (0 : Int32).toInt = (0 : Int) := rfl
  have zl_32 : (0 : Int32).toInt = (0 : Int) := rfl
  exact loop12 (((6 - ((0 : Int))).toNat) + 1) 0 0 iv_7 ar_8 _ _ _ (by omega) fk_7 (by omega) hP hS (lv_sub hl [0, 1, 2, 3] rfl)
set_option maxHeartbeats 4000000 in
set_option maxRecDepth 100000 in
theorem c_X6_advance (l : Launch) (D : va_G) (cy : Nat → ClassId) (ad : Nat → Nat) (hI : gInj ad) (sz : Nat) (iv : gIv) (ar : gAr) (a : Int32)  : Met l yX6_advance wsX6_advance ({ frames := 3, cells := 0, slots := 0, locals := 58 } : Room) (va_Pc [.ref (ad 90), .int a] (gPre D cy ad sz iv ar)) (va_Qi (fun (r : Int32) (u : gIv × gAr) => FK iv u.1) (gPost D cy ad) (gA ad sz)) 0 0 (gA ad sz) := by
  refine Met.ofW (cc := cX6_advance) (maxL := 4) (ret := (some .int)) (by decide) rfl ?_
  intro p e s m args below meth c s₁ B hml hv
  obtain ⟨rfl, rfl, hP, hK, hSt, hNw⟩ := hv
  have hx := B.exec
  have hb := B.bytes
  have hr := B.returns
  have hts := atoms_spec (ws := wsX6_advance) B.pre
  have hown : s.vm.findClass RX6 = some m.cls := findClass_of_methodNamed B.named
  have hlocks := B.notSynchronized
  have hS : va_S (gA ad s.heap.size) s.heap s.heap [] := va_S.rf
  have inX6 : ∀ w ∈ u_ws RX6 TX6 11, w ∈ wsX6_advance := by decide +kernel
  have inX8 : ∀ w ∈ u_ws RX8 TX8 5, w ∈ wsX6_advance := by decide +kernel
  have lk0 := hts (.fieldLink RX6 60 "FormationPlanner$Plan" "now" "I") (by decide +kernel)
  have lk1 := hts (.methodLink RX6 68 Lib.Math.min.name) (by decide +kernel)
  have lk2 := hts (.static Lib.Math.min.name) (by decide +kernel)
  have lk3 := hts (.initialized "java/lang/Math") (by decide +kernel)
  have lk4 := hts (.code Lib.Math.min.name Lib.Math.min.code 2 (some .int)) (by decide +kernel)
  have lk5 := hts (.fieldLink RX6 74 "FormationPlanner$Plan" "size" "I") (by decide +kernel)
  have lk6 := hts (.fieldLink RX6 28 "FormationPlanner$Plan" "scene" "LFormationPlanner$Scene;") (by decide +kernel)
  have lk7 := hts (.fieldLink RX6 82 "FormationPlanner$Scene" "drones" "LFormationPlanner$Places;") (by decide +kernel)
  have hl := lv_entry ([.ref (ad 90), .int a]) (n := 4) (Nat.le_of_ble_eq_true rfl)
  rw [lg_entry_eq]
  generalize (lg_sl ([.ref (ad 90), .int a]) ++ List.replicate (4 - (lg_sl ([.ref (ad 90), .int a])).length) Slot.unset).toArray = ls at hl ⊢
  have hl : lv_has ls 4 [(0, .ref (ad 90)), (1, .int a)] := hl
  obtain ⟨Q, hQ⟩ : ∃ Q, Q = MQ below (va_Qi (fun (r : Int32) (u : gIv × gAr) => FK iv u.1) (gPost D cy ad) (gA ad s.heap.size)) (([.ref (ad 90), .int a] : List Value).toArray) s 0 0 (gA ad s.heap.size) := ⟨_, rfl⟩
  rw [← hQ]
  have fk0 : FK iv iv := FK.rf
  refine lv_aload_n hx hb dX6_advance_0 rfl (lv_at hl 0 rfl) ?_
  refine lv_aload_n hx hb dX6_advance_1 rfl (lv_at hl 0 rfl) ?_
  refine va_get (D := D) (ci := 6) (v := .int (iv 90 10)) (C := RX6) (T := TX6) (N := 11) hx hb hts inX6 hown hK hP 90 (g_at6 (Nat.le_of_ble_eq_true rfl) rfl) rfl 10 (by decide) lk0 (fun _ h9 => h9) rfl dX6_advance_2 ?_
  refine lv_iload_n hx hb dX6_advance_5 rfl (lv_at hl 1 rfl) ?_
  refine lv_iadd hx hb dX6_advance_6 ?_
  refine lv_topi (fun v_1 ev_1 => ?_)
  refine lv_bipush (v := 60) hx hb dX6_advance_7 (by decide) ?_
  refine va_mmin (rest := [.ref (ad 90)]) hx hb (hml.trans hl.1.symm) hown lk1 lk2 lk3 lk4 (Nat.le_of_ble_eq_true rfl) (Nat.le_of_ble_eq_true rfl) (Nat.zero_le _) (Nat.zero_le _) dX6_advance_9 ?_
  refine lv_topi (fun v_2 ev_2 => ?_)
  have tv_2 : v_2.toInt = min v_1.toInt (60 : Int) := i_min (rfl : v_1.toInt = v_1.toInt) (show (60 : Int32).toInt = (60 : Int) from rfl) ev_2
  refine va_put (D := D) (ci := 6) (v := .int v_2) (ty := .int) (C := RX6) (T := TX6) (N := 11) hx hb hts inX6 tyX6 tyX6_ok nmX6 hown hK hP (gD hI) hS 90 (g_at6 (Nat.le_of_ble_eq_true rfl) rfl) rfl 10 (by decide) lk0 (fun _ h9 => h9) rfl (by decide +kernel) rfl rfl (Nat.le_of_ble_eq_true rfl) dX6_advance_12 (fun H locs hP _ hS => ?_)
  have hP : va_P D vwCl (GW cy ad (u2 iv 90 10 v_2) ar) H := by rw [← g_pt6_10 (Nat.le_of_ble_eq_true rfl) rfl]; exact hP
  obtain ⟨iv_3, eiv_3⟩ : ∃ z : gIv, z = u2 iv 90 10 v_2 := ⟨_, rfl⟩
  rw [← eiv_3] at hP
  have fk_3 : FK iv iv_3 := by rw [eiv_3]; exact fk0.up (by decide) (by decide)
  refine lv_iconst (v := 0) hx hb dX6_advance_15 (by decide) ?_
  refine lv_istore_n (lv' := [(2, .int 0), (0, .ref (ad 90)), (1, .int a)]) hx hb dX6_advance_16 rfl hl (by decide) rfl (fun ls hl => ?_)
  refine lv_iconst (v := 0) hx hb dX6_advance_17 (by decide) ?_
  refine lv_istore_n (lv' := [(3, .int 0), (2, .int 0), (0, .ref (ad 90)), (1, .int a)]) hx hb dX6_advance_18 rfl hl (by decide) rfl (fun ls hl => ?_)
  have loop7 : ∀ (n : Nat) (x3_4 : Int32) (x2_5 : Int32) (ar_6 : gAr) (H : Heap) (locs : List Loc) (ls : Array Slot), (((iv 90 9).toInt - (x3_4.toInt)).toNat) < n → (0 ≤ (x3_4.toInt)) → va_P D vwCl (GW cy ad iv_3 ar_6) H → va_S (gA ad s.heap.size) s.heap H locs → lv_has ls 4 [(3, .int x3_4), (2, .int x2_5), (0, .ref (ad 90)), (1, .int a)] → W p l e (headSpec wsX6_advance (({ frames := 3, cells := 0, slots := 0, locals := 58 } : Room))).room s m (([.ref (ad 90), .int a] : List Value).toArray) below meth c H locs 0 0 Q (F0 m 19 ls []) := by
    intro n
    induction n with
    | zero => intro x3_4 x2_5 ar_6 H locs ls hm; omega
    | succ n ih7 =>
      intro x3_4 x2_5 ar_6 H locs ls hm hg0 hP hS hl
      refine lv_iload_n hx hb dX6_advance_19 rfl (lv_at hl 0 rfl) ?_
      refine lv_aload_n hx hb dX6_advance_20 rfl (lv_at hl 2 rfl) ?_
      refine va_get (D := D) (ci := 6) (v := .int (iv_3 90 9)) (C := RX6) (T := TX6) (N := 11) hx hb hts inX6 hown hK hP 90 (g_at6 (Nat.le_of_ble_eq_true rfl) rfl) rfl 9 (by decide) lk5 (fun _ h9 => h9) rfl dX6_advance_21 ?_
      have f_8 : iv_3 90 9 = iv 90 9 := by rw [eiv_3, u2_o (by omega)]
      refine lv_icmp_ge (tgt := 61) hx hb dX6_advance_24 (by decide) (fun c_9 => ?_) (fun c_9 => ?_)
      · skip
        have q_9 : (iv 90 9).toInt ≤ x3_4.toInt := i_le2 ((congrArg Int32.toInt f_8).trans (rfl : (iv 90 9).toInt = (iv 90 9).toInt)) (rfl : x3_4.toInt = x3_4.toInt) c_9
        refine lv_iload_n hx hb dX6_advance_61 rfl (lv_at hl 1 rfl) ?_
        rw [hQ]
        exact W.iret (v := x2_5) hx hb hr (fun t ht hW => ⟨⟨x2_5, (iv_3, ar_6), rfl, fk_3, by show va_P _ _ _ _; rw [ht]; exact hP⟩, hS.F ht⟩) hS.2.2 dX6_advance_62
      · skip
        have q_9 : x3_4.toInt < (iv 90 9).toInt := i_nle2 ((congrArg Int32.toInt f_8).trans (rfl : (iv 90 9).toInt = (iv 90 9).toInt)) (rfl : x3_4.toInt = x3_4.toInt) c_9
        have hrg := i_rng (iv 90 9)
        refine lv_aload_n hx hb dX6_advance_27 rfl (lv_at hl 2 rfl) ?_
        refine va_get (D := D) (ci := 6) (v := .ref (ad 1)) (C := RX6) (T := TX6) (N := 11) hx hb hts inX6 hown hK hP 90 (g_at6 (Nat.le_of_ble_eq_true rfl) rfl) rfl 0 (by decide) lk6 (fun _ h9 => h9) rfl dX6_advance_28 ?_
        refine va_get (D := D) (ci := 8) (v := .ref (ad 4)) (C := RX8) (T := TX8) (N := 5) hx hb hts inX8 hown hK hP 1 (g_at8 (Nat.le_of_ble_eq_true rfl) rfl) rfl 2 (by decide) lk7 (fun _ h9 => h9) rfl dX6_advance_31 ?_
        refine lv_iload_n hx hb dX6_advance_34 rfl (lv_at hl 0 rfl) ?_
        refine lv_aload_n hx hb dX6_advance_35 rfl (lv_at hl 2 rfl) ?_
        refine lv_iload_n hx hb dX6_advance_36 rfl (lv_at hl 0 rfl) ?_
        refine lv_iconst (v := 0) hx hb dX6_advance_37 (by decide) ?_
        have zl_10 : (0 : Int32).toInt = (0 : Int) := rfl
        refine g_callSi (va_runV (As := [.int x3_4, .int 0]) (rest := [.int x3_4, .ref (ad 4)]) ⟨hx, hb, hml, hown, hts⟩ (c_X6_cellOfDrone l D cy ad hI _ iv_3 ar_6 x3_4 0) (cwV 2 hts gX6_advance_X6_cellOfDrone rfl rfl rfl (by decide +kernel) ⟨Nat.le_of_ble_eq_true rfl, Nat.le_of_ble_eq_true rfl⟩) (g_preV hP hK hSt hNw hS (g_at6 (Nat.le_of_ble_eq_true rfl) rfl) rfl) rfl rfl hl.1 rfl (lv_room (Nat.le_of_ble_eq_true rfl)) dX6_advance_38 ⟨Nat.zero_le _, Nat.zero_le _⟩) (fun r_11 w_11 => ?_)
        try dsimp only at w_11
        refine g_callv (va_runV (As := [.int x3_4, .int r_11]) (rest := []) ⟨hx, hb, hml, hown, hts⟩ (c_X5_move l D cy ad hI _ iv_3 ar_6 4 (Nat.le_of_ble_eq_true rfl) rfl x3_4 r_11) (cwV 2 hts gX6_advance_X5_move rfl rfl rfl (by decide +kernel) ⟨Nat.le_of_ble_eq_true rfl, Nat.le_of_ble_eq_true rfl⟩) (g_preV hP hK hSt hNw hS (g_at5 (Nat.le_of_ble_eq_true rfl) rfl) rfl) rfl rfl hl.1 rfl (lv_room (Nat.le_of_ble_eq_true rfl)) dX6_advance_41 ⟨Nat.zero_le _, Nat.zero_le _⟩) hS (fun iv_12 ar_12 H locs w_12 hP hS => ?_)
        try dsimp only at w_12
        have wi_12 := (w_12.1).symm
        subst wi_12
        refine lv_aload_n hx hb dX6_advance_44 rfl (lv_at hl 2 rfl) ?_
        refine lv_iload_n hx hb dX6_advance_45 rfl (lv_at hl 0 rfl) ?_
        refine g_callSi (va_runV (As := [.int x3_4]) (rest := []) ⟨hx, hb, hml, hown, hts⟩ (c_X6_ticksLeft l D cy ad hI _ iv_3 ar_12 x3_4) (cwV 1 hts gX6_advance_X6_ticksLeft rfl rfl rfl (by decide +kernel) ⟨Nat.le_of_ble_eq_true rfl, Nat.le_of_ble_eq_true rfl⟩) (g_preV hP hK hSt hNw hS (g_at6 (Nat.le_of_ble_eq_true rfl) rfl) rfl) rfl rfl hl.1 rfl (lv_room (Nat.le_of_ble_eq_true rfl)) dX6_advance_46 ⟨Nat.zero_le _, Nat.zero_le _⟩) (fun r_13 w_13 => ?_)
        try dsimp only at w_13
        refine lv_if_ne (tgt := 55) hx hb dX6_advance_49 (by decide) (fun c_14 => ?_) (fun c_14 => ?_)
        · skip
          have q_14 : r_13.toInt ≠ (0 : Int) := i_ne2 (rfl : r_13.toInt = r_13.toInt) (show (0 : Int32).toInt = (0 : Int) from rfl) c_14
          obtain ⟨x3_15, ex3_15⟩ : ∃ y : Int32, y = x3_4 + 1 := ⟨_, rfl⟩
          have tx3_15 : x3_15.toInt = x3_4.toInt + (1 : Int) := i_add (rfl : x3_4.toInt = x3_4.toInt) (show (1 : Int32).toInt = (1 : Int) from rfl) (by omega) (by omega) ex3_15
          refine lv_iinc (v := x3_15) (lv' := [(3, .int x3_15), (2, .int x2_5), (0, .ref (ad 90)), (1, .int a)]) hx hb dX6_advance_55 hl (k := 0) rfl (by rw [ex3_15]; rfl) (by decide) rfl (fun ls hl => ?_)
          refine lv_goto (tgt := 19) hx hb dX6_advance_58 (by decide) ?_
          exact ih7 x3_15 x2_5 ar_12 _ _ _ (by omega) (by omega) hP hS (lv_sub hl [0, 1, 2, 3] rfl)
        · skip
          have q_14 : r_13.toInt = (0 : Int) := i_eq2 (rfl : r_13.toInt = r_13.toInt) (show (0 : Int32).toInt = (0 : Int) from rfl) c_14
          obtain ⟨x2_16, ex2_16⟩ : ∃ y : Int32, y = x2_5 + 1 := ⟨_, rfl⟩
          refine lv_iinc (v := x2_16) (lv' := [(2, .int x2_16), (3, .int x3_4), (0, .ref (ad 90)), (1, .int a)]) hx hb dX6_advance_52 hl (k := 1) rfl (by rw [ex2_16]; rfl) (by decide) rfl (fun ls hl => ?_)
          obtain ⟨x3_17, ex3_17⟩ : ∃ y : Int32, y = x3_4 + 1 := ⟨_, rfl⟩
          have tx3_17 : x3_17.toInt = x3_4.toInt + (1 : Int) := i_add (rfl : x3_4.toInt = x3_4.toInt) (show (1 : Int32).toInt = (1 : Int) from rfl) (by omega) (by omega) ex3_17
          refine lv_iinc (v := x3_17) (lv' := [(3, .int x3_17), (2, .int x2_16), (0, .ref (ad 90)), (1, .int a)]) hx hb dX6_advance_55 hl (k := 1) rfl (by rw [ex3_17]; rfl) (by decide) rfl (fun ls hl => ?_)
          refine lv_goto (tgt := 19) hx hb dX6_advance_58 (by decide) ?_
          exact ih7 x3_17 x2_16 ar_12 _ _ _ (by omega) (by omega) hP hS (lv_sub hl [0, 1, 2, 3] rfl)
  have zl_18 : (0 : Int32).toInt = (0 : Int) := rfl
  have zl_19 : (0 : Int32).toInt = (0 : Int) := rfl
  exact loop7 ((((iv 90 9).toInt - ((0 : Int))).toNat) + 1) 0 0 ar _ _ _ (by omega) (by omega) hP hS (lv_sub hl [0, 1, 2, 3] rfl)
