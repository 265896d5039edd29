set_option maxHeartbeats 4000000 in
set_option maxRecDepth 100000 in
theorem c_X0_slotOf (l : Launch) (D : va_G) (cy : Nat → ClassId) (ad : Nat → Nat) (hI : gInj ad) (sz : Nat) (iv : gIv) (ar : gAr) (a : Int32)  : Met l yX0_slotOf wsX0_slotOf ({ frames := 0, cells := 0, slots := 0, locals := 0 } : Room) (va_Pc [.ref (ad 74), .int a] (gPre D cy ad sz iv ar)) (vp_Si (fun r => True)) 0 0 (fun _ => False) := by
  refine Met.ofW (cc := cX0_slotOf) (maxL := 2) (ret := (some .int)) (by decide) rfl ?_
  intro p e s m args below meth c s₁ B hml hv
  obtain ⟨rfl, rfl, hP, hK, hSt, hNw⟩ := hv
  have hx := B.exec
  have hb := B.bytes
  have hr := B.returns
  have hts := atoms_spec (ws := wsX0_slotOf) B.pre
  have hown : s.vm.findClass RX0 = some m.cls := findClass_of_methodNamed B.named
  have hlocks := B.notSynchronized
  have hS : va_S (gA ad s.heap.size) s.heap s.heap [] := va_S.rf
  have inX0 : ∀ w ∈ u_ws RX0 TX0 9, w ∈ wsX0_slotOf := by decide +kernel
  have lk0 := hts (.fieldLink RX0 21 "FormationPlanner$Assigner" "best" "[I") (by decide +kernel)
  have hl := lv_entry ([.ref (ad 74), .int a]) (n := 2) (Nat.le_of_ble_eq_true rfl)
  rw [lg_entry_eq]
  generalize (lg_sl ([.ref (ad 74), .int a]) ++ List.replicate (2 - (lg_sl ([.ref (ad 74), .int a])).length) Slot.unset).toArray = ls at hl ⊢
  have hl : lv_has ls 2 [(0, .ref (ad 74)), (1, .int a)] := hl
  obtain ⟨Q, hQ⟩ : ∃ Q, Q = MQ below (vp_Si (fun r => True)) (([.ref (ad 74), .int a] : List Value).toArray) s 0 0 (fun _ => False) := ⟨_, rfl⟩
  rw [← hQ]
  refine lv_iload_n hx hb dX0_slotOf_0 rfl (lv_at hl 1 rfl) ?_
  refine lv_if_lt (tgt := 19) hx hb dX0_slotOf_1 (by decide) (fun c_1 => ?_) (fun c_1 => ?_)
  · skip
    have q_1 : a.toInt < (0 : Int) := i_lt2 (rfl : a.toInt = a.toInt) (show (0 : Int32).toInt = (0 : Int) from rfl) c_1
    refine lv_iconst (v := (-1)) hx hb dX0_slotOf_19 (by decide) ?_
    rw [hQ]
    exact W.iret (v := (-1)) hx hb hr (fun t ht hW => ⟨(-1), rfl, trivial, ht⟩) (fun q h => by cases h) dX0_slotOf_20
  · skip
    have q_1 : (0 : Int) ≤ a.toInt := i_nlt2 (rfl : a.toInt = a.toInt) (show (0 : Int32).toInt = (0 : Int) from rfl) c_1
    refine lv_iload_n hx hb dX0_slotOf_4 rfl (lv_at hl 1 rfl) ?_
    refine lv_bipush (v := 6) hx hb dX0_slotOf_5 (by decide) ?_
    refine lv_icmp_ge (tgt := 19) hx hb dX0_slotOf_7 (by decide) (fun c_2 => ?_) (fun c_2 => ?_)
    · skip
      have q_2 : (6 : Int) ≤ a.toInt := i_le2 (show (6 : Int32).toInt = (6 : Int) from rfl) (rfl : a.toInt = a.toInt) c_2
      refine lv_iconst (v := (-1)) hx hb dX0_slotOf_19 (by decide) ?_
      rw [hQ]
      exact W.iret (v := (-1)) hx hb hr (fun t ht hW => ⟨(-1), rfl, trivial, ht⟩) (fun q h => by cases h) dX0_slotOf_20
    · skip
      have q_2 : a.toInt < (6 : Int) := i_nle2 (show (6 : Int32).toInt = (6 : Int) from rfl) (rfl : a.toInt = a.toInt) c_2
      refine lv_aload_n hx hb dX0_slotOf_10 rfl (lv_at hl 0 rfl) ?_
      refine va_get (D := D) (ci := 0) (v := .ref (ad 77)) (C := RX0) (T := TX0) (N := 9) hx hb hts inX0 hown hK hP 74 (g_at0 (Nat.le_of_ble_eq_true rfl) rfl) rfl 3 (by decide) lk0 (fun _ h9 => h9) rfl dX0_slotOf_11 ?_
      refine lv_iload_n hx hb dX0_slotOf_14 rfl (lv_at hl 1 rfl) ?_
      refine va_iald hx hb hK hP 77 0 (g_at12 (Nat.le_of_ble_eq_true rfl) rfl) rfl (g_in (N := 6) (rfl : a.toInt = a.toInt) rfl (by omega) (by omega)) dX0_slotOf_15 ?_
      refine lv_topi (fun v_3 ev_3 => ?_)
      refine lv_goto (tgt := 20) hx hb dX0_slotOf_16 (by decide) ?_
      rw [hQ]
      exact W.iret (v := v_3) hx hb hr (fun t ht hW => ⟨v_3, rfl, trivial, ht⟩) (fun q h => by cases h) dX0_slotOf_20
set_option maxHeartbeats 4000000 in
set_option maxRecDepth 100000 in
theorem c_X0_time (l : Launch) (D : va_G) (cy : Nat → ClassId) (ad : Nat → Nat) (hI : gInj ad) (sz : Nat) (iv : gIv) (ar : gAr) (a : Int32) (b : Int32)  : Met l yX0_time wsX0_time ({ frames := 2, cells := 0, slots := 0, locals := 42 } : Room) (va_Pc [.ref (ad 74), .int a, .int b] (gPre D cy ad sz iv ar)) (vp_Si (fun r => True)) 0 0 (fun _ => False) := by
  refine Met.ofW (cc := cX0_time) (maxL := 3) (ret := (some .int)) (by decide) rfl ?_
  intro p e s m args below meth c s₁ B hml hv
  obtain ⟨rfl, rfl, hP, hK, hSt, hNw⟩ := hv
  have hx := B.exec
  have hb := B.bytes
  have hr := B.returns
  have hts := atoms_spec (ws := wsX0_time) B.pre
  have hown : s.vm.findClass RX0 = some m.cls := findClass_of_methodNamed B.named
  have hlocks := B.notSynchronized
  have hS : va_S (gA ad s.heap.size) s.heap s.heap [] := va_S.rf
  have inX0 : ∀ w ∈ u_ws RX0 TX0 9, w ∈ wsX0_time := by decide +kernel
  have inX8 : ∀ w ∈ u_ws RX8 TX8 5, w ∈ wsX0_time := by decide +kernel
  have lk0 := hts (.fieldLink RX0 11 "FormationPlanner$Assigner" "toSlot" "[LFormationPlanner$TimesTo;") (by decide +kernel)
  have lk1 := hts (.fieldLink RX0 24 "FormationPlanner$Assigner" "scene" "LFormationPlanner$Scene;") (by decide +kernel)
  have lk2 := hts (.fieldLink RX0 31 "FormationPlanner$Scene" "drones" "LFormationPlanner$Places;") (by decide +kernel)
  have hl := lv_entry ([.ref (ad 74), .int a, .int b]) (n := 3) (Nat.le_of_ble_eq_true rfl)
  rw [lg_entry_eq]
  generalize (lg_sl ([.ref (ad 74), .int a, .int b]) ++ List.replicate (3 - (lg_sl ([.ref (ad 74), .int a, .int b])).length) Slot.unset).toArray = ls at hl ⊢
  have hl : lv_has ls 3 [(0, .ref (ad 74)), (1, .int a), (2, .int b)] := hl
  obtain ⟨Q, hQ⟩ : ∃ Q, Q = MQ below (vp_Si (fun r => True)) (([.ref (ad 74), .int a, .int b] : List Value).toArray) s 0 0 (fun _ => False) := ⟨_, rfl⟩
  rw [← hQ]
  refine lv_iload_n hx hb dX0_time_0 rfl (lv_at hl 2 rfl) ?_
  refine lv_if_lt (tgt := 10) hx hb dX0_time_1 (by decide) (fun c_1 => ?_) (fun c_1 => ?_)
  · skip
    have q_1 : b.toInt < (0 : Int) := i_lt2 (rfl : b.toInt = b.toInt) (show (0 : Int32).toInt = (0 : Int) from rfl) c_1
    refine lv_iconst (v := (-1)) hx hb dX0_time_10 (by decide) ?_
    rw [hQ]
    exact W.iret (v := (-1)) hx hb hr (fun t ht hW => ⟨(-1), rfl, trivial, ht⟩) (fun q h => by cases h) dX0_time_11
  · skip
    have q_1 : (0 : Int) ≤ b.toInt := i_nlt2 (rfl : b.toInt = b.toInt) (show (0 : Int32).toInt = (0 : Int) from rfl) c_1
    refine lv_iload_n hx hb dX0_time_4 rfl (lv_at hl 2 rfl) ?_
    refine lv_bipush (v := 6) hx hb dX0_time_5 (by decide) ?_
    refine lv_icmp_lt (tgt := 12) hx hb dX0_time_7 (by decide) (fun c_2 => ?_) (fun c_2 => ?_)
    · skip
      have q_2 : b.toInt < (6 : Int) := i_lt2 (rfl : b.toInt = b.toInt) (show (6 : Int32).toInt = (6 : Int) from rfl) c_2
      refine lv_aload_n hx hb dX0_time_12 rfl (lv_at hl 0 rfl) ?_
      refine va_get (D := D) (ci := 0) (v := .ref (ad 75)) (C := RX0) (T := TX0) (N := 9) hx hb hts inX0 hown hK hP 74 (g_at0 (Nat.le_of_ble_eq_true rfl) rfl) rfl 1 (by decide) lk0 (fun _ h9 => h9) rfl dX0_time_13 ?_
      refine lv_iload_n hx hb dX0_time_16 rfl (lv_at hl 2 rfl) ?_
      refine va_aldq hx hb hK hP 75 3 (g_at16 (Nat.le_of_ble_eq_true rfl) rfl) rfl (g_in (N := 6) (rfl : b.toInt = b.toInt) rfl (by omega) (by omega)) dX0_time_17 ?_
      obtain ⟨k_3, ek_3⟩ : ∃ z : Nat, z = ln 75 + 2 * b.toNatClampNeg := ⟨_, rfl⟩
      have hk_3 : k_3 < 135 ∧ kd k_3 = 9 := by rw [ek_3]; exact g_ch75 (g_cl (rfl : b.toInt = b.toInt) (by omega) (by omega))
      show W p l e _ s m _ below meth c _ _ _ _ Q (F0 m 18 _ (Value.ref (ad (ln 75 + 2 * b.toNatClampNeg)) :: []))
      rw [← ek_3]
      have hck_3 := g_cN (rfl : b.toInt = b.toInt)
      refine lv_aload_n hx hb dX0_time_18 rfl (lv_at hl 0 rfl) ?_
      refine va_get (D := D) (ci := 0) (v := .ref (ad 1)) (C := RX0) (T := TX0) (N := 9) hx hb hts inX0 hown hK hP 74 (g_at0 (Nat.le_of_ble_eq_true rfl) rfl) rfl 0 (by decide) lk1 (fun _ h9 => h9) rfl dX0_time_19 ?_
      refine va_get (D := D) (ci := 8) (v := .ref (ad 4)) (C := RX8) (T := TX8) (N := 5) hx hb hts inX8 hown hK hP 1 (g_at8 (Nat.le_of_ble_eq_true rfl) rfl) rfl 2 (by decide) lk2 (fun _ h9 => h9) rfl dX0_time_22 ?_
      refine lv_iload_n hx hb dX0_time_25 rfl (lv_at hl 1 rfl) ?_
      refine g_callSi (va_runV (As := [.int a]) (rest := [.ref (ad k_3)]) ⟨hx, hb, hml, hown, hts⟩ (c_X5_cellAt l D cy ad hI _ iv ar 4 (Nat.le_of_ble_eq_true rfl) rfl a) (cwV 1 hts gX0_time_X5_cellAt rfl rfl rfl (by decide +kernel) ⟨Nat.le_of_ble_eq_true rfl, Nat.le_of_ble_eq_true rfl⟩) (g_preV hP hK hSt hNw hS (g_at5 (Nat.le_of_ble_eq_true rfl) rfl) rfl) rfl rfl hl.1 rfl (lv_room (Nat.le_of_ble_eq_true rfl)) dX0_time_26 ⟨Nat.zero_le _, Nat.zero_le _⟩) (fun r_4 w_4 => ?_)
      try dsimp only at w_4
      refine g_callSi (va_runV (As := [.int r_4]) (rest := []) ⟨hx, hb, hml, hown, hts⟩ (c_X9_timeFrom l D cy ad hI _ iv ar k_3 hk_3.1 hk_3.2 r_4) (cwV 1 hts gX0_time_X9_timeFrom rfl rfl rfl (by decide +kernel) ⟨Nat.le_of_ble_eq_true rfl, Nat.le_of_ble_eq_true rfl⟩) (g_preV hP hK hSt hNw hS (g_at9 hk_3.1 hk_3.2) rfl) rfl rfl hl.1 rfl (lv_room (Nat.le_of_ble_eq_true rfl)) dX0_time_29 ⟨Nat.zero_le _, Nat.zero_le _⟩) (fun r_5 w_5 => ?_)
      try dsimp only at w_5
      rw [hQ]
      exact W.iret (v := r_5) hx hb hr (fun t ht hW => ⟨r_5, rfl, trivial, ht⟩) (fun q h => by cases h) dX0_time_32
    · skip
      have q_2 : (6 : Int) ≤ b.toInt := i_nlt2 (rfl : b.toInt = b.toInt) (show (6 : Int32).toInt = (6 : Int) from rfl) c_2
      refine lv_iconst (v := (-1)) hx hb dX0_time_10 (by decide) ?_
      rw [hQ]
      exact W.iret (v := (-1)) hx hb hr (fun t ht hW => ⟨(-1), rfl, trivial, ht⟩) (fun q h => by cases h) dX0_time_11
set_option maxHeartbeats 4000000 in
set_option maxRecDepth 100000 in
theorem c_X0_timeOf (l : Launch) (D : va_G) (cy : Nat → ClassId) (ad : Nat → Nat) (hI : gInj ad) (sz : Nat) (iv : gIv) (ar : gAr) (a : Int32)  : Met l yX0_timeOf wsX0_timeOf ({ frames := 3, cells := 0, slots := 0, locals := 64 } : Room) (va_Pc [.ref (ad 74), .int a] (gPre D cy ad sz iv ar)) (vp_Si (fun r => True)) 0 0 (fun _ => False) := by
  refine Met.ofW (cc := cX0_timeOf) (maxL := 2) (ret := (some .int)) (by decide) rfl ?_
  intro p e s m args below meth c s₁ B hml hv
  obtain ⟨rfl, rfl, hP, hK, hSt, hNw⟩ := hv
  have hx := B.exec
  have hb := B.bytes
  have hr := B.returns
  have hts := atoms_spec (ws := wsX0_timeOf) B.pre
  have hown : s.vm.findClass RX0 = some m.cls := findClass_of_methodNamed B.named
  have hlocks := B.notSynchronized
  have hS : va_S (gA ad s.heap.size) s.heap s.heap [] := va_S.rf
  have hl := lv_entry ([.ref (ad 74), .int a]) (n := 2) (Nat.le_of_ble_eq_true rfl)
  rw [lg_entry_eq]
  generalize (lg_sl ([.ref (ad 74), .int a]) ++ List.replicate (2 - (lg_sl ([.ref (ad 74), .int a])).length) Slot.unset).toArray = ls at hl ⊢
  have hl : lv_has ls 2 [(0, .ref (ad 74)), (1, .int a)] := hl
  obtain ⟨Q, hQ⟩ : ∃ Q, Q = MQ below (vp_Si (fun r => True)) (([.ref (ad 74), .int a] : List Value).toArray) s 0 0 (fun _ => False) := ⟨_, rfl⟩
  rw [← hQ]
  refine lv_aload_n hx hb dX0_timeOf_0 rfl (lv_at hl 0 rfl) ?_
  refine lv_iload_n hx hb dX0_timeOf_1 rfl (lv_at hl 1 rfl) ?_
  refine lv_aload_n hx hb dX0_timeOf_2 rfl (lv_at hl 0 rfl) ?_
  refine lv_iload_n hx hb dX0_timeOf_3 rfl (lv_at hl 1 rfl) ?_
  refine g_callSi (va_runV (As := [.int a]) (rest := [.int a, .ref (ad 74)]) ⟨hx, hb, hml, hown, hts⟩ (c_X0_slotOf l D cy ad hI _ iv ar a) (cwV 1 hts gX0_timeOf_X0_slotOf rfl rfl rfl (by decide +kernel) ⟨Nat.le_of_ble_eq_true rfl, Nat.le_of_ble_eq_true rfl⟩) (g_preV hP hK hSt hNw hS (g_at0 (Nat.le_of_ble_eq_true rfl) rfl) rfl) rfl rfl hl.1 rfl (lv_room (Nat.le_of_ble_eq_true rfl)) dX0_timeOf_4 ⟨Nat.zero_le _, Nat.zero_le _⟩) (fun r_1 w_1 => ?_)
  try dsimp only at w_1
  refine g_callSi (va_runV (As := [.int a, .int r_1]) (rest := []) ⟨hx, hb, hml, hown, hts⟩ (c_X0_time l D cy ad hI _ iv ar a r_1) (cwV 2 hts gX0_timeOf_X0_time rfl rfl rfl (by decide +kernel) ⟨Nat.le_of_ble_eq_true rfl, Nat.le_of_ble_eq_true rfl⟩) (g_preV hP hK hSt hNw hS (g_at0 (Nat.le_of_ble_eq_true rfl) rfl) rfl) rfl rfl hl.1 rfl (lv_room (Nat.le_of_ble_eq_true rfl)) dX0_timeOf_7 ⟨Nat.zero_le _, Nat.zero_le _⟩) (fun r_2 w_2 => ?_)
  try dsimp only at w_2
  rw [hQ]
  exact W.iret (v := r_2) hx hb hr (fun t ht hW => ⟨r_2, rfl, trivial, ht⟩) (fun q h => by cases h) dX0_timeOf_10
set_option maxHeartbeats 4000000 in
set_option maxRecDepth 100000 in
theorem c_X0_swap (l : Launch) (D : va_G) (cy : Nat → ClassId) (ad : Nat → Nat) (hI : gInj ad) (sz : Nat) (iv : gIv) (ar : gAr) (a : Int32) (b : Int32)  : Met l yX0_swap wsX0_swap ({ frames := 0, cells := 0, slots := 0, locals := 0 } : Room) (va_Pc [.ref (ad 74), .int a, .int b] (gPre D cy ad sz iv ar)) (va_Qv (fun (u : gIv × gAr) => u.1 = iv) (gPost D cy ad) (gA ad sz)) 0 0 (gA ad sz) := by
  refine Met.ofW (cc := cX0_swap) (maxL := 4) (ret := none) (by decide) rfl ?_
  intro p e s m args below meth c s₁ B hml hv
  obtain ⟨rfl, rfl, hP, hK, hSt, hNw⟩ := hv
  have hx := B.exec
  have hb := B.bytes
  have hr := B.returns
  have hts := atoms_spec (ws := wsX0_swap) B.pre
  have hown : s.vm.findClass RX0 = some m.cls := findClass_of_methodNamed B.named
  have hlocks := B.notSynchronized
  have hS : va_S (gA ad s.heap.size) s.heap s.heap [] := va_S.rf
  have inX0 : ∀ w ∈ u_ws RX0 TX0 9, w ∈ wsX0_swap := by decide +kernel
  have lk0 := hts (.fieldLink RX0 17 "FormationPlanner$Assigner" "trial" "[I") (by decide +kernel)
  have hl := lv_entry ([.ref (ad 74), .int a, .int b]) (n := 4) (Nat.le_of_ble_eq_true rfl)
  rw [lg_entry_eq]
  generalize (lg_sl ([.ref (ad 74), .int a, .int b]) ++ List.replicate (4 - (lg_sl ([.ref (ad 74), .int a, .int b])).length) Slot.unset).toArray = ls at hl ⊢
  have hl : lv_has ls 4 [(0, .ref (ad 74)), (1, .int a), (2, .int b)] := hl
  obtain ⟨Q, hQ⟩ : ∃ Q, Q = MQ below (va_Qv (fun (u : gIv × gAr) => u.1 = iv) (gPost D cy ad) (gA ad s.heap.size)) (([.ref (ad 74), .int a, .int b] : List Value).toArray) s 0 0 (gA ad s.heap.size) := ⟨_, rfl⟩
  rw [← hQ]
  refine lv_iload_n hx hb dX0_swap_0 rfl (lv_at hl 1 rfl) ?_
  refine lv_if_lt (tgt := 46) hx hb dX0_swap_1 (by decide) (fun c_1 => ?_) (fun c_1 => ?_)
  · skip
    have q_1 : a.toInt < (0 : Int) := i_lt2 (rfl : a.toInt = a.toInt) (show (0 : Int32).toInt = (0 : Int) from rfl) c_1
    rw [hQ]
    exact W.vret hx hb hr (fun t ht hW => ⟨⟨(iv, ar), rfl, rfl, by show va_P _ _ _ _; rw [ht]; exact hP⟩, hS.F ht⟩) hS.2.2 dX0_swap_46
  · skip
    have q_1 : (0 : Int) ≤ a.toInt := i_nlt2 (rfl : a.toInt = a.toInt) (show (0 : Int32).toInt = (0 : Int) from rfl) c_1
    refine lv_iload_n hx hb dX0_swap_4 rfl (lv_at hl 1 rfl) ?_
    refine lv_bipush (v := 6) hx hb dX0_swap_5 (by decide) ?_
    refine lv_icmp_ge (tgt := 46) hx hb dX0_swap_7 (by decide) (fun c_2 => ?_) (fun c_2 => ?_)
    · skip
      have q_2 : (6 : Int) ≤ a.toInt := i_le2 (show (6 : Int32).toInt = (6 : Int) from rfl) (rfl : a.toInt = a.toInt) c_2
      rw [hQ]
      exact W.vret hx hb hr (fun t ht hW => ⟨⟨(iv, ar), rfl, rfl, by show va_P _ _ _ _; rw [ht]; exact hP⟩, hS.F ht⟩) hS.2.2 dX0_swap_46
    · skip
      have q_2 : a.toInt < (6 : Int) := i_nle2 (show (6 : Int32).toInt = (6 : Int) from rfl) (rfl : a.toInt = a.toInt) c_2
      refine lv_iload_n hx hb dX0_swap_10 rfl (lv_at hl 2 rfl) ?_
      refine lv_if_lt (tgt := 46) hx hb dX0_swap_11 (by decide) (fun c_3 => ?_) (fun c_3 => ?_)
      · skip
        have q_3 : b.toInt < (0 : Int) := i_lt2 (rfl : b.toInt = b.toInt) (show (0 : Int32).toInt = (0 : Int) from rfl) c_3
        rw [hQ]
        exact W.vret hx hb hr (fun t ht hW => ⟨⟨(iv, ar), rfl, rfl, by show va_P _ _ _ _; rw [ht]; exact hP⟩, hS.F ht⟩) hS.2.2 dX0_swap_46
      · skip
        have q_3 : (0 : Int) ≤ b.toInt := i_nlt2 (rfl : b.toInt = b.toInt) (show (0 : Int32).toInt = (0 : Int) from rfl) c_3
        refine lv_iload_n hx hb dX0_swap_14 rfl (lv_at hl 2 rfl) ?_
        refine lv_bipush (v := 6) hx hb dX0_swap_15 (by decide) ?_
        refine lv_icmp_ge (tgt := 46) hx hb dX0_swap_17 (by decide) (fun c_4 => ?_) (fun c_4 => ?_)
        · skip
          have q_4 : (6 : Int) ≤ b.toInt := i_le2 (show (6 : Int32).toInt = (6 : Int) from rfl) (rfl : b.toInt = b.toInt) c_4
          rw [hQ]
          exact W.vret hx hb hr (fun t ht hW => ⟨⟨(iv, ar), rfl, rfl, by show va_P _ _ _ _; rw [ht]; exact hP⟩, hS.F ht⟩) hS.2.2 dX0_swap_46
        · skip
          have q_4 : b.toInt < (6 : Int) := i_nle2 (show (6 : Int32).toInt = (6 : Int) from rfl) (rfl : b.toInt = b.toInt) c_4
          refine lv_aload_n hx hb dX0_swap_20 rfl (lv_at hl 0 rfl) ?_
          refine va_get (D := D) (ci := 0) (v := .ref (ad 76)) (C := RX0) (T := TX0) (N := 9) hx hb hts inX0 hown hK hP 74 (g_at0 (Nat.le_of_ble_eq_true rfl) rfl) rfl 2 (by decide) lk0 (fun _ h9 => h9) rfl dX0_swap_21 ?_
          refine lv_iload_n hx hb dX0_swap_24 rfl (lv_at hl 1 rfl) ?_
          refine va_iald hx hb hK hP 76 0 (g_at12 (Nat.le_of_ble_eq_true rfl) rfl) rfl (g_in (N := 6) (rfl : a.toInt = a.toInt) rfl (by omega) (by omega)) dX0_swap_25 ?_
          refine lv_topi (fun v_5 ev_5 => ?_)
          refine lv_istore_n (lv' := [(3, .int v_5), (0, .ref (ad 74)), (1, .int a), (2, .int b)]) hx hb dX0_swap_26 rfl hl (by decide) rfl (fun ls hl => ?_)
          refine lv_aload_n hx hb dX0_swap_27 rfl (lv_at hl 1 rfl) ?_
          refine va_get (D := D) (ci := 0) (v := .ref (ad 76)) (C := RX0) (T := TX0) (N := 9) hx hb hts inX0 hown hK hP 74 (g_at0 (Nat.le_of_ble_eq_true rfl) rfl) rfl 2 (by decide) lk0 (fun _ h9 => h9) rfl dX0_swap_28 ?_
          refine lv_iload_n hx hb dX0_swap_31 rfl (lv_at hl 2 rfl) ?_
          refine lv_aload_n hx hb dX0_swap_32 rfl (lv_at hl 1 rfl) ?_
          refine va_get (D := D) (ci := 0) (v := .ref (ad 76)) (C := RX0) (T := TX0) (N := 9) hx hb hts inX0 hown hK hP 74 (g_at0 (Nat.le_of_ble_eq_true rfl) rfl) rfl 2 (by decide) lk0 (fun _ h9 => h9) rfl dX0_swap_33 ?_
          refine lv_iload_n hx hb dX0_swap_36 rfl (lv_at hl 3 rfl) ?_
          refine va_iald hx hb hK hP 76 0 (g_at12 (Nat.le_of_ble_eq_true rfl) rfl) rfl (g_in (N := 6) (rfl : b.toInt = b.toInt) rfl (by omega) (by omega)) dX0_swap_37 ?_
          refine lv_topi (fun v_6 ev_6 => ?_)
          refine va_iast hx hb hK hP (gD hI) hS 76 0 (g_at12 (Nat.le_of_ble_eq_true rfl) rfl) rfl (g_in (N := 6) (rfl : a.toInt = a.toInt) rfl (by omega) (by omega)) dX0_swap_38 (fun H locs hP _ hS => ?_)
          rw [g_pt12 (Nat.le_of_ble_eq_true rfl) rfl] at hP
          obtain ⟨ar_7, ear_7⟩ : ∃ z : gAr, z = va_up ar 76 (upd (ar 76) a.toNatClampNeg v_6) := ⟨_, rfl⟩
          rw [← ear_7] at hP
          refine lv_aload_n hx hb dX0_swap_39 rfl (lv_at hl 1 rfl) ?_
          refine va_get (D := D) (ci := 0) (v := .ref (ad 76)) (C := RX0) (T := TX0) (N := 9) hx hb hts inX0 hown hK hP 74 (g_at0 (Nat.le_of_ble_eq_true rfl) rfl) rfl 2 (by decide) lk0 (fun _ h9 => h9) rfl dX0_swap_40 ?_
          refine lv_iload_n hx hb dX0_swap_43 rfl (lv_at hl 3 rfl) ?_
          refine lv_iload_n hx hb dX0_swap_44 rfl (lv_at hl 0 rfl) ?_
          refine va_iast hx hb hK hP (gD hI) hS 76 0 (g_at12 (Nat.le_of_ble_eq_true rfl) rfl) rfl (g_in (N := 6) (rfl : b.toInt = b.toInt) rfl (by omega) (by omega)) dX0_swap_45 (fun H locs hP _ hS => ?_)
          rw [g_pt12 (Nat.le_of_ble_eq_true rfl) rfl] at hP
          obtain ⟨ar_8, ear_8⟩ : ∃ z : gAr, z = va_up ar_7 76 (upd (ar_7 76) b.toNatClampNeg v_5) := ⟨_, rfl⟩
          rw [← ear_8] at hP
          rw [hQ]
          exact W.vret hx hb hr (fun t ht hW => ⟨⟨(iv, ar_8), rfl, rfl, by show va_P _ _ _ _; rw [ht]; exact hP⟩, hS.F ht⟩) hS.2.2 dX0_swap_46
set_option maxHeartbeats 4000000 in
set_option maxRecDepth 100000 in
theorem c_X0_take (l : Launch) (D : va_G) (cy : Nat → ClassId) (ad : Nat → Nat) (hI : gInj ad) (sz : Nat) (iv : gIv) (ar : gAr) (a : Int32) (b : Int32)  : Met l yX0_take wsX0_take ({ frames := 1, cells := 0, slots := 0, locals := 40 } : Room) (va_Pc [.ref (ad 74), .int a, .int b] (gPre D cy ad sz iv ar)) (va_Qv (fun (u : gIv × gAr) => FK iv u.1 ∧ u.1 74 4 = iv 74 4) (gPost D cy ad) (gA ad sz)) 0 0 (gA ad sz) := by
  refine Met.ofW (cc := cX0_take) (maxL := 3) (ret := none) (by decide) rfl ?_
  intro p e s m args below meth c s₁ B hml hv
  obtain ⟨rfl, rfl, hP, hK, hSt, hNw⟩ := hv
  have hx := B.exec
  have hb := B.bytes
  have hr := B.returns
  have hts := atoms_spec (ws := wsX0_take) B.pre
  have hown : s.vm.findClass RX0 = some m.cls := findClass_of_methodNamed B.named
  have hlocks := B.notSynchronized
  have hS : va_S (gA ad s.heap.size) s.heap s.heap [] := va_S.rf
  have inX0 : ∀ w ∈ u_ws RX0 TX0 9, w ∈ wsX0_take := by decide +kernel
  have lk0 := hts (.fieldLink RX0 83 "FormationPlanner$Assigner" "greatest" "I") (by decide +kernel)
  have lk1 := hts (.fieldLink RX0 93 "FormationPlanner$Assigner" "sum" "I") (by decide +kernel)
  have lk2 := hts (.fieldLink RX0 17 "FormationPlanner$Assigner" "trial" "[I") (by decide +kernel)
  have lk3 := hts (.fieldLink RX0 21 "FormationPlanner$Assigner" "best" "[I") (by decide +kernel)
  have lk4 := hts (.methodLink RX0 96 arraycopyName) (by decide +kernel)
  have lk5 := hts (.native arraycopyName) (by decide +kernel)
  have lk6 := hts (.static arraycopyName) (by decide +kernel)
  have lk7 := hts (.initialized "java/lang/System") (by decide +kernel)
  have hl := lv_entry ([.ref (ad 74), .int a, .int b]) (n := 3) (Nat.le_of_ble_eq_true rfl)
  rw [lg_entry_eq]
  generalize (lg_sl ([.ref (ad 74), .int a, .int b]) ++ List.replicate (3 - (lg_sl ([.ref (ad 74), .int a, .int b])).length) Slot.unset).toArray = ls at hl ⊢
  have hl : lv_has ls 3 [(0, .ref (ad 74)), (1, .int a), (2, .int b)] := hl
  obtain ⟨Q, hQ⟩ : ∃ Q, Q = MQ below (va_Qv (fun (u : gIv × gAr) => FK iv u.1 ∧ u.1 74 4 = iv 74 4) (gPost D cy ad) (gA ad s.heap.size)) (([.ref (ad 74), .int a, .int b] : List Value).toArray) s 0 0 (gA ad s.heap.size) := ⟨_, rfl⟩
  rw [← hQ]
  have fk0 : FK iv iv := FK.rf
  refine lv_aload_n hx hb dX0_take_0 rfl (lv_at hl 0 rfl) ?_
  refine lv_iload_n hx hb dX0_take_1 rfl (lv_at hl 1 rfl) ?_
  refine va_put (D := D) (ci := 0) (v := .int a) (ty := .int) (C := RX0) (T := TX0) (N := 9) hx hb hts inX0 tyX0 tyX0_ok nmX0 hown hK hP (gD hI) hS 74 (g_at0 (Nat.le_of_ble_eq_true rfl) rfl) rfl 7 (by decide) lk0 (fun _ h9 => h9) rfl (by decide +kernel) rfl rfl (Nat.le_of_ble_eq_true rfl) dX0_take_2 (fun H locs hP _ hS => ?_)
  have hP : va_P D vwCl (GW cy ad (u2 iv 74 7 a) ar) H := by rw [← g_pt0_7 (Nat.le_of_ble_eq_true rfl) rfl]; exact hP
  obtain ⟨iv_1, eiv_1⟩ : ∃ z : gIv, z = u2 iv 74 7 a := ⟨_, rfl⟩
  rw [← eiv_1] at hP
  have fk_1 : FK iv iv_1 := by rw [eiv_1]; exact fk0.up (by decide) (by decide)
  refine lv_aload_n hx hb dX0_take_5 rfl (lv_at hl 0 rfl) ?_
  refine lv_iload_n hx hb dX0_take_6 rfl (lv_at hl 2 rfl) ?_
  refine va_put (D := D) (ci := 0) (v := .int b) (ty := .int) (C := RX0) (T := TX0) (N := 9) hx hb hts inX0 tyX0 tyX0_ok nmX0 hown hK hP (gD hI) hS 74 (g_at0 (Nat.le_of_ble_eq_true rfl) rfl) rfl 8 (by decide) lk1 (fun _ h9 => h9) rfl (by decide +kernel) rfl rfl (Nat.le_of_ble_eq_true rfl) dX0_take_7 (fun H locs hP _ hS => ?_)
  have hP : va_P D vwCl (GW cy ad (u2 iv_1 74 8 b) ar) H := by rw [← g_pt0_8 (Nat.le_of_ble_eq_true rfl) rfl]; exact hP
  obtain ⟨iv_2, eiv_2⟩ : ∃ z : gIv, z = u2 iv_1 74 8 b := ⟨_, rfl⟩
  rw [← eiv_2] at hP
  have fk_2 : FK iv iv_2 := by rw [eiv_2]; exact fk_1.up (by decide) (by decide)
  refine lv_aload_n hx hb dX0_take_10 rfl (lv_at hl 0 rfl) ?_
  refine va_get (D := D) (ci := 0) (v := .ref (ad 76)) (C := RX0) (T := TX0) (N := 9) hx hb hts inX0 hown hK hP 74 (g_at0 (Nat.le_of_ble_eq_true rfl) rfl) rfl 2 (by decide) lk2 (fun _ h9 => h9) rfl dX0_take_11 ?_
  refine lv_iconst (v := 0) hx hb dX0_take_14 (by decide) ?_
  refine lv_aload_n hx hb dX0_take_15 rfl (lv_at hl 0 rfl) ?_
  refine va_get (D := D) (ci := 0) (v := .ref (ad 77)) (C := RX0) (T := TX0) (N := 9) hx hb hts inX0 hown hK hP 74 (g_at0 (Nat.le_of_ble_eq_true rfl) rfl) rfl 3 (by decide) lk3 (fun _ h9 => h9) rfl dX0_take_16 ?_
  refine lv_iconst (v := 0) hx hb dX0_take_19 (by decide) ?_
  refine lv_bipush (v := 6) hx hb dX0_take_20 (by decide) ?_
  refine va_copyi (rest := []) hx hb (hml.trans hl.1.symm) hown lk4 lk5 lk6 lk7 hK hP (gD hI) hS 76 77 0 0 (g_at12 (Nat.le_of_ble_eq_true rfl) rfl) (g_at12 (Nat.le_of_ble_eq_true rfl) rfl) rfl rfl rfl (by decide) (by decide) (by decide) (g_le3 (N := 6) rfl (by decide)) (g_le3 (N := 6) rfl (by decide)) (fun i _ => rfl) (Nat.le_of_ble_eq_true rfl) (Nat.le_of_ble_eq_true rfl) dX0_take_22 (fun H locs hP _ hS => ?_)
  rw [g_pt12 (Nat.le_of_ble_eq_true rfl) rfl] at hP
  obtain ⟨ar_3, ear_3⟩ : ∃ z : gAr, z = va_up ar 77 (va_cpy (ar 76) (ar 77) 0 0 (6 : Int32).toNatClampNeg) := ⟨_, rfl⟩
  have hP : va_P D vwCl (GW cy ad iv_2 ar_3) H := by rw [ear_3]; exact hP
  rw [hQ]
  exact W.vret hx hb hr (fun t ht hW => ⟨⟨(iv_2, ar_3), rfl, ⟨fk_2, by show iv_2 74 4 = iv 74 4; rw [eiv_2, u2_o (by omega)]; rw [eiv_1, u2_o (by omega)]⟩, by show va_P _ _ _ _; rw [ht]; exact hP⟩, hS.F ht⟩) hS.2.2 dX0_take_25
set_option maxHeartbeats 4000000 in
set_option maxRecDepth 100000 in
theorem c_X0_weigh (l : Launch) (D : va_G) (cy : Nat → ClassId) (ad : Nat → Nat) (hI : gInj ad) (sz : Nat) (iv : gIv) (ar : gAr)   : Met l yX0_weigh wsX0_weigh ({ frames := 3, cells := 0, slots := 0, locals := 64 } : Room) (va_Pc [.ref (ad 74)] (gPre D cy ad sz iv ar)) (va_Qv (fun (u : gIv × gAr) => FK iv u.1 ∧ u.1 74 4 = iv 74 4) (gPost D cy ad) (gA ad sz)) 0 0 (gA ad sz) := by
  refine Met.ofW (cc := cX0_weigh) (maxL := 5) (ret := none) (by decide) rfl ?_
  intro p e s m args below meth c s₁ B hml hv
  obtain ⟨rfl, rfl, hP, hK, hSt, hNw⟩ := hv
  have hx := B.exec
  have hb := B.bytes
  have hr := B.returns
  have hts := atoms_spec (ws := wsX0_weigh) B.pre
  have hown : s.vm.findClass RX0 = some m.cls := findClass_of_methodNamed B.named
  have hlocks := B.notSynchronized
  have hS : va_S (gA ad s.heap.size) s.heap s.heap [] := va_S.rf
  have inX0 : ∀ w ∈ u_ws RX0 TX0 9, w ∈ wsX0_weigh := by decide +kernel
  have lk0 := hts (.fieldLink RX0 52 "FormationPlanner$Assigner" "size" "I") (by decide +kernel)
  have lk1 := hts (.fieldLink RX0 53 "FormationPlanner$Assigner" "all" "I") (by decide +kernel)
  have lk2 := hts (.fieldLink RX0 86 "FormationPlanner$Assigner" "alike" "I") (by decide +kernel)
  have lk3 := hts (.fieldLink RX0 83 "FormationPlanner$Assigner" "greatest" "I") (by decide +kernel)
  have lk4 := hts (.fieldLink RX0 93 "FormationPlanner$Assigner" "sum" "I") (by decide +kernel)
  have lk5 := hts (.fieldLink RX0 17 "FormationPlanner$Assigner" "trial" "[I") (by decide +kernel)
  have lk6 := hts (.methodLink RX0 80 Lib.Math.max.name) (by decide +kernel)
  have lk7 := hts (.static Lib.Math.max.name) (by decide +kernel)
  have lk8 := hts (.initialized "java/lang/Math") (by decide +kernel)
  have lk9 := hts (.code Lib.Math.max.name Lib.Math.max.code 2 (some .int)) (by decide +kernel)
  have hl := lv_entry ([.ref (ad 74)]) (n := 5) (Nat.le_of_ble_eq_true rfl)
  rw [lg_entry_eq]
  generalize (lg_sl ([.ref (ad 74)]) ++ List.replicate (5 - (lg_sl ([.ref (ad 74)])).length) Slot.unset).toArray = ls at hl ⊢
  have hl : lv_has ls 5 [(0, .ref (ad 74))] := hl
  obtain ⟨Q, hQ⟩ : ∃ Q, Q = MQ below (va_Qv (fun (u : gIv × gAr) => FK iv u.1 ∧ u.1 74 4 = iv 74 4) (gPost D cy ad) (gA ad s.heap.size)) (([.ref (ad 74)] : List Value).toArray) s 0 0 (gA ad s.heap.size) := ⟨_, rfl⟩
  rw [← hQ]
  have fk0 : FK iv iv := FK.rf
  refine lv_iconst (v := 0) hx hb dX0_weigh_0 (by decide) ?_
  refine lv_istore_n (lv' := [(1, .int 0), (0, .ref (ad 74))]) hx hb dX0_weigh_1 rfl hl (by decide) rfl (fun ls hl => ?_)
  refine lv_iconst (v := 0) hx hb dX0_weigh_2 (by decide) ?_
  refine lv_istore_n (lv' := [(2, .int 0), (1, .int 0), (0, .ref (ad 74))]) hx hb dX0_weigh_3 rfl hl (by decide) rfl (fun ls hl => ?_)
  refine lv_iconst (v := 0) hx hb dX0_weigh_4 (by decide) ?_
  refine lv_istore_n (lv' := [(3, .int 0), (2, .int 0), (1, .int 0), (0, .ref (ad 74))]) hx hb dX0_weigh_5 rfl hl (by decide) rfl (fun ls hl => ?_)
  have loop4 : ∀ (n : Nat) (x3_1 : Int32) (x2_2 : Int32) (x1_3 : Int32) (ls : Array Slot), ((6 - (x3_1.toInt)).toNat) < n → (0 ≤ (x3_1.toInt) ∧ (x3_1.toInt) ≤ 6) → lv_has ls 5 [(3, .int x3_1), (2, .int x2_2), (1, .int x1_3), (0, .ref (ad 74))] → W p l e (headSpec wsX0_weigh (({ frames := 3, cells := 0, slots := 0, locals := 64 } : Room))).room s m (([.ref (ad 74)] : List Value).toArray) below meth c s.heap [] 0 0 Q (F0 m 6 ls []) := by
    intro n
    induction n with
    | zero => intro x3_1 x2_2 x1_3 ls hm; omega
    | succ n ih4 =>
      intro x3_1 x2_2 x1_3 ls hm hg0 hl
      refine lv_iload_n hx hb dX0_weigh_6 rfl (lv_at hl 0 rfl) ?_
      refine lv_aload_n hx hb dX0_weigh_7 rfl (lv_at hl 3 rfl) ?_
      refine va_get (D := D) (ci := 0) (v := .int (iv 74 4)) (C := RX0) (T := TX0) (N := 9) hx hb hts inX0 hown hK hP 74 (g_at0 (Nat.le_of_ble_eq_true rfl) rfl) rfl 4 (by decide) lk0 (fun _ h9 => h9) rfl dX0_weigh_8 ?_
      refine lv_icmp_ge (tgt := 58) hx hb dX0_weigh_11 (by decide) (fun c_5 => ?_) (fun c_5 => ?_)
      · skip
        have q_5 : (iv 74 4).toInt ≤ x3_1.toInt := i_le2 (rfl : (iv 74 4).toInt = (iv 74 4).toInt) (rfl : x3_1.toInt = x3_1.toInt) c_5
        refine lv_aload_n hx hb dX0_weigh_58 rfl (lv_at hl 3 rfl) ?_
        refine lv_dup hx hb dX0_weigh_59 rfl ?_
        refine va_get (D := D) (ci := 0) (v := .int (iv 74 5)) (C := RX0) (T := TX0) (N := 9) hx hb hts inX0 hown hK hP 74 (g_at0 (Nat.le_of_ble_eq_true rfl) rfl) rfl 5 (by decide) lk1 (fun _ h9 => h9) rfl dX0_weigh_60 ?_
        refine lv_iconst (v := 1) hx hb dX0_weigh_63 (by decide) ?_
        refine lv_iadd hx hb dX0_weigh_64 ?_
        refine lv_topi (fun v_6 ev_6 => ?_)
        refine va_put (D := D) (ci := 0) (v := .int v_6) (ty := .int) (C := RX0) (T := TX0) (N := 9) hx hb hts inX0 tyX0 tyX0_ok nmX0 hown hK hP (gD hI) hS 74 (g_at0 (Nat.le_of_ble_eq_true rfl) rfl) rfl 5 (by decide) lk1 (fun _ h9 => h9) rfl (by decide +kernel) rfl rfl (Nat.le_of_ble_eq_true rfl) dX0_weigh_65 (fun H locs hP _ hS => ?_)
        have hP : va_P D vwCl (GW cy ad (u2 iv 74 5 v_6) ar) H := by rw [← g_pt0_5 (Nat.le_of_ble_eq_true rfl) rfl]; exact hP
        obtain ⟨iv_7, eiv_7⟩ : ∃ z : gIv, z = u2 iv 74 5 v_6 := ⟨_, rfl⟩
        rw [← eiv_7] at hP
        have fk_7 : FK iv iv_7 := by rw [eiv_7]; exact fk0.up (by decide) (by decide)
        refine lv_aload_n hx hb dX0_weigh_68 rfl (lv_at hl 3 rfl) ?_
        refine va_get (D := D) (ci := 0) (v := .int (iv_7 74 5)) (C := RX0) (T := TX0) (N := 9) hx hb hts inX0 hown hK hP 74 (g_at0 (Nat.le_of_ble_eq_true rfl) rfl) rfl 5 (by decide) lk1 (fun _ h9 => h9) rfl dX0_weigh_69 ?_
        have f_8 : iv_7 74 5 = v_6 := by rw [eiv_7]; exact u2_s _ _ _ _
        refine lv_iconst (v := 1) hx hb dX0_weigh_72 (by decide) ?_
        refine lv_icmp_eq (tgt := 84) hx hb dX0_weigh_73 (by decide) (fun c_9 => ?_) (fun c_9 => ?_)
        · skip
          have q_9 : v_6.toInt = (1 : Int) := i_eq2 ((congrArg Int32.toInt f_8).trans (rfl : v_6.toInt = v_6.toInt)) (show (1 : Int32).toInt = (1 : Int) from rfl) c_9
          refine lv_aload_n hx hb dX0_weigh_84 rfl (lv_at hl 3 rfl) ?_
          refine lv_iconst (v := 0) hx hb dX0_weigh_85 (by decide) ?_
          refine va_put (D := D) (ci := 0) (v := .int 0) (ty := .int) (C := RX0) (T := TX0) (N := 9) hx hb hts inX0 tyX0 tyX0_ok nmX0 hown hK hP (gD hI) hS 74 (g_at0 (Nat.le_of_ble_eq_true rfl) rfl) rfl 6 (by decide) lk2 (fun _ h9 => h9) rfl (by decide +kernel) rfl rfl (Nat.le_of_ble_eq_true rfl) dX0_weigh_86 (fun H locs hP _ hS => ?_)
          have hP : va_P D vwCl (GW cy ad (u2 iv_7 74 6 0) ar) H := by rw [← g_pt0_6 (Nat.le_of_ble_eq_true rfl) rfl]; exact hP
          obtain ⟨iv_10, eiv_10⟩ : ∃ z : gIv, z = u2 iv_7 74 6 0 := ⟨_, rfl⟩
          rw [← eiv_10] at hP
          have fk_10 : FK iv iv_10 := by rw [eiv_10]; exact fk_7.up (by decide) (by decide)
          refine lv_aload_n hx hb dX0_weigh_89 rfl (lv_at hl 3 rfl) ?_
          refine lv_iload_n hx hb dX0_weigh_90 rfl (lv_at hl 2 rfl) ?_
          refine lv_iload_n hx hb dX0_weigh_91 rfl (lv_at hl 1 rfl) ?_
          refine g_callv (va_runV (As := [.int x1_3, .int x2_2]) (rest := []) ⟨hx, hb, hml, hown, hts⟩ (c_X0_take l D cy ad hI _ iv_10 ar x1_3 x2_2) (cwV 2 hts gX0_weigh_X0_take rfl rfl rfl (by decide +kernel) ⟨Nat.le_of_ble_eq_true rfl, Nat.le_of_ble_eq_true rfl⟩) (g_preV hP hK hSt hNw hS (g_at0 (Nat.le_of_ble_eq_true rfl) rfl) rfl) rfl rfl hl.1 rfl (lv_room (Nat.le_of_ble_eq_true rfl)) dX0_weigh_92 ⟨Nat.zero_le _, Nat.zero_le _⟩) hS (fun iv_11 ar_11 H locs w_11 hP hS => ?_)
          try dsimp only at w_11
          have fk_11 : FK iv iv_11 := fk_10.tr (w_11.1)
          refine lv_goto (tgt := 120) hx hb dX0_weigh_95 (by decide) ?_
          refine lv_iload_n hx hb dX0_weigh_120 rfl (lv_at hl 2 rfl) ?_
          refine lv_aload_n hx hb dX0_weigh_121 rfl (lv_at hl 3 rfl) ?_
          refine va_get (D := D) (ci := 0) (v := .int (iv_11 74 7)) (C := RX0) (T := TX0) (N := 9) hx hb hts inX0 hown hK hP 74 (g_at0 (Nat.le_of_ble_eq_true rfl) rfl) rfl 7 (by decide) lk3 (fun _ h9 => h9) rfl dX0_weigh_122 ?_
          refine lv_icmp_ne (tgt := 138) hx hb dX0_weigh_125 (by decide) (fun c_12 => ?_) (fun c_12 => ?_)
          · skip
            have q_12 : x1_3.toInt ≠ (iv_11 74 7).toInt := i_ne2 (rfl : x1_3.toInt = x1_3.toInt) (rfl : (iv_11 74 7).toInt = (iv_11 74 7).toInt) c_12
            rw [hQ]
            exact W.vret hx hb hr (fun t ht hW => ⟨⟨(iv_11, ar_11), rfl, ⟨fk_11, by show iv_11 74 4 = iv 74 4; rw [w_11.2]; rw [eiv_10, u2_o (by omega)]; rw [eiv_7, u2_o (by omega)]⟩, by show va_P _ _ _ _; rw [ht]; exact hP⟩, hS.F ht⟩) hS.2.2 dX0_weigh_138
          · skip
            have q_12 : x1_3.toInt = (iv_11 74 7).toInt := i_eq2 (rfl : x1_3.toInt = x1_3.toInt) (rfl : (iv_11 74 7).toInt = (iv_11 74 7).toInt) c_12
            refine lv_aload_n hx hb dX0_weigh_128 rfl (lv_at hl 3 rfl) ?_
            refine lv_dup hx hb dX0_weigh_129 rfl ?_
            refine va_get (D := D) (ci := 0) (v := .int (iv_11 74 6)) (C := RX0) (T := TX0) (N := 9) hx hb hts inX0 hown hK hP 74 (g_at0 (Nat.le_of_ble_eq_true rfl) rfl) rfl 6 (by decide) lk2 (fun _ h9 => h9) rfl dX0_weigh_130 ?_
            refine lv_iconst (v := 1) hx hb dX0_weigh_133 (by decide) ?_
            refine lv_iadd hx hb dX0_weigh_134 ?_
            refine lv_topi (fun v_13 ev_13 => ?_)
            refine va_put (D := D) (ci := 0) (v := .int v_13) (ty := .int) (C := RX0) (T := TX0) (N := 9) hx hb hts inX0 tyX0 tyX0_ok nmX0 hown hK hP (gD hI) hS 74 (g_at0 (Nat.le_of_ble_eq_true rfl) rfl) rfl 6 (by decide) lk2 (fun _ h9 => h9) rfl (by decide +kernel) rfl rfl (Nat.le_of_ble_eq_true rfl) dX0_weigh_135 (fun H locs hP _ hS => ?_)
            have hP : va_P D vwCl (GW cy ad (u2 iv_11 74 6 v_13) ar_11) H := by rw [← g_pt0_6 (Nat.le_of_ble_eq_true rfl) rfl]; exact hP
            obtain ⟨iv_14, eiv_14⟩ : ∃ z : gIv, z = u2 iv_11 74 6 v_13 := ⟨_, rfl⟩
            rw [← eiv_14] at hP
            have fk_14 : FK iv iv_14 := by rw [eiv_14]; exact fk_11.up (by decide) (by decide)
            rw [hQ]
            exact W.vret hx hb hr (fun t ht hW => ⟨⟨(iv_14, ar_11), rfl, ⟨fk_14, by show iv_14 74 4 = iv 74 4; rw [eiv_14, u2_o (by omega)]; rw [w_11.2]; rw [eiv_10, u2_o (by omega)]; rw [eiv_7, u2_o (by omega)]⟩, by show va_P _ _ _ _; rw [ht]; exact hP⟩, hS.F ht⟩) hS.2.2 dX0_weigh_138
        · skip
          have q_9 : v_6.toInt ≠ (1 : Int) := i_ne2 ((congrArg Int32.toInt f_8).trans (rfl : v_6.toInt = v_6.toInt)) (show (1 : Int32).toInt = (1 : Int) from rfl) c_9
          refine lv_iload_n hx hb dX0_weigh_76 rfl (lv_at hl 2 rfl) ?_
          refine lv_aload_n hx hb dX0_weigh_77 rfl (lv_at hl 3 rfl) ?_
          refine va_get (D := D) (ci := 0) (v := .int (iv_7 74 7)) (C := RX0) (T := TX0) (N := 9) hx hb hts inX0 hown hK hP 74 (g_at0 (Nat.le_of_ble_eq_true rfl) rfl) rfl 7 (by decide) lk3 (fun _ h9 => h9) rfl dX0_weigh_78 ?_
          have f_15 : iv_7 74 7 = iv 74 7 := by rw [eiv_7, u2_o (by omega)]
          refine lv_icmp_ge (tgt := 98) hx hb dX0_weigh_81 (by decide) (fun c_16 => ?_) (fun c_16 => ?_)
          · skip
            have q_16 : (iv 74 7).toInt ≤ x1_3.toInt := i_le2 ((congrArg Int32.toInt f_15).trans (rfl : (iv 74 7).toInt = (iv 74 7).toInt)) (rfl : x1_3.toInt = x1_3.toInt) c_16
            refine lv_iload_n hx hb dX0_weigh_98 rfl (lv_at hl 2 rfl) ?_
            refine lv_aload_n hx hb dX0_weigh_99 rfl (lv_at hl 3 rfl) ?_
            refine va_get (D := D) (ci := 0) (v := .int (iv_7 74 7)) (C := RX0) (T := TX0) (N := 9) hx hb hts inX0 hown hK hP 74 (g_at0 (Nat.le_of_ble_eq_true rfl) rfl) rfl 7 (by decide) lk3 (fun _ h9 => h9) rfl dX0_weigh_100 ?_
            have f_17 : iv_7 74 7 = iv 74 7 := by rw [eiv_7, u2_o (by omega)]
            refine lv_icmp_ne (tgt := 120) hx hb dX0_weigh_103 (by decide) (fun c_18 => ?_) (fun c_18 => ?_)
            · skip
              have q_18 : x1_3.toInt ≠ (iv 74 7).toInt := i_ne2 (rfl : x1_3.toInt = x1_3.toInt) ((congrArg Int32.toInt f_17).trans (rfl : (iv 74 7).toInt = (iv 74 7).toInt)) c_18
              refine lv_iload_n hx hb dX0_weigh_120 rfl (lv_at hl 2 rfl) ?_
              refine lv_aload_n hx hb dX0_weigh_121 rfl (lv_at hl 3 rfl) ?_
              refine va_get (D := D) (ci := 0) (v := .int (iv_7 74 7)) (C := RX0) (T := TX0) (N := 9) hx hb hts inX0 hown hK hP 74 (g_at0 (Nat.le_of_ble_eq_true rfl) rfl) rfl 7 (by decide) lk3 (fun _ h9 => h9) rfl dX0_weigh_122 ?_
              have f_19 : iv_7 74 7 = iv 74 7 := by rw [eiv_7, u2_o (by omega)]
              refine lv_icmp_ne (tgt := 138) hx hb dX0_weigh_125 (by decide) (fun c_20 => ?_) (fun c_20 => ?_)
              · skip
                have q_20 : x1_3.toInt ≠ (iv 74 7).toInt := i_ne2 (rfl : x1_3.toInt = x1_3.toInt) ((congrArg Int32.toInt f_19).trans (rfl : (iv 74 7).toInt = (iv 74 7).toInt)) c_20
                rw [hQ]
                exact W.vret hx hb hr (fun t ht hW => ⟨⟨(iv_7, ar), rfl, ⟨fk_7, by show iv_7 74 4 = iv 74 4; rw [eiv_7, u2_o (by omega)]⟩, by show va_P _ _ _ _; rw [ht]; exact hP⟩, hS.F ht⟩) hS.2.2 dX0_weigh_138
              · skip
                have q_20 : x1_3.toInt = (iv 74 7).toInt := i_eq2 (rfl : x1_3.toInt = x1_3.toInt) ((congrArg Int32.toInt f_19).trans (rfl : (iv 74 7).toInt = (iv 74 7).toInt)) c_20
                refine lv_aload_n hx hb dX0_weigh_128 rfl (lv_at hl 3 rfl) ?_
                refine lv_dup hx hb dX0_weigh_129 rfl ?_
                refine va_get (D := D) (ci := 0) (v := .int (iv_7 74 6)) (C := RX0) (T := TX0) (N := 9) hx hb hts inX0 hown hK hP 74 (g_at0 (Nat.le_of_ble_eq_true rfl) rfl) rfl 6 (by decide) lk2 (fun _ h9 => h9) rfl dX0_weigh_130 ?_
                have f_21 : iv_7 74 6 = iv 74 6 := by rw [eiv_7, u2_o (by omega)]
                refine lv_iconst (v := 1) hx hb dX0_weigh_133 (by decide) ?_
                refine lv_iadd hx hb dX0_weigh_134 ?_
                refine lv_topi (fun v_22 ev_22 => ?_)
                refine va_put (D := D) (ci := 0) (v := .int v_22) (ty := .int) (C := RX0) (T := TX0) (N := 9) hx hb hts inX0 tyX0 tyX0_ok nmX0 hown hK hP (gD hI) hS 74 (g_at0 (Nat.le_of_ble_eq_true rfl) rfl) rfl 6 (by decide) lk2 (fun _ h9 => h9) rfl (by decide +kernel) rfl rfl (Nat.le_of_ble_eq_true rfl) dX0_weigh_135 (fun H locs hP _ hS => ?_)
                have hP : va_P D vwCl (GW cy ad (u2 iv_7 74 6 v_22) ar) H := by rw [← g_pt0_6 (Nat.le_of_ble_eq_true rfl) rfl]; exact hP
                obtain ⟨iv_23, eiv_23⟩ : ∃ z : gIv, z = u2 iv_7 74 6 v_22 := ⟨_, rfl⟩
                rw [← eiv_23] at hP
                have fk_23 : FK iv iv_23 := by rw [eiv_23]; exact fk_7.up (by decide) (by decide)
                rw [hQ]
                exact W.vret hx hb hr (fun t ht hW => ⟨⟨(iv_23, ar), rfl, ⟨fk_23, by show iv_23 74 4 = iv 74 4; rw [eiv_23, u2_o (by omega)]; rw [eiv_7, u2_o (by omega)]⟩, by show va_P _ _ _ _; rw [ht]; exact hP⟩, hS.F ht⟩) hS.2.2 dX0_weigh_138
            · skip
              have q_18 : x1_3.toInt = (iv 74 7).toInt := i_eq2 (rfl : x1_3.toInt = x1_3.toInt) ((congrArg Int32.toInt f_17).trans (rfl : (iv 74 7).toInt = (iv 74 7).toInt)) c_18
              refine lv_iload_n hx hb dX0_weigh_106 rfl (lv_at hl 1 rfl) ?_
              refine lv_aload_n hx hb dX0_weigh_107 rfl (lv_at hl 3 rfl) ?_
              refine va_get (D := D) (ci := 0) (v := .int (iv_7 74 8)) (C := RX0) (T := TX0) (N := 9) hx hb hts inX0 hown hK hP 74 (g_at0 (Nat.le_of_ble_eq_true rfl) rfl) rfl 8 (by decide) lk4 (fun _ h9 => h9) rfl dX0_weigh_108 ?_
              have f_24 : iv_7 74 8 = iv 74 8 := by rw [eiv_7, u2_o (by omega)]
              refine lv_icmp_ge (tgt := 120) hx hb dX0_weigh_111 (by decide) (fun c_25 => ?_) (fun c_25 => ?_)
              · skip
                have q_25 : (iv 74 8).toInt ≤ x2_2.toInt := i_le2 ((congrArg Int32.toInt f_24).trans (rfl : (iv 74 8).toInt = (iv 74 8).toInt)) (rfl : x2_2.toInt = x2_2.toInt) c_25
                refine lv_iload_n hx hb dX0_weigh_120 rfl (lv_at hl 2 rfl) ?_
                refine lv_aload_n hx hb dX0_weigh_121 rfl (lv_at hl 3 rfl) ?_
                refine va_get (D := D) (ci := 0) (v := .int (iv_7 74 7)) (C := RX0) (T := TX0) (N := 9) hx hb hts inX0 hown hK hP 74 (g_at0 (Nat.le_of_ble_eq_true rfl) rfl) rfl 7 (by decide) lk3 (fun _ h9 => h9) rfl dX0_weigh_122 ?_
                have f_26 : iv_7 74 7 = iv 74 7 := by rw [eiv_7, u2_o (by omega)]
                refine lv_icmp_ne (tgt := 138) hx hb dX0_weigh_125 (by decide) (fun c_27 => ?_) (fun c_27 => ?_)
                · skip
                  have q_27 : x1_3.toInt ≠ (iv 74 7).toInt := i_ne2 (rfl : x1_3.toInt = x1_3.toInt) ((congrArg Int32.toInt f_26).trans (rfl : (iv 74 7).toInt = (iv 74 7).toInt)) c_27
                  rw [hQ]
                  exact W.vret hx hb hr (fun t ht hW => ⟨⟨(iv_7, ar), rfl, ⟨fk_7, by show iv_7 74 4 = iv 74 4; rw [eiv_7, u2_o (by omega)]⟩, by show va_P _ _ _ _; rw [ht]; exact hP⟩, hS.F ht⟩) hS.2.2 dX0_weigh_138
                · skip
                  have q_27 : x1_3.toInt = (iv 74 7).toInt := i_eq2 (rfl : x1_3.toInt = x1_3.toInt) ((congrArg Int32.toInt f_26).trans (rfl : (iv 74 7).toInt = (iv 74 7).toInt)) c_27
                  refine lv_aload_n hx hb dX0_weigh_128 rfl (lv_at hl 3 rfl) ?_
                  refine lv_dup hx hb dX0_weigh_129 rfl ?_
                  refine va_get (D := D) (ci := 0) (v := .int (iv_7 74 6)) (C := RX0) (T := TX0) (N := 9) hx hb hts inX0 hown hK hP 74 (g_at0 (Nat.le_of_ble_eq_true rfl) rfl) rfl 6 (by decide) lk2 (fun _ h9 => h9) rfl dX0_weigh_130 ?_
                  have f_28 : iv_7 74 6 = iv 74 6 := by rw [eiv_7, u2_o (by omega)]
                  refine lv_iconst (v := 1) hx hb dX0_weigh_133 (by decide) ?_
                  refine lv_iadd hx hb dX0_weigh_134 ?_
                  refine lv_topi (fun v_29 ev_29 => ?_)
                  refine va_put (D := D) (ci := 0) (v := .int v_29) (ty := .int) (C := RX0) (T := TX0) (N := 9) hx hb hts inX0 tyX0 tyX0_ok nmX0 hown hK hP (gD hI) hS 74 (g_at0 (Nat.le_of_ble_eq_true rfl) rfl) rfl 6 (by decide) lk2 (fun _ h9 => h9) rfl (by decide +kernel) rfl rfl (Nat.le_of_ble_eq_true rfl) dX0_weigh_135 (fun H locs hP _ hS => ?_)
                  have hP : va_P D vwCl (GW cy ad (u2 iv_7 74 6 v_29) ar) H := by rw [← g_pt0_6 (Nat.le_of_ble_eq_true rfl) rfl]; exact hP
                  obtain ⟨iv_30, eiv_30⟩ : ∃ z : gIv, z = u2 iv_7 74 6 v_29 := ⟨_, rfl⟩
                  rw [← eiv_30] at hP
                  have fk_30 : FK iv iv_30 := by rw [eiv_30]; exact fk_7.up (by decide) (by decide)
                  rw [hQ]
                  exact W.vret hx hb hr (fun t ht hW => ⟨⟨(iv_30, ar), rfl, ⟨fk_30, by show iv_30 74 4 = iv 74 4; rw [eiv_30, u2_o (by omega)]; rw [eiv_7, u2_o (by omega)]⟩, by show va_P _ _ _ _; rw [ht]; exact hP⟩, hS.F ht⟩) hS.2.2 dX0_weigh_138
              · skip
                have q_25 : x2_2.toInt < (iv 74 8).toInt := i_nle2 ((congrArg Int32.toInt f_24).trans (rfl : (iv 74 8).toInt = (iv 74 8).toInt)) (rfl : x2_2.toInt = x2_2.toInt) c_25
                refine lv_aload_n hx hb dX0_weigh_114 rfl (lv_at hl 3 rfl) ?_
                refine lv_iload_n hx hb dX0_weigh_115 rfl (lv_at hl 2 rfl) ?_
                refine lv_iload_n hx hb dX0_weigh_116 rfl (lv_at hl 1 rfl) ?_
                refine g_callv (va_runV (As := [.int x1_3, .int x2_2]) (rest := []) ⟨hx, hb, hml, hown, hts⟩ (c_X0_take l D cy ad hI _ iv_7 ar x1_3 x2_2) (cwV 2 hts gX0_weigh_X0_take rfl rfl rfl (by decide +kernel) ⟨Nat.le_of_ble_eq_true rfl, Nat.le_of_ble_eq_true rfl⟩) (g_preV hP hK hSt hNw hS (g_at0 (Nat.le_of_ble_eq_true rfl) rfl) rfl) rfl rfl hl.1 rfl (lv_room (Nat.le_of_ble_eq_true rfl)) dX0_weigh_117 ⟨Nat.zero_le _, Nat.zero_le _⟩) hS (fun iv_31 ar_31 H locs w_31 hP hS => ?_)
                try dsimp only at w_31
                have fk_31 : FK iv iv_31 := fk_7.tr (w_31.1)
                refine lv_iload_n hx hb dX0_weigh_120 rfl (lv_at hl 2 rfl) ?_
                refine lv_aload_n hx hb dX0_weigh_121 rfl (lv_at hl 3 rfl) ?_
                refine va_get (D := D) (ci := 0) (v := .int (iv_31 74 7)) (C := RX0) (T := TX0) (N := 9) hx hb hts inX0 hown hK hP 74 (g_at0 (Nat.le_of_ble_eq_true rfl) rfl) rfl 7 (by decide) lk3 (fun _ h9 => h9) rfl dX0_weigh_122 ?_
                refine lv_icmp_ne (tgt := 138) hx hb dX0_weigh_125 (by decide) (fun c_32 => ?_) (fun c_32 => ?_)
                · skip
                  have q_32 : x1_3.toInt ≠ (iv_31 74 7).toInt := i_ne2 (rfl : x1_3.toInt = x1_3.toInt) (rfl : (iv_31 74 7).toInt = (iv_31 74 7).toInt) c_32
                  rw [hQ]
                  exact W.vret hx hb hr (fun t ht hW => ⟨⟨(iv_31, ar_31), rfl, ⟨fk_31, by show iv_31 74 4 = iv 74 4; rw [w_31.2]; rw [eiv_7, u2_o (by omega)]⟩, by show va_P _ _ _ _; rw [ht]; exact hP⟩, hS.F ht⟩) hS.2.2 dX0_weigh_138
                · skip
                  have q_32 : x1_3.toInt = (iv_31 74 7).toInt := i_eq2 (rfl : x1_3.toInt = x1_3.toInt) (rfl : (iv_31 74 7).toInt = (iv_31 74 7).toInt) c_32
                  refine lv_aload_n hx hb dX0_weigh_128 rfl (lv_at hl 3 rfl) ?_
                  refine lv_dup hx hb dX0_weigh_129 rfl ?_
                  refine va_get (D := D) (ci := 0) (v := .int (iv_31 74 6)) (C := RX0) (T := TX0) (N := 9) hx hb hts inX0 hown hK hP 74 (g_at0 (Nat.le_of_ble_eq_true rfl) rfl) rfl 6 (by decide) lk2 (fun _ h9 => h9) rfl dX0_weigh_130 ?_
                  refine lv_iconst (v := 1) hx hb dX0_weigh_133 (by decide) ?_
                  refine lv_iadd hx hb dX0_weigh_134 ?_
                  refine lv_topi (fun v_33 ev_33 => ?_)
                  refine va_put (D := D) (ci := 0) (v := .int v_33) (ty := .int) (C := RX0) (T := TX0) (N := 9) hx hb hts inX0 tyX0 tyX0_ok nmX0 hown hK hP (gD hI) hS 74 (g_at0 (Nat.le_of_ble_eq_true rfl) rfl) rfl 6 (by decide) lk2 (fun _ h9 => h9) rfl (by decide +kernel) rfl rfl (Nat.le_of_ble_eq_true rfl) dX0_weigh_135 (fun H locs hP _ hS => ?_)
                  have hP : va_P D vwCl (GW cy ad (u2 iv_31 74 6 v_33) ar_31) H := by rw [← g_pt0_6 (Nat.le_of_ble_eq_true rfl) rfl]; exact hP
                  obtain ⟨iv_34, eiv_34⟩ : ∃ z : gIv, z = u2 iv_31 74 6 v_33 := ⟨_, rfl⟩
                  rw [← eiv_34] at hP
                  have fk_34 : FK iv iv_34 := by rw [eiv_34]; exact fk_31.up (by decide) (by decide)
                  rw [hQ]
                  exact W.vret hx hb hr (fun t ht hW => ⟨⟨(iv_34, ar_31), rfl, ⟨fk_34, by show iv_34 74 4 = iv 74 4; rw [eiv_34, u2_o (by omega)]; rw [w_31.2]; rw [eiv_7, u2_o (by omega)]⟩, by show va_P _ _ _ _; rw [ht]; exact hP⟩, hS.F ht⟩) hS.2.2 dX0_weigh_138
          · skip
            have q_16 : x1_3.toInt < (iv 74 7).toInt := i_nle2 ((congrArg Int32.toInt f_15).trans (rfl : (iv 74 7).toInt = (iv 74 7).toInt)) (rfl : x1_3.toInt = x1_3.toInt) c_16
            refine lv_aload_n hx hb dX0_weigh_84 rfl (lv_at hl 3 rfl) ?_
            refine lv_iconst (v := 0) hx hb dX0_weigh_85 (by decide) ?_
            refine va_put (D := D) (ci := 0) (v := .int 0) (ty := .int) (C := RX0) (T := TX0) (N := 9) hx hb hts inX0 tyX0 tyX0_ok nmX0 hown hK hP (gD hI) hS 74 (g_at0 (Nat.le_of_ble_eq_true rfl) rfl) rfl 6 (by decide) lk2 (fun _ h9 => h9) rfl (by decide +kernel) rfl rfl (Nat.le_of_ble_eq_true rfl) dX0_weigh_86 (fun H locs hP _ hS => ?_)
            have hP : va_P D vwCl (GW cy ad (u2 iv_7 74 6 0) ar) H := by rw [← g_pt0_6 (Nat.le_of_ble_eq_true rfl) rfl]; exact hP
            obtain ⟨iv_35, eiv_35⟩ : ∃ z : gIv, z = u2 iv_7 74 6 0 := ⟨_, rfl⟩
            rw [← eiv_35] at hP
            have fk_35 : FK iv iv_35 := by rw [eiv_35]; exact fk_7.up (by decide) (by decide)
            refine lv_aload_n hx hb dX0_weigh_89 rfl (lv_at hl 3 rfl) ?_
            refine lv_iload_n hx hb dX0_weigh_90 rfl (lv_at hl 2 rfl) ?_
            refine lv_iload_n hx hb dX0_weigh_91 rfl (lv_at hl 1 rfl) ?_
            refine g_callv (va_runV (As := [.int x1_3, .int x2_2]) (rest := []) ⟨hx, hb, hml, hown, hts⟩ (c_X0_take l D cy ad hI _ iv_35 ar x1_3 x2_2) (cwV 2 hts gX0_weigh_X0_take rfl rfl rfl (by decide +kernel) ⟨Nat.le_of_ble_eq_true rfl, Nat.le_of_ble_eq_true rfl⟩) (g_preV hP hK hSt hNw hS (g_at0 (Nat.le_of_ble_eq_true rfl) rfl) rfl) rfl rfl hl.1 rfl (lv_room (Nat.le_of_ble_eq_true rfl)) dX0_weigh_92 ⟨Nat.zero_le _, Nat.zero_le _⟩) hS (fun iv_36 ar_36 H locs w_36 hP hS => ?_)
            try dsimp only at w_36
            have fk_36 : FK iv iv_36 := fk_35.tr (w_36.1)
            refine lv_goto (tgt := 120) hx hb dX0_weigh_95 (by decide) ?_
            refine lv_iload_n hx hb dX0_weigh_120 rfl (lv_at hl 2 rfl) ?_
            refine lv_aload_n hx hb dX0_weigh_121 rfl (lv_at hl 3 rfl) ?_
            refine va_get (D := D) (ci := 0) (v := .int (iv_36 74 7)) (C := RX0) (T := TX0) (N := 9) hx hb hts inX0 hown hK hP 74 (g_at0 (Nat.le_of_ble_eq_true rfl) rfl) rfl 7 (by decide) lk3 (fun _ h9 => h9) rfl dX0_weigh_122 ?_
            refine lv_icmp_ne (tgt := 138) hx hb dX0_weigh_125 (by decide) (fun c_37 => ?_) (fun c_37 => ?_)
            · skip
              have q_37 : x1_3.toInt ≠ (iv_36 74 7).toInt := i_ne2 (rfl : x1_3.toInt = x1_3.toInt) (rfl : (iv_36 74 7).toInt = (iv_36 74 7).toInt) c_37
              rw [hQ]
              exact W.vret hx hb hr (fun t ht hW => ⟨⟨(iv_36, ar_36), rfl, ⟨fk_36, by show iv_36 74 4 = iv 74 4; rw [w_36.2]; rw [eiv_35, u2_o (by omega)]; rw [eiv_7, u2_o (by omega)]⟩, by show va_P _ _ _ _; rw [ht]; exact hP⟩, hS.F ht⟩) hS.2.2 dX0_weigh_138
            · skip
              have q_37 : x1_3.toInt = (iv_36 74 7).toInt := i_eq2 (rfl : x1_3.toInt = x1_3.toInt) (rfl : (iv_36 74 7).toInt = (iv_36 74 7).toInt) c_37
              refine lv_aload_n hx hb dX0_weigh_128 rfl (lv_at hl 3 rfl) ?_
              refine lv_dup hx hb dX0_weigh_129 rfl ?_
              refine va_get (D := D) (ci := 0) (v := .int (iv_36 74 6)) (C := RX0) (T := TX0) (N := 9) hx hb hts inX0 hown hK hP 74 (g_at0 (Nat.le_of_ble_eq_true rfl) rfl) rfl 6 (by decide) lk2 (fun _ h9 => h9) rfl dX0_weigh_130 ?_
              refine lv_iconst (v := 1) hx hb dX0_weigh_133 (by decide) ?_
              refine lv_iadd hx hb dX0_weigh_134 ?_
              refine lv_topi (fun v_38 ev_38 => ?_)
              refine va_put (D := D) (ci := 0) (v := .int v_38) (ty := .int) (C := RX0) (T := TX0) (N := 9) hx hb hts inX0 tyX0 tyX0_ok nmX0 hown hK hP (gD hI) hS 74 (g_at0 (Nat.le_of_ble_eq_true rfl) rfl) rfl 6 (by decide) lk2 (fun _ h9 => h9) rfl (by decide +kernel) rfl rfl (Nat.le_of_ble_eq_true rfl) dX0_weigh_135 (fun H locs hP _ hS => ?_)
              have hP : va_P D vwCl (GW cy ad (u2 iv_36 74 6 v_38) ar_36) H := by rw [← g_pt0_6 (Nat.le_of_ble_eq_true rfl) rfl]; exact hP
              obtain ⟨iv_39, eiv_39⟩ : ∃ z : gIv, z = u2 iv_36 74 6 v_38 := ⟨_, rfl⟩
              rw [← eiv_39] at hP
              have fk_39 : FK iv iv_39 := by rw [eiv_39]; exact fk_36.up (by decide) (by decide)
              rw [hQ]
              exact W.vret hx hb hr (fun t ht hW => ⟨⟨(iv_39, ar_36), rfl, ⟨fk_39, by show iv_39 74 4 = iv 74 4; rw [eiv_39, u2_o (by omega)]; rw [w_36.2]; rw [eiv_35, u2_o (by omega)]; rw [eiv_7, u2_o (by omega)]⟩, by show va_P _ _ _ _; rw [ht]; exact hP⟩, hS.F ht⟩) hS.2.2 dX0_weigh_138
      · skip
        have q_5 : x3_1.toInt < (iv 74 4).toInt := i_nle2 (rfl : (iv 74 4).toInt = (iv 74 4).toInt) (rfl : x3_1.toInt = x3_1.toInt) c_5
        refine lv_iload_n hx hb dX0_weigh_14 rfl (lv_at hl 0 rfl) ?_
        refine lv_bipush (v := 6) hx hb dX0_weigh_15 (by decide) ?_
        refine lv_icmp_ge (tgt := 58) hx hb dX0_weigh_17 (by decide) (fun c_40 => ?_) (fun c_40 => ?_)
        · skip
          have q_40 : (6 : Int) ≤ x3_1.toInt := i_le2 (show (6 : Int32).toInt = (6 : Int) from rfl) (rfl : x3_1.toInt = x3_1.toInt) c_40
          refine lv_aload_n hx hb dX0_weigh_58 rfl (lv_at hl 3 rfl) ?_
          refine lv_dup hx hb dX0_weigh_59 rfl ?_
          refine va_get (D := D) (ci := 0) (v := .int (iv 74 5)) (C := RX0) (T := TX0) (N := 9) hx hb hts inX0 hown hK hP 74 (g_at0 (Nat.le_of_ble_eq_true rfl) rfl) rfl 5 (by decide) lk1 (fun _ h9 => h9) rfl dX0_weigh_60 ?_
          refine lv_iconst (v := 1) hx hb dX0_weigh_63 (by decide) ?_
          refine lv_iadd hx hb dX0_weigh_64 ?_
          refine lv_topi (fun v_41 ev_41 => ?_)
          refine va_put (D := D) (ci := 0) (v := .int v_41) (ty := .int) (C := RX0) (T := TX0) (N := 9) hx hb hts inX0 tyX0 tyX0_ok nmX0 hown hK hP (gD hI) hS 74 (g_at0 (Nat.le_of_ble_eq_true rfl) rfl) rfl 5 (by decide) lk1 (fun _ h9 => h9) rfl (by decide +kernel) rfl rfl (Nat.le_of_ble_eq_true rfl) dX0_weigh_65 (fun H locs hP _ hS => ?_)
          have hP : va_P D vwCl (GW cy ad (u2 iv 74 5 v_41) ar) H := by rw [← g_pt0_5 (Nat.le_of_ble_eq_true rfl) rfl]; exact hP
          obtain ⟨iv_42, eiv_42⟩ : ∃ z : gIv, z = u2 iv 74 5 v_41 := ⟨_, rfl⟩
          rw [← eiv_42] at hP
          have fk_42 : FK iv iv_42 := by rw [eiv_42]; exact fk0.up (by decide) (by decide)
          refine lv_aload_n hx hb dX0_weigh_68 rfl (lv_at hl 3 rfl) ?_
          refine va_get (D := D) (ci := 0) (v := .int (iv_42 74 5)) (C := RX0) (T := TX0) (N := 9) hx hb hts inX0 hown hK hP 74 (g_at0 (Nat.le_of_ble_eq_true rfl) rfl) rfl 5 (by decide) lk1 (fun _ h9 => h9) rfl dX0_weigh_69 ?_
          have f_43 : iv_42 74 5 = v_41 := by rw [eiv_42]; exact u2_s _ _ _ _
          refine lv_iconst (v := 1) hx hb dX0_weigh_72 (by decide) ?_
          refine lv_icmp_eq (tgt := 84) hx hb dX0_weigh_73 (by decide) (fun c_44 => ?_) (fun c_44 => ?_)
          · skip
            have q_44 : v_41.toInt = (1 : Int) := i_eq2 ((congrArg Int32.toInt f_43).trans (rfl : v_41.toInt = v_41.toInt)) (show (1 : Int32).toInt = (1 : Int) from rfl) c_44
            refine lv_aload_n hx hb dX0_weigh_84 rfl (lv_at hl 3 rfl) ?_
            refine lv_iconst (v := 0) hx hb dX0_weigh_85 (by decide) ?_
            refine va_put (D := D) (ci := 0) (v := .int 0) (ty := .int) (C := RX0) (T := TX0) (N := 9) hx hb hts inX0 tyX0 tyX0_ok nmX0 hown hK hP (gD hI) hS 74 (g_at0 (Nat.le_of_ble_eq_true rfl) rfl) rfl 6 (by decide) lk2 (fun _ h9 => h9) rfl (by decide +kernel) rfl rfl (Nat.le_of_ble_eq_true rfl) dX0_weigh_86 (fun H locs hP _ hS => ?_)
            have hP : va_P D vwCl (GW cy ad (u2 iv_42 74 6 0) ar) H := by rw [← g_pt0_6 (Nat.le_of_ble_eq_true rfl) rfl]; exact hP
            obtain ⟨iv_45, eiv_45⟩ : ∃ z : gIv, z = u2 iv_42 74 6 0 := ⟨_, rfl⟩
            rw [← eiv_45] at hP
            have fk_45 : FK iv iv_45 := by rw [eiv_45]; exact fk_42.up (by decide) (by decide)
            refine lv_aload_n hx hb dX0_weigh_89 rfl (lv_at hl 3 rfl) ?_
            refine lv_iload_n hx hb dX0_weigh_90 rfl (lv_at hl 2 rfl) ?_
            refine lv_iload_n hx hb dX0_weigh_91 rfl (lv_at hl 1 rfl) ?_
            refine g_callv (va_runV (As := [.int x1_3, .int x2_2]) (rest := []) ⟨hx, hb, hml, hown, hts⟩ (c_X0_take l D cy ad hI _ iv_45 ar x1_3 x2_2) (cwV 2 hts gX0_weigh_X0_take rfl rfl rfl (by decide +kernel) ⟨Nat.le_of_ble_eq_true rfl, Nat.le_of_ble_eq_true rfl⟩) (g_preV hP hK hSt hNw hS (g_at0 (Nat.le_of_ble_eq_true rfl) rfl) rfl) rfl rfl hl.1 rfl (lv_room (Nat.le_of_ble_eq_true rfl)) dX0_weigh_92 ⟨Nat.zero_le _, Nat.zero_le _⟩) hS (fun iv_46 ar_46 H locs w_46 hP hS => ?_)
            try dsimp only at w_46
            have fk_46 : FK iv iv_46 := fk_45.tr (w_46.1)
            refine lv_goto (tgt := 120) hx hb dX0_weigh_95 (by decide) ?_
            refine lv_iload_n hx hb dX0_weigh_120 rfl (lv_at hl 2 rfl) ?_
            refine lv_aload_n hx hb dX0_weigh_121 rfl (lv_at hl 3 rfl) ?_
            refine va_get (D := D) (ci := 0) (v := .int (iv_46 74 7)) (C := RX0) (T := TX0) (N := 9) hx hb hts inX0 hown hK hP 74 (g_at0 (Nat.le_of_ble_eq_true rfl) rfl) rfl 7 (by decide) lk3 (fun _ h9 => h9) rfl dX0_weigh_122 ?_
            refine lv_icmp_ne (tgt := 138) hx hb dX0_weigh_125 (by decide) (fun c_47 => ?_) (fun c_47 => ?_)
            · skip
              have q_47 : x1_3.toInt ≠ (iv_46 74 7).toInt := i_ne2 (rfl : x1_3.toInt = x1_3.toInt) (rfl : (iv_46 74 7).toInt = (iv_46 74 7).toInt) c_47
              rw [hQ]
              exact W.vret hx hb hr (fun t ht hW => ⟨⟨(iv_46, ar_46), rfl, ⟨fk_46, by show iv_46 74 4 = iv 74 4; rw [w_46.2]; rw [eiv_45, u2_o (by omega)]; rw [eiv_42, u2_o (by omega)]⟩, by show va_P _ _ _ _; rw [ht]; exact hP⟩, hS.F ht⟩) hS.2.2 dX0_weigh_138
            · skip
              have q_47 : x1_3.toInt = (iv_46 74 7).toInt := i_eq2 (rfl : x1_3.toInt = x1_3.toInt) (rfl : (iv_46 74 7).toInt = (iv_46 74 7).toInt) c_47
              refine lv_aload_n hx hb dX0_weigh_128 rfl (lv_at hl 3 rfl) ?_
              refine lv_dup hx hb dX0_weigh_129 rfl ?_
              refine va_get (D := D) (ci := 0) (v := .int (iv_46 74 6)) (C := RX0) (T := TX0) (N := 9) hx hb hts inX0 hown hK hP 74 (g_at0 (Nat.le_of_ble_eq_true rfl) rfl) rfl 6 (by decide) lk2 (fun _ h9 => h9) rfl dX0_weigh_130 ?_
              refine lv_iconst (v := 1) hx hb dX0_weigh_133 (by decide) ?_
              refine lv_iadd hx hb dX0_weigh_134 ?_
              refine lv_topi (fun v_48 ev_48 => ?_)
              refine va_put (D := D) (ci := 0) (v := .int v_48) (ty := .int) (C := RX0) (T := TX0) (N := 9) hx hb hts inX0 tyX0 tyX0_ok nmX0 hown hK hP (gD hI) hS 74 (g_at0 (Nat.le_of_ble_eq_true rfl) rfl) rfl 6 (by decide) lk2 (fun _ h9 => h9) rfl (by decide +kernel) rfl rfl (Nat.le_of_ble_eq_true rfl) dX0_weigh_135 (fun H locs hP _ hS => ?_)
              have hP : va_P D vwCl (GW cy ad (u2 iv_46 74 6 v_48) ar_46) H := by rw [← g_pt0_6 (Nat.le_of_ble_eq_true rfl) rfl]; exact hP
              obtain ⟨iv_49, eiv_49⟩ : ∃ z : gIv, z = u2 iv_46 74 6 v_48 := ⟨_, rfl⟩
              rw [← eiv_49] at hP
              have fk_49 : FK iv iv_49 := by rw [eiv_49]; exact fk_46.up (by decide) (by decide)
              rw [hQ]
              exact W.vret hx hb hr (fun t ht hW => ⟨⟨(iv_49, ar_46), rfl, ⟨fk_49, by show iv_49 74 4 = iv 74 4; rw [eiv_49, u2_o (by omega)]; rw [w_46.2]; rw [eiv_45, u2_o (by omega)]; rw [eiv_42, u2_o (by omega)]⟩, by show va_P _ _ _ _; rw [ht]; exact hP⟩, hS.F ht⟩) hS.2.2 dX0_weigh_138
          · skip
            have q_44 : v_41.toInt ≠ (1 : Int) := i_ne2 ((congrArg Int32.toInt f_43).trans (rfl : v_41.toInt = v_41.toInt)) (show (1 : Int32).toInt = (1 : Int) from rfl) c_44
            refine lv_iload_n hx hb dX0_weigh_76 rfl (lv_at hl 2 rfl) ?_
            refine lv_aload_n hx hb dX0_weigh_77 rfl (lv_at hl 3 rfl) ?_
            refine va_get (D := D) (ci := 0) (v := .int (iv_42 74 7)) (C := RX0) (T := TX0) (N := 9) hx hb hts inX0 hown hK hP 74 (g_at0 (Nat.le_of_ble_eq_true rfl) rfl) rfl 7 (by decide) lk3 (fun _ h9 => h9) rfl dX0_weigh_78 ?_
            have f_50 : iv_42 74 7 = iv 74 7 := by rw [eiv_42, u2_o (by omega)]
            refine lv_icmp_ge (tgt := 98) hx hb dX0_weigh_81 (by decide) (fun c_51 => ?_) (fun c_51 => ?_)
            · skip
              have q_51 : (iv 74 7).toInt ≤ x1_3.toInt := i_le2 ((congrArg Int32.toInt f_50).trans (rfl : (iv 74 7).toInt = (iv 74 7).toInt)) (rfl : x1_3.toInt = x1_3.toInt) c_51
              refine lv_iload_n hx hb dX0_weigh_98 rfl (lv_at hl 2 rfl) ?_
              refine lv_aload_n hx hb dX0_weigh_99 rfl (lv_at hl 3 rfl) ?_
              refine va_get (D := D) (ci := 0) (v := .int (iv_42 74 7)) (C := RX0) (T := TX0) (N := 9) hx hb hts inX0 hown hK hP 74 (g_at0 (Nat.le_of_ble_eq_true rfl) rfl) rfl 7 (by decide) lk3 (fun _ h9 => h9) rfl dX0_weigh_100 ?_
              have f_52 : iv_42 74 7 = iv 74 7 := by rw [eiv_42, u2_o (by omega)]
              refine lv_icmp_ne (tgt := 120) hx hb dX0_weigh_103 (by decide) (fun c_53 => ?_) (fun c_53 => ?_)
              · skip
                have q_53 : x1_3.toInt ≠ (iv 74 7).toInt := i_ne2 (rfl : x1_3.toInt = x1_3.toInt) ((congrArg Int32.toInt f_52).trans (rfl : (iv 74 7).toInt = (iv 74 7).toInt)) c_53
                refine lv_iload_n hx hb dX0_weigh_120 rfl (lv_at hl 2 rfl) ?_
                refine lv_aload_n hx hb dX0_weigh_121 rfl (lv_at hl 3 rfl) ?_
                refine va_get (D := D) (ci := 0) (v := .int (iv_42 74 7)) (C := RX0) (T := TX0) (N := 9) hx hb hts inX0 hown hK hP 74 (g_at0 (Nat.le_of_ble_eq_true rfl) rfl) rfl 7 (by decide) lk3 (fun _ h9 => h9) rfl dX0_weigh_122 ?_
                have f_54 : iv_42 74 7 = iv 74 7 := by rw [eiv_42, u2_o (by omega)]
                refine lv_icmp_ne (tgt := 138) hx hb dX0_weigh_125 (by decide) (fun c_55 => ?_) (fun c_55 => ?_)
                · skip
                  have q_55 : x1_3.toInt ≠ (iv 74 7).toInt := i_ne2 (rfl : x1_3.toInt = x1_3.toInt) ((congrArg Int32.toInt f_54).trans (rfl : (iv 74 7).toInt = (iv 74 7).toInt)) c_55
                  rw [hQ]
                  exact W.vret hx hb hr (fun t ht hW => ⟨⟨(iv_42, ar), rfl, ⟨fk_42, by show iv_42 74 4 = iv 74 4; rw [eiv_42, u2_o (by omega)]⟩, by show va_P _ _ _ _; rw [ht]; exact hP⟩, hS.F ht⟩) hS.2.2 dX0_weigh_138
                · skip
                  have q_55 : x1_3.toInt = (iv 74 7).toInt := i_eq2 (rfl : x1_3.toInt = x1_3.toInt) ((congrArg Int32.toInt f_54).trans (rfl : (iv 74 7).toInt = (iv 74 7).toInt)) c_55
                  refine lv_aload_n hx hb dX0_weigh_128 rfl (lv_at hl 3 rfl) ?_
                  refine lv_dup hx hb dX0_weigh_129 rfl ?_
                  refine va_get (D := D) (ci := 0) (v := .int (iv_42 74 6)) (C := RX0) (T := TX0) (N := 9) hx hb hts inX0 hown hK hP 74 (g_at0 (Nat.le_of_ble_eq_true rfl) rfl) rfl 6 (by decide) lk2 (fun _ h9 => h9) rfl dX0_weigh_130 ?_
                  have f_56 : iv_42 74 6 = iv 74 6 := by rw [eiv_42, u2_o (by omega)]
                  refine lv_iconst (v := 1) hx hb dX0_weigh_133 (by decide) ?_
                  refine lv_iadd hx hb dX0_weigh_134 ?_
                  refine lv_topi (fun v_57 ev_57 => ?_)
                  refine va_put (D := D) (ci := 0) (v := .int v_57) (ty := .int) (C := RX0) (T := TX0) (N := 9) hx hb hts inX0 tyX0 tyX0_ok nmX0 hown hK hP (gD hI) hS 74 (g_at0 (Nat.le_of_ble_eq_true rfl) rfl) rfl 6 (by decide) lk2 (fun _ h9 => h9) rfl (by decide +kernel) rfl rfl (Nat.le_of_ble_eq_true rfl) dX0_weigh_135 (fun H locs hP _ hS => ?_)
                  have hP : va_P D vwCl (GW cy ad (u2 iv_42 74 6 v_57) ar) H := by rw [← g_pt0_6 (Nat.le_of_ble_eq_true rfl) rfl]; exact hP
                  obtain ⟨iv_58, eiv_58⟩ : ∃ z : gIv, z = u2 iv_42 74 6 v_57 := ⟨_, rfl⟩
                  rw [← eiv_58] at hP
                  have fk_58 : FK iv iv_58 := by rw [eiv_58]; exact fk_42.up (by decide) (by decide)
                  rw [hQ]
                  exact W.vret hx hb hr (fun t ht hW => ⟨⟨(iv_58, ar), rfl, ⟨fk_58, by show iv_58 74 4 = iv 74 4; rw [eiv_58, u2_o (by omega)]; rw [eiv_42, u2_o (by omega)]⟩, by show va_P _ _ _ _; rw [ht]; exact hP⟩, hS.F ht⟩) hS.2.2 dX0_weigh_138
              · skip
                have q_53 : x1_3.toInt = (iv 74 7).toInt := i_eq2 (rfl : x1_3.toInt = x1_3.toInt) ((congrArg Int32.toInt f_52).trans (rfl : (iv 74 7).toInt = (iv 74 7).toInt)) c_53
                refine lv_iload_n hx hb dX0_weigh_106 rfl (lv_at hl 1 rfl) ?_
                refine lv_aload_n hx hb dX0_weigh_107 rfl (lv_at hl 3 rfl) ?_
                refine va_get (D := D) (ci := 0) (v := .int (iv_42 74 8)) (C := RX0) (T := TX0) (N := 9) hx hb hts inX0 hown hK hP 74 (g_at0 (Nat.le_of_ble_eq_true rfl) rfl) rfl 8 (by decide) lk4 (fun _ h9 => h9) rfl dX0_weigh_108 ?_
                have f_59 : iv_42 74 8 = iv 74 8 := by rw [eiv_42, u2_o (by omega)]
                refine lv_icmp_ge (tgt := 120) hx hb dX0_weigh_111 (by decide) (fun c_60 => ?_) (fun c_60 => ?_)
                · skip
                  have q_60 : (iv 74 8).toInt ≤ x2_2.toInt := i_le2 ((congrArg Int32.toInt f_59).trans (rfl : (iv 74 8).toInt = (iv 74 8).toInt)) (rfl : x2_2.toInt = x2_2.toInt) c_60
                  refine lv_iload_n hx hb dX0_weigh_120 rfl (lv_at hl 2 rfl) ?_
                  refine lv_aload_n hx hb dX0_weigh_121 rfl (lv_at hl 3 rfl) ?_
                  refine va_get (D := D) (ci := 0) (v := .int (iv_42 74 7)) (C := RX0) (T := TX0) (N := 9) hx hb hts inX0 hown hK hP 74 (g_at0 (Nat.le_of_ble_eq_true rfl) rfl) rfl 7 (by decide) lk3 (fun _ h9 => h9) rfl dX0_weigh_122 ?_
                  have f_61 : iv_42 74 7 = iv 74 7 := by rw [eiv_42, u2_o (by omega)]
                  refine lv_icmp_ne (tgt := 138) hx hb dX0_weigh_125 (by decide) (fun c_62 => ?_) (fun c_62 => ?_)
                  · skip
                    have q_62 : x1_3.toInt ≠ (iv 74 7).toInt := i_ne2 (rfl : x1_3.toInt = x1_3.toInt) ((congrArg Int32.toInt f_61).trans (rfl : (iv 74 7).toInt = (iv 74 7).toInt)) c_62
                    rw [hQ]
                    exact W.vret hx hb hr (fun t ht hW => ⟨⟨(iv_42, ar), rfl, ⟨fk_42, by show iv_42 74 4 = iv 74 4; rw [eiv_42, u2_o (by omega)]⟩, by show va_P _ _ _ _; rw [ht]; exact hP⟩, hS.F ht⟩) hS.2.2 dX0_weigh_138
                  · skip
                    have q_62 : x1_3.toInt = (iv 74 7).toInt := i_eq2 (rfl : x1_3.toInt = x1_3.toInt) ((congrArg Int32.toInt f_61).trans (rfl : (iv 74 7).toInt = (iv 74 7).toInt)) c_62
                    refine lv_aload_n hx hb dX0_weigh_128 rfl (lv_at hl 3 rfl) ?_
                    refine lv_dup hx hb dX0_weigh_129 rfl ?_
                    refine va_get (D := D) (ci := 0) (v := .int (iv_42 74 6)) (C := RX0) (T := TX0) (N := 9) hx hb hts inX0 hown hK hP 74 (g_at0 (Nat.le_of_ble_eq_true rfl) rfl) rfl 6 (by decide) lk2 (fun _ h9 => h9) rfl dX0_weigh_130 ?_
                    have f_63 : iv_42 74 6 = iv 74 6 := by rw [eiv_42, u2_o (by omega)]
                    refine lv_iconst (v := 1) hx hb dX0_weigh_133 (by decide) ?_
                    refine lv_iadd hx hb dX0_weigh_134 ?_
                    refine lv_topi (fun v_64 ev_64 => ?_)
                    refine va_put (D := D) (ci := 0) (v := .int v_64) (ty := .int) (C := RX0) (T := TX0) (N := 9) hx hb hts inX0 tyX0 tyX0_ok nmX0 hown hK hP (gD hI) hS 74 (g_at0 (Nat.le_of_ble_eq_true rfl) rfl) rfl 6 (by decide) lk2 (fun _ h9 => h9) rfl (by decide +kernel) rfl rfl (Nat.le_of_ble_eq_true rfl) dX0_weigh_135 (fun H locs hP _ hS => ?_)
                    have hP : va_P D vwCl (GW cy ad (u2 iv_42 74 6 v_64) ar) H := by rw [← g_pt0_6 (Nat.le_of_ble_eq_true rfl) rfl]; exact hP
                    obtain ⟨iv_65, eiv_65⟩ : ∃ z : gIv, z = u2 iv_42 74 6 v_64 := ⟨_, rfl⟩
                    rw [← eiv_65] at hP
                    have fk_65 : FK iv iv_65 := by rw [eiv_65]; exact fk_42.up (by decide) (by decide)
                    rw [hQ]
                    exact W.vret hx hb hr (fun t ht hW => ⟨⟨(iv_65, ar), rfl, ⟨fk_65, by show iv_65 74 4 = iv 74 4; rw [eiv_65, u2_o (by omega)]; rw [eiv_42, u2_o (by omega)]⟩, by show va_P _ _ _ _; rw [ht]; exact hP⟩, hS.F ht⟩) hS.2.2 dX0_weigh_138
                · skip
                  have q_60 : x2_2.toInt < (iv 74 8).toInt := i_nle2 ((congrArg Int32.toInt f_59).trans (rfl : (iv 74 8).toInt = (iv 74 8).toInt)) (rfl : x2_2.toInt = x2_2.toInt) c_60
                  refine lv_aload_n hx hb dX0_weigh_114 rfl (lv_at hl 3 rfl) ?_
                  refine lv_iload_n hx hb dX0_weigh_115 rfl (lv_at hl 2 rfl) ?_
                  refine lv_iload_n hx hb dX0_weigh_116 rfl (lv_at hl 1 rfl) ?_
                  refine g_callv (va_runV (As := [.int x1_3, .int x2_2]) (rest := []) ⟨hx, hb, hml, hown, hts⟩ (c_X0_take l D cy ad hI _ iv_42 ar x1_3 x2_2) (cwV 2 hts gX0_weigh_X0_take rfl rfl rfl (by decide +kernel) ⟨Nat.le_of_ble_eq_true rfl, Nat.le_of_ble_eq_true rfl⟩) (g_preV hP hK hSt hNw hS (g_at0 (Nat.le_of_ble_eq_true rfl) rfl) rfl) rfl rfl hl.1 rfl (lv_room (Nat.le_of_ble_eq_true rfl)) dX0_weigh_117 ⟨Nat.zero_le _, Nat.zero_le _⟩) hS (fun iv_66 ar_66 H locs w_66 hP hS => ?_)
                  try dsimp only at w_66
                  have fk_66 : FK iv iv_66 := fk_42.tr (w_66.1)
                  refine lv_iload_n hx hb dX0_weigh_120 rfl (lv_at hl 2 rfl) ?_
                  refine lv_aload_n hx hb dX0_weigh_121 rfl (lv_at hl 3 rfl) ?_
                  refine va_get (D := D) (ci := 0) (v := .int (iv_66 74 7)) (C := RX0) (T := TX0) (N := 9) hx hb hts inX0 hown hK hP 74 (g_at0 (Nat.le_of_ble_eq_true rfl) rfl) rfl 7 (by decide) lk3 (fun _ h9 => h9) rfl dX0_weigh_122 ?_
                  refine lv_icmp_ne (tgt := 138) hx hb dX0_weigh_125 (by decide) (fun c_67 => ?_) (fun c_67 => ?_)
                  · skip
                    have q_67 : x1_3.toInt ≠ (iv_66 74 7).toInt := i_ne2 (rfl : x1_3.toInt = x1_3.toInt) (rfl : (iv_66 74 7).toInt = (iv_66 74 7).toInt) c_67
                    rw [hQ]
                    exact W.vret hx hb hr (fun t ht hW => ⟨⟨(iv_66, ar_66), rfl, ⟨fk_66, by show iv_66 74 4 = iv 74 4; rw [w_66.2]; rw [eiv_42, u2_o (by omega)]⟩, by show va_P _ _ _ _; rw [ht]; exact hP⟩, hS.F ht⟩) hS.2.2 dX0_weigh_138
                  · skip
                    have q_67 : x1_3.toInt = (iv_66 74 7).toInt := i_eq2 (rfl : x1_3.toInt = x1_3.toInt) (rfl : (iv_66 74 7).toInt = (iv_66 74 7).toInt) c_67
                    refine lv_aload_n hx hb dX0_weigh_128 rfl (lv_at hl 3 rfl) ?_
                    refine lv_dup hx hb dX0_weigh_129 rfl ?_
                    refine va_get (D := D) (ci := 0) (v := .int (iv_66 74 6)) (C := RX0) (T := TX0) (N := 9) hx hb hts inX0 hown hK hP 74 (g_at0 (Nat.le_of_ble_eq_true rfl) rfl) rfl 6 (by decide) lk2 (fun _ h9 => h9) rfl dX0_weigh_130 ?_
                    refine lv_iconst (v := 1) hx hb dX0_weigh_133 (by decide) ?_
                    refine lv_iadd hx hb dX0_weigh_134 ?_
                    refine lv_topi (fun v_68 ev_68 => ?_)
                    refine va_put (D := D) (ci := 0) (v := .int v_68) (ty := .int) (C := RX0) (T := TX0) (N := 9) hx hb hts inX0 tyX0 tyX0_ok nmX0 hown hK hP (gD hI) hS 74 (g_at0 (Nat.le_of_ble_eq_true rfl) rfl) rfl 6 (by decide) lk2 (fun _ h9 => h9) rfl (by decide +kernel) rfl rfl (Nat.le_of_ble_eq_true rfl) dX0_weigh_135 (fun H locs hP _ hS => ?_)
                    have hP : va_P D vwCl (GW cy ad (u2 iv_66 74 6 v_68) ar_66) H := by rw [← g_pt0_6 (Nat.le_of_ble_eq_true rfl) rfl]; exact hP
                    obtain ⟨iv_69, eiv_69⟩ : ∃ z : gIv, z = u2 iv_66 74 6 v_68 := ⟨_, rfl⟩
                    rw [← eiv_69] at hP
                    have fk_69 : FK iv iv_69 := by rw [eiv_69]; exact fk_66.up (by decide) (by decide)
                    rw [hQ]
                    exact W.vret hx hb hr (fun t ht hW => ⟨⟨(iv_69, ar_66), rfl, ⟨fk_69, by show iv_69 74 4 = iv 74 4; rw [eiv_69, u2_o (by omega)]; rw [w_66.2]; rw [eiv_42, u2_o (by omega)]⟩, by show va_P _ _ _ _; rw [ht]; exact hP⟩, hS.F ht⟩) hS.2.2 dX0_weigh_138
            · skip
              have q_51 : x1_3.toInt < (iv 74 7).toInt := i_nle2 ((congrArg Int32.toInt f_50).trans (rfl : (iv 74 7).toInt = (iv 74 7).toInt)) (rfl : x1_3.toInt = x1_3.toInt) c_51
              refine lv_aload_n hx hb dX0_weigh_84 rfl (lv_at hl 3 rfl) ?_
              refine lv_iconst (v := 0) hx hb dX0_weigh_85 (by decide) ?_
              refine va_put (D := D) (ci := 0) (v := .int 0) (ty := .int) (C := RX0) (T := TX0) (N := 9) hx hb hts inX0 tyX0 tyX0_ok nmX0 hown hK hP (gD hI) hS 74 (g_at0 (Nat.le_of_ble_eq_true rfl) rfl) rfl 6 (by decide) lk2 (fun _ h9 => h9) rfl (by decide +kernel) rfl rfl (Nat.le_of_ble_eq_true rfl) dX0_weigh_86 (fun H locs hP _ hS => ?_)
              have hP : va_P D vwCl (GW cy ad (u2 iv_42 74 6 0) ar) H := by rw [← g_pt0_6 (Nat.le_of_ble_eq_true rfl) rfl]; exact hP
              obtain ⟨iv_70, eiv_70⟩ : ∃ z : gIv, z = u2 iv_42 74 6 0 := ⟨_, rfl⟩
              rw [← eiv_70] at hP
              have fk_70 : FK iv iv_70 := by rw [eiv_70]; exact fk_42.up (by decide) (by decide)
              refine lv_aload_n hx hb dX0_weigh_89 rfl (lv_at hl 3 rfl) ?_
              refine lv_iload_n hx hb dX0_weigh_90 rfl (lv_at hl 2 rfl) ?_
              refine lv_iload_n hx hb dX0_weigh_91 rfl (lv_at hl 1 rfl) ?_
              refine g_callv (va_runV (As := [.int x1_3, .int x2_2]) (rest := []) ⟨hx, hb, hml, hown, hts⟩ (c_X0_take l D cy ad hI _ iv_70 ar x1_3 x2_2) (cwV 2 hts gX0_weigh_X0_take rfl rfl rfl (by decide +kernel) ⟨Nat.le_of_ble_eq_true rfl, Nat.le_of_ble_eq_true rfl⟩) (g_preV hP hK hSt hNw hS (g_at0 (Nat.le_of_ble_eq_true rfl) rfl) rfl) rfl rfl hl.1 rfl (lv_room (Nat.le_of_ble_eq_true rfl)) dX0_weigh_92 ⟨Nat.zero_le _, Nat.zero_le _⟩) hS (fun iv_71 ar_71 H locs w_71 hP hS => ?_)
              try dsimp only at w_71
              have fk_71 : FK iv iv_71 := fk_70.tr (w_71.1)
              refine lv_goto (tgt := 120) hx hb dX0_weigh_95 (by decide) ?_
              refine lv_iload_n hx hb dX0_weigh_120 rfl (lv_at hl 2 rfl) ?_
              refine lv_aload_n hx hb dX0_weigh_121 rfl (lv_at hl 3 rfl) ?_
              refine va_get (D := D) (ci := 0) (v := .int (iv_71 74 7)) (C := RX0) (T := TX0) (N := 9) hx hb hts inX0 hown hK hP 74 (g_at0 (Nat.le_of_ble_eq_true rfl) rfl) rfl 7 (by decide) lk3 (fun _ h9 => h9) rfl dX0_weigh_122 ?_
              refine lv_icmp_ne (tgt := 138) hx hb dX0_weigh_125 (by decide) (fun c_72 => ?_) (fun c_72 => ?_)
              · skip
                have q_72 : x1_3.toInt ≠ (iv_71 74 7).toInt := i_ne2 (rfl : x1_3.toInt = x1_3.toInt) (rfl : (iv_71 74 7).toInt = (iv_71 74 7).toInt) c_72
                rw [hQ]
                exact W.vret hx hb hr (fun t ht hW => ⟨⟨(iv_71, ar_71), rfl, ⟨fk_71, by show iv_71 74 4 = iv 74 4; rw [w_71.2]; rw [eiv_70, u2_o (by omega)]; rw [eiv_42, u2_o (by omega)]⟩, by show va_P _ _ _ _; rw [ht]; exact hP⟩, hS.F ht⟩) hS.2.2 dX0_weigh_138
              · skip
                have q_72 : x1_3.toInt = (iv_71 74 7).toInt := i_eq2 (rfl : x1_3.toInt = x1_3.toInt) (rfl : (iv_71 74 7).toInt = (iv_71 74 7).toInt) c_72
                refine lv_aload_n hx hb dX0_weigh_128 rfl (lv_at hl 3 rfl) ?_
                refine lv_dup hx hb dX0_weigh_129 rfl ?_
                refine va_get (D := D) (ci := 0) (v := .int (iv_71 74 6)) (C := RX0) (T := TX0) (N := 9) hx hb hts inX0 hown hK hP 74 (g_at0 (Nat.le_of_ble_eq_true rfl) rfl) rfl 6 (by decide) lk2 (fun _ h9 => h9) rfl dX0_weigh_130 ?_
                refine lv_iconst (v := 1) hx hb dX0_weigh_133 (by decide) ?_
                refine lv_iadd hx hb dX0_weigh_134 ?_
                refine lv_topi (fun v_73 ev_73 => ?_)
                refine va_put (D := D) (ci := 0) (v := .int v_73) (ty := .int) (C := RX0) (T := TX0) (N := 9) hx hb hts inX0 tyX0 tyX0_ok nmX0 hown hK hP (gD hI) hS 74 (g_at0 (Nat.le_of_ble_eq_true rfl) rfl) rfl 6 (by decide) lk2 (fun _ h9 => h9) rfl (by decide +kernel) rfl rfl (Nat.le_of_ble_eq_true rfl) dX0_weigh_135 (fun H locs hP _ hS => ?_)
                have hP : va_P D vwCl (GW cy ad (u2 iv_71 74 6 v_73) ar_71) H := by rw [← g_pt0_6 (Nat.le_of_ble_eq_true rfl) rfl]; exact hP
                obtain ⟨iv_74, eiv_74⟩ : ∃ z : gIv, z = u2 iv_71 74 6 v_73 := ⟨_, rfl⟩
                rw [← eiv_74] at hP
                have fk_74 : FK iv iv_74 := by rw [eiv_74]; exact fk_71.up (by decide) (by decide)
                rw [hQ]
                exact W.vret hx hb hr (fun t ht hW => ⟨⟨(iv_74, ar_71), rfl, ⟨fk_74, by show iv_74 74 4 = iv 74 4; rw [eiv_74, u2_o (by omega)]; rw [w_71.2]; rw [eiv_70, u2_o (by omega)]; rw [eiv_42, u2_o (by omega)]⟩, by show va_P _ _ _ _; rw [ht]; exact hP⟩, hS.F ht⟩) hS.2.2 dX0_weigh_138
        · skip
          have q_40 : x3_1.toInt < (6 : Int) := i_nle2 (show (6 : Int32).toInt = (6 : Int) from rfl) (rfl : x3_1.toInt = x3_1.toInt) c_40
          refine lv_aload_n hx hb dX0_weigh_20 rfl (lv_at hl 3 rfl) ?_
          refine lv_iload_n hx hb dX0_weigh_21 rfl (lv_at hl 0 rfl) ?_
          refine lv_aload_n hx hb dX0_weigh_22 rfl (lv_at hl 3 rfl) ?_
          refine va_get (D := D) (ci := 0) (v := .ref (ad 76)) (C := RX0) (T := TX0) (N := 9) hx hb hts inX0 hown hK hP 74 (g_at0 (Nat.le_of_ble_eq_true rfl) rfl) rfl 2 (by decide) lk5 (fun _ h9 => h9) rfl dX0_weigh_23 ?_
          refine lv_iload_n hx hb dX0_weigh_26 rfl (lv_at hl 0 rfl) ?_
          refine va_iald hx hb hK hP 76 0 (g_at12 (Nat.le_of_ble_eq_true rfl) rfl) rfl (g_in (N := 6) (rfl : x3_1.toInt = x3_1.toInt) rfl (by omega) (by omega)) dX0_weigh_27 ?_
          refine lv_topi (fun v_75 ev_75 => ?_)
          refine g_callSi (va_runV (As := [.int x3_1, .int v_75]) (rest := []) ⟨hx, hb, hml, hown, hts⟩ (c_X0_time l D cy ad hI _ iv ar x3_1 v_75) (cwV 2 hts gX0_weigh_X0_time rfl rfl rfl (by decide +kernel) ⟨Nat.le_of_ble_eq_true rfl, Nat.le_of_ble_eq_true rfl⟩) (g_preV hP hK hSt hNw hS (g_at0 (Nat.le_of_ble_eq_true rfl) rfl) rfl) rfl rfl hl.1 rfl (lv_room (Nat.le_of_ble_eq_true rfl)) dX0_weigh_28 ⟨Nat.zero_le _, Nat.zero_le _⟩) (fun r_76 w_76 => ?_)
          try dsimp only at w_76
          refine lv_istore (lv' := [(4, .int r_76), (3, .int x3_1), (2, .int x2_2), (1, .int x1_3), (0, .ref (ad 74))]) hx hb dX0_weigh_31 hl (by decide) rfl (fun ls hl => ?_)
          refine lv_iload hx hb dX0_weigh_33 (lv_at hl 0 rfl) ?_
          refine lv_iconst (v := (-1)) hx hb dX0_weigh_35 (by decide) ?_
          refine lv_icmp_ne (tgt := 40) hx hb dX0_weigh_36 (by decide) (fun c_77 => ?_) (fun c_77 => ?_)
          · skip
            have q_77 : r_76.toInt ≠ (-1 : Int) := i_ne2 (rfl : r_76.toInt = r_76.toInt) (show ((-1) : Int32).toInt = (-1 : Int) from rfl) c_77
            refine lv_iload_n hx hb dX0_weigh_40 rfl (lv_at hl 3 rfl) ?_
            refine lv_iload hx hb dX0_weigh_41 (lv_at hl 0 rfl) ?_
            refine va_mmax (rest := []) hx hb (hml.trans hl.1.symm) hown lk6 lk7 lk8 lk9 (Nat.le_of_ble_eq_true rfl) (Nat.le_of_ble_eq_true rfl) (Nat.zero_le _) (Nat.zero_le _) dX0_weigh_43 ?_
            refine lv_topi (fun v_78 ev_78 => ?_)
            have tv_78 : v_78.toInt = max x1_3.toInt r_76.toInt := i_max (rfl : x1_3.toInt = x1_3.toInt) (rfl : r_76.toInt = r_76.toInt) ev_78
            refine lv_istore_n (lv' := [(1, .int v_78), (4, .int r_76), (3, .int x3_1), (2, .int x2_2), (0, .ref (ad 74))]) hx hb dX0_weigh_46 rfl hl (by decide) rfl (fun ls hl => ?_)
            refine lv_iload_n hx hb dX0_weigh_47 rfl (lv_at hl 3 rfl) ?_
            refine lv_iload hx hb dX0_weigh_48 (lv_at hl 1 rfl) ?_
            refine lv_iadd hx hb dX0_weigh_50 ?_
            refine lv_topi (fun v_79 ev_79 => ?_)
            refine lv_istore_n (lv' := [(2, .int v_79), (1, .int v_78), (4, .int r_76), (3, .int x3_1), (0, .ref (ad 74))]) hx hb dX0_weigh_51 rfl hl (by decide) rfl (fun ls hl => ?_)
            obtain ⟨x3_80, ex3_80⟩ : ∃ y : Int32, y = x3_1 + 1 := ⟨_, rfl⟩
            have tx3_80 : x3_80.toInt = x3_1.toInt + (1 : Int) := i_add (rfl : x3_1.toInt = x3_1.toInt) (show (1 : Int32).toInt = (1 : Int) from rfl) (by omega) (by omega) ex3_80
            refine lv_iinc (v := x3_80) (lv' := [(3, .int x3_80), (2, .int v_79), (1, .int v_78), (4, .int r_76), (0, .ref (ad 74))]) hx hb dX0_weigh_52 hl (k := 3) rfl (by rw [ex3_80]; rfl) (by decide) rfl (fun ls hl => ?_)
            refine lv_goto (tgt := 6) hx hb dX0_weigh_55 (by decide) ?_
            exact ih4 x3_80 v_79 v_78 _ (by omega) (by omega) (lv_sub hl [0, 1, 2, 4] rfl)
          · skip
            have q_77 : r_76.toInt = (-1 : Int) := i_eq2 (rfl : r_76.toInt = r_76.toInt) (show ((-1) : Int32).toInt = (-1 : Int) from rfl) c_77
            rw [hQ]
            exact W.vret hx hb hr (fun t ht hW => ⟨⟨(iv, ar), rfl, ⟨fk0, by show iv 74 4 = iv 74 4; rfl⟩, by show va_P _ _ _ _; rw [ht]; exact hP⟩, hS.F ht⟩) hS.2.2 dX0_weigh_39
  have zl_81 : (0 : Int32).toInt = (0 : Int) := rfl
  have zl_82 : (0 : Int32).toInt = (0 : Int) := rfl
  have zl_83 : (0 : Int32).toInt = (0 : Int) := rfl
  exact loop4 (((6 - ((0 : Int))).toNat) + 1) 0 0 0 _ (by omega) (by omega) (lv_sub hl [0, 1, 2, 3] rfl)
set_option maxHeartbeats 4000000 in
set_option maxRecDepth 100000 in
theorem c_X0_nextTrial (l : Launch) (D : va_G) (cy : Nat → ClassId) (ad : Nat → Nat) (hI : gInj ad) (sz : Nat) (iv : gIv) (ar : gAr)  (h4 : 0 ≤ (iv 74 4).toInt) : Met l yX0_nextTrial wsX0_nextTrial ({ frames := 1, cells := 0, slots := 0, locals := 23 } : Room) (va_Pc [.ref (ad 74)] (gPre D cy ad sz iv ar)) (va_Qi (fun (r : Int32) (u : gIv × gAr) => u.1 = iv) (gPost D cy ad) (gA ad sz)) 0 0 (gA ad sz) := by
  refine Met.ofW (cc := cX0_nextTrial) (maxL := 5) (ret := (some .boolean)) (by decide) rfl ?_
  intro p e s m args below meth c s₁ B hml hv
  obtain ⟨rfl, rfl, hP, hK, hSt, hNw⟩ := hv
  have hx := B.exec
  have hb := B.bytes
  have hr := B.returns
  have hts := atoms_spec (ws := wsX0_nextTrial) B.pre
  have hown : s.vm.findClass RX0 = some m.cls := findClass_of_methodNamed B.named
  have hlocks := B.notSynchronized
  have hS : va_S (gA ad s.heap.size) s.heap s.heap [] := va_S.rf
  have inX0 : ∀ w ∈ u_ws RX0 TX0 9, w ∈ wsX0_nextTrial := by decide +kernel
  have lk0 := hts (.fieldLink RX0 52 "FormationPlanner$Assigner" "size" "I") (by decide +kernel)
  have lk1 := hts (.methodLink RX0 46 Lib.Math.min.name) (by decide +kernel)
  have lk2 := hts (.static Lib.Math.min.name) (by decide +kernel)
  have lk3 := hts (.initialized "java/lang/Math") (by decide +kernel)
  have lk4 := hts (.code Lib.Math.min.name Lib.Math.min.code 2 (some .int)) (by decide +kernel)
  have lk5 := hts (.fieldLink RX0 17 "FormationPlanner$Assigner" "trial" "[I") (by decide +kernel)
  have hl := lv_entry ([.ref (ad 74)]) (n := 5) (Nat.le_of_ble_eq_true rfl)
  rw [lg_entry_eq]
  generalize (lg_sl ([.ref (ad 74)]) ++ List.replicate (5 - (lg_sl ([.ref (ad 74)])).length) Slot.unset).toArray = ls at hl ⊢
  have hl : lv_has ls 5 [(0, .ref (ad 74))] := hl
  obtain ⟨Q, hQ⟩ : ∃ Q, Q = MQ below (va_Qi (fun (r : Int32) (u : gIv × gAr) => u.1 = iv) (gPost D cy ad) (gA ad s.heap.size)) (([.ref (ad 74)] : List Value).toArray) s 0 0 (gA ad s.heap.size) := ⟨_, rfl⟩
  rw [← hQ]
  refine lv_aload_n hx hb dX0_nextTrial_0 rfl (lv_at hl 0 rfl) ?_
  refine va_get (D := D) (ci := 0) (v := .int (iv 74 4)) (C := RX0) (T := TX0) (N := 9) hx hb hts inX0 hown hK hP 74 (g_at0 (Nat.le_of_ble_eq_true rfl) rfl) rfl 4 (by decide) lk0 (fun _ h9 => h9) rfl dX0_nextTrial_1 ?_
  refine lv_bipush (v := 6) hx hb dX0_nextTrial_4 (by decide) ?_
  refine va_mmin (rest := []) hx hb (hml.trans hl.1.symm) hown lk1 lk2 lk3 lk4 (Nat.le_of_ble_eq_true rfl) (Nat.le_of_ble_eq_true rfl) (Nat.zero_le _) (Nat.zero_le _) dX0_nextTrial_6 ?_
  refine lv_topi (fun v_1 ev_1 => ?_)
  have tv_1 : v_1.toInt = min ((iv 74 4).toInt) (6 : Int) := i_min (rfl : (iv 74 4).toInt = (iv 74 4).toInt) (show (6 : Int32).toInt = (6 : Int) from rfl) ev_1
  refine lv_iconst (v := 2) hx hb dX0_nextTrial_9 (by decide) ?_
  refine lv_isub hx hb dX0_nextTrial_10 ?_
  refine lv_topi (fun v_2 ev_2 => ?_)
  have tv_2 : v_2.toInt = v_1.toInt - (2 : Int) := i_sub (rfl : v_1.toInt = v_1.toInt) (show (2 : Int32).toInt = (2 : Int) from rfl) (by omega) (by omega) ev_2
  refine lv_istore_n (lv' := [(1, .int v_2), (0, .ref (ad 74))]) hx hb dX0_nextTrial_11 rfl hl (by decide) rfl (fun ls hl => ?_)
  have loop4 : ∀ (n : Nat) (x1_3 : Int32) (ls : Array Slot), (((x1_3.toInt) + 2).toNat) < n → (-2 ≤ (x1_3.toInt) ∧ (x1_3.toInt) ≤ 4) → lv_has ls 5 [(1, .int x1_3), (0, .ref (ad 74))] → W p l e (headSpec wsX0_nextTrial (({ frames := 1, cells := 0, slots := 0, locals := 23 } : Room))).room s m (([.ref (ad 74)] : List Value).toArray) below meth c s.heap [] 0 0 Q (F0 m 12 ls []) := by
    intro n
    induction n with
    | zero => intro x1_3 ls hm; omega
    | succ n ih4 =>
      intro x1_3 ls hm hg0 hl
      refine lv_iload_n hx hb dX0_nextTrial_12 rfl (lv_at hl 0 rfl) ?_
      refine lv_if_lt (tgt := 39) hx hb dX0_nextTrial_13 (by decide) (fun c_5 => ?_) (fun c_5 => ?_)
      · skip
        have q_5 : x1_3.toInt < (0 : Int) := i_lt2 (rfl : x1_3.toInt = x1_3.toInt) (show (0 : Int32).toInt = (0 : Int) from rfl) c_5
        refine lv_iload_n hx hb dX0_nextTrial_39 rfl (lv_at hl 0 rfl) ?_
        refine lv_if_ge (tgt := 45) hx hb dX0_nextTrial_40 (by decide) (fun c_6 => ?_) (fun c_6 => ?_)
        · skip
          have q_6 : (0 : Int) ≤ x1_3.toInt := i_le2 (show (0 : Int32).toInt = (0 : Int) from rfl) (rfl : x1_3.toInt = x1_3.toInt) c_6
          exfalso; omega
        · skip
          have q_6 : x1_3.toInt < (0 : Int) := i_nle2 (show (0 : Int32).toInt = (0 : Int) from rfl) (rfl : x1_3.toInt = x1_3.toInt) c_6
          refine lv_iconst (v := 0) hx hb dX0_nextTrial_43 (by decide) ?_
          rw [hQ]
          exact W.zret (v := 0) hx hb hr rfl (fun t ht hW => ⟨⟨0, (iv, ar), rfl, rfl, by show va_P _ _ _ _; rw [ht]; exact hP⟩, hS.F ht⟩) hS.2.2 dX0_nextTrial_44
      · skip
        have q_5 : (0 : Int) ≤ x1_3.toInt := i_nlt2 (rfl : x1_3.toInt = x1_3.toInt) (show (0 : Int32).toInt = (0 : Int) from rfl) c_5
        refine lv_aload_n hx hb dX0_nextTrial_16 rfl (lv_at hl 1 rfl) ?_
        refine va_get (D := D) (ci := 0) (v := .ref (ad 76)) (C := RX0) (T := TX0) (N := 9) hx hb hts inX0 hown hK hP 74 (g_at0 (Nat.le_of_ble_eq_true rfl) rfl) rfl 2 (by decide) lk5 (fun _ h9 => h9) rfl dX0_nextTrial_17 ?_
        refine lv_iload_n hx hb dX0_nextTrial_20 rfl (lv_at hl 0 rfl) ?_
        refine va_iald hx hb hK hP 76 0 (g_at12 (Nat.le_of_ble_eq_true rfl) rfl) rfl (g_in (N := 6) (rfl : x1_3.toInt = x1_3.toInt) rfl (by omega) (by omega)) dX0_nextTrial_21 ?_
        refine lv_topi (fun v_7 ev_7 => ?_)
        refine lv_aload_n hx hb dX0_nextTrial_22 rfl (lv_at hl 1 rfl) ?_
        refine va_get (D := D) (ci := 0) (v := .ref (ad 76)) (C := RX0) (T := TX0) (N := 9) hx hb hts inX0 hown hK hP 74 (g_at0 (Nat.le_of_ble_eq_true rfl) rfl) rfl 2 (by decide) lk5 (fun _ h9 => h9) rfl dX0_nextTrial_23 ?_
        refine lv_iload_n hx hb dX0_nextTrial_26 rfl (lv_at hl 0 rfl) ?_
        refine lv_iconst (v := 1) hx hb dX0_nextTrial_27 (by decide) ?_
        refine lv_iadd hx hb dX0_nextTrial_28 ?_
        refine lv_topi (fun v_8 ev_8 => ?_)
        have tv_8 : v_8.toInt = x1_3.toInt + (1 : Int) := i_add (rfl : x1_3.toInt = x1_3.toInt) (show (1 : Int32).toInt = (1 : Int) from rfl) (by omega) (by omega) ev_8
        refine va_iald hx hb hK hP 76 0 (g_at12 (Nat.le_of_ble_eq_true rfl) rfl) rfl (g_in (N := 6) (rfl : v_8.toInt = v_8.toInt) rfl (by omega) (by omega)) dX0_nextTrial_29 ?_
        refine lv_topi (fun v_9 ev_9 => ?_)
        refine lv_icmp_le (tgt := 39) hx hb dX0_nextTrial_30 (by decide) (fun c_10 => ?_) (fun c_10 => ?_)
        · skip
          have q_10 : v_7.toInt ≤ v_9.toInt := i_le2 (rfl : v_7.toInt = v_7.toInt) (rfl : v_9.toInt = v_9.toInt) c_10
          refine lv_iload_n hx hb dX0_nextTrial_39 rfl (lv_at hl 0 rfl) ?_
          refine lv_if_ge (tgt := 45) hx hb dX0_nextTrial_40 (by decide) (fun c_11 => ?_) (fun c_11 => ?_)
          · skip
            have q_11 : (0 : Int) ≤ x1_3.toInt := i_le2 (show (0 : Int32).toInt = (0 : Int) from rfl) (rfl : x1_3.toInt = x1_3.toInt) c_11
            refine lv_aload_n hx hb dX0_nextTrial_45 rfl (lv_at hl 1 rfl) ?_
            refine va_get (D := D) (ci := 0) (v := .int (iv 74 4)) (C := RX0) (T := TX0) (N := 9) hx hb hts inX0 hown hK hP 74 (g_at0 (Nat.le_of_ble_eq_true rfl) rfl) rfl 4 (by decide) lk0 (fun _ h9 => h9) rfl dX0_nextTrial_46 ?_
            refine lv_bipush (v := 6) hx hb dX0_nextTrial_49 (by decide) ?_
            refine va_mmin (rest := []) hx hb (hml.trans hl.1.symm) hown lk1 lk2 lk3 lk4 (Nat.le_of_ble_eq_true rfl) (Nat.le_of_ble_eq_true rfl) (Nat.zero_le _) (Nat.zero_le _) dX0_nextTrial_51 ?_
            refine lv_topi (fun v_12 ev_12 => ?_)
            have tv_12 : v_12.toInt = min ((iv 74 4).toInt) (6 : Int) := i_min (rfl : (iv 74 4).toInt = (iv 74 4).toInt) (show (6 : Int32).toInt = (6 : Int) from rfl) ev_12
            refine lv_iconst (v := 1) hx hb dX0_nextTrial_54 (by decide) ?_
            refine lv_isub hx hb dX0_nextTrial_55 ?_
            refine lv_topi (fun v_13 ev_13 => ?_)
            have tv_13 : v_13.toInt = v_12.toInt - (1 : Int) := i_sub (rfl : v_12.toInt = v_12.toInt) (show (1 : Int32).toInt = (1 : Int) from rfl) (by omega) (by omega) ev_13
            refine lv_istore_n (lv' := [(2, .int v_13), (1, .int x1_3), (0, .ref (ad 74))]) hx hb dX0_nextTrial_56 rfl hl (by decide) rfl (fun ls hl => ?_)
            have loop15 : ∀ (n : Nat) (x2_14 : Int32) (ls : Array Slot), (((x2_14.toInt) + 1).toNat) < n → (-1 ≤ (x2_14.toInt) ∧ (x2_14.toInt) ≤ 5) → lv_has ls 5 [(2, .int x2_14), (1, .int x1_3), (0, .ref (ad 74))] → W p l e (headSpec wsX0_nextTrial (({ frames := 1, cells := 0, slots := 0, locals := 23 } : Room))).room s m (([.ref (ad 74)] : List Value).toArray) below meth c s.heap [] 0 0 Q (F0 m 57 ls []) := by
              intro n
              induction n with
              | zero => intro x2_14 ls hm; omega
              | succ n ih15 =>
                intro x2_14 ls hm hk0 hl
                refine lv_iload_n hx hb dX0_nextTrial_57 rfl (lv_at hl 0 rfl) ?_
                refine lv_iload_n hx hb dX0_nextTrial_58 rfl (lv_at hl 1 rfl) ?_
                refine lv_icmp_le (tgt := 83) hx hb dX0_nextTrial_59 (by decide) (fun c_16 => ?_) (fun c_16 => ?_)
                · skip
                  have q_16 : x2_14.toInt ≤ x1_3.toInt := i_le2 (rfl : x2_14.toInt = x2_14.toInt) (rfl : x1_3.toInt = x1_3.toInt) c_16
                  refine lv_aload_n hx hb dX0_nextTrial_83 rfl (lv_at hl 2 rfl) ?_
                  refine lv_iload_n hx hb dX0_nextTrial_84 rfl (lv_at hl 1 rfl) ?_
                  refine lv_iload_n hx hb dX0_nextTrial_85 rfl (lv_at hl 0 rfl) ?_
                  refine g_callv (va_runV (As := [.int x1_3, .int x2_14]) (rest := []) ⟨hx, hb, hml, hown, hts⟩ (c_X0_swap l D cy ad hI _ iv ar x1_3 x2_14) (cwV 2 hts gX0_nextTrial_X0_swap rfl rfl rfl (by decide +kernel) ⟨Nat.le_of_ble_eq_true rfl, Nat.le_of_ble_eq_true rfl⟩) (g_preV hP hK hSt hNw hS (g_at0 (Nat.le_of_ble_eq_true rfl) rfl) rfl) rfl rfl hl.1 rfl (lv_room (Nat.le_of_ble_eq_true rfl)) dX0_nextTrial_86 ⟨Nat.zero_le _, Nat.zero_le _⟩) hS (fun iv_17 ar_17 H locs w_17 hP hS => ?_)
                  try dsimp only at w_17
                  have wi_17 := (w_17).symm
                  subst wi_17
                  refine lv_iload_n hx hb dX0_nextTrial_89 rfl (lv_at hl 1 rfl) ?_
                  refine lv_iconst (v := 1) hx hb dX0_nextTrial_90 (by decide) ?_
                  refine lv_iadd hx hb dX0_nextTrial_91 ?_
                  refine lv_topi (fun v_18 ev_18 => ?_)
                  have tv_18 : v_18.toInt = x1_3.toInt + (1 : Int) := i_add (rfl : x1_3.toInt = x1_3.toInt) (show (1 : Int32).toInt = (1 : Int) from rfl) (by omega) (by omega) ev_18
                  refine lv_istore_n (lv' := [(3, .int v_18), (2, .int x2_14), (1, .int x1_3), (0, .ref (ad 74))]) hx hb dX0_nextTrial_92 rfl hl (by decide) rfl (fun ls hl => ?_)
                  refine lv_aload_n hx hb dX0_nextTrial_93 rfl (lv_at hl 3 rfl) ?_
                  refine va_get (D := D) (ci := 0) (v := .int (iv 74 4)) (C := RX0) (T := TX0) (N := 9) hx hb hts inX0 hown hK hP 74 (g_at0 (Nat.le_of_ble_eq_true rfl) rfl) rfl 4 (by decide) lk0 (fun _ h9 => h9) rfl dX0_nextTrial_94 ?_
                  refine lv_bipush (v := 6) hx hb dX0_nextTrial_97 (by decide) ?_
                  refine va_mmin (rest := []) hx hb (hml.trans hl.1.symm) hown lk1 lk2 lk3 lk4 (Nat.le_of_ble_eq_true rfl) (Nat.le_of_ble_eq_true rfl) (Nat.zero_le _) (Nat.zero_le _) dX0_nextTrial_99 ?_
                  refine lv_topi (fun v_19 ev_19 => ?_)
                  have tv_19 : v_19.toInt = min ((iv 74 4).toInt) (6 : Int) := i_min (rfl : (iv 74 4).toInt = (iv 74 4).toInt) (show (6 : Int32).toInt = (6 : Int) from rfl) ev_19
                  refine lv_iconst (v := 1) hx hb dX0_nextTrial_102 (by decide) ?_
                  refine lv_isub hx hb dX0_nextTrial_103 ?_
                  refine lv_topi (fun v_20 ev_20 => ?_)
                  have tv_20 : v_20.toInt = v_19.toInt - (1 : Int) := i_sub (rfl : v_19.toInt = v_19.toInt) (show (1 : Int32).toInt = (1 : Int) from rfl) (by omega) (by omega) ev_20
                  refine lv_istore (lv' := [(4, .int v_20), (3, .int v_18), (2, .int x2_14), (1, .int x1_3), (0, .ref (ad 74))]) hx hb dX0_nextTrial_104 hl (by decide) rfl (fun ls hl => ?_)
                  have loop24 : ∀ (n : Nat) (x4_21 : Int32) (x3_22 : Int32) (ar_23 : gAr) (H : Heap) (locs : List Loc) (ls : Array Slot), (((x4_21.toInt) + 1).toNat) < n → (0 ≤ (x3_22.toInt) ∧ (x3_22.toInt) ≤ 6 ∧ -1 ≤ (x4_21.toInt) ∧ (x4_21.toInt) ≤ 5) → va_P D vwCl (GW cy ad iv ar_23) H → va_S (gA ad s.heap.size) s.heap H locs → lv_has ls 5 [(4, .int x4_21), (3, .int x3_22), (2, .int x2_14), (1, .int x1_3), (0, .ref (ad 74))] → W p l e (headSpec wsX0_nextTrial (({ frames := 1, cells := 0, slots := 0, locals := 23 } : Room))).room s m (([.ref (ad 74)] : List Value).toArray) below meth c H locs 0 0 Q (F0 m 106 ls []) := by
                    intro n
                    induction n with
                    | zero => intro x4_21 x3_22 ar_23 H locs ls hm; omega
                    | succ n ih24 =>
                      intro x4_21 x3_22 ar_23 H locs ls hm hm0 hP hS hl
                      refine lv_iload_n hx hb dX0_nextTrial_106 rfl (lv_at hl 1 rfl) ?_
                      refine lv_iload hx hb dX0_nextTrial_107 (lv_at hl 0 rfl) ?_
                      refine lv_icmp_ge (tgt := 128) hx hb dX0_nextTrial_109 (by decide) (fun c_25 => ?_) (fun c_25 => ?_)
                      · skip
                        have q_25 : x4_21.toInt ≤ x3_22.toInt := i_le2 (rfl : x4_21.toInt = x4_21.toInt) (rfl : x3_22.toInt = x3_22.toInt) c_25
                        refine lv_iconst (v := 1) hx hb dX0_nextTrial_128 (by decide) ?_
                        rw [hQ]
                        exact W.zret (v := 1) hx hb hr rfl (fun t ht hW => ⟨⟨1, (iv, ar_23), rfl, rfl, by show va_P _ _ _ _; rw [ht]; exact hP⟩, hS.F ht⟩) hS.2.2 dX0_nextTrial_129
                      · skip
                        have q_25 : x3_22.toInt < x4_21.toInt := i_nle2 (rfl : x4_21.toInt = x4_21.toInt) (rfl : x3_22.toInt = x3_22.toInt) c_25
                        refine lv_aload_n hx hb dX0_nextTrial_112 rfl (lv_at hl 4 rfl) ?_
                        refine lv_iload_n hx hb dX0_nextTrial_113 rfl (lv_at hl 1 rfl) ?_
                        refine lv_iload hx hb dX0_nextTrial_114 (lv_at hl 0 rfl) ?_
                        refine g_callv (va_runV (As := [.int x3_22, .int x4_21]) (rest := []) ⟨hx, hb, hml, hown, hts⟩ (c_X0_swap l D cy ad hI _ iv ar_23 x3_22 x4_21) (cwV 2 hts gX0_nextTrial_X0_swap rfl rfl rfl (by decide +kernel) ⟨Nat.le_of_ble_eq_true rfl, Nat.le_of_ble_eq_true rfl⟩) (g_preV hP hK hSt hNw hS (g_at0 (Nat.le_of_ble_eq_true rfl) rfl) rfl) rfl rfl hl.1 rfl (lv_room (Nat.le_of_ble_eq_true rfl)) dX0_nextTrial_116 ⟨Nat.zero_le _, Nat.zero_le _⟩) hS (fun iv_26 ar_26 H locs w_26 hP hS => ?_)
                        try dsimp only at w_26
                        have wi_26 := (w_26).symm
                        subst wi_26
                        obtain ⟨x3_27, ex3_27⟩ : ∃ y : Int32, y = x3_22 + 1 := ⟨_, rfl⟩
                        have tx3_27 : x3_27.toInt = x3_22.toInt + (1 : Int) := i_add (rfl : x3_22.toInt = x3_22.toInt) (show (1 : Int32).toInt = (1 : Int) from rfl) (by omega) (by omega) ex3_27
                        refine lv_iinc (v := x3_27) (lv' := [(3, .int x3_27), (4, .int x4_21), (2, .int x2_14), (1, .int x1_3), (0, .ref (ad 74))]) hx hb dX0_nextTrial_119 hl (k := 1) rfl (by rw [ex3_27]; rfl) (by decide) rfl (fun ls hl => ?_)
                        obtain ⟨x4_28, ex4_28⟩ : ∃ y : Int32, y = x4_21 + (-1) := ⟨_, rfl⟩
                        have tx4_28 : x4_28.toInt = x4_21.toInt + (-1 : Int) := i_add (rfl : x4_21.toInt = x4_21.toInt) (show ((-1) : Int32).toInt = (-1 : Int) from rfl) (by omega) (by omega) ex4_28
                        refine lv_iinc (v := x4_28) (lv' := [(4, .int x4_28), (3, .int x3_27), (2, .int x2_14), (1, .int x1_3), (0, .ref (ad 74))]) hx hb dX0_nextTrial_122 hl (k := 1) rfl (by rw [ex4_28]; rfl) (by decide) rfl (fun ls hl => ?_)
                        refine lv_goto (tgt := 106) hx hb dX0_nextTrial_125 (by decide) ?_
                        exact ih24 x4_28 x3_27 ar_26 _ _ _ (by omega) (by omega) hP hS (lv_sub hl [0, 1, 2, 3, 4] rfl)
                  exact loop24 ((((v_20.toInt) + 1).toNat) + 1) v_20 v_18 ar_17 _ _ _ (by omega) (by omega) hP hS (lv_sub hl [0, 1, 2, 3, 4] rfl)
                · skip
                  have q_16 : x1_3.toInt < x2_14.toInt := i_nle2 (rfl : x2_14.toInt = x2_14.toInt) (rfl : x1_3.toInt = x1_3.toInt) c_16
                  refine lv_aload_n hx hb dX0_nextTrial_62 rfl (lv_at hl 2 rfl) ?_
                  refine va_get (D := D) (ci := 0) (v := .ref (ad 76)) (C := RX0) (T := TX0) (N := 9) hx hb hts inX0 hown hK hP 74 (g_at0 (Nat.le_of_ble_eq_true rfl) rfl) rfl 2 (by decide) lk5 (fun _ h9 => h9) rfl dX0_nextTrial_63 ?_
                  refine lv_iload_n hx hb dX0_nextTrial_66 rfl (lv_at hl 0 rfl) ?_
                  refine va_iald hx hb hK hP 76 0 (g_at12 (Nat.le_of_ble_eq_true rfl) rfl) rfl (g_in (N := 6) (rfl : x2_14.toInt = x2_14.toInt) rfl (by omega) (by omega)) dX0_nextTrial_67 ?_
                  refine lv_topi (fun v_29 ev_29 => ?_)
                  refine lv_aload_n hx hb dX0_nextTrial_68 rfl (lv_at hl 2 rfl) ?_
                  refine va_get (D := D) (ci := 0) (v := .ref (ad 76)) (C := RX0) (T := TX0) (N := 9) hx hb hts inX0 hown hK hP 74 (g_at0 (Nat.le_of_ble_eq_true rfl) rfl) rfl 2 (by decide) lk5 (fun _ h9 => h9) rfl dX0_nextTrial_69 ?_
                  refine lv_iload_n hx hb dX0_nextTrial_72 rfl (lv_at hl 1 rfl) ?_
                  refine va_iald hx hb hK hP 76 0 (g_at12 (Nat.le_of_ble_eq_true rfl) rfl) rfl (g_in (N := 6) (rfl : x1_3.toInt = x1_3.toInt) rfl (by omega) (by omega)) dX0_nextTrial_73 ?_
                  refine lv_topi (fun v_30 ev_30 => ?_)
                  refine lv_icmp_ge (tgt := 83) hx hb dX0_nextTrial_74 (by decide) (fun c_31 => ?_) (fun c_31 => ?_)
                  · skip
                    have q_31 : v_30.toInt ≤ v_29.toInt := i_le2 (rfl : v_30.toInt = v_30.toInt) (rfl : v_29.toInt = v_29.toInt) c_31
                    refine lv_aload_n hx hb dX0_nextTrial_83 rfl (lv_at hl 2 rfl) ?_
                    refine lv_iload_n hx hb dX0_nextTrial_84 rfl (lv_at hl 1 rfl) ?_
                    refine lv_iload_n hx hb dX0_nextTrial_85 rfl (lv_at hl 0 rfl) ?_
                    refine g_callv (va_runV (As := [.int x1_3, .int x2_14]) (rest := []) ⟨hx, hb, hml, hown, hts⟩ (c_X0_swap l D cy ad hI _ iv ar x1_3 x2_14) (cwV 2 hts gX0_nextTrial_X0_swap rfl rfl rfl (by decide +kernel) ⟨Nat.le_of_ble_eq_true rfl, Nat.le_of_ble_eq_true rfl⟩) (g_preV hP hK hSt hNw hS (g_at0 (Nat.le_of_ble_eq_true rfl) rfl) rfl) rfl rfl hl.1 rfl (lv_room (Nat.le_of_ble_eq_true rfl)) dX0_nextTrial_86 ⟨Nat.zero_le _, Nat.zero_le _⟩) hS (fun iv_32 ar_32 H locs w_32 hP hS => ?_)
                    try dsimp only at w_32
                    have wi_32 := (w_32).symm
                    subst wi_32
                    refine lv_iload_n hx hb dX0_nextTrial_89 rfl (lv_at hl 1 rfl) ?_
                    refine lv_iconst (v := 1) hx hb dX0_nextTrial_90 (by decide) ?_
                    refine lv_iadd hx hb dX0_nextTrial_91 ?_
                    refine lv_topi (fun v_33 ev_33 => ?_)
                    have tv_33 : v_33.toInt = x1_3.toInt + (1 : Int) := i_add (rfl : x1_3.toInt = x1_3.toInt) (show (1 : Int32).toInt = (1 : Int) from rfl) (by omega) (by omega) ev_33
                    refine lv_istore_n (lv' := [(3, .int v_33), (2, .int x2_14), (1, .int x1_3), (0, .ref (ad 74))]) hx hb dX0_nextTrial_92 rfl hl (by decide) rfl (fun ls hl => ?_)
                    refine lv_aload_n hx hb dX0_nextTrial_93 rfl (lv_at hl 3 rfl) ?_
                    refine va_get (D := D) (ci := 0) (v := .int (iv 74 4)) (C := RX0) (T := TX0) (N := 9) hx hb hts inX0 hown hK hP 74 (g_at0 (Nat.le_of_ble_eq_true rfl) rfl) rfl 4 (by decide) lk0 (fun _ h9 => h9) rfl dX0_nextTrial_94 ?_
                    refine lv_bipush (v := 6) hx hb dX0_nextTrial_97 (by decide) ?_
                    refine va_mmin (rest := []) hx hb (hml.trans hl.1.symm) hown lk1 lk2 lk3 lk4 (Nat.le_of_ble_eq_true rfl) (Nat.le_of_ble_eq_true rfl) (Nat.zero_le _) (Nat.zero_le _) dX0_nextTrial_99 ?_
                    refine lv_topi (fun v_34 ev_34 => ?_)
                    have tv_34 : v_34.toInt = min ((iv 74 4).toInt) (6 : Int) := i_min (rfl : (iv 74 4).toInt = (iv 74 4).toInt) (show (6 : Int32).toInt = (6 : Int) from rfl) ev_34
                    refine lv_iconst (v := 1) hx hb dX0_nextTrial_102 (by decide) ?_
                    refine lv_isub hx hb dX0_nextTrial_103 ?_
                    refine lv_topi (fun v_35 ev_35 => ?_)
                    have tv_35 : v_35.toInt = v_34.toInt - (1 : Int) := i_sub (rfl : v_34.toInt = v_34.toInt) (show (1 : Int32).toInt = (1 : Int) from rfl) (by omega) (by omega) ev_35
                    refine lv_istore (lv' := [(4, .int v_35), (3, .int v_33), (2, .int x2_14), (1, .int x1_3), (0, .ref (ad 74))]) hx hb dX0_nextTrial_104 hl (by decide) rfl (fun ls hl => ?_)
                    have loop39 : ∀ (n : Nat) (x4_36 : Int32) (x3_37 : Int32) (ar_38 : gAr) (H : Heap) (locs : List Loc) (ls : Array Slot), (((x4_36.toInt) + 1).toNat) < n → (0 ≤ (x3_37.toInt) ∧ (x3_37.toInt) ≤ 6 ∧ -1 ≤ (x4_36.toInt) ∧ (x4_36.toInt) ≤ 5) → va_P D vwCl (GW cy ad iv ar_38) H → va_S (gA ad s.heap.size) s.heap H locs → lv_has ls 5 [(4, .int x4_36), (3, .int x3_37), (2, .int x2_14), (1, .int x1_3), (0, .ref (ad 74))] → W p l e (headSpec wsX0_nextTrial (({ frames := 1, cells := 0, slots := 0, locals := 23 } : Room))).room s m (([.ref (ad 74)] : List Value).toArray) below meth c H locs 0 0 Q (F0 m 106 ls []) := by
                      intro n
                      induction n with
                      | zero => intro x4_36 x3_37 ar_38 H locs ls hm; omega
                      | succ n ih39 =>
                        intro x4_36 x3_37 ar_38 H locs ls hm hm0 hP hS hl
                        refine lv_iload_n hx hb dX0_nextTrial_106 rfl (lv_at hl 1 rfl) ?_
                        refine lv_iload hx hb dX0_nextTrial_107 (lv_at hl 0 rfl) ?_
                        refine lv_icmp_ge (tgt := 128) hx hb dX0_nextTrial_109 (by decide) (fun c_40 => ?_) (fun c_40 => ?_)
                        · skip
                          have q_40 : x4_36.toInt ≤ x3_37.toInt := i_le2 (rfl : x4_36.toInt = x4_36.toInt) (rfl : x3_37.toInt = x3_37.toInt) c_40
                          refine lv_iconst (v := 1) hx hb dX0_nextTrial_128 (by decide) ?_
                          rw [hQ]
                          exact W.zret (v := 1) hx hb hr rfl (fun t ht hW => ⟨⟨1, (iv, ar_38), rfl, rfl, by show va_P _ _ _ _; rw [ht]; exact hP⟩, hS.F ht⟩) hS.2.2 dX0_nextTrial_129
                        · skip
                          have q_40 : x3_37.toInt < x4_36.toInt := i_nle2 (rfl : x4_36.toInt = x4_36.toInt) (rfl : x3_37.toInt = x3_37.toInt) c_40
                          refine lv_aload_n hx hb dX0_nextTrial_112 rfl (lv_at hl 4 rfl) ?_
                          refine lv_iload_n hx hb dX0_nextTrial_113 rfl (lv_at hl 1 rfl) ?_
                          refine lv_iload hx hb dX0_nextTrial_114 (lv_at hl 0 rfl) ?_
                          refine g_callv (va_runV (As := [.int x3_37, .int x4_36]) (rest := []) ⟨hx, hb, hml, hown, hts⟩ (c_X0_swap l D cy ad hI _ iv ar_38 x3_37 x4_36) (cwV 2 hts gX0_nextTrial_X0_swap rfl rfl rfl (by decide +kernel) ⟨Nat.le_of_ble_eq_true rfl, Nat.le_of_ble_eq_true rfl⟩) (g_preV hP hK hSt hNw hS (g_at0 (Nat.le_of_ble_eq_true rfl) rfl) rfl) rfl rfl hl.1 rfl (lv_room (Nat.le_of_ble_eq_true rfl)) dX0_nextTrial_116 ⟨Nat.zero_le _, Nat.zero_le _⟩) hS (fun iv_41 ar_41 H locs w_41 hP hS => ?_)
                          try dsimp only at w_41
                          have wi_41 := (w_41).symm
                          subst wi_41
                          obtain ⟨x3_42, ex3_42⟩ : ∃ y : Int32, y = x3_37 + 1 := ⟨_, rfl⟩
                          have tx3_42 : x3_42.toInt = x3_37.toInt + (1 : Int) := i_add (rfl : x3_37.toInt = x3_37.toInt) (show (1 : Int32).toInt = (1 : Int) from rfl) (by omega) (by omega) ex3_42
                          refine lv_iinc (v := x3_42) (lv' := [(3, .int x3_42), (4, .int x4_36), (2, .int x2_14), (1, .int x1_3), (0, .ref (ad 74))]) hx hb dX0_nextTrial_119 hl (k := 1) rfl (by rw [ex3_42]; rfl) (by decide) rfl (fun ls hl => ?_)
                          obtain ⟨x4_43, ex4_43⟩ : ∃ y : Int32, y = x4_36 + (-1) := ⟨_, rfl⟩
                          have tx4_43 : x4_43.toInt = x4_36.toInt + (-1 : Int) := i_add (rfl : x4_36.toInt = x4_36.toInt) (show ((-1) : Int32).toInt = (-1 : Int) from rfl) (by omega) (by omega) ex4_43
                          refine lv_iinc (v := x4_43) (lv' := [(4, .int x4_43), (3, .int x3_42), (2, .int x2_14), (1, .int x1_3), (0, .ref (ad 74))]) hx hb dX0_nextTrial_122 hl (k := 1) rfl (by rw [ex4_43]; rfl) (by decide) rfl (fun ls hl => ?_)
                          refine lv_goto (tgt := 106) hx hb dX0_nextTrial_125 (by decide) ?_
                          exact ih39 x4_43 x3_42 ar_41 _ _ _ (by omega) (by omega) hP hS (lv_sub hl [0, 1, 2, 3, 4] rfl)
                    exact loop39 ((((v_35.toInt) + 1).toNat) + 1) v_35 v_33 ar_32 _ _ _ (by omega) (by omega) hP hS (lv_sub hl [0, 1, 2, 3, 4] rfl)
                  · skip
                    have q_31 : v_29.toInt < v_30.toInt := i_nle2 (rfl : v_30.toInt = v_30.toInt) (rfl : v_29.toInt = v_29.toInt) c_31
                    obtain ⟨x2_44, ex2_44⟩ : ∃ y : Int32, y = x2_14 + (-1) := ⟨_, rfl⟩
                    have tx2_44 : x2_44.toInt = x2_14.toInt + (-1 : Int) := i_add (rfl : x2_14.toInt = x2_14.toInt) (show ((-1) : Int32).toInt = (-1 : Int) from rfl) (by omega) (by omega) ex2_44
                    refine lv_iinc (v := x2_44) (lv' := [(2, .int x2_44), (1, .int x1_3), (0, .ref (ad 74))]) hx hb dX0_nextTrial_77 hl (k := 0) rfl (by rw [ex2_44]; rfl) (by decide) rfl (fun ls hl => ?_)
                    refine lv_goto (tgt := 57) hx hb dX0_nextTrial_80 (by decide) ?_
                    exact ih15 x2_44 _ (by omega) (by omega) (lv_sub hl [0, 1, 2] rfl)
            exact loop15 ((((v_13.toInt) + 1).toNat) + 1) v_13 _ (by omega) (by omega) (lv_sub hl [0, 1, 2] rfl)
          · skip
            have q_11 : x1_3.toInt < (0 : Int) := i_nle2 (show (0 : Int32).toInt = (0 : Int) from rfl) (rfl : x1_3.toInt = x1_3.toInt) c_11
            exfalso; omega
        · skip
          have q_10 : v_9.toInt < v_7.toInt := i_nle2 (rfl : v_7.toInt = v_7.toInt) (rfl : v_9.toInt = v_9.toInt) c_10
          obtain ⟨x1_45, ex1_45⟩ : ∃ y : Int32, y = x1_3 + (-1) := ⟨_, rfl⟩
          have tx1_45 : x1_45.toInt = x1_3.toInt + (-1 : Int) := i_add (rfl : x1_3.toInt = x1_3.toInt) (show ((-1) : Int32).toInt = (-1 : Int) from rfl) (by omega) (by omega) ex1_45
          refine lv_iinc (v := x1_45) (lv' := [(1, .int x1_45), (0, .ref (ad 74))]) hx hb dX0_nextTrial_33 hl (k := 0) rfl (by rw [ex1_45]; rfl) (by decide) rfl (fun ls hl => ?_)
          refine lv_goto (tgt := 12) hx hb dX0_nextTrial_36 (by decide) ?_
          exact ih4 x1_45 _ (by omega) (by omega) (lv_sub hl [0, 1] rfl)
  exact loop4 ((((v_2.toInt) + 2).toNat) + 1) v_2 _ (by omega) (by omega) (lv_sub hl [0, 1] rfl)
set_option maxHeartbeats 4000000 in
set_option maxRecDepth 100000 in
theorem c_X0_assign (l : Launch) (D : va_G) (cy : Nat → ClassId) (ad : Nat → Nat) (hI : gInj ad) (sz : Nat) (iv : gIv) (ar : gAr)  (h4 : 0 ≤ (iv 4 1).toInt) : Met l yX0_assign wsX0_assign ({ frames := 4, cells := 0, slots := 0, locals := 93 } : Room) (va_Pc [.ref (ad 74)] (gPre D cy ad sz iv ar)) (va_Qi (fun (r : Int32) (u : gIv × gAr) => FK iv u.1) (gPost D cy ad) (gA ad sz)) 0 0 (gA ad sz) := by
  refine Met.ofW (cc := cX0_assign) (maxL := 3) (ret := (some .int)) (by decide) rfl ?_
  intro p e s m args below meth c s₁ B hml hv
  obtain ⟨rfl, rfl, hP, hK, hSt, hNw⟩ := hv
  have hx := B.exec
  have hb := B.bytes
  have hr := B.returns
  have hts := atoms_spec (ws := wsX0_assign) B.pre
  have hown : s.vm.findClass RX0 = some m.cls := findClass_of_methodNamed B.named
  have hlocks := B.notSynchronized
  have hS : va_S (gA ad s.heap.size) s.heap s.heap [] := va_S.rf
  have inX0 : ∀ w ∈ u_ws RX0 TX0 9, w ∈ wsX0_assign := by decide +kernel
  have inX5 : ∀ w ∈ u_ws RX5 TX5 2, w ∈ wsX0_assign := by decide +kernel
  have inX8 : ∀ w ∈ u_ws RX8 TX8 5, w ∈ wsX0_assign := by decide +kernel
  have lk0 := hts (.fieldLink RX0 24 "FormationPlanner$Assigner" "scene" "LFormationPlanner$Scene;") (by decide +kernel)
  have lk1 := hts (.fieldLink RX0 31 "FormationPlanner$Scene" "drones" "LFormationPlanner$Places;") (by decide +kernel)
  have lk2 := hts (.fieldLink RX0 37 "FormationPlanner$Places" "size" "I") (by decide +kernel)
  have lk3 := hts (.fieldLink RX0 43 "FormationPlanner$Scene" "slots" "LFormationPlanner$Places;") (by decide +kernel)
  have lk4 := hts (.methodLink RX0 46 Lib.Math.min.name) (by decide +kernel)
  have lk5 := hts (.static Lib.Math.min.name) (by decide +kernel)
  have lk6 := hts (.initialized "java/lang/Math") (by decide +kernel)
  have lk7 := hts (.code Lib.Math.min.name Lib.Math.min.code 2 (some .int)) (by decide +kernel)
  have lk8 := hts (.fieldLink RX0 52 "FormationPlanner$Assigner" "size" "I") (by decide +kernel)
  have lk9 := hts (.fieldLink RX0 53 "FormationPlanner$Assigner" "all" "I") (by decide +kernel)
  have lk10 := hts (.fieldLink RX0 11 "FormationPlanner$Assigner" "toSlot" "[LFormationPlanner$TimesTo;") (by decide +kernel)
  have lk11 := hts (.fieldLink RX0 17 "FormationPlanner$Assigner" "trial" "[I") (by decide +kernel)
  have hl := lv_entry ([.ref (ad 74)]) (n := 3) (Nat.le_of_ble_eq_true rfl)
  rw [lg_entry_eq]
  generalize (lg_sl ([.ref (ad 74)]) ++ List.replicate (3 - (lg_sl ([.ref (ad 74)])).length) Slot.unset).toArray = ls at hl ⊢
  have hl : lv_has ls 3 [(0, .ref (ad 74))] := hl
  obtain ⟨Q, hQ⟩ : ∃ Q, Q = MQ below (va_Qi (fun (r : Int32) (u : gIv × gAr) => FK iv u.1) (gPost D cy ad) (gA ad s.heap.size)) (([.ref (ad 74)] : List Value).toArray) s 0 0 (gA ad s.heap.size) := ⟨_, rfl⟩
  rw [← hQ]
  have fk0 : FK iv iv := FK.rf
  refine lv_aload_n hx hb dX0_assign_0 rfl (lv_at hl 0 rfl) ?_
  refine va_get (D := D) (ci := 0) (v := .ref (ad 1)) (C := RX0) (T := TX0) (N := 9) hx hb hts inX0 hown hK hP 74 (g_at0 (Nat.le_of_ble_eq_true rfl) rfl) rfl 0 (by decide) lk0 (fun _ h9 => h9) rfl dX0_assign_1 ?_
  refine va_get (D := D) (ci := 8) (v := .ref (ad 4)) (C := RX8) (T := TX8) (N := 5) hx hb hts inX8 hown hK hP 1 (g_at8 (Nat.le_of_ble_eq_true rfl) rfl) rfl 2 (by decide) lk1 (fun _ h9 => h9) rfl dX0_assign_4 ?_
  refine va_get (D := D) (ci := 5) (v := .int (iv 4 1)) (C := RX5) (T := TX5) (N := 2) hx hb hts inX5 hown hK hP 4 (g_at5 (Nat.le_of_ble_eq_true rfl) rfl) rfl 1 (by decide) lk2 (fun _ h9 => h9) rfl dX0_assign_7 ?_
  refine lv_aload_n hx hb dX0_assign_10 rfl (lv_at hl 0 rfl) ?_
  refine va_get (D := D) (ci := 0) (v := .ref (ad 1)) (C := RX0) (T := TX0) (N := 9) hx hb hts inX0 hown hK hP 74 (g_at0 (Nat.le_of_ble_eq_true rfl) rfl) rfl 0 (by decide) lk0 (fun _ h9 => h9) rfl dX0_assign_11 ?_
  refine va_get (D := D) (ci := 8) (v := .ref (ad 6)) (C := RX8) (T := TX8) (N := 5) hx hb hts inX8 hown hK hP 1 (g_at8 (Nat.le_of_ble_eq_true rfl) rfl) rfl 3 (by decide) lk3 (fun _ h9 => h9) rfl dX0_assign_14 ?_
  refine va_get (D := D) (ci := 5) (v := .int (iv 6 1)) (C := RX5) (T := TX5) (N := 2) hx hb hts inX5 hown hK hP 6 (g_at5 (Nat.le_of_ble_eq_true rfl) rfl) rfl 1 (by decide) lk2 (fun _ h9 => h9) rfl dX0_assign_17 ?_
  refine lv_icmp_eq (tgt := 26) hx hb dX0_assign_20 (by decide) (fun c_1 => ?_) (fun c_1 => ?_)
  · skip
    have q_1 : (iv 4 1).toInt = (iv 6 1).toInt := i_eq2 (rfl : (iv 4 1).toInt = (iv 4 1).toInt) (rfl : (iv 6 1).toInt = (iv 6 1).toInt) c_1
    refine lv_aload_n hx hb dX0_assign_26 rfl (lv_at hl 0 rfl) ?_
    refine lv_aload_n hx hb dX0_assign_27 rfl (lv_at hl 0 rfl) ?_
    refine va_get (D := D) (ci := 0) (v := .ref (ad 1)) (C := RX0) (T := TX0) (N := 9) hx hb hts inX0 hown hK hP 74 (g_at0 (Nat.le_of_ble_eq_true rfl) rfl) rfl 0 (by decide) lk0 (fun _ h9 => h9) rfl dX0_assign_28 ?_
    refine va_get (D := D) (ci := 8) (v := .ref (ad 4)) (C := RX8) (T := TX8) (N := 5) hx hb hts inX8 hown hK hP 1 (g_at8 (Nat.le_of_ble_eq_true rfl) rfl) rfl 2 (by decide) lk1 (fun _ h9 => h9) rfl dX0_assign_31 ?_
    refine va_get (D := D) (ci := 5) (v := .int (iv 4 1)) (C := RX5) (T := TX5) (N := 2) hx hb hts inX5 hown hK hP 4 (g_at5 (Nat.le_of_ble_eq_true rfl) rfl) rfl 1 (by decide) lk2 (fun _ h9 => h9) rfl dX0_assign_34 ?_
    refine lv_bipush (v := 6) hx hb dX0_assign_37 (by decide) ?_
    refine va_mmin (rest := [.ref (ad 74)]) hx hb (hml.trans hl.1.symm) hown lk4 lk5 lk6 lk7 (Nat.le_of_ble_eq_true rfl) (Nat.le_of_ble_eq_true rfl) (Nat.zero_le _) (Nat.zero_le _) dX0_assign_39 ?_
    refine lv_topi (fun v_2 ev_2 => ?_)
    have tv_2 : v_2.toInt = min ((iv 4 1).toInt) (6 : Int) := i_min (rfl : (iv 4 1).toInt = (iv 4 1).toInt) (show (6 : Int32).toInt = (6 : Int) from rfl) ev_2
    refine va_put (D := D) (ci := 0) (v := .int v_2) (ty := .int) (C := RX0) (T := TX0) (N := 9) hx hb hts inX0 tyX0 tyX0_ok nmX0 hown hK hP (gD hI) hS 74 (g_at0 (Nat.le_of_ble_eq_true rfl) rfl) rfl 4 (by decide) lk8 (fun _ h9 => h9) rfl (by decide +kernel) rfl rfl (Nat.le_of_ble_eq_true rfl) dX0_assign_42 (fun H locs hP _ hS => ?_)
    have hP : va_P D vwCl (GW cy ad (u2 iv 74 4 v_2) ar) H := by rw [← g_pt0_4 (Nat.le_of_ble_eq_true rfl) rfl]; exact hP
    obtain ⟨iv_3, eiv_3⟩ : ∃ z : gIv, z = u2 iv 74 4 v_2 := ⟨_, rfl⟩
    rw [← eiv_3] at hP
    have fk_3 : FK iv iv_3 := by rw [eiv_3]; exact fk0.up (by decide) (by decide)
    refine lv_aload_n hx hb dX0_assign_45 rfl (lv_at hl 0 rfl) ?_
    refine lv_iconst (v := 0) hx hb dX0_assign_46 (by decide) ?_
    refine va_put (D := D) (ci := 0) (v := .int 0) (ty := .int) (C := RX0) (T := TX0) (N := 9) hx hb hts inX0 tyX0 tyX0_ok nmX0 hown hK hP (gD hI) hS 74 (g_at0 (Nat.le_of_ble_eq_true rfl) rfl) rfl 5 (by decide) lk9 (fun _ h9 => h9) rfl (by decide +kernel) rfl rfl (Nat.le_of_ble_eq_true rfl) dX0_assign_47 (fun H locs hP _ hS => ?_)
    have hP : va_P D vwCl (GW cy ad (u2 iv_3 74 5 0) ar) H := by rw [← g_pt0_5 (Nat.le_of_ble_eq_true rfl) rfl]; exact hP
    obtain ⟨iv_4, eiv_4⟩ : ∃ z : gIv, z = u2 iv_3 74 5 0 := ⟨_, rfl⟩
    rw [← eiv_4] at hP
    have fk_4 : FK iv iv_4 := by rw [eiv_4]; exact fk_3.up (by decide) (by decide)
    have hs4 : 0 ≤ (iv_4 74 4).toInt := by rw [eiv_4, u2_o (by omega), eiv_3, u2_s]; omega
    refine lv_iconst (v := 0) hx hb dX0_assign_50 (by decide) ?_
    refine lv_istore_n (lv' := [(1, .int 0), (0, .ref (ad 74))]) hx hb dX0_assign_51 rfl hl (by decide) rfl (fun ls hl => ?_)
    have loop7 : ∀ (n : Nat) (x1_5 : Int32) (ar_6 : gAr) (H : Heap) (locs : List Loc) (ls : Array Slot), ((6 - (x1_5.toInt)).toNat) < n → (0 ≤ (x1_5.toInt) ∧ (x1_5.toInt) ≤ 6) → va_P D vwCl (GW cy ad iv_4 ar_6) H → va_S (gA ad s.heap.size) s.heap H locs → lv_has ls 3 [(1, .int x1_5), (0, .ref (ad 74))] → W p l e (headSpec wsX0_assign (({ frames := 4, cells := 0, slots := 0, locals := 93 } : Room))).room s m (([.ref (ad 74)] : List Value).toArray) below meth c H locs 0 0 Q (F0 m 52 ls []) := by
      intro n
      induction n with
      | zero => intro x1_5 ar_6 H locs ls hm; omega
      | succ n ih7 =>
        intro x1_5 ar_6 H locs ls hm hg0 hP hS hl
        refine lv_iload_n hx hb dX0_assign_52 rfl (lv_at hl 0 rfl) ?_
        refine lv_aload_n hx hb dX0_assign_53 rfl (lv_at hl 1 rfl) ?_
        refine va_get (D := D) (ci := 0) (v := .int (iv_4 74 4)) (C := RX0) (T := TX0) (N := 9) hx hb hts inX0 hown hK hP 74 (g_at0 (Nat.le_of_ble_eq_true rfl) rfl) rfl 4 (by decide) lk8 (fun _ h9 => h9) rfl dX0_assign_54 ?_
        have f_8 : iv_4 74 4 = v_2 := by rw [eiv_4, u2_o (by omega)]; rw [eiv_3]; exact u2_s _ _ _ _
        refine lv_icmp_ge (tgt := 99) hx hb dX0_assign_57 (by decide) (fun c_9 => ?_) (fun c_9 => ?_)
        · skip
          have q_9 : v_2.toInt ≤ x1_5.toInt := i_le2 ((congrArg Int32.toInt f_8).trans (rfl : v_2.toInt = v_2.toInt)) (rfl : x1_5.toInt = x1_5.toInt) c_9
          refine lv_iconst (v := 1) hx hb dX0_assign_99 (by decide) ?_
          refine lv_istore_n (lv' := [(1, .int 1), (0, .ref (ad 74))]) hx hb dX0_assign_100 rfl hl (by decide) rfl (fun ls hl => ?_)
          refine lv_iconst (v := 0) hx hb dX0_assign_101 (by decide) ?_
          refine lv_istore_n (lv' := [(2, .int 0), (1, .int 1), (0, .ref (ad 74))]) hx hb dX0_assign_102 rfl hl (by decide) rfl (fun ls hl => ?_)
          have loop13 : ∀ (n : Nat) (x2_10 : Int32) (x1_11 : Int32) (iv_12 : gIv) (ar_12 : gAr) (H : Heap) (locs : List Loc) (ls : Array Slot), ((720 - (x2_10.toInt)).toNat) < n → (FK iv iv_12) → (0 ≤ (x2_10.toInt) ∧ (x2_10.toInt) ≤ 720) → (0 ≤ (iv_12 74 4).toInt) → va_P D vwCl (GW cy ad iv_12 ar_12) H → va_S (gA ad s.heap.size) s.heap H locs → lv_has ls 3 [(2, .int x2_10), (1, .int x1_11), (0, .ref (ad 74))] → W p l e (headSpec wsX0_assign (({ frames := 4, cells := 0, slots := 0, locals := 93 } : Room))).room s m (([.ref (ad 74)] : List Value).toArray) below meth c H locs 0 0 Q (F0 m 103 ls []) := by
            intro n
            induction n with
            | zero => intro x2_10 x1_11 iv_12 ar_12 H locs ls hm; omega
            | succ n ih13 =>
              intro x2_10 x1_11 iv_12 ar_12 H locs ls hm hfk hk0 hgs hP hS hl
              refine lv_iload_n hx hb dX0_assign_103 rfl (lv_at hl 0 rfl) ?_
              refine lv_sipush (v := 720) hx hb dX0_assign_104 (by decide) ?_
              refine lv_icmp_ge (tgt := 129) hx hb dX0_assign_107 (by decide) (fun c_14 => ?_) (fun c_14 => ?_)
              · skip
                have q_14 : (720 : Int) ≤ x2_10.toInt := i_le2 (show (720 : Int32).toInt = (720 : Int) from rfl) (rfl : x2_10.toInt = x2_10.toInt) c_14
                refine lv_aload_n hx hb dX0_assign_129 rfl (lv_at hl 2 rfl) ?_
                refine va_get (D := D) (ci := 0) (v := .int (iv_12 74 5)) (C := RX0) (T := TX0) (N := 9) hx hb hts inX0 hown hK hP 74 (g_at0 (Nat.le_of_ble_eq_true rfl) rfl) rfl 5 (by decide) lk9 (fun _ h9 => h9) rfl dX0_assign_130 ?_
                refine lv_if_ne (tgt := 141) hx hb dX0_assign_133 (by decide) (fun c_15 => ?_) (fun c_15 => ?_)
                · skip
                  have q_15 : (iv_12 74 5).toInt ≠ (0 : Int) := i_ne2 (rfl : (iv_12 74 5).toInt = (iv_12 74 5).toInt) (show (0 : Int32).toInt = (0 : Int) from rfl) c_15
                  refine lv_iconst (v := 0) hx hb dX0_assign_141 (by decide) ?_
                  rw [hQ]
                  exact W.iret (v := 0) hx hb hr (fun t ht hW => ⟨⟨0, (iv_12, ar_12), rfl, hfk, by show va_P _ _ _ _; rw [ht]; exact hP⟩, hS.F ht⟩) hS.2.2 dX0_assign_142
                · skip
                  have q_15 : (iv_12 74 5).toInt = (0 : Int) := i_eq2 (rfl : (iv_12 74 5).toInt = (iv_12 74 5).toInt) (show (0 : Int32).toInt = (0 : Int) from rfl) c_15
                  refine lv_bipush (v := (-6)) hx hb dX0_assign_136 (by decide) ?_
                  refine lv_goto (tgt := 142) hx hb dX0_assign_138 (by decide) ?_
                  rw [hQ]
                  exact W.iret (v := (-6)) hx hb hr (fun t ht hW => ⟨⟨(-6), (iv_12, ar_12), rfl, hfk, by show va_P _ _ _ _; rw [ht]; exact hP⟩, hS.F ht⟩) hS.2.2 dX0_assign_142
              · skip
                have q_14 : x2_10.toInt < (720 : Int) := i_nle2 (show (720 : Int32).toInt = (720 : Int) from rfl) (rfl : x2_10.toInt = x2_10.toInt) c_14
                refine lv_iload_n hx hb dX0_assign_110 rfl (lv_at hl 1 rfl) ?_
                refine lv_if_eq (tgt := 129) hx hb dX0_assign_111 (by decide) (fun c_16 => ?_) (fun c_16 => ?_)
                · skip
                  have q_16 : x1_11.toInt = (0 : Int) := i_eq2 (rfl : x1_11.toInt = x1_11.toInt) (show (0 : Int32).toInt = (0 : Int) from rfl) c_16
                  refine lv_aload_n hx hb dX0_assign_129 rfl (lv_at hl 2 rfl) ?_
                  refine va_get (D := D) (ci := 0) (v := .int (iv_12 74 5)) (C := RX0) (T := TX0) (N := 9) hx hb hts inX0 hown hK hP 74 (g_at0 (Nat.le_of_ble_eq_true rfl) rfl) rfl 5 (by decide) lk9 (fun _ h9 => h9) rfl dX0_assign_130 ?_
                  refine lv_if_ne (tgt := 141) hx hb dX0_assign_133 (by decide) (fun c_17 => ?_) (fun c_17 => ?_)
                  · skip
                    have q_17 : (iv_12 74 5).toInt ≠ (0 : Int) := i_ne2 (rfl : (iv_12 74 5).toInt = (iv_12 74 5).toInt) (show (0 : Int32).toInt = (0 : Int) from rfl) c_17
                    refine lv_iconst (v := 0) hx hb dX0_assign_141 (by decide) ?_
                    rw [hQ]
                    exact W.iret (v := 0) hx hb hr (fun t ht hW => ⟨⟨0, (iv_12, ar_12), rfl, hfk, by show va_P _ _ _ _; rw [ht]; exact hP⟩, hS.F ht⟩) hS.2.2 dX0_assign_142
                  · skip
                    have q_17 : (iv_12 74 5).toInt = (0 : Int) := i_eq2 (rfl : (iv_12 74 5).toInt = (iv_12 74 5).toInt) (show (0 : Int32).toInt = (0 : Int) from rfl) c_17
                    refine lv_bipush (v := (-6)) hx hb dX0_assign_136 (by decide) ?_
                    refine lv_goto (tgt := 142) hx hb dX0_assign_138 (by decide) ?_
                    rw [hQ]
                    exact W.iret (v := (-6)) hx hb hr (fun t ht hW => ⟨⟨(-6), (iv_12, ar_12), rfl, hfk, by show va_P _ _ _ _; rw [ht]; exact hP⟩, hS.F ht⟩) hS.2.2 dX0_assign_142
                · skip
                  have q_16 : x1_11.toInt ≠ (0 : Int) := i_ne2 (rfl : x1_11.toInt = x1_11.toInt) (show (0 : Int32).toInt = (0 : Int) from rfl) c_16
                  refine lv_aload_n hx hb dX0_assign_114 rfl (lv_at hl 2 rfl) ?_
                  refine g_callv (va_runV (As := []) (rest := []) ⟨hx, hb, hml, hown, hts⟩ (c_X0_weigh l D cy ad hI _ iv_12 ar_12) (cwV 0 hts gX0_assign_X0_weigh rfl rfl rfl (by decide +kernel) ⟨Nat.le_of_ble_eq_true rfl, Nat.le_of_ble_eq_true rfl⟩) (g_preV hP hK hSt hNw hS (g_at0 (Nat.le_of_ble_eq_true rfl) rfl) rfl) rfl rfl hl.1 rfl (lv_room (Nat.le_of_ble_eq_true rfl)) dX0_assign_115 ⟨Nat.zero_le _, Nat.zero_le _⟩) hS (fun iv_18 ar_18 H locs w_18 hP hS => ?_)
                  try dsimp only at w_18
                  have fk_18 : FK iv iv_18 := hfk.tr (w_18.1)
                  have hgs2 : 0 ≤ (iv_18 74 4).toInt := by rw [w_18.2]; exact hgs
                  refine lv_aload_n hx hb dX0_assign_118 rfl (lv_at hl 2 rfl) ?_
                  refine g_calli (va_runV (As := []) (rest := []) ⟨hx, hb, hml, hown, hts⟩ (c_X0_nextTrial l D cy ad hI _ iv_18 ar_18 hgs2) (cwV 0 hts gX0_assign_X0_nextTrial rfl rfl rfl (by decide +kernel) ⟨Nat.le_of_ble_eq_true rfl, Nat.le_of_ble_eq_true rfl⟩) (g_preV hP hK hSt hNw hS (g_at0 (Nat.le_of_ble_eq_true rfl) rfl) rfl) rfl rfl hl.1 rfl (lv_room (Nat.le_of_ble_eq_true rfl)) dX0_assign_119 ⟨Nat.zero_le _, Nat.zero_le _⟩) hS (fun r_19 iv_19 ar_19 H locs w_19 hP hS => ?_)
                  try dsimp only at w_19
                  have wi_19 := (w_19).symm
                  subst wi_19
                  refine lv_istore_n (lv' := [(1, .int r_19), (2, .int x2_10), (0, .ref (ad 74))]) hx hb dX0_assign_122 rfl hl (by decide) rfl (fun ls hl => ?_)
                  obtain ⟨x2_20, ex2_20⟩ : ∃ y : Int32, y = x2_10 + 1 := ⟨_, rfl⟩
                  have tx2_20 : x2_20.toInt = x2_10.toInt + (1 : Int) := i_add (rfl : x2_10.toInt = x2_10.toInt) (show (1 : Int32).toInt = (1 : Int) from rfl) (by omega) (by omega) ex2_20
                  refine lv_iinc (v := x2_20) (lv' := [(2, .int x2_20), (1, .int r_19), (0, .ref (ad 74))]) hx hb dX0_assign_123 hl (k := 1) rfl (by rw [ex2_20]; rfl) (by decide) rfl (fun ls hl => ?_)
                  refine lv_goto (tgt := 103) hx hb dX0_assign_126 (by decide) ?_
                  exact ih13 x2_20 r_19 iv_18 ar_19 _ _ _ (by omega) fk_18 (by omega) hgs2 hP hS (lv_sub hl [0, 1, 2] rfl)
          have zl_21 : (0 : Int32).toInt = (0 : Int) := rfl
          have zl_22 : (1 : Int32).toInt = (1 : Int) := rfl
          exact loop13 (((720 - ((0 : Int))).toNat) + 1) 0 1 iv_4 ar_6 _ _ _ (by omega) fk_4 (by omega) hs4 hP hS (lv_sub hl [0, 1, 2] rfl)
        · skip
          have q_9 : x1_5.toInt < v_2.toInt := i_nle2 ((congrArg Int32.toInt f_8).trans (rfl : v_2.toInt = v_2.toInt)) (rfl : x1_5.toInt = x1_5.toInt) c_9
          refine lv_iload_n hx hb dX0_assign_60 rfl (lv_at hl 0 rfl) ?_
          refine lv_bipush (v := 6) hx hb dX0_assign_61 (by decide) ?_
          refine lv_icmp_ge (tgt := 99) hx hb dX0_assign_63 (by decide) (fun c_23 => ?_) (fun c_23 => ?_)
          · skip
            have q_23 : (6 : Int) ≤ x1_5.toInt := i_le2 (show (6 : Int32).toInt = (6 : Int) from rfl) (rfl : x1_5.toInt = x1_5.toInt) c_23
            exfalso; omega
          · skip
            have q_23 : x1_5.toInt < (6 : Int) := i_nle2 (show (6 : Int32).toInt = (6 : Int) from rfl) (rfl : x1_5.toInt = x1_5.toInt) c_23
            refine lv_aload_n hx hb dX0_assign_66 rfl (lv_at hl 1 rfl) ?_
            refine va_get (D := D) (ci := 0) (v := .ref (ad 75)) (C := RX0) (T := TX0) (N := 9) hx hb hts inX0 hown hK hP 74 (g_at0 (Nat.le_of_ble_eq_true rfl) rfl) rfl 1 (by decide) lk10 (fun _ h9 => h9) rfl dX0_assign_67 ?_
            refine lv_iload_n hx hb dX0_assign_70 rfl (lv_at hl 0 rfl) ?_
            refine va_aldq hx hb hK hP 75 3 (g_at16 (Nat.le_of_ble_eq_true rfl) rfl) rfl (g_in (N := 6) (rfl : x1_5.toInt = x1_5.toInt) rfl (by omega) (by omega)) dX0_assign_71 ?_
            obtain ⟨k_24, ek_24⟩ : ∃ z : Nat, z = ln 75 + 2 * x1_5.toNatClampNeg := ⟨_, rfl⟩
            have hk_24 : k_24 < 135 ∧ kd k_24 = 9 := by rw [ek_24]; exact g_ch75 (g_cl (rfl : x1_5.toInt = x1_5.toInt) (by omega) (by omega))
            show W p l e _ s m _ below meth c _ _ _ _ Q (F0 m 72 _ (Value.ref (ad (ln 75 + 2 * x1_5.toNatClampNeg)) :: []))
            rw [← ek_24]
            have hck_24 := g_cN (rfl : x1_5.toInt = x1_5.toInt)
            refine lv_aload_n hx hb dX0_assign_72 rfl (lv_at hl 1 rfl) ?_
            refine va_get (D := D) (ci := 0) (v := .ref (ad 1)) (C := RX0) (T := TX0) (N := 9) hx hb hts inX0 hown hK hP 74 (g_at0 (Nat.le_of_ble_eq_true rfl) rfl) rfl 0 (by decide) lk0 (fun _ h9 => h9) rfl dX0_assign_73 ?_
            refine va_get (D := D) (ci := 8) (v := .ref (ad 6)) (C := RX8) (T := TX8) (N := 5) hx hb hts inX8 hown hK hP 1 (g_at8 (Nat.le_of_ble_eq_true rfl) rfl) rfl 3 (by decide) lk3 (fun _ h9 => h9) rfl dX0_assign_76 ?_
            refine lv_iload_n hx hb dX0_assign_79 rfl (lv_at hl 0 rfl) ?_
            refine g_callSi (va_runV (As := [.int x1_5]) (rest := [.ref (ad k_24)]) ⟨hx, hb, hml, hown, hts⟩ (c_X5_cellAt l D cy ad hI _ iv_4 ar_6 6 (Nat.le_of_ble_eq_true rfl) rfl x1_5) (cwV 1 hts gX0_assign_X5_cellAt rfl rfl rfl (by decide +kernel) ⟨Nat.le_of_ble_eq_true rfl, Nat.le_of_ble_eq_true rfl⟩) (g_preV hP hK hSt hNw hS (g_at5 (Nat.le_of_ble_eq_true rfl) rfl) rfl) rfl rfl hl.1 rfl (lv_room (Nat.le_of_ble_eq_true rfl)) dX0_assign_80 ⟨Nat.zero_le _, Nat.zero_le _⟩) (fun r_25 w_25 => ?_)
            try dsimp only at w_25
            refine g_callv (va_runV (As := [.int r_25]) (rest := []) ⟨hx, hb, hml, hown, hts⟩ (c_X9_measure l D cy ad hI _ iv_4 ar_6 k_24 hk_24.1 hk_24.2 r_25) (cwV 1 hts gX0_assign_X9_measure rfl rfl rfl (by decide +kernel) ⟨Nat.le_of_ble_eq_true rfl, Nat.le_of_ble_eq_true rfl⟩) (g_preV hP hK hSt hNw hS (g_at9 hk_24.1 hk_24.2) rfl) rfl rfl hl.1 rfl (lv_room (Nat.le_of_ble_eq_true rfl)) dX0_assign_83 ⟨Nat.zero_le _, Nat.zero_le _⟩) hS (fun iv_26 ar_26 H locs w_26 hP hS => ?_)
            try dsimp only at w_26
            have wi_26 := (w_26).symm
            subst wi_26
            refine lv_aload_n hx hb dX0_assign_86 rfl (lv_at hl 1 rfl) ?_
            refine va_get (D := D) (ci := 0) (v := .ref (ad 76)) (C := RX0) (T := TX0) (N := 9) hx hb hts inX0 hown hK hP 74 (g_at0 (Nat.le_of_ble_eq_true rfl) rfl) rfl 2 (by decide) lk11 (fun _ h9 => h9) rfl dX0_assign_87 ?_
            refine lv_iload_n hx hb dX0_assign_90 rfl (lv_at hl 0 rfl) ?_
            refine lv_iload_n hx hb dX0_assign_91 rfl (lv_at hl 0 rfl) ?_
            refine va_iast hx hb hK hP (gD hI) hS 76 0 (g_at12 (Nat.le_of_ble_eq_true rfl) rfl) rfl (g_in (N := 6) (rfl : x1_5.toInt = x1_5.toInt) rfl (by omega) (by omega)) dX0_assign_92 (fun H locs hP _ hS => ?_)
            rw [g_pt12 (Nat.le_of_ble_eq_true rfl) rfl] at hP
            obtain ⟨ar_27, ear_27⟩ : ∃ z : gAr, z = va_up ar_26 76 (upd (ar_26 76) x1_5.toNatClampNeg x1_5) := ⟨_, rfl⟩
            rw [← ear_27] at hP
            obtain ⟨x1_28, ex1_28⟩ : ∃ y : Int32, y = x1_5 + 1 := ⟨_, rfl⟩
            have tx1_28 : x1_28.toInt = x1_5.toInt + (1 : Int) := i_add (rfl : x1_5.toInt = x1_5.toInt) (show (1 : Int32).toInt = (1 : Int) from rfl) (by omega) (by omega) ex1_28
            refine lv_iinc (v := x1_28) (lv' := [(1, .int x1_28), (0, .ref (ad 74))]) hx hb dX0_assign_93 hl (k := 0) rfl (by rw [ex1_28]; rfl) (by decide) rfl (fun ls hl => ?_)
            refine lv_goto (tgt := 52) hx hb dX0_assign_96 (by decide) ?_
            exact ih7 x1_28 ar_27 _ _ _ (by omega) (by omega) hP hS (lv_sub hl [0, 1] rfl)
    have zl_29 : (0 : Int32).toInt = (0 : Int) := rfl
    exact loop7 (((6 - ((0 : Int))).toNat) + 1) 0 ar _ _ _ (by omega) (by omega) hP hS (lv_sub hl [0, 1] rfl)
  · skip
    have q_1 : (iv 4 1).toInt ≠ (iv 6 1).toInt := i_ne2 (rfl : (iv 4 1).toInt = (iv 4 1).toInt) (rfl : (iv 6 1).toInt = (iv 6 1).toInt) c_1
    refine lv_bipush (v := (-5)) hx hb dX0_assign_23 (by decide) ?_
    rw [hQ]
    exact W.iret (v := (-5)) hx hb hr (fun t ht hW => ⟨⟨(-5), (iv, ar), rfl, fk0, by show va_P _ _ _ _; rw [ht]; exact hP⟩, hS.F ht⟩) hS.2.2 dX0_assign_25
