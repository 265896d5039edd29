set_option maxHeartbeats 4000000 in
set_option maxRecDepth 100000 in
theorem c_J7_fill_53178 (l : Launch) (D : va_G) (cy : Nat → ClassId) (ad : Nat → Nat) (hI : gInj ad) (sz : Nat) (iv : gIv) (ar : gAr) (k : Nat) (hk_k : k < 135) (hd_k : kd k = 12) (b : Int32)  : Met l yJ7_fill_53178 wsJ7_fill_53178 ({ frames := 0, cells := 0, slots := 0, locals := 0 } : Room) (va_Pc [.ref (ad k), .int b] (gPre D cy ad sz iv ar)) (va_Qv (fun (u : gIv × gAr) => u.1 = iv) (gPost D cy ad) (gA ad sz)) 0 0 (gA ad sz) := by
  refine va_MetF (cc := cJ7_fill_53178) (maxL := 4) (ret := none) (by decide +kernel) rfl ?_
  intro p e s m args below meth c s₁ B hml hv
  obtain ⟨rfl, rfl, hP, hK, hSt, hNw⟩ := hv
  have hx := B.exec
  have hb := B.bytes
  have hr := B.returns
  have hts := atoms_spec (ws := wsJ7_fill_53178) B.pre
  have hown : s.vm.findClass RJ7 = some m.cls := findClass_of_methodNamed B.named
  have hlocks := B.notSynchronized
  have hS : va_S (gA ad s.heap.size) s.heap s.heap [] := va_S.rf
  have hl := lv_entry ([.ref (ad k), .int b]) (n := 4) (Nat.le_of_ble_eq_true rfl)
  rw [lg_entry_eq]
  generalize (lg_sl ([.ref (ad k), .int b]) ++ List.replicate (4 - (lg_sl ([.ref (ad k), .int b])).length) Slot.unset).toArray = ls at hl ⊢
  have hl : lv_has ls 4 [(0, .ref (ad k)), (1, .int b)] := hl
  obtain ⟨Q, hQ⟩ : ∃ Q, Q = MQ below (va_Qv (fun (u : gIv × gAr) => u.1 = iv) (gPost D cy ad) (gA ad s.heap.size)) (([.ref (ad k), .int b] : List Value).toArray) s 0 0 (gA ad s.heap.size) := ⟨_, rfl⟩
  rw [← hQ]
  refine lv_iconst (v := 0) hx hb dJ7_fill_53178_0 (by decide) ?_
  refine lv_istore_n (lv' := [(2, .int 0), (0, .ref (ad k)), (1, .int b)]) hx hb dJ7_fill_53178_1 rfl hl (by decide) rfl (fun ls hl => ?_)
  refine lv_aload_n hx hb dJ7_fill_53178_2 rfl (lv_at hl 1 rfl) ?_
  obtain ⟨v_1, ev_1⟩ : ∃ z : Int32, z = Int32.ofNat (ln k) := ⟨_, rfl⟩
  have tv_1 : v_1.toInt = (ln k : Int) ∧ (ln k : Int) ≤ 6588 := g_ln hk_k ev_1
  refine va_alen hx hb hK hP k 0 (g_at12 hk_k hd_k) rfl (v := v_1) ev_1.symm dJ7_fill_53178_3 ?_
  refine lv_istore_n (lv' := [(3, .int v_1), (2, .int 0), (0, .ref (ad k)), (1, .int b)]) hx hb dJ7_fill_53178_4 rfl hl (by decide) rfl (fun ls hl => ?_)
  have loop4 : ∀ (n : Nat) (x2_2 : Int32) (ar_3 : gAr) (H : Heap) (locs : List Loc) (ls : Array Slot), (((v_1.toInt) - (x2_2.toInt)).toNat) < n → (0 ≤ (x2_2.toInt) ∧ (x2_2.toInt) ≤ (ln k : Int)) → va_P D vwCl (GW cy ad iv ar_3) H → va_S (gA ad s.heap.size) s.heap H locs → lv_has ls 4 [(3, .int v_1), (2, .int x2_2), (0, .ref (ad k)), (1, .int b)] → W p l e (headSpec wsJ7_fill_53178 (({ frames := 0, cells := 0, slots := 0, locals := 0 } : Room))).room s m (([.ref (ad k), .int b] : List Value).toArray) below meth c H locs 0 0 Q (F0 m 5 ls []) := by
    intro n
    induction n with
    | zero => intro x2_2 ar_3 H locs ls hm; omega
    | succ n ih4 =>
      intro x2_2 ar_3 H locs ls hm hg0 hP hS hl
      refine lv_iload_n hx hb dJ7_fill_53178_5 rfl (lv_at hl 1 rfl) ?_
      refine lv_iload_n hx hb dJ7_fill_53178_6 rfl (lv_at hl 0 rfl) ?_
      refine lv_icmp_ge (tgt := 20) hx hb dJ7_fill_53178_7 (by decide) (fun c_5 => ?_) (fun c_5 => ?_)
      · skip
        have q_5 : v_1.toInt ≤ x2_2.toInt := i_le2 (rfl : v_1.toInt = v_1.toInt) (rfl : x2_2.toInt = x2_2.toInt) c_5
        rw [hQ]
        exact W.vret hx hb hr (fun t ht hW => ⟨⟨(iv, ar_3), rfl, rfl, by show va_P _ _ _ _; rw [ht]; exact hP⟩, hS.F ht⟩) hS.2.2 dJ7_fill_53178_20
      · skip
        have q_5 : x2_2.toInt < v_1.toInt := i_nle2 (rfl : v_1.toInt = v_1.toInt) (rfl : x2_2.toInt = x2_2.toInt) c_5
        refine lv_aload_n hx hb dJ7_fill_53178_10 rfl (lv_at hl 2 rfl) ?_
        refine lv_iload_n hx hb dJ7_fill_53178_11 rfl (lv_at hl 1 rfl) ?_
        refine lv_iload_n hx hb dJ7_fill_53178_12 rfl (lv_at hl 3 rfl) ?_
        refine va_iast hx hb hK hP (gD hI) hS k 0 (g_at12 hk_k hd_k) rfl (g_in (N := (ln k)) (rfl : x2_2.toInt = x2_2.toInt) rfl (by omega) (by omega)) dJ7_fill_53178_13 (fun H locs hP _ hS => ?_)
        rw [g_pt12 hk_k hd_k] at hP
        obtain ⟨ar_6, ear_6⟩ : ∃ z : gAr, z = va_up ar_3 k (upd (ar_3 k) x2_2.toNatClampNeg b) := ⟨_, rfl⟩
        rw [← ear_6] at hP
        obtain ⟨x2_7, ex2_7⟩ : ∃ y : Int32, y = x2_2 + 1 := ⟨_, rfl⟩
        have tx2_7 : x2_7.toInt = x2_2.toInt + (1 : Int) := i_add (rfl : x2_2.toInt = x2_2.toInt) (show (1 : Int32).toInt = (1 : Int) from rfl) (by omega) (by omega) ex2_7
        refine lv_iinc (v := x2_7) (lv' := [(2, .int x2_7), (3, .int v_1), (0, .ref (ad k)), (1, .int b)]) hx hb dJ7_fill_53178_14 hl (k := 1) rfl (by rw [ex2_7]; rfl) (by decide) rfl (fun ls hl => ?_)
        refine lv_goto (tgt := 5) hx hb dJ7_fill_53178_17 (by decide) ?_
        exact ih4 x2_7 ar_6 _ _ _ (by omega) (by omega) hP hS (lv_sub hl [1, 0, 2, 3] rfl)
  have zl_8 : (0 : Int32).toInt = (0 : Int) := rfl
  exact loop4 ((((v_1.toInt) - ((0 : Int))).toNat) + 1) 0 ar _ _ _ (by omega) (by omega) hP hS (lv_sub hl [0, 1, 2, 3] rfl)
set_option maxHeartbeats 4000000 in
set_option maxRecDepth 100000 in
theorem c_X4_next (l : Launch) (D : va_G) (cy : Nat → ClassId) (ad : Nat → Nat) (hI : gInj ad) (sz : Nat) (iv : gIv) (ar : gAr) (a : Int32) (b : Int32)  : Met l yX4_next wsX4_next ({ frames := 1, cells := 0, slots := 0, locals := 20 } : Room) (va_Pc [.ref (ad 70), .int a, .int b] (gPre D cy ad sz iv ar)) (vp_Si (fun r => True)) 0 0 (fun _ => False) := by
  refine Met.ofW (cc := cX4_next) (maxL := 4) (ret := (some .int)) (by decide) rfl ?_
  intro p e s m args below meth c s₁ B hml hv
  obtain ⟨rfl, rfl, hP, hK, hSt, hNw⟩ := hv
  have hx := B.exec
  have hb := B.bytes
  have hr := B.returns
  have hts := atoms_spec (ws := wsX4_next) B.pre
  have hown : s.vm.findClass RX4 = some m.cls := findClass_of_methodNamed B.named
  have hlocks := B.notSynchronized
  have hS : va_S (gA ad s.heap.size) s.heap s.heap [] := va_S.rf
  have inX4 : ∀ w ∈ u_ws RX4 TX4 2, w ∈ wsX4_next := by decide +kernel
  have inX8 : ∀ w ∈ u_ws RX8 TX8 5, w ∈ wsX4_next := by decide +kernel
  have lk0 := hts (.initialized RX10) (by decide +kernel)
  have lk1 := hts (.static yX10_isCell) (by decide +kernel)
  have lk2 := hts (.static yX10_isAction) (by decide +kernel)
  have lk3 := hts (.fieldLink RX4 9 "FormationPlanner$Lattice" "neighbours" "[I") (by decide +kernel)
  have lk4 := hts (.fieldLink RX4 15 "FormationPlanner$Lattice" "scene" "LFormationPlanner$Scene;") (by decide +kernel)
  have lk5 := hts (.fieldLink RX4 30 "FormationPlanner$Scene" "obstacles" "[I") (by decide +kernel)
  have hl := lv_entry ([.ref (ad 70), .int a, .int b]) (n := 4) (Nat.le_of_ble_eq_true rfl)
  rw [lg_entry_eq]
  generalize (lg_sl ([.ref (ad 70), .int a, .int b]) ++ List.replicate (4 - (lg_sl ([.ref (ad 70), .int a, .int b])).length) Slot.unset).toArray = ls at hl ⊢
  have hl : lv_has ls 4 [(0, .ref (ad 70)), (1, .int a), (2, .int b)] := hl
  obtain ⟨Q, hQ⟩ : ∃ Q, Q = MQ below (vp_Si (fun r => True)) (([.ref (ad 70), .int a, .int b] : List Value).toArray) s 0 0 (fun _ => False) := ⟨_, rfl⟩
  rw [← hQ]
  refine lv_iload_n hx hb dX4_next_0 rfl (lv_at hl 1 rfl) ?_
  refine g_callSi (va_runSN (As := [.int a]) (rest := []) ⟨hx, hb, hml, hown, hts⟩ (c_X10_isCell l a) ⟨va_cnB 1 hts gX4_next_X10_isCell_n23 rfl rfl rfl (hNw (.methodLinkNest RX4 23 yX10_isCell "FormationPlanner") (by decide +kernel)) lk0 (by decide +kernel) ⟨Nat.le_of_ble_eq_true rfl, Nat.le_of_ble_eq_true rfl⟩, lk1, trivial⟩ (g_preT) rfl rfl hl.1 rfl (lv_room (Nat.le_of_ble_eq_true rfl)) dX4_next_1 ⟨Nat.zero_le _, Nat.zero_le _⟩) (fun r_1 w_1 => ?_)
  try dsimp only at w_1
  refine lv_if_eq (tgt := 14) hx hb dX4_next_4 (by decide) (fun c_2 => ?_) (fun c_2 => ?_)
  · skip
    have q_2 : r_1.toInt = (0 : Int) := i_eq2 (rfl : r_1.toInt = r_1.toInt) (show (0 : Int32).toInt = (0 : Int) from rfl) c_2
    refine lv_iconst (v := (-1)) hx hb dX4_next_14 (by decide) ?_
    rw [hQ]
    exact W.iret (v := (-1)) hx hb hr (fun t ht hW => ⟨(-1), rfl, trivial, ht⟩) (fun q h => by cases h) dX4_next_15
  · skip
    have q_2 : r_1.toInt ≠ (0 : Int) := i_ne2 (rfl : r_1.toInt = r_1.toInt) (show (0 : Int32).toInt = (0 : Int) from rfl) c_2
    refine lv_iload_n hx hb dX4_next_7 rfl (lv_at hl 2 rfl) ?_
    refine g_callSi (va_runSN (As := [.int b]) (rest := []) ⟨hx, hb, hml, hown, hts⟩ (c_X10_isAction l b) ⟨va_cnB 1 hts gX4_next_X10_isAction_n27 rfl rfl rfl (hNw (.methodLinkNest RX4 27 yX10_isAction "FormationPlanner") (by decide +kernel)) lk0 (by decide +kernel) ⟨Nat.le_of_ble_eq_true rfl, Nat.le_of_ble_eq_true rfl⟩, lk2, trivial⟩ (g_preT) rfl rfl hl.1 rfl (lv_room (Nat.le_of_ble_eq_true rfl)) dX4_next_8 ⟨Nat.zero_le _, Nat.zero_le _⟩) (fun r_3 w_3 => ?_)
    try dsimp only at w_3
    refine lv_if_ne (tgt := 16) hx hb dX4_next_11 (by decide) (fun c_4 => ?_) (fun c_4 => ?_)
    · skip
      have q_4 : r_3.toInt ≠ (0 : Int) := i_ne2 (rfl : r_3.toInt = r_3.toInt) (show (0 : Int32).toInt = (0 : Int) from rfl) c_4
      refine lv_aload_n hx hb dX4_next_16 rfl (lv_at hl 0 rfl) ?_
      refine va_get (D := D) (ci := 4) (v := .ref (ad 71)) (C := RX4) (T := TX4) (N := 2) hx hb hts inX4 hown hK hP 70 (g_at4 (Nat.le_of_ble_eq_true rfl) rfl) rfl 1 (by decide) lk3 (fun _ h9 => h9) rfl dX4_next_17 ?_
      refine lv_iload_n hx hb dX4_next_20 rfl (lv_at hl 1 rfl) ?_
      refine lv_bipush (v := 7) hx hb dX4_next_21 (by decide) ?_
      refine lv_imul hx hb dX4_next_23 ?_
      refine lv_topi (fun v_5 ev_5 => ?_)
      have rg_6 := i_rng a
      have tv_5 : v_5.toInt = a.toInt * (7 : Int) := i_mul (rfl : a.toInt = a.toInt) (show (7 : Int32).toInt = (7 : Int) from rfl) (by omega) (by omega) ev_5
      refine lv_iload_n hx hb dX4_next_24 rfl (lv_at hl 2 rfl) ?_
      refine lv_iadd hx hb dX4_next_25 ?_
      refine lv_topi (fun v_7 ev_7 => ?_)
      have rg_8 := i_rng v_5
      have rg_9 := i_rng b
      have tv_7 : v_7.toInt = v_5.toInt + b.toInt := i_add (rfl : v_5.toInt = v_5.toInt) (rfl : b.toInt = b.toInt) (by omega) (by omega) ev_7
      refine va_iald hx hb hK hP 71 0 (g_at12 (Nat.le_of_ble_eq_true rfl) rfl) rfl (g_in (N := 756) (rfl : v_7.toInt = v_7.toInt) rfl (by omega) (by omega)) dX4_next_26 ?_
      refine lv_topi (fun v_10 ev_10 => ?_)
      refine lv_istore_n (lv' := [(3, .int v_10), (0, .ref (ad 70)), (1, .int a), (2, .int b)]) hx hb dX4_next_27 rfl hl (by decide) rfl (fun ls hl => ?_)
      refine lv_iload_n hx hb dX4_next_28 rfl (lv_at hl 0 rfl) ?_
      refine g_callSi (va_runSN (As := [.int v_10]) (rest := []) ⟨hx, hb, hml, hown, hts⟩ (c_X10_isCell l v_10) ⟨va_cnB 1 hts gX4_next_X10_isCell_n23 rfl rfl rfl (hNw (.methodLinkNest RX4 23 yX10_isCell "FormationPlanner") (by decide +kernel)) lk0 (by decide +kernel) ⟨Nat.le_of_ble_eq_true rfl, Nat.le_of_ble_eq_true rfl⟩, lk1, trivial⟩ (g_preT) rfl rfl hl.1 rfl (lv_room (Nat.le_of_ble_eq_true rfl)) dX4_next_29 ⟨Nat.zero_le _, Nat.zero_le _⟩) (fun r_11 w_11 => ?_)
      try dsimp only at w_11
      refine lv_if_eq (tgt := 51) hx hb dX4_next_32 (by decide) (fun c_12 => ?_) (fun c_12 => ?_)
      · skip
        have q_12 : r_11.toInt = (0 : Int) := i_eq2 (rfl : r_11.toInt = r_11.toInt) (show (0 : Int32).toInt = (0 : Int) from rfl) c_12
        refine lv_iconst (v := (-1)) hx hb dX4_next_51 (by decide) ?_
        rw [hQ]
        exact W.iret (v := (-1)) hx hb hr (fun t ht hW => ⟨(-1), rfl, trivial, ht⟩) (fun q h => by cases h) dX4_next_52
      · skip
        have q_12 : r_11.toInt ≠ (0 : Int) := i_ne2 (rfl : r_11.toInt = r_11.toInt) (show (0 : Int32).toInt = (0 : Int) from rfl) c_12
        refine lv_aload_n hx hb dX4_next_35 rfl (lv_at hl 1 rfl) ?_
        refine va_get (D := D) (ci := 4) (v := .ref (ad 1)) (C := RX4) (T := TX4) (N := 2) hx hb hts inX4 hown hK hP 70 (g_at4 (Nat.le_of_ble_eq_true rfl) rfl) rfl 0 (by decide) lk4 (fun _ h9 => h9) rfl dX4_next_36 ?_
        refine va_get (D := D) (ci := 8) (v := .ref (ad 3)) (C := RX8) (T := TX8) (N := 5) hx hb hts inX8 hown hK hP 1 (g_at8 (Nat.le_of_ble_eq_true rfl) rfl) rfl 1 (by decide) lk5 (fun _ h9 => h9) rfl dX4_next_39 ?_
        refine lv_iload_n hx hb dX4_next_42 rfl (lv_at hl 0 rfl) ?_
        refine va_iald hx hb hK hP 3 0 (g_at12 (Nat.le_of_ble_eq_true rfl) rfl) rfl (g_in (N := 108) (rfl : v_10.toInt = v_10.toInt) rfl (by omega) (by omega)) dX4_next_43 ?_
        refine lv_topi (fun v_13 ev_13 => ?_)
        refine lv_if_ne (tgt := 51) hx hb dX4_next_44 (by decide) (fun c_14 => ?_) (fun c_14 => ?_)
        · skip
          have q_14 : v_13.toInt ≠ (0 : Int) := i_ne2 (rfl : v_13.toInt = v_13.toInt) (show (0 : Int32).toInt = (0 : Int) from rfl) c_14
          refine lv_iconst (v := (-1)) hx hb dX4_next_51 (by decide) ?_
          rw [hQ]
          exact W.iret (v := (-1)) hx hb hr (fun t ht hW => ⟨(-1), rfl, trivial, ht⟩) (fun q h => by cases h) dX4_next_52
        · skip
          have q_14 : v_13.toInt = (0 : Int) := i_eq2 (rfl : v_13.toInt = v_13.toInt) (show (0 : Int32).toInt = (0 : Int) from rfl) c_14
          refine lv_iload_n hx hb dX4_next_47 rfl (lv_at hl 0 rfl) ?_
          refine lv_goto (tgt := 52) hx hb dX4_next_48 (by decide) ?_
          rw [hQ]
          exact W.iret (v := v_10) hx hb hr (fun t ht hW => ⟨v_10, rfl, trivial, ht⟩) (fun q h => by cases h) dX4_next_52
    · skip
      have q_4 : r_3.toInt = (0 : Int) := i_eq2 (rfl : r_3.toInt = r_3.toInt) (show (0 : Int32).toInt = (0 : Int) from rfl) c_4
      refine lv_iconst (v := (-1)) hx hb dX4_next_14 (by decide) ?_
      rw [hQ]
      exact W.iret (v := (-1)) hx hb hr (fun t ht hW => ⟨(-1), rfl, trivial, ht⟩) (fun q h => by cases h) dX4_next_15
set_option maxHeartbeats 4000000 in
set_option maxRecDepth 100000 in
theorem c_X4_ticks (l : Launch) (D : va_G) (cy : Nat → ClassId) (ad : Nat → Nat) (hI : gInj ad) (sz : Nat) (iv : gIv) (ar : gAr) (a : Int32) (b : Int32)  : Met l yX4_ticks wsX4_ticks ({ frames := 1, cells := 0, slots := 0, locals := 20 } : Room) (va_Pc [.ref (ad 70), .int a, .int b] (gPre D cy ad sz iv ar)) (vp_Si (fun r => True)) 0 0 (fun _ => False) := by
  refine Met.ofW (cc := cX4_ticks) (maxL := 4) (ret := (some .int)) (by decide) rfl ?_
  intro p e s m args below meth c s₁ B hml hv
  obtain ⟨rfl, rfl, hP, hK, hSt, hNw⟩ := hv
  have hx := B.exec
  have hb := B.bytes
  have hr := B.returns
  have hts := atoms_spec (ws := wsX4_ticks) B.pre
  have hown : s.vm.findClass RX4 = some m.cls := findClass_of_methodNamed B.named
  have hlocks := B.notSynchronized
  have hS : va_S (gA ad s.heap.size) s.heap s.heap [] := va_S.rf
  have inX4 : ∀ w ∈ u_ws RX4 TX4 2, w ∈ wsX4_ticks := by decide +kernel
  have inX8 : ∀ w ∈ u_ws RX8 TX8 5, w ∈ wsX4_ticks := by decide +kernel
  have lk0 := hts (.initialized RX10) (by decide +kernel)
  have lk1 := hts (.static yX10_isCell) (by decide +kernel)
  have lk2 := hts (.static yX10_isAction) (by decide +kernel)
  have lk3 := hts (.fieldLink RX4 15 "FormationPlanner$Lattice" "scene" "LFormationPlanner$Scene;") (by decide +kernel)
  have lk4 := hts (.fieldLink RX4 35 "FormationPlanner$Scene" "winds" "[I") (by decide +kernel)
  have hl := lv_entry ([.ref (ad 70), .int a, .int b]) (n := 4) (Nat.le_of_ble_eq_true rfl)
  rw [lg_entry_eq]
  generalize (lg_sl ([.ref (ad 70), .int a, .int b]) ++ List.replicate (4 - (lg_sl ([.ref (ad 70), .int a, .int b])).length) Slot.unset).toArray = ls at hl ⊢
  have hl : lv_has ls 4 [(0, .ref (ad 70)), (1, .int a), (2, .int b)] := hl
  obtain ⟨Q, hQ⟩ : ∃ Q, Q = MQ below (vp_Si (fun r => True)) (([.ref (ad 70), .int a, .int b] : List Value).toArray) s 0 0 (fun _ => False) := ⟨_, rfl⟩
  rw [← hQ]
  refine lv_iload_n hx hb dX4_ticks_0 rfl (lv_at hl 1 rfl) ?_
  refine g_callSi (va_runSN (As := [.int a]) (rest := []) ⟨hx, hb, hml, hown, hts⟩ (c_X10_isCell l a) ⟨va_cnB 1 hts gX4_ticks_X10_isCell_n23 rfl rfl rfl (hNw (.methodLinkNest RX4 23 yX10_isCell "FormationPlanner") (by decide +kernel)) lk0 (by decide +kernel) ⟨Nat.le_of_ble_eq_true rfl, Nat.le_of_ble_eq_true rfl⟩, lk1, trivial⟩ (g_preT) rfl rfl hl.1 rfl (lv_room (Nat.le_of_ble_eq_true rfl)) dX4_ticks_1 ⟨Nat.zero_le _, Nat.zero_le _⟩) (fun r_1 w_1 => ?_)
  try dsimp only at w_1
  refine lv_if_eq (tgt := 14) hx hb dX4_ticks_4 (by decide) (fun c_2 => ?_) (fun c_2 => ?_)
  · skip
    have q_2 : r_1.toInt = (0 : Int) := i_eq2 (rfl : r_1.toInt = r_1.toInt) (show (0 : Int32).toInt = (0 : Int) from rfl) c_2
    refine lv_iconst (v := 1) hx hb dX4_ticks_14 (by decide) ?_
    rw [hQ]
    exact W.iret (v := 1) hx hb hr (fun t ht hW => ⟨1, rfl, trivial, ht⟩) (fun q h => by cases h) dX4_ticks_15
  · skip
    have q_2 : r_1.toInt ≠ (0 : Int) := i_ne2 (rfl : r_1.toInt = r_1.toInt) (show (0 : Int32).toInt = (0 : Int) from rfl) c_2
    refine lv_iload_n hx hb dX4_ticks_7 rfl (lv_at hl 2 rfl) ?_
    refine g_callSi (va_runSN (As := [.int b]) (rest := []) ⟨hx, hb, hml, hown, hts⟩ (c_X10_isAction l b) ⟨va_cnB 1 hts gX4_ticks_X10_isAction_n27 rfl rfl rfl (hNw (.methodLinkNest RX4 27 yX10_isAction "FormationPlanner") (by decide +kernel)) lk0 (by decide +kernel) ⟨Nat.le_of_ble_eq_true rfl, Nat.le_of_ble_eq_true rfl⟩, lk2, trivial⟩ (g_preT) rfl rfl hl.1 rfl (lv_room (Nat.le_of_ble_eq_true rfl)) dX4_ticks_8 ⟨Nat.zero_le _, Nat.zero_le _⟩) (fun r_3 w_3 => ?_)
    try dsimp only at w_3
    refine lv_if_ne (tgt := 16) hx hb dX4_ticks_11 (by decide) (fun c_4 => ?_) (fun c_4 => ?_)
    · skip
      have q_4 : r_3.toInt ≠ (0 : Int) := i_ne2 (rfl : r_3.toInt = r_3.toInt) (show (0 : Int32).toInt = (0 : Int) from rfl) c_4
      refine lv_aload_n hx hb dX4_ticks_16 rfl (lv_at hl 0 rfl) ?_
      refine va_get (D := D) (ci := 4) (v := .ref (ad 1)) (C := RX4) (T := TX4) (N := 2) hx hb hts inX4 hown hK hP 70 (g_at4 (Nat.le_of_ble_eq_true rfl) rfl) rfl 0 (by decide) lk3 (fun _ h9 => h9) rfl dX4_ticks_17 ?_
      refine va_get (D := D) (ci := 8) (v := .ref (ad 2)) (C := RX8) (T := TX8) (N := 5) hx hb hts inX8 hown hK hP 1 (g_at8 (Nat.le_of_ble_eq_true rfl) rfl) rfl 0 (by decide) lk4 (fun _ h9 => h9) rfl dX4_ticks_20 ?_
      refine lv_iload_n hx hb dX4_ticks_23 rfl (lv_at hl 1 rfl) ?_
      refine lv_bipush (v := 36) hx hb dX4_ticks_24 (by decide) ?_
      refine lv_idiv hx hb dX4_ticks_26 (by decide) ?_
      refine lv_topi (fun v_5 ev_5 => ?_)
      have tv_5 : v_5.toInt = a.toInt / (36 : Int) := i_div (rfl : a.toInt = a.toInt) (show (36 : Int32).toInt = (36 : Int) from rfl) (by omega) (by omega) ev_5
      refine va_iald hx hb hK hP 2 0 (g_at12 (Nat.le_of_ble_eq_true rfl) rfl) rfl (g_in (N := 3) (rfl : v_5.toInt = v_5.toInt) rfl (by omega) (by omega)) dX4_ticks_27 ?_
      refine lv_topi (fun v_6 ev_6 => ?_)
      refine lv_istore_n (lv' := [(3, .int v_6), (0, .ref (ad 70)), (1, .int a), (2, .int b)]) hx hb dX4_ticks_28 rfl hl (by decide) rfl (fun ls hl => ?_)
      refine lv_iload_n hx hb dX4_ticks_29 rfl (lv_at hl 0 rfl) ?_
      refine lv_if_eq (tgt := 46) hx hb dX4_ticks_30 (by decide) (fun c_7 => ?_) (fun c_7 => ?_)
      · skip
        have q_7 : v_6.toInt = (0 : Int) := i_eq2 (rfl : v_6.toInt = v_6.toInt) (show (0 : Int32).toInt = (0 : Int) from rfl) c_7
        refine lv_iconst (v := 1) hx hb dX4_ticks_46 (by decide) ?_
        rw [hQ]
        exact W.iret (v := 1) hx hb hr (fun t ht hW => ⟨1, rfl, trivial, ht⟩) (fun q h => by cases h) dX4_ticks_47
      · skip
        have q_7 : v_6.toInt ≠ (0 : Int) := i_ne2 (rfl : v_6.toInt = v_6.toInt) (show (0 : Int32).toInt = (0 : Int) from rfl) c_7
        refine lv_iload_n hx hb dX4_ticks_33 rfl (lv_at hl 0 rfl) ?_
        obtain ⟨t_8, hz_8, ht_8⟩ := hSt.1
        refine va_getsN hx hb hz_8 hS hown (va_Nw.use (A := (([.ref (ad 70), .int a, .int b] : List Value).toArray)) rfl (hNw (.fieldLinkNest RX4 38 "FormationPlanner" "BACK" "[I" "FormationPlanner") (by decide +kernel))) (fun _ h => h) dX4_ticks_34 ?_
        refine lv_iload_n hx hb dX4_ticks_37 rfl (lv_at hl 3 rfl) ?_
        refine va_ti hx hb ht_8 hS (N := 7) (g_in (rfl : b.toInt = b.toInt) rfl (by omega) (by omega)) rfl dX4_ticks_38 ?_
        refine lv_topi (fun v_10 ev_10 => ?_)
        refine lv_icmp_ne (tgt := 46) hx hb dX4_ticks_39 (by decide) (fun c_11 => ?_) (fun c_11 => ?_)
        · skip
          have q_11 : v_6.toInt ≠ v_10.toInt := i_ne2 (rfl : v_6.toInt = v_6.toInt) (rfl : v_10.toInt = v_10.toInt) c_11
          refine lv_iconst (v := 1) hx hb dX4_ticks_46 (by decide) ?_
          rw [hQ]
          exact W.iret (v := 1) hx hb hr (fun t ht hW => ⟨1, rfl, trivial, ht⟩) (fun q h => by cases h) dX4_ticks_47
        · skip
          have q_11 : v_6.toInt = v_10.toInt := i_eq2 (rfl : v_6.toInt = v_6.toInt) (rfl : v_10.toInt = v_10.toInt) c_11
          refine lv_iconst (v := 2) hx hb dX4_ticks_42 (by decide) ?_
          refine lv_goto (tgt := 47) hx hb dX4_ticks_43 (by decide) ?_
          rw [hQ]
          exact W.iret (v := 2) hx hb hr (fun t ht hW => ⟨2, rfl, trivial, ht⟩) (fun q h => by cases h) dX4_ticks_47
    · skip
      have q_4 : r_3.toInt = (0 : Int) := i_eq2 (rfl : r_3.toInt = r_3.toInt) (show (0 : Int32).toInt = (0 : Int) from rfl) c_4
      refine lv_iconst (v := 1) hx hb dX4_ticks_14 (by decide) ?_
      rw [hQ]
      exact W.iret (v := 1) hx hb hr (fun t ht hW => ⟨1, rfl, trivial, ht⟩) (fun q h => by cases h) dX4_ticks_15
set_option maxHeartbeats 4000000 in
set_option maxRecDepth 100000 in
theorem c_X9_timeFrom (l : Launch) (D : va_G) (cy : Nat → ClassId) (ad : Nat → Nat) (hI : gInj ad) (sz : Nat) (iv : gIv) (ar : gAr) (k : Nat) (hk : k < 135) (hd : kd k = 9) (a : Int32)  : Met l yX9_timeFrom wsX9_timeFrom ({ frames := 1, cells := 0, slots := 0, locals := 20 } : Room) (va_Pc [.ref (ad k), .int a] (gPre D cy ad sz iv ar)) (vp_Si (fun r => True)) 0 0 (fun _ => False) := by
  refine Met.ofW (cc := cX9_timeFrom) (maxL := 2) (ret := (some .int)) (by decide) rfl ?_
  intro p e s m args below meth c s₁ B hml hv
  obtain ⟨rfl, rfl, hP, hK, hSt, hNw⟩ := hv
  have hx := B.exec
  have hb := B.bytes
  have hr := B.returns
  have hts := atoms_spec (ws := wsX9_timeFrom) B.pre
  have hown : s.vm.findClass RX9 = some m.cls := findClass_of_methodNamed B.named
  have hlocks := B.notSynchronized
  have hS : va_S (gA ad s.heap.size) s.heap s.heap [] := va_S.rf
  have inX9 : ∀ w ∈ u_ws RX9 TX9 2, w ∈ wsX9_timeFrom := by decide +kernel
  have lk0 := hts (.initialized RX10) (by decide +kernel)
  have lk1 := hts (.static yX10_isCell) (by decide +kernel)
  have lk2 := hts (.fieldLink RX9 9 "FormationPlanner$TimesTo" "times" "[I") (by decide +kernel)
  have hl := lv_entry ([.ref (ad k), .int a]) (n := 2) (Nat.le_of_ble_eq_true rfl)
  rw [lg_entry_eq]
  generalize (lg_sl ([.ref (ad k), .int a]) ++ List.replicate (2 - (lg_sl ([.ref (ad k), .int a])).length) Slot.unset).toArray = ls at hl ⊢
  have hl : lv_has ls 2 [(0, .ref (ad k)), (1, .int a)] := hl
  obtain ⟨Q, hQ⟩ : ∃ Q, Q = MQ below (vp_Si (fun r => True)) (([.ref (ad k), .int a] : List Value).toArray) s 0 0 (fun _ => False) := ⟨_, rfl⟩
  rw [← hQ]
  refine lv_iload_n hx hb dX9_timeFrom_0 rfl (lv_at hl 1 rfl) ?_
  refine g_callSi (va_runSN (As := [.int a]) (rest := []) ⟨hx, hb, hml, hown, hts⟩ (c_X10_isCell l a) ⟨va_cnB 1 hts gX9_timeFrom_X10_isCell_n25 rfl rfl rfl (hNw (.methodLinkNest RX9 25 yX10_isCell "FormationPlanner") (by decide +kernel)) lk0 (by decide +kernel) ⟨Nat.le_of_ble_eq_true rfl, Nat.le_of_ble_eq_true rfl⟩, lk1, trivial⟩ (g_preT) rfl rfl hl.1 rfl (lv_room (Nat.le_of_ble_eq_true rfl)) dX9_timeFrom_1 ⟨Nat.zero_le _, Nat.zero_le _⟩) (fun r_1 w_1 => ?_)
  try dsimp only at w_1
  refine lv_if_eq (tgt := 16) hx hb dX9_timeFrom_4 (by decide) (fun c_2 => ?_) (fun c_2 => ?_)
  · skip
    have q_2 : r_1.toInt = (0 : Int) := i_eq2 (rfl : r_1.toInt = r_1.toInt) (show (0 : Int32).toInt = (0 : Int) from rfl) c_2
    refine lv_iconst (v := (-1)) hx hb dX9_timeFrom_16 (by decide) ?_
    rw [hQ]
    exact W.iret (v := (-1)) hx hb hr (fun t ht hW => ⟨(-1), rfl, trivial, ht⟩) (fun q h => by cases h) dX9_timeFrom_17
  · skip
    have q_2 : r_1.toInt ≠ (0 : Int) := i_ne2 (rfl : r_1.toInt = r_1.toInt) (show (0 : Int32).toInt = (0 : Int) from rfl) c_2
    refine lv_aload_n hx hb dX9_timeFrom_7 rfl (lv_at hl 0 rfl) ?_
    refine va_get (D := D) (ci := 9) (v := .ref (ad (k + 1))) (C := RX9) (T := TX9) (N := 2) hx hb hts inX9 hown hK hP k (g_at9 hk hd) rfl 1 (by decide) lk2 (fun _ h9 => h9) rfl dX9_timeFrom_8 ?_
    refine lv_iload_n hx hb dX9_timeFrom_11 rfl (lv_at hl 1 rfl) ?_
    refine va_iald hx hb hK hP (k + 1) 0 (g_at12 (g_k9_1 hk hd).1 (g_k9_1 hk hd).2) rfl (g_in (N := 108) (rfl : a.toInt = a.toInt) (g_l9_1 hk hd) (by omega) (by omega)) dX9_timeFrom_12 ?_
    refine lv_topi (fun v_3 ev_3 => ?_)
    refine lv_goto (tgt := 17) hx hb dX9_timeFrom_13 (by decide) ?_
    rw [hQ]
    exact W.iret (v := v_3) hx hb hr (fun t ht hW => ⟨v_3, rfl, trivial, ht⟩) (fun q h => by cases h) dX9_timeFrom_17
set_option maxHeartbeats 4000000 in
set_option maxRecDepth 100000 in
theorem c_X9_spreadBack (l : Launch) (D : va_G) (cy : Nat → ClassId) (ad : Nat → Nat) (hI : gInj ad) (sz : Nat) (iv : gIv) (ar : gAr) (k : Nat) (hk : k < 135) (hd : kd k = 9) (a : Int32) (b : Int32)  : Met l yX9_spreadBack wsX9_spreadBack ({ frames := 2, cells := 0, slots := 0, locals := 43 } : Room) (va_Pc [.ref (ad k), .int a, .int b] (gPre D cy ad sz iv ar)) (va_Qi (fun (r : Int32) (u : gIv × gAr) => u.1 = iv) (gPost D cy ad) (gA ad sz)) 0 0 (gA ad sz) := by
  refine Met.ofW (cc := cX9_spreadBack) (maxL := 7) (ret := (some .int)) (by decide) rfl ?_
  intro p e s m args below meth c s₁ B hml hv
  obtain ⟨rfl, rfl, hP, hK, hSt, hNw⟩ := hv
  have hx := B.exec
  have hb := B.bytes
  have hr := B.returns
  have hts := atoms_spec (ws := wsX9_spreadBack) B.pre
  have hown : s.vm.findClass RX9 = some m.cls := findClass_of_methodNamed B.named
  have hlocks := B.notSynchronized
  have hS : va_S (gA ad s.heap.size) s.heap s.heap [] := va_S.rf
  have inX9 : ∀ w ∈ u_ws RX9 TX9 2, w ∈ wsX9_spreadBack := by decide +kernel
  have lk0 := hts (.fieldLink RX9 15 "FormationPlanner$TimesTo" "lattice" "LFormationPlanner$Lattice;") (by decide +kernel)
  have lk1 := hts (.initialized RX10) (by decide +kernel)
  have lk2 := hts (.static yX10_isCell) (by decide +kernel)
  have lk3 := hts (.fieldLink RX9 9 "FormationPlanner$TimesTo" "times" "[I") (by decide +kernel)
  have lk4 := hts (.methodLink RX9 44 Lib.Math.max.name) (by decide +kernel)
  have lk5 := hts (.static Lib.Math.max.name) (by decide +kernel)
  have lk6 := hts (.initialized "java/lang/Math") (by decide +kernel)
  have lk7 := hts (.code Lib.Math.max.name Lib.Math.max.code 2 (some .int)) (by decide +kernel)
  have hl := lv_entry ([.ref (ad k), .int a, .int b]) (n := 7) (Nat.le_of_ble_eq_true rfl)
  rw [lg_entry_eq]
  generalize (lg_sl ([.ref (ad k), .int a, .int b]) ++ List.replicate (7 - (lg_sl ([.ref (ad k), .int a, .int b])).length) Slot.unset).toArray = ls at hl ⊢
  have hl : lv_has ls 7 [(0, .ref (ad k)), (1, .int a), (2, .int b)] := hl
  obtain ⟨Q, hQ⟩ : ∃ Q, Q = MQ below (va_Qi (fun (r : Int32) (u : gIv × gAr) => u.1 = iv) (gPost D cy ad) (gA ad s.heap.size)) (([.ref (ad k), .int a, .int b] : List Value).toArray) s 0 0 (gA ad s.heap.size) := ⟨_, rfl⟩
  rw [← hQ]
  have hk72 := g_t9 hk hd
  refine lv_iload_n hx hb dX9_spreadBack_0 rfl (lv_at hl 2 rfl) ?_
  refine lv_istore_n (lv' := [(3, .int b), (0, .ref (ad k)), (1, .int a), (2, .int b)]) hx hb dX9_spreadBack_1 rfl hl (by decide) rfl (fun ls hl => ?_)
  refine lv_iconst (v := 1) hx hb dX9_spreadBack_2 (by decide) ?_
  refine lv_istore (lv' := [(4, .int 1), (3, .int b), (0, .ref (ad k)), (1, .int a), (2, .int b)]) hx hb dX9_spreadBack_3 hl (by decide) rfl (fun ls hl => ?_)
  have loop4 : ∀ (n : Nat) (x4_1 : Int32) (x3_2 : Int32) (ar_3 : gAr) (H : Heap) (locs : List Loc) (ls : Array Slot), ((7 - (x4_1.toInt)).toNat) < n → (1 ≤ (x4_1.toInt) ∧ (x4_1.toInt) ≤ 7) → va_P D vwCl (GW cy ad iv ar_3) H → va_S (gA ad s.heap.size) s.heap H locs → lv_has ls 7 [(4, .int x4_1), (3, .int x3_2), (0, .ref (ad k)), (1, .int a), (2, .int b)] → W p l e (headSpec wsX9_spreadBack (({ frames := 2, cells := 0, slots := 0, locals := 43 } : Room))).room s m (([.ref (ad k), .int a, .int b] : List Value).toArray) below meth c H locs 0 0 Q (F0 m 5 ls []) := by
    intro n
    induction n with
    | zero => intro x4_1 x3_2 ar_3 H locs ls hm; omega
    | succ n ih4 =>
      intro x4_1 x3_2 ar_3 H locs ls hm hg0 hP hS hl
      refine lv_iload hx hb dX9_spreadBack_5 (lv_at hl 0 rfl) ?_
      refine lv_bipush (v := 7) hx hb dX9_spreadBack_7 (by decide) ?_
      refine lv_icmp_ge (tgt := 96) hx hb dX9_spreadBack_9 (by decide) (fun c_5 => ?_) (fun c_5 => ?_)
      · skip
        have q_5 : (7 : Int) ≤ x4_1.toInt := i_le2 (show (7 : Int32).toInt = (7 : Int) from rfl) (rfl : x4_1.toInt = x4_1.toInt) c_5
        refine lv_iload_n hx hb dX9_spreadBack_96 rfl (lv_at hl 1 rfl) ?_
        rw [hQ]
        exact W.iret (v := x3_2) hx hb hr (fun t ht hW => ⟨⟨x3_2, (iv, ar_3), rfl, rfl, by show va_P _ _ _ _; rw [ht]; exact hP⟩, hS.F ht⟩) hS.2.2 dX9_spreadBack_97
      · skip
        have q_5 : x4_1.toInt < (7 : Int) := i_nle2 (show (7 : Int32).toInt = (7 : Int) from rfl) (rfl : x4_1.toInt = x4_1.toInt) c_5
        refine lv_aload_n hx hb dX9_spreadBack_12 rfl (lv_at hl 2 rfl) ?_
        refine va_get (D := D) (ci := 9) (v := .ref (ad 70)) (C := RX9) (T := TX9) (N := 2) hx hb hts inX9 hown hK hP k (g_at9 hk hd) rfl 0 (by decide) lk0 (fun _ h9 => h9) rfl dX9_spreadBack_13 ?_
        refine lv_iload_n hx hb dX9_spreadBack_16 rfl (lv_at hl 3 rfl) ?_
        obtain ⟨t_6, hz_6, ht_6⟩ := hSt.1
        refine va_getsN hx hb hz_6 hS hown (va_Nw.use (A := (([.ref (ad k), .int a, .int b] : List Value).toArray)) rfl (hNw (.fieldLinkNest RX9 59 "FormationPlanner" "BACK" "[I" "FormationPlanner") (by decide +kernel))) (fun _ h => h) dX9_spreadBack_17 ?_
        refine lv_iload hx hb dX9_spreadBack_20 (lv_at hl 0 rfl) ?_
        refine va_ti hx hb ht_6 hS (N := 7) (g_in (rfl : x4_1.toInt = x4_1.toInt) rfl (by omega) (by omega)) rfl dX9_spreadBack_22 ?_
        refine lv_topi (fun v_8 ev_8 => ?_)
        refine g_callSi (va_runV (As := [.int a, .int v_8]) (rest := []) ⟨hx, hb, hml, hown, hts⟩ (c_X4_next l D cy ad hI _ iv ar_3 a v_8) (cwV 2 hts gX9_spreadBack_X4_next rfl rfl rfl (by decide +kernel) ⟨Nat.le_of_ble_eq_true rfl, Nat.le_of_ble_eq_true rfl⟩) (g_preV hP hK hSt hNw hS (g_at4 (Nat.le_of_ble_eq_true rfl) rfl) rfl) rfl rfl hl.1 rfl (lv_room (Nat.le_of_ble_eq_true rfl)) dX9_spreadBack_23 ⟨Nat.zero_le _, Nat.zero_le _⟩) (fun r_9 w_9 => ?_)
        try dsimp only at w_9
        refine lv_istore (lv' := [(5, .int r_9), (4, .int x4_1), (3, .int x3_2), (0, .ref (ad k)), (1, .int a), (2, .int b)]) hx hb dX9_spreadBack_26 hl (by decide) rfl (fun ls hl => ?_)
        refine lv_iload hx hb dX9_spreadBack_28 (lv_at hl 0 rfl) ?_
        refine g_callSi (va_runSN (As := [.int r_9]) (rest := []) ⟨hx, hb, hml, hown, hts⟩ (c_X10_isCell l r_9) ⟨va_cnB 1 hts gX9_spreadBack_X10_isCell_n25 rfl rfl rfl (hNw (.methodLinkNest RX9 25 yX10_isCell "FormationPlanner") (by decide +kernel)) lk1 (by decide +kernel) ⟨Nat.le_of_ble_eq_true rfl, Nat.le_of_ble_eq_true rfl⟩, lk2, trivial⟩ (g_preT) rfl rfl hl.1 rfl (lv_room (Nat.le_of_ble_eq_true rfl)) dX9_spreadBack_30 ⟨Nat.zero_le _, Nat.zero_le _⟩) (fun r_10 w_10 => ?_)
        try dsimp only at w_10
        refine lv_if_eq (tgt := 90) hx hb dX9_spreadBack_33 (by decide) (fun c_11 => ?_) (fun c_11 => ?_)
        · skip
          have q_11 : r_10.toInt = (0 : Int) := i_eq2 (rfl : r_10.toInt = r_10.toInt) (show (0 : Int32).toInt = (0 : Int) from rfl) c_11
          obtain ⟨x4_12, ex4_12⟩ : ∃ y : Int32, y = x4_1 + 1 := ⟨_, rfl⟩
          have tx4_12 : x4_12.toInt = x4_1.toInt + (1 : Int) := i_add (rfl : x4_1.toInt = x4_1.toInt) (show (1 : Int32).toInt = (1 : Int) from rfl) (by omega) (by omega) ex4_12
          refine lv_iinc (v := x4_12) (lv' := [(4, .int x4_12), (5, .int r_9), (3, .int x3_2), (0, .ref (ad k)), (1, .int a), (2, .int b)]) hx hb dX9_spreadBack_90 hl (k := 1) rfl (by rw [ex4_12]; rfl) (by decide) rfl (fun ls hl => ?_)
          refine lv_goto (tgt := 5) hx hb dX9_spreadBack_93 (by decide) ?_
          exact ih4 x4_12 x3_2 ar_3 _ _ _ (by omega) (by omega) hP hS (lv_sub hl [0, 2, 3, 4, 5] rfl)
        · skip
          have q_11 : r_10.toInt ≠ (0 : Int) := i_ne2 (rfl : r_10.toInt = r_10.toInt) (show (0 : Int32).toInt = (0 : Int) from rfl) c_11
          refine lv_iload_n hx hb dX9_spreadBack_36 rfl (lv_at hl 5 rfl) ?_
          refine lv_aload_n hx hb dX9_spreadBack_37 rfl (lv_at hl 3 rfl) ?_
          refine va_get (D := D) (ci := 9) (v := .ref (ad 70)) (C := RX9) (T := TX9) (N := 2) hx hb hts inX9 hown hK hP k (g_at9 hk hd) rfl 0 (by decide) lk0 (fun _ h9 => h9) rfl dX9_spreadBack_38 ?_
          refine lv_iload hx hb dX9_spreadBack_41 (lv_at hl 0 rfl) ?_
          refine lv_iload hx hb dX9_spreadBack_43 (lv_at hl 1 rfl) ?_
          refine g_callSi (va_runV (As := [.int r_9, .int x4_1]) (rest := [.int b]) ⟨hx, hb, hml, hown, hts⟩ (c_X4_ticks l D cy ad hI _ iv ar_3 r_9 x4_1) (cwV 2 hts gX9_spreadBack_X4_ticks rfl rfl rfl (by decide +kernel) ⟨Nat.le_of_ble_eq_true rfl, Nat.le_of_ble_eq_true rfl⟩) (g_preV hP hK hSt hNw hS (g_at4 (Nat.le_of_ble_eq_true rfl) rfl) rfl) rfl rfl hl.1 rfl (lv_room (Nat.le_of_ble_eq_true rfl)) dX9_spreadBack_45 ⟨Nat.zero_le _, Nat.zero_le _⟩) (fun r_13 w_13 => ?_)
          try dsimp only at w_13
          refine lv_iadd hx hb dX9_spreadBack_48 ?_
          refine lv_topi (fun v_14 ev_14 => ?_)
          refine lv_istore (lv' := [(6, .int v_14), (5, .int r_9), (4, .int x4_1), (3, .int x3_2), (0, .ref (ad k)), (1, .int a), (2, .int b)]) hx hb dX9_spreadBack_49 hl (by decide) rfl (fun ls hl => ?_)
          refine lv_aload_n hx hb dX9_spreadBack_51 rfl (lv_at hl 4 rfl) ?_
          refine va_get (D := D) (ci := 9) (v := .ref (ad (k + 1))) (C := RX9) (T := TX9) (N := 2) hx hb hts inX9 hown hK hP k (g_at9 hk hd) rfl 1 (by decide) lk3 (fun _ h9 => h9) rfl dX9_spreadBack_52 ?_
          refine lv_iload hx hb dX9_spreadBack_55 (lv_at hl 1 rfl) ?_
          refine va_iald hx hb hK hP (k + 1) 0 (g_at12 (g_k9_1 hk hd).1 (g_k9_1 hk hd).2) rfl (g_in (N := 108) (rfl : r_9.toInt = r_9.toInt) (g_l9_1 hk hd) (by omega) (by omega)) dX9_spreadBack_57 ?_
          refine lv_topi (fun v_15 ev_15 => ?_)
          refine lv_iconst (v := (-1)) hx hb dX9_spreadBack_58 (by decide) ?_
          refine lv_icmp_eq (tgt := 74) hx hb dX9_spreadBack_59 (by decide) (fun c_16 => ?_) (fun c_16 => ?_)
          · skip
            have q_16 : v_15.toInt = (-1 : Int) := i_eq2 (rfl : v_15.toInt = v_15.toInt) (show ((-1) : Int32).toInt = (-1 : Int) from rfl) c_16
            refine lv_aload_n hx hb dX9_spreadBack_74 rfl (lv_at hl 4 rfl) ?_
            refine va_get (D := D) (ci := 9) (v := .ref (ad (k + 1))) (C := RX9) (T := TX9) (N := 2) hx hb hts inX9 hown hK hP k (g_at9 hk hd) rfl 1 (by decide) lk3 (fun _ h9 => h9) rfl dX9_spreadBack_75 ?_
            refine lv_iload hx hb dX9_spreadBack_78 (lv_at hl 1 rfl) ?_
            refine lv_iload hx hb dX9_spreadBack_80 (lv_at hl 0 rfl) ?_
            refine va_iast hx hb hK hP (gD hI) hS (k + 1) 0 (g_at12 (g_k9_1 hk hd).1 (g_k9_1 hk hd).2) rfl (g_in (N := 108) (rfl : r_9.toInt = r_9.toInt) (g_l9_1 hk hd) (by omega) (by omega)) dX9_spreadBack_82 (fun H locs hP _ hS => ?_)
            rw [g_pt12 (g_k9_1 hk hd).1 (g_k9_1 hk hd).2] at hP
            obtain ⟨ar_17, ear_17⟩ : ∃ z : gAr, z = va_up ar_3 (k + 1) (upd (ar_3 (k + 1)) r_9.toNatClampNeg v_14) := ⟨_, rfl⟩
            rw [← ear_17] at hP
            refine lv_iload_n hx hb dX9_spreadBack_83 rfl (lv_at hl 3 rfl) ?_
            refine lv_iload hx hb dX9_spreadBack_84 (lv_at hl 0 rfl) ?_
            refine va_mmax (rest := []) hx hb (hml.trans hl.1.symm) hown lk4 lk5 lk6 lk7 (Nat.le_of_ble_eq_true rfl) (Nat.le_of_ble_eq_true rfl) (Nat.zero_le _) (Nat.zero_le _) dX9_spreadBack_86 ?_
            refine lv_topi (fun v_18 ev_18 => ?_)
            have tv_18 : v_18.toInt = max x3_2.toInt v_14.toInt := i_max (rfl : x3_2.toInt = x3_2.toInt) (rfl : v_14.toInt = v_14.toInt) ev_18
            refine lv_istore_n (lv' := [(3, .int v_18), (6, .int v_14), (5, .int r_9), (4, .int x4_1), (0, .ref (ad k)), (1, .int a), (2, .int b)]) hx hb dX9_spreadBack_89 rfl hl (by decide) rfl (fun ls hl => ?_)
            obtain ⟨x4_19, ex4_19⟩ : ∃ y : Int32, y = x4_1 + 1 := ⟨_, rfl⟩
            have tx4_19 : x4_19.toInt = x4_1.toInt + (1 : Int) := i_add (rfl : x4_1.toInt = x4_1.toInt) (show (1 : Int32).toInt = (1 : Int) from rfl) (by omega) (by omega) ex4_19
            refine lv_iinc (v := x4_19) (lv' := [(4, .int x4_19), (3, .int v_18), (6, .int v_14), (5, .int r_9), (0, .ref (ad k)), (1, .int a), (2, .int b)]) hx hb dX9_spreadBack_90 hl (k := 3) rfl (by rw [ex4_19]; rfl) (by decide) rfl (fun ls hl => ?_)
            refine lv_goto (tgt := 5) hx hb dX9_spreadBack_93 (by decide) ?_
            exact ih4 x4_19 v_18 ar_17 _ _ _ (by omega) (by omega) hP hS (lv_sub hl [0, 1, 4, 5, 6] rfl)
          · skip
            have q_16 : v_15.toInt ≠ (-1 : Int) := i_ne2 (rfl : v_15.toInt = v_15.toInt) (show ((-1) : Int32).toInt = (-1 : Int) from rfl) c_16
            refine lv_iload hx hb dX9_spreadBack_62 (lv_at hl 0 rfl) ?_
            refine lv_aload_n hx hb dX9_spreadBack_64 rfl (lv_at hl 4 rfl) ?_
            refine va_get (D := D) (ci := 9) (v := .ref (ad (k + 1))) (C := RX9) (T := TX9) (N := 2) hx hb hts inX9 hown hK hP k (g_at9 hk hd) rfl 1 (by decide) lk3 (fun _ h9 => h9) rfl dX9_spreadBack_65 ?_
            refine lv_iload hx hb dX9_spreadBack_68 (lv_at hl 1 rfl) ?_
            refine va_iald hx hb hK hP (k + 1) 0 (g_at12 (g_k9_1 hk hd).1 (g_k9_1 hk hd).2) rfl (g_in (N := 108) (rfl : r_9.toInt = r_9.toInt) (g_l9_1 hk hd) (by omega) (by omega)) dX9_spreadBack_70 ?_
            refine lv_topi (fun v_20 ev_20 => ?_)
            refine lv_icmp_ge (tgt := 90) hx hb dX9_spreadBack_71 (by decide) (fun c_21 => ?_) (fun c_21 => ?_)
            · skip
              have q_21 : v_20.toInt ≤ v_14.toInt := i_le2 (rfl : v_20.toInt = v_20.toInt) (rfl : v_14.toInt = v_14.toInt) c_21
              obtain ⟨x4_22, ex4_22⟩ : ∃ y : Int32, y = x4_1 + 1 := ⟨_, rfl⟩
              have tx4_22 : x4_22.toInt = x4_1.toInt + (1 : Int) := i_add (rfl : x4_1.toInt = x4_1.toInt) (show (1 : Int32).toInt = (1 : Int) from rfl) (by omega) (by omega) ex4_22
              refine lv_iinc (v := x4_22) (lv' := [(4, .int x4_22), (6, .int v_14), (5, .int r_9), (3, .int x3_2), (0, .ref (ad k)), (1, .int a), (2, .int b)]) hx hb dX9_spreadBack_90 hl (k := 2) rfl (by rw [ex4_22]; rfl) (by decide) rfl (fun ls hl => ?_)
              refine lv_goto (tgt := 5) hx hb dX9_spreadBack_93 (by decide) ?_
              exact ih4 x4_22 x3_2 ar_3 _ _ _ (by omega) (by omega) hP hS (lv_sub hl [0, 3, 4, 5, 6] rfl)
            · skip
              have q_21 : v_14.toInt < v_20.toInt := i_nle2 (rfl : v_20.toInt = v_20.toInt) (rfl : v_14.toInt = v_14.toInt) c_21
              refine lv_aload_n hx hb dX9_spreadBack_74 rfl (lv_at hl 4 rfl) ?_
              refine va_get (D := D) (ci := 9) (v := .ref (ad (k + 1))) (C := RX9) (T := TX9) (N := 2) hx hb hts inX9 hown hK hP k (g_at9 hk hd) rfl 1 (by decide) lk3 (fun _ h9 => h9) rfl dX9_spreadBack_75 ?_
              refine lv_iload hx hb dX9_spreadBack_78 (lv_at hl 1 rfl) ?_
              refine lv_iload hx hb dX9_spreadBack_80 (lv_at hl 0 rfl) ?_
              refine va_iast hx hb hK hP (gD hI) hS (k + 1) 0 (g_at12 (g_k9_1 hk hd).1 (g_k9_1 hk hd).2) rfl (g_in (N := 108) (rfl : r_9.toInt = r_9.toInt) (g_l9_1 hk hd) (by omega) (by omega)) dX9_spreadBack_82 (fun H locs hP _ hS => ?_)
              rw [g_pt12 (g_k9_1 hk hd).1 (g_k9_1 hk hd).2] at hP
              obtain ⟨ar_23, ear_23⟩ : ∃ z : gAr, z = va_up ar_3 (k + 1) (upd (ar_3 (k + 1)) r_9.toNatClampNeg v_14) := ⟨_, rfl⟩
              rw [← ear_23] at hP
              refine lv_iload_n hx hb dX9_spreadBack_83 rfl (lv_at hl 3 rfl) ?_
              refine lv_iload hx hb dX9_spreadBack_84 (lv_at hl 0 rfl) ?_
              refine va_mmax (rest := []) hx hb (hml.trans hl.1.symm) hown lk4 lk5 lk6 lk7 (Nat.le_of_ble_eq_true rfl) (Nat.le_of_ble_eq_true rfl) (Nat.zero_le _) (Nat.zero_le _) dX9_spreadBack_86 ?_
              refine lv_topi (fun v_24 ev_24 => ?_)
              have tv_24 : v_24.toInt = max x3_2.toInt v_14.toInt := i_max (rfl : x3_2.toInt = x3_2.toInt) (rfl : v_14.toInt = v_14.toInt) ev_24
              refine lv_istore_n (lv' := [(3, .int v_24), (6, .int v_14), (5, .int r_9), (4, .int x4_1), (0, .ref (ad k)), (1, .int a), (2, .int b)]) hx hb dX9_spreadBack_89 rfl hl (by decide) rfl (fun ls hl => ?_)
              obtain ⟨x4_25, ex4_25⟩ : ∃ y : Int32, y = x4_1 + 1 := ⟨_, rfl⟩
              have tx4_25 : x4_25.toInt = x4_1.toInt + (1 : Int) := i_add (rfl : x4_1.toInt = x4_1.toInt) (show (1 : Int32).toInt = (1 : Int) from rfl) (by omega) (by omega) ex4_25
              refine lv_iinc (v := x4_25) (lv' := [(4, .int x4_25), (3, .int v_24), (6, .int v_14), (5, .int r_9), (0, .ref (ad k)), (1, .int a), (2, .int b)]) hx hb dX9_spreadBack_90 hl (k := 3) rfl (by rw [ex4_25]; rfl) (by decide) rfl (fun ls hl => ?_)
              refine lv_goto (tgt := 5) hx hb dX9_spreadBack_93 (by decide) ?_
              exact ih4 x4_25 v_24 ar_23 _ _ _ (by omega) (by omega) hP hS (lv_sub hl [0, 1, 4, 5, 6] rfl)
  have zl_26 : (1 : Int32).toInt = (1 : Int) := rfl
  exact loop4 (((7 - ((1 : Int))).toNat) + 1) 1 b ar _ _ _ (by omega) (by omega) hP hS (lv_sub hl [0, 1, 2, 3, 4] rfl)
set_option maxHeartbeats 4000000 in
set_option maxRecDepth 100000 in
theorem c_X9_measure (l : Launch) (D : va_G) (cy : Nat → ClassId) (ad : Nat → Nat) (hI : gInj ad) (sz : Nat) (iv : gIv) (ar : gAr) (k : Nat) (hk : k < 135) (hd : kd k = 9) (a : Int32)  : Met l yX9_measure wsX9_measure ({ frames := 3, cells := 0, slots := 0, locals := 69 } : Room) (va_Pc [.ref (ad k), .int a] (gPre D cy ad sz iv ar)) (va_Qv (fun (u : gIv × gAr) => u.1 = iv) (gPost D cy ad) (gA ad sz)) 0 0 (gA ad sz) := by
  refine Met.ofW (cc := cX9_measure) (maxL := 5) (ret := none) (by decide) rfl ?_
  intro p e s m args below meth c s₁ B hml hv
  obtain ⟨rfl, rfl, hP, hK, hSt, hNw⟩ := hv
  have hx := B.exec
  have hb := B.bytes
  have hr := B.returns
  have hts := atoms_spec (ws := wsX9_measure) B.pre
  have hown : s.vm.findClass RX9 = some m.cls := findClass_of_methodNamed B.named
  have hlocks := B.notSynchronized
  have hS : va_S (gA ad s.heap.size) s.heap s.heap [] := va_S.rf
  have inX4 : ∀ w ∈ u_ws RX4 TX4 2, w ∈ wsX9_measure := by decide +kernel
  have inX8 : ∀ w ∈ u_ws RX8 TX8 5, w ∈ wsX9_measure := by decide +kernel
  have inX9 : ∀ w ∈ u_ws RX9 TX9 2, w ∈ wsX9_measure := by decide +kernel
  have lk0 := hts (.fieldLink RX9 9 "FormationPlanner$TimesTo" "times" "[I") (by decide +kernel)
  have lk1 := hts (.initialized RX10) (by decide +kernel)
  have lk2 := hts (.static yX10_isCell) (by decide +kernel)
  have lk3 := hts (.fieldLink RX9 15 "FormationPlanner$TimesTo" "lattice" "LFormationPlanner$Lattice;") (by decide +kernel)
  have lk4 := hts (.fieldLink RX9 29 "FormationPlanner$Lattice" "scene" "LFormationPlanner$Scene;") (by decide +kernel)
  have lk5 := hts (.fieldLink RX9 35 "FormationPlanner$Scene" "obstacles" "[I") (by decide +kernel)
  have lk6 := hts (.methodLink RX9 44 Lib.Math.max.name) (by decide +kernel)
  have lk7 := hts (.static Lib.Math.max.name) (by decide +kernel)
  have lk8 := hts (.initialized "java/lang/Math") (by decide +kernel)
  have lk9 := hts (.code Lib.Math.max.name Lib.Math.max.code 2 (some .int)) (by decide +kernel)
  have hl := lv_entry ([.ref (ad k), .int a]) (n := 5) (Nat.le_of_ble_eq_true rfl)
  rw [lg_entry_eq]
  generalize (lg_sl ([.ref (ad k), .int a]) ++ List.replicate (5 - (lg_sl ([.ref (ad k), .int a])).length) Slot.unset).toArray = ls at hl ⊢
  have hl : lv_has ls 5 [(0, .ref (ad k)), (1, .int a)] := hl
  obtain ⟨Q, hQ⟩ : ∃ Q, Q = MQ below (va_Qv (fun (u : gIv × gAr) => u.1 = iv) (gPost D cy ad) (gA ad s.heap.size)) (([.ref (ad k), .int a] : List Value).toArray) s 0 0 (gA ad s.heap.size) := ⟨_, rfl⟩
  rw [← hQ]
  have hk72 := g_t9 hk hd
  have hln := g_l9_1 hk hd
  refine lv_aload_n hx hb dX9_measure_0 rfl (lv_at hl 0 rfl) ?_
  refine va_get (D := D) (ci := 9) (v := .ref (ad (k + 1))) (C := RX9) (T := TX9) (N := 2) hx hb hts inX9 hown hK hP k (g_at9 hk hd) rfl 1 (by decide) lk0 (fun _ h9 => h9) rfl dX9_measure_1 ?_
  refine lv_iconst (v := (-1)) hx hb dX9_measure_4 (by decide) ?_
  have zl_1 : ((-1) : Int32).toInt = (-1 : Int) := rfl
  refine g_callv (va_runS (As := [.ref (ad (k + 1)), .int (-1)]) (rest := []) ⟨hx, hb, hml, hown, hts⟩ (c_J7_fill_53178 l D cy ad hI _ iv ar (k + 1) (g_k9_1 hk hd).1 (g_k9_1 hk hd).2 (-1)) (va_cwS 2 hts gX9_measure_J7_fill_53178 rfl rfl rfl (by decide +kernel) ⟨Nat.le_of_ble_eq_true rfl, Nat.le_of_ble_eq_true rfl⟩) (g_preS hP hK hSt hNw hS) rfl rfl hl.1 rfl (lv_room (Nat.le_of_ble_eq_true rfl)) dX9_measure_5 ⟨Nat.zero_le _, Nat.zero_le _⟩) hS (fun iv_2 ar_2 H locs w_2 hP hS => ?_)
  try dsimp only at w_2
  have wi_2 := (w_2).symm
  subst wi_2
  refine lv_iload_n hx hb dX9_measure_8 rfl (lv_at hl 1 rfl) ?_
  refine g_callSi (va_runSN (As := [.int a]) (rest := []) ⟨hx, hb, hml, hown, hts⟩ (c_X10_isCell l a) ⟨va_cnB 1 hts gX9_measure_X10_isCell_n25 rfl rfl rfl (hNw (.methodLinkNest RX9 25 yX10_isCell "FormationPlanner") (by decide +kernel)) lk1 (by decide +kernel) ⟨Nat.le_of_ble_eq_true rfl, Nat.le_of_ble_eq_true rfl⟩, lk2, trivial⟩ (g_preT) rfl rfl hl.1 rfl (lv_room (Nat.le_of_ble_eq_true rfl)) dX9_measure_9 ⟨Nat.zero_le _, Nat.zero_le _⟩) (fun r_3 w_3 => ?_)
  try dsimp only at w_3
  refine lv_if_eq (tgt := 30) hx hb dX9_measure_12 (by decide) (fun c_4 => ?_) (fun c_4 => ?_)
  · skip
    have q_4 : r_3.toInt = (0 : Int) := i_eq2 (rfl : r_3.toInt = r_3.toInt) (show (0 : Int32).toInt = (0 : Int) from rfl) c_4
    rw [hQ]
    exact W.vret hx hb hr (fun t ht hW => ⟨⟨(iv, ar_2), rfl, rfl, by show va_P _ _ _ _; rw [ht]; exact hP⟩, hS.F ht⟩) hS.2.2 dX9_measure_30
  · skip
    have q_4 : r_3.toInt ≠ (0 : Int) := i_ne2 (rfl : r_3.toInt = r_3.toInt) (show (0 : Int32).toInt = (0 : Int) from rfl) c_4
    refine lv_aload_n hx hb dX9_measure_15 rfl (lv_at hl 0 rfl) ?_
    refine va_get (D := D) (ci := 9) (v := .ref (ad 70)) (C := RX9) (T := TX9) (N := 2) hx hb hts inX9 hown hK hP k (g_at9 hk hd) rfl 0 (by decide) lk3 (fun _ h9 => h9) rfl dX9_measure_16 ?_
    refine va_get (D := D) (ci := 4) (v := .ref (ad 1)) (C := RX4) (T := TX4) (N := 2) hx hb hts inX4 hown hK hP 70 (g_at4 (Nat.le_of_ble_eq_true rfl) rfl) rfl 0 (by decide) lk4 (fun _ h9 => h9) rfl dX9_measure_19 ?_
    refine va_get (D := D) (ci := 8) (v := .ref (ad 3)) (C := RX8) (T := TX8) (N := 5) hx hb hts inX8 hown hK hP 1 (g_at8 (Nat.le_of_ble_eq_true rfl) rfl) rfl 1 (by decide) lk5 (fun _ h9 => h9) rfl dX9_measure_22 ?_
    refine lv_iload_n hx hb dX9_measure_25 rfl (lv_at hl 1 rfl) ?_
    refine va_iald hx hb hK hP 3 0 (g_at12 (Nat.le_of_ble_eq_true rfl) rfl) rfl (g_in (N := 108) (rfl : a.toInt = a.toInt) rfl (by omega) (by omega)) dX9_measure_26 ?_
    refine lv_topi (fun v_5 ev_5 => ?_)
    refine lv_if_eq (tgt := 31) hx hb dX9_measure_27 (by decide) (fun c_6 => ?_) (fun c_6 => ?_)
    · skip
      have q_6 : v_5.toInt = (0 : Int) := i_eq2 (rfl : v_5.toInt = v_5.toInt) (show (0 : Int32).toInt = (0 : Int) from rfl) c_6
      refine lv_aload_n hx hb dX9_measure_31 rfl (lv_at hl 0 rfl) ?_
      refine va_get (D := D) (ci := 9) (v := .ref (ad (k + 1))) (C := RX9) (T := TX9) (N := 2) hx hb hts inX9 hown hK hP k (g_at9 hk hd) rfl 1 (by decide) lk0 (fun _ h9 => h9) rfl dX9_measure_32 ?_
      refine lv_iload_n hx hb dX9_measure_35 rfl (lv_at hl 1 rfl) ?_
      refine lv_iconst (v := 0) hx hb dX9_measure_36 (by decide) ?_
      refine va_iast hx hb hK hP (gD hI) hS (k + 1) 0 (g_at12 (g_k9_1 hk hd).1 (g_k9_1 hk hd).2) rfl (g_in (N := 108) (rfl : a.toInt = a.toInt) (g_l9_1 hk hd) (by omega) (by omega)) dX9_measure_37 (fun H locs hP _ hS => ?_)
      rw [g_pt12 (g_k9_1 hk hd).1 (g_k9_1 hk hd).2] at hP
      obtain ⟨ar_7, ear_7⟩ : ∃ z : gAr, z = va_up ar_2 (k + 1) (upd (ar_2 (k + 1)) a.toNatClampNeg 0) := ⟨_, rfl⟩
      rw [← ear_7] at hP
      refine lv_iconst (v := 0) hx hb dX9_measure_38 (by decide) ?_
      refine lv_istore_n (lv' := [(2, .int 0), (0, .ref (ad k)), (1, .int a)]) hx hb dX9_measure_39 rfl hl (by decide) rfl (fun ls hl => ?_)
      refine lv_iconst (v := 0) hx hb dX9_measure_40 (by decide) ?_
      refine lv_istore_n (lv' := [(3, .int 0), (2, .int 0), (0, .ref (ad k)), (1, .int a)]) hx hb dX9_measure_41 rfl hl (by decide) rfl (fun ls hl => ?_)
      have loop11 : ∀ (n : Nat) (x3_8 : Int32) (x2_9 : Int32) (ar_10 : gAr) (H : Heap) (locs : List Loc) (ls : Array Slot), ((217 - (x3_8.toInt)).toNat) < n → (0 ≤ (x3_8.toInt) ∧ (x3_8.toInt) ≤ 217) → va_P D vwCl (GW cy ad iv ar_10) H → va_S (gA ad s.heap.size) s.heap H locs → lv_has ls 5 [(3, .int x3_8), (2, .int x2_9), (0, .ref (ad k)), (1, .int a)] → W p l e (headSpec wsX9_measure (({ frames := 3, cells := 0, slots := 0, locals := 69 } : Room))).room s m (([.ref (ad k), .int a] : List Value).toArray) below meth c H locs 0 0 Q (F0 m 42 ls []) := by
        intro n
        induction n with
        | zero => intro x3_8 x2_9 ar_10 H locs ls hm; omega
        | succ n ih11 =>
          intro x3_8 x2_9 ar_10 H locs ls hm hg0 hP hS hl
          refine lv_iload_n hx hb dX9_measure_42 rfl (lv_at hl 0 rfl) ?_
          refine lv_iload_n hx hb dX9_measure_43 rfl (lv_at hl 1 rfl) ?_
          refine lv_icmp_gt (tgt := 99) hx hb dX9_measure_44 (by decide) (fun c_12 => ?_) (fun c_12 => ?_)
          · skip
            have q_12 : x2_9.toInt < x3_8.toInt := i_lt2 (rfl : x2_9.toInt = x2_9.toInt) (rfl : x3_8.toInt = x3_8.toInt) c_12
            rw [hQ]
            exact W.vret hx hb hr (fun t ht hW => ⟨⟨(iv, ar_10), rfl, rfl, by show va_P _ _ _ _; rw [ht]; exact hP⟩, hS.F ht⟩) hS.2.2 dX9_measure_99
          · skip
            have q_12 : x3_8.toInt ≤ x2_9.toInt := i_nlt2 (rfl : x2_9.toInt = x2_9.toInt) (rfl : x3_8.toInt = x3_8.toInt) c_12
            refine lv_iload_n hx hb dX9_measure_47 rfl (lv_at hl 0 rfl) ?_
            refine lv_sipush (v := 216) hx hb dX9_measure_48 (by decide) ?_
            refine lv_icmp_gt (tgt := 99) hx hb dX9_measure_51 (by decide) (fun c_13 => ?_) (fun c_13 => ?_)
            · skip
              have q_13 : (216 : Int) < x3_8.toInt := i_lt2 (show (216 : Int32).toInt = (216 : Int) from rfl) (rfl : x3_8.toInt = x3_8.toInt) c_13
              rw [hQ]
              exact W.vret hx hb hr (fun t ht hW => ⟨⟨(iv, ar_10), rfl, rfl, by show va_P _ _ _ _; rw [ht]; exact hP⟩, hS.F ht⟩) hS.2.2 dX9_measure_99
            · skip
              have q_13 : x3_8.toInt ≤ (216 : Int) := i_nlt2 (show (216 : Int32).toInt = (216 : Int) from rfl) (rfl : x3_8.toInt = x3_8.toInt) c_13
              refine lv_iconst (v := 0) hx hb dX9_measure_54 (by decide) ?_
              refine lv_istore (lv' := [(4, .int 0), (3, .int x3_8), (2, .int x2_9), (0, .ref (ad k)), (1, .int a)]) hx hb dX9_measure_55 hl (by decide) rfl (fun ls hl => ?_)
              have loop17 : ∀ (n : Nat) (x4_14 : Int32) (x2_15 : Int32) (ar_16 : gAr) (H : Heap) (locs : List Loc) (ls : Array Slot), ((108 - (x4_14.toInt)).toNat) < n → (0 ≤ (x4_14.toInt) ∧ (x4_14.toInt) ≤ 108) → va_P D vwCl (GW cy ad iv ar_16) H → va_S (gA ad s.heap.size) s.heap H locs → lv_has ls 5 [(4, .int x4_14), (3, .int x3_8), (2, .int x2_15), (0, .ref (ad k)), (1, .int a)] → W p l e (headSpec wsX9_measure (({ frames := 3, cells := 0, slots := 0, locals := 69 } : Room))).room s m (([.ref (ad k), .int a] : List Value).toArray) below meth c H locs 0 0 Q (F0 m 57 ls []) := by
                intro n
                induction n with
                | zero => intro x4_14 x2_15 ar_16 H locs ls hm; omega
                | succ n ih17 =>
                  intro x4_14 x2_15 ar_16 H locs ls hm hk0 hP hS hl
                  refine lv_iload hx hb dX9_measure_57 (lv_at hl 0 rfl) ?_
                  refine lv_bipush (v := 108) hx hb dX9_measure_59 (by decide) ?_
                  refine lv_icmp_ge (tgt := 93) hx hb dX9_measure_61 (by decide) (fun c_18 => ?_) (fun c_18 => ?_)
                  · skip
                    have q_18 : (108 : Int) ≤ x4_14.toInt := i_le2 (show (108 : Int32).toInt = (108 : Int) from rfl) (rfl : x4_14.toInt = x4_14.toInt) c_18
                    obtain ⟨x3_19, ex3_19⟩ : ∃ y : Int32, y = x3_8 + 1 := ⟨_, rfl⟩
                    have tx3_19 : x3_19.toInt = x3_8.toInt + (1 : Int) := i_add (rfl : x3_8.toInt = x3_8.toInt) (show (1 : Int32).toInt = (1 : Int) from rfl) (by omega) (by omega) ex3_19
                    refine lv_iinc (v := x3_19) (lv' := [(3, .int x3_19), (4, .int x4_14), (2, .int x2_15), (0, .ref (ad k)), (1, .int a)]) hx hb dX9_measure_93 hl (k := 1) rfl (by rw [ex3_19]; rfl) (by decide) rfl (fun ls hl => ?_)
                    refine lv_goto (tgt := 42) hx hb dX9_measure_96 (by decide) ?_
                    exact ih11 x3_19 x2_15 ar_16 _ _ _ (by omega) (by omega) hP hS (lv_sub hl [0, 2, 3, 4] rfl)
                  · skip
                    have q_18 : x4_14.toInt < (108 : Int) := i_nle2 (show (108 : Int32).toInt = (108 : Int) from rfl) (rfl : x4_14.toInt = x4_14.toInt) c_18
                    refine lv_aload_n hx hb dX9_measure_64 rfl (lv_at hl 3 rfl) ?_
                    refine va_get (D := D) (ci := 9) (v := .ref (ad (k + 1))) (C := RX9) (T := TX9) (N := 2) hx hb hts inX9 hown hK hP k (g_at9 hk hd) rfl 1 (by decide) lk0 (fun _ h9 => h9) rfl dX9_measure_65 ?_
                    refine lv_iload hx hb dX9_measure_68 (lv_at hl 0 rfl) ?_
                    refine va_iald hx hb hK hP (k + 1) 0 (g_at12 (g_k9_1 hk hd).1 (g_k9_1 hk hd).2) rfl (g_in (N := 108) (rfl : x4_14.toInt = x4_14.toInt) (g_l9_1 hk hd) (by omega) (by omega)) dX9_measure_70 ?_
                    refine lv_topi (fun v_20 ev_20 => ?_)
                    refine lv_iload_n hx hb dX9_measure_71 rfl (lv_at hl 1 rfl) ?_
                    refine lv_icmp_ne (tgt := 87) hx hb dX9_measure_72 (by decide) (fun c_21 => ?_) (fun c_21 => ?_)
                    · skip
                      have q_21 : v_20.toInt ≠ x3_8.toInt := i_ne2 (rfl : v_20.toInt = v_20.toInt) (rfl : x3_8.toInt = x3_8.toInt) c_21
                      obtain ⟨x4_22, ex4_22⟩ : ∃ y : Int32, y = x4_14 + 1 := ⟨_, rfl⟩
                      have tx4_22 : x4_22.toInt = x4_14.toInt + (1 : Int) := i_add (rfl : x4_14.toInt = x4_14.toInt) (show (1 : Int32).toInt = (1 : Int) from rfl) (by omega) (by omega) ex4_22
                      refine lv_iinc (v := x4_22) (lv' := [(4, .int x4_22), (3, .int x3_8), (2, .int x2_15), (0, .ref (ad k)), (1, .int a)]) hx hb dX9_measure_87 hl (k := 0) rfl (by rw [ex4_22]; rfl) (by decide) rfl (fun ls hl => ?_)
                      refine lv_goto (tgt := 57) hx hb dX9_measure_90 (by decide) ?_
                      exact ih17 x4_22 x2_15 ar_16 _ _ _ (by omega) (by omega) hP hS (lv_sub hl [0, 1, 2, 3, 4] rfl)
                    · skip
                      have q_21 : v_20.toInt = x3_8.toInt := i_eq2 (rfl : v_20.toInt = v_20.toInt) (rfl : x3_8.toInt = x3_8.toInt) c_21
                      refine lv_iload_n hx hb dX9_measure_75 rfl (lv_at hl 2 rfl) ?_
                      refine lv_aload_n hx hb dX9_measure_76 rfl (lv_at hl 3 rfl) ?_
                      refine lv_iload hx hb dX9_measure_77 (lv_at hl 0 rfl) ?_
                      refine lv_iload_n hx hb dX9_measure_79 rfl (lv_at hl 1 rfl) ?_
                      refine g_calli (va_runV (As := [.int x4_14, .int x3_8]) (rest := [.int x2_15]) ⟨hx, hb, hml, hown, hts⟩ (c_X9_spreadBack l D cy ad hI _ iv ar_16 k hk hd x4_14 x3_8) (cwV 2 hts gX9_measure_X9_spreadBack rfl rfl rfl (by decide +kernel) ⟨Nat.le_of_ble_eq_true rfl, Nat.le_of_ble_eq_true rfl⟩) (g_preV hP hK hSt hNw hS (g_at9 hk hd) rfl) rfl rfl hl.1 rfl (lv_room (Nat.le_of_ble_eq_true rfl)) dX9_measure_80 ⟨Nat.zero_le _, Nat.zero_le _⟩) hS (fun r_23 iv_23 ar_23 H locs w_23 hP hS => ?_)
                      try dsimp only at w_23
                      have wi_23 := (w_23).symm
                      subst wi_23
                      refine va_mmax (rest := []) hx hb (hml.trans hl.1.symm) hown lk6 lk7 lk8 lk9 (Nat.le_of_ble_eq_true rfl) (Nat.le_of_ble_eq_true rfl) (Nat.zero_le _) (Nat.zero_le _) dX9_measure_83 ?_
                      refine lv_topi (fun v_24 ev_24 => ?_)
                      have tv_24 : v_24.toInt = max x2_15.toInt r_23.toInt := i_max (rfl : x2_15.toInt = x2_15.toInt) (rfl : r_23.toInt = r_23.toInt) ev_24
                      refine lv_istore_n (lv' := [(2, .int v_24), (4, .int x4_14), (3, .int x3_8), (0, .ref (ad k)), (1, .int a)]) hx hb dX9_measure_86 rfl hl (by decide) rfl (fun ls hl => ?_)
                      obtain ⟨x4_25, ex4_25⟩ : ∃ y : Int32, y = x4_14 + 1 := ⟨_, rfl⟩
                      have tx4_25 : x4_25.toInt = x4_14.toInt + (1 : Int) := i_add (rfl : x4_14.toInt = x4_14.toInt) (show (1 : Int32).toInt = (1 : Int) from rfl) (by omega) (by omega) ex4_25
                      refine lv_iinc (v := x4_25) (lv' := [(4, .int x4_25), (2, .int v_24), (3, .int x3_8), (0, .ref (ad k)), (1, .int a)]) hx hb dX9_measure_87 hl (k := 1) rfl (by rw [ex4_25]; rfl) (by decide) rfl (fun ls hl => ?_)
                      refine lv_goto (tgt := 57) hx hb dX9_measure_90 (by decide) ?_
                      exact ih17 x4_25 v_24 ar_23 _ _ _ (by omega) (by omega) hP hS (lv_sub hl [0, 2, 1, 3, 4] rfl)
              have zl_26 : (0 : Int32).toInt = (0 : Int) := rfl
              exact loop17 (((108 - ((0 : Int))).toNat) + 1) 0 x2_9 ar_10 _ _ _ (by omega) (by omega) hP hS (lv_sub hl [0, 1, 2, 3, 4] rfl)
      have zl_27 : (0 : Int32).toInt = (0 : Int) := rfl
      have zl_28 : (0 : Int32).toInt = (0 : Int) := rfl
      exact loop11 (((217 - ((0 : Int))).toNat) + 1) 0 0 ar_7 _ _ _ (by omega) (by omega) hP hS (lv_sub hl [0, 1, 2, 3] rfl)
    · skip
      have q_6 : v_5.toInt ≠ (0 : Int) := i_ne2 (rfl : v_5.toInt = v_5.toInt) (show (0 : Int32).toInt = (0 : Int) from rfl) c_6
      rw [hQ]
      exact W.vret hx hb hr (fun t ht hW => ⟨⟨(iv, ar_2), rfl, rfl, by show va_P _ _ _ _; rw [ht]; exact hP⟩, hS.F ht⟩) hS.2.2 dX9_measure_30
set_option maxHeartbeats 4000000 in
set_option maxRecDepth 100000 in
theorem c_X9_firstAction (l : Launch) (D : va_G) (cy : Nat → ClassId) (ad : Nat → Nat) (hI : gInj ad) (sz : Nat) (iv : gIv) (ar : gAr) (k : Nat) (hk : k < 135) (hd : kd k = 9) (a : Int32)  : Met l yX9_firstAction wsX9_firstAction ({ frames := 2, cells := 0, slots := 0, locals := 43 } : Room) (va_Pc [.ref (ad k), .int a] (gPre D cy ad sz iv ar)) (vp_Si (fun r => True)) 0 0 (fun _ => False) := by
  refine Met.ofW (cc := cX9_firstAction) (maxL := 4) (ret := (some .int)) (by decide) rfl ?_
  intro p e s m args below meth c s₁ B hml hv
  obtain ⟨rfl, rfl, hP, hK, hSt, hNw⟩ := hv
  have hx := B.exec
  have hb := B.bytes
  have hr := B.returns
  have hts := atoms_spec (ws := wsX9_firstAction) B.pre
  have hown : s.vm.findClass RX9 = some m.cls := findClass_of_methodNamed B.named
  have hlocks := B.notSynchronized
  have hS : va_S (gA ad s.heap.size) s.heap s.heap [] := va_S.rf
  have inX9 : ∀ w ∈ u_ws RX9 TX9 2, w ∈ wsX9_firstAction := by decide +kernel
  have lk0 := hts (.fieldLink RX9 15 "FormationPlanner$TimesTo" "lattice" "LFormationPlanner$Lattice;") (by decide +kernel)
  have hl := lv_entry ([.ref (ad k), .int a]) (n := 4) (Nat.le_of_ble_eq_true rfl)
  rw [lg_entry_eq]
  generalize (lg_sl ([.ref (ad k), .int a]) ++ List.replicate (4 - (lg_sl ([.ref (ad k), .int a])).length) Slot.unset).toArray = ls at hl ⊢
  have hl : lv_has ls 4 [(0, .ref (ad k)), (1, .int a)] := hl
  obtain ⟨Q, hQ⟩ : ∃ Q, Q = MQ below (vp_Si (fun r => True)) (([.ref (ad k), .int a] : List Value).toArray) s 0 0 (fun _ => False) := ⟨_, rfl⟩
  rw [← hQ]
  refine lv_iconst (v := 1) hx hb dX9_firstAction_0 (by decide) ?_
  refine lv_istore_n (lv' := [(2, .int 1), (0, .ref (ad k)), (1, .int a)]) hx hb dX9_firstAction_1 rfl hl (by decide) rfl (fun ls hl => ?_)
  have loop2 : ∀ (n : Nat) (x2_1 : Int32) (ls : Array Slot), ((7 - (x2_1.toInt)).toNat) < n → (1 ≤ (x2_1.toInt) ∧ (x2_1.toInt) ≤ 7) → lv_has ls 4 [(2, .int x2_1), (0, .ref (ad k)), (1, .int a)] → W p l e (headSpec wsX9_firstAction (({ frames := 2, cells := 0, slots := 0, locals := 43 } : Room))).room s m (([.ref (ad k), .int a] : List Value).toArray) below meth c s.heap [] 0 0 Q (F0 m 2 ls []) := by
    intro n
    induction n with
    | zero => intro x2_1 ls hm; omega
    | succ n ih2 =>
      intro x2_1 ls hm hg0 hl
      refine lv_iload_n hx hb dX9_firstAction_2 rfl (lv_at hl 0 rfl) ?_
      refine lv_bipush (v := 7) hx hb dX9_firstAction_3 (by decide) ?_
      refine lv_icmp_ge (tgt := 54) hx hb dX9_firstAction_5 (by decide) (fun c_3 => ?_) (fun c_3 => ?_)
      · skip
        have q_3 : (7 : Int) ≤ x2_1.toInt := i_le2 (show (7 : Int32).toInt = (7 : Int) from rfl) (rfl : x2_1.toInt = x2_1.toInt) c_3
        refine lv_iconst (v := 0) hx hb dX9_firstAction_54 (by decide) ?_
        rw [hQ]
        exact W.iret (v := 0) hx hb hr (fun t ht hW => ⟨0, rfl, trivial, ht⟩) (fun q h => by cases h) dX9_firstAction_55
      · skip
        have q_3 : x2_1.toInt < (7 : Int) := i_nle2 (show (7 : Int32).toInt = (7 : Int) from rfl) (rfl : x2_1.toInt = x2_1.toInt) c_3
        refine lv_aload_n hx hb dX9_firstAction_8 rfl (lv_at hl 1 rfl) ?_
        refine lv_aload_n hx hb dX9_firstAction_9 rfl (lv_at hl 1 rfl) ?_
        refine va_get (D := D) (ci := 9) (v := .ref (ad 70)) (C := RX9) (T := TX9) (N := 2) hx hb hts inX9 hown hK hP k (g_at9 hk hd) rfl 0 (by decide) lk0 (fun _ h9 => h9) rfl dX9_firstAction_10 ?_
        refine lv_iload_n hx hb dX9_firstAction_13 rfl (lv_at hl 2 rfl) ?_
        refine lv_iload_n hx hb dX9_firstAction_14 rfl (lv_at hl 0 rfl) ?_
        refine g_callSi (va_runV (As := [.int a, .int x2_1]) (rest := [.ref (ad k)]) ⟨hx, hb, hml, hown, hts⟩ (c_X4_next l D cy ad hI _ iv ar a x2_1) (cwV 2 hts gX9_firstAction_X4_next rfl rfl rfl (by decide +kernel) ⟨Nat.le_of_ble_eq_true rfl, Nat.le_of_ble_eq_true rfl⟩) (g_preV hP hK hSt hNw hS (g_at4 (Nat.le_of_ble_eq_true rfl) rfl) rfl) rfl rfl hl.1 rfl (lv_room (Nat.le_of_ble_eq_true rfl)) dX9_firstAction_15 ⟨Nat.zero_le _, Nat.zero_le _⟩) (fun r_4 w_4 => ?_)
        try dsimp only at w_4
        refine g_callSi (va_runV (As := [.int r_4]) (rest := []) ⟨hx, hb, hml, hown, hts⟩ (c_X9_timeFrom l D cy ad hI _ iv ar k hk hd r_4) (cwV 1 hts gX9_firstAction_X9_timeFrom rfl rfl rfl (by decide +kernel) ⟨Nat.le_of_ble_eq_true rfl, Nat.le_of_ble_eq_true rfl⟩) (g_preV hP hK hSt hNw hS (g_at9 hk hd) rfl) rfl rfl hl.1 rfl (lv_room (Nat.le_of_ble_eq_true rfl)) dX9_firstAction_18 ⟨Nat.zero_le _, Nat.zero_le _⟩) (fun r_5 w_5 => ?_)
        try dsimp only at w_5
        refine lv_istore_n (lv' := [(3, .int r_5), (2, .int x2_1), (0, .ref (ad k)), (1, .int a)]) hx hb dX9_firstAction_21 rfl hl (by decide) rfl (fun ls hl => ?_)
        refine lv_iload_n hx hb dX9_firstAction_22 rfl (lv_at hl 0 rfl) ?_
        refine lv_iconst (v := (-1)) hx hb dX9_firstAction_23 (by decide) ?_
        refine lv_icmp_eq (tgt := 48) hx hb dX9_firstAction_24 (by decide) (fun c_6 => ?_) (fun c_6 => ?_)
        · skip
          have q_6 : r_5.toInt = (-1 : Int) := i_eq2 (rfl : r_5.toInt = r_5.toInt) (show ((-1) : Int32).toInt = (-1 : Int) from rfl) c_6
          obtain ⟨x2_7, ex2_7⟩ : ∃ y : Int32, y = x2_1 + 1 := ⟨_, rfl⟩
          have tx2_7 : x2_7.toInt = x2_1.toInt + (1 : Int) := i_add (rfl : x2_1.toInt = x2_1.toInt) (show (1 : Int32).toInt = (1 : Int) from rfl) (by omega) (by omega) ex2_7
          refine lv_iinc (v := x2_7) (lv' := [(2, .int x2_7), (3, .int r_5), (0, .ref (ad k)), (1, .int a)]) hx hb dX9_firstAction_48 hl (k := 1) rfl (by rw [ex2_7]; rfl) (by decide) rfl (fun ls hl => ?_)
          refine lv_goto (tgt := 2) hx hb dX9_firstAction_51 (by decide) ?_
          exact ih2 x2_7 _ (by omega) (by omega) (lv_sub hl [0, 2, 3] rfl)
        · skip
          have q_6 : r_5.toInt ≠ (-1 : Int) := i_ne2 (rfl : r_5.toInt = r_5.toInt) (show ((-1) : Int32).toInt = (-1 : Int) from rfl) c_6
          refine lv_iload_n hx hb dX9_firstAction_27 rfl (lv_at hl 0 rfl) ?_
          refine lv_aload_n hx hb dX9_firstAction_28 rfl (lv_at hl 2 rfl) ?_
          refine va_get (D := D) (ci := 9) (v := .ref (ad 70)) (C := RX9) (T := TX9) (N := 2) hx hb hts inX9 hown hK hP k (g_at9 hk hd) rfl 0 (by decide) lk0 (fun _ h9 => h9) rfl dX9_firstAction_29 ?_
          refine lv_iload_n hx hb dX9_firstAction_32 rfl (lv_at hl 3 rfl) ?_
          refine lv_iload_n hx hb dX9_firstAction_33 rfl (lv_at hl 1 rfl) ?_
          refine g_callSi (va_runV (As := [.int a, .int x2_1]) (rest := [.int r_5]) ⟨hx, hb, hml, hown, hts⟩ (c_X4_ticks l D cy ad hI _ iv ar a x2_1) (cwV 2 hts gX9_firstAction_X4_ticks rfl rfl rfl (by decide +kernel) ⟨Nat.le_of_ble_eq_true rfl, Nat.le_of_ble_eq_true rfl⟩) (g_preV hP hK hSt hNw hS (g_at4 (Nat.le_of_ble_eq_true rfl) rfl) rfl) rfl rfl hl.1 rfl (lv_room (Nat.le_of_ble_eq_true rfl)) dX9_firstAction_34 ⟨Nat.zero_le _, Nat.zero_le _⟩) (fun r_8 w_8 => ?_)
          try dsimp only at w_8
          refine lv_iadd hx hb dX9_firstAction_37 ?_
          refine lv_topi (fun v_9 ev_9 => ?_)
          refine lv_aload_n hx hb dX9_firstAction_38 rfl (lv_at hl 2 rfl) ?_
          refine lv_iload_n hx hb dX9_firstAction_39 rfl (lv_at hl 3 rfl) ?_
          refine g_callSi (va_runV (As := [.int a]) (rest := [.int v_9]) ⟨hx, hb, hml, hown, hts⟩ (c_X9_timeFrom l D cy ad hI _ iv ar k hk hd a) (cwV 1 hts gX9_firstAction_X9_timeFrom rfl rfl rfl (by decide +kernel) ⟨Nat.le_of_ble_eq_true rfl, Nat.le_of_ble_eq_true rfl⟩) (g_preV hP hK hSt hNw hS (g_at9 hk hd) rfl) rfl rfl hl.1 rfl (lv_room (Nat.le_of_ble_eq_true rfl)) dX9_firstAction_40 ⟨Nat.zero_le _, Nat.zero_le _⟩) (fun r_10 w_10 => ?_)
          try dsimp only at w_10
          refine lv_icmp_ne (tgt := 48) hx hb dX9_firstAction_43 (by decide) (fun c_11 => ?_) (fun c_11 => ?_)
          · skip
            have q_11 : v_9.toInt ≠ r_10.toInt := i_ne2 (rfl : v_9.toInt = v_9.toInt) (rfl : r_10.toInt = r_10.toInt) c_11
            obtain ⟨x2_12, ex2_12⟩ : ∃ y : Int32, y = x2_1 + 1 := ⟨_, rfl⟩
            have tx2_12 : x2_12.toInt = x2_1.toInt + (1 : Int) := i_add (rfl : x2_1.toInt = x2_1.toInt) (show (1 : Int32).toInt = (1 : Int) from rfl) (by omega) (by omega) ex2_12
            refine lv_iinc (v := x2_12) (lv' := [(2, .int x2_12), (3, .int r_5), (0, .ref (ad k)), (1, .int a)]) hx hb dX9_firstAction_48 hl (k := 1) rfl (by rw [ex2_12]; rfl) (by decide) rfl (fun ls hl => ?_)
            refine lv_goto (tgt := 2) hx hb dX9_firstAction_51 (by decide) ?_
            exact ih2 x2_12 _ (by omega) (by omega) (lv_sub hl [0, 2, 3] rfl)
          · skip
            have q_11 : v_9.toInt = r_10.toInt := i_eq2 (rfl : v_9.toInt = v_9.toInt) (rfl : r_10.toInt = r_10.toInt) c_11
            refine lv_iload_n hx hb dX9_firstAction_46 rfl (lv_at hl 1 rfl) ?_
            rw [hQ]
            exact W.iret (v := x2_1) hx hb hr (fun t ht hW => ⟨x2_1, rfl, trivial, ht⟩) (fun q h => by cases h) dX9_firstAction_47
  have zl_13 : (1 : Int32).toInt = (1 : Int) := rfl
  exact loop2 (((7 - ((1 : Int))).toNat) + 1) 1 _ (by omega) (by omega) (lv_sub hl [0, 1, 2] rfl)
