set_option maxHeartbeats 4000000 in
set_option maxRecDepth 100000 in
theorem c0_X11_isObstacle (l : Launch) (D : va_G) (cy : Nat → ClassId) (ad : Nat → Nat) (hI : mInj ad) (sz : Nat) (iv : gIv) (ar : gAr) (a : Int32) (yL : ∀ i, (ar 1 i).toInt = 0) (hc : 0 ≤ a.toInt ∧ a.toInt < 108) : Met l yX11_isObstacle wsX11_isObstacle ({ frames := 0, cells := 0, slots := 0, locals := 0 } : Room) (va_Pc [.ref (ad 0), .int a] (mPre D cy ad sz iv ar)) (vp_Si (fun r => r.toInt = 0)) 0 0 (fun _ => False) := by
  refine Met.ofW (cc := cX11_isObstacle) (maxL := 2) (ret := (some .boolean)) (by decide) rfl ?_
  intro p e s m args below meth c s₁ B hml hv
  obtain ⟨rfl, rfl, hP, hK, hSt, hNw⟩ := hv
  have hx := B.exec
  have hb := B.bytes
  have hr := B.returns
  have hts := atoms_spec (ws := wsX11_isObstacle) B.pre
  have hown : s.vm.findClass RX11 = some m.cls := findClass_of_methodNamed B.named
  have hlocks := B.notSynchronized
  have hS : va_S (mA ad s.heap.size) s.heap s.heap [] := va_S.rf
  have inX11 : ∀ w ∈ u_ws RX11 TX11 30, w ∈ wsX11_isObstacle := by decide +kernel
  have lk0 := hts (.fieldLink RX11 9 "FormationPlannerModel" "s" "[I") (by decide +kernel)
  have hl := lv_entry ([.ref (ad 0), .int a]) (n := 2) (Nat.le_of_ble_eq_true rfl)
  rw [lg_entry_eq]
  generalize (lg_sl ([.ref (ad 0), .int a]) ++ List.replicate (2 - (lg_sl ([.ref (ad 0), .int a])).length) Slot.unset).toArray = ls at hl ⊢
  have hl : lv_has ls 2 [(0, .ref (ad 0)), (1, .int a)] := hl
  obtain ⟨Q, hQ⟩ : ∃ Q, Q = MQ below (vp_Si (fun r => r.toInt = 0)) (([.ref (ad 0), .int a] : List Value).toArray) s 0 0 (fun _ => False) := ⟨_, rfl⟩
  rw [← hQ]
  refine lv_aload_n hx hb dX11_isObstacle_0 rfl (lv_at hl 0 rfl) ?_
  refine va_get (D := D) (ci := 11) (v := .ref (ad 1)) (C := RX11) (T := TX11) (N := 30) hx hb hts inX11 hown hK hP 0 (m_at11 (Nat.le_of_ble_eq_true rfl) rfl) rfl 0 (by decide) lk0 (fun _ h9 => h9) rfl dX11_isObstacle_1 ?_
  refine lv_iconst (v := 3) hx hb dX11_isObstacle_4 (by decide) ?_
  refine lv_iload_n hx hb dX11_isObstacle_5 rfl (lv_at hl 1 rfl) ?_
  refine lv_iadd hx hb dX11_isObstacle_6 ?_
  refine lv_topi (fun v_1 ev_1 => ?_)
  have tv_1 : v_1.toInt = (3 : Int) + a.toInt := i_add (show (3 : Int32).toInt = (3 : Int) from rfl) (rfl : a.toInt = a.toInt) (by omega) (by omega) ev_1
  refine va_iald hx hb hK hP 1 0 (m_at12 (Nat.le_of_ble_eq_true rfl) rfl) rfl (g_in (N := 126) (rfl : v_1.toInt = v_1.toInt) rfl (by omega) (by omega)) dX11_isObstacle_7 ?_
  refine lv_topi (fun v_2 ev_2 => ?_)
  have z_3 : v_2.toInt = (0 : Int) := by rw [ev_2]; exact yL _
  refine lv_iconst (v := 1) hx hb dX11_isObstacle_8 (by decide) ?_
  refine lv_icmp_ne (tgt := 16) hx hb dX11_isObstacle_9 (by decide) (fun c_4 => ?_) (fun c_4 => ?_)
  · skip
    have q_4 : (0 : Int) ≠ (1 : Int) := i_ne2 z_3 (show (1 : Int32).toInt = (1 : Int) from rfl) c_4
    refine lv_iconst (v := 0) hx hb dX11_isObstacle_16 (by decide) ?_
    rw [hQ]
    exact W.zret (v := 0) hx hb hr rfl (fun t ht hW => ⟨0, rfl, by have z0 := i_l0; have z1 := i_l1; omega, ht⟩) (fun q h => by cases h) dX11_isObstacle_17
  · skip
    have q_4 : (0 : Int) = (1 : Int) := i_eq2 z_3 (show (1 : Int32).toInt = (1 : Int) from rfl) c_4
    exfalso; omega
set_option maxHeartbeats 4000000 in
set_option maxRecDepth 100000 in
theorem c0_X11_ticks (l : Launch) (D : va_G) (cy : Nat → ClassId) (ad : Nat → Nat) (hI : mInj ad) (sz : Nat) (iv : gIv) (ar : gAr) (a : Int32) (b : Int32) (yL : ∀ i, (ar 1 i).toInt = 0) (hc : 0 ≤ a.toInt ∧ a.toInt < 108) : Met l yX11_ticks wsX11_ticks ({ frames := 1, cells := 0, slots := 0, locals := 20 } : Room) (va_Pc [.ref (ad 0), .int a, .int b] (mPre D cy ad sz iv ar)) (vp_Si (fun r => r.toInt = 1)) 0 0 (fun _ => False) := by
  refine Met.ofW (cc := cX11_ticks) (maxL := 5) (ret := (some .int)) (by decide) rfl ?_
  intro p e s m args below meth c s₁ B hml hv
  obtain ⟨rfl, rfl, hP, hK, hSt, hNw⟩ := hv
  have hx := B.exec
  have hb := B.bytes
  have hr := B.returns
  have hts := atoms_spec (ws := wsX11_ticks) B.pre
  have hown : s.vm.findClass RX11 = some m.cls := findClass_of_methodNamed B.named
  have hlocks := B.notSynchronized
  have hS : va_S (mA ad s.heap.size) s.heap s.heap [] := va_S.rf
  have inX11 : ∀ w ∈ u_ws RX11 TX11 30, w ∈ wsX11_ticks := by decide +kernel
  have lk0 := hts (.fieldLink RX11 9 "FormationPlannerModel" "s" "[I") (by decide +kernel)
  have hl := lv_entry ([.ref (ad 0), .int a, .int b]) (n := 5) (Nat.le_of_ble_eq_true rfl)
  rw [lg_entry_eq]
  generalize (lg_sl ([.ref (ad 0), .int a, .int b]) ++ List.replicate (5 - (lg_sl ([.ref (ad 0), .int a, .int b])).length) Slot.unset).toArray = ls at hl ⊢
  have hl : lv_has ls 5 [(0, .ref (ad 0)), (1, .int a), (2, .int b)] := hl
  obtain ⟨Q, hQ⟩ : ∃ Q, Q = MQ below (vp_Si (fun r => r.toInt = 1)) (([.ref (ad 0), .int a, .int b] : List Value).toArray) s 0 0 (fun _ => False) := ⟨_, rfl⟩
  rw [← hQ]
  refine lv_aload_n hx hb dX11_ticks_0 rfl (lv_at hl 0 rfl) ?_
  refine va_get (D := D) (ci := 11) (v := .ref (ad 1)) (C := RX11) (T := TX11) (N := 30) hx hb hts inX11 hown hK hP 0 (m_at11 (Nat.le_of_ble_eq_true rfl) rfl) rfl 0 (by decide) lk0 (fun _ h9 => h9) rfl dX11_ticks_1 ?_
  refine lv_iconst (v := 0) hx hb dX11_ticks_4 (by decide) ?_
  refine lv_iload_n hx hb dX11_ticks_5 rfl (lv_at hl 1 rfl) ?_
  refine g_callSi (va_runS (As := [.int a]) (rest := [.int 0, .ref (ad 1)]) ⟨hx, hb, hml, hown, hts⟩ (c_X11_layerOf l a (by omega)) (va_cwS 1 hts gX11_ticks_X11_layerOf rfl rfl rfl (by decide +kernel) ⟨Nat.le_of_ble_eq_true rfl, Nat.le_of_ble_eq_true rfl⟩) (g_preT) rfl rfl hl.1 rfl (lv_room (Nat.le_of_ble_eq_true rfl)) dX11_ticks_6 ⟨Nat.zero_le _, Nat.zero_le _⟩) (fun r_1 w_1 => ?_)
  try dsimp only at w_1
  refine lv_iadd hx hb dX11_ticks_9 ?_
  refine lv_topi (fun v_2 ev_2 => ?_)
  have tv_2 : v_2.toInt = (0 : Int) + r_1.toInt := i_add (show (0 : Int32).toInt = (0 : Int) from rfl) (rfl : r_1.toInt = r_1.toInt) (by omega) (by omega) ev_2
  refine va_iald hx hb hK hP 1 0 (m_at12 (Nat.le_of_ble_eq_true rfl) rfl) rfl (g_in (N := 126) (rfl : v_2.toInt = v_2.toInt) rfl (by omega) (by omega)) dX11_ticks_10 ?_
  refine lv_topi (fun v_3 ev_3 => ?_)
  have z_4 : v_3.toInt = (0 : Int) := by rw [ev_3]; exact yL _
  refine lv_istore_n (lv' := [(3, .int v_3), (0, .ref (ad 0)), (1, .int a), (2, .int b)]) hx hb dX11_ticks_11 rfl hl (by decide) rfl (fun ls hl => ?_)
  refine lv_iload_n hx hb dX11_ticks_12 rfl (lv_at hl 3 rfl) ?_
  refine lv_iconst (v := 1) hx hb dX11_ticks_13 (by decide) ?_
  refine lv_icmp_ne (tgt := 22) hx hb dX11_ticks_14 (by decide) (fun c_5 => ?_) (fun c_5 => ?_)
  · skip
    have q_5 : b.toInt ≠ (1 : Int) := i_ne2 (rfl : b.toInt = b.toInt) (show (1 : Int32).toInt = (1 : Int) from rfl) c_5
    refine lv_iload_n hx hb dX11_ticks_22 rfl (lv_at hl 3 rfl) ?_
    refine lv_iconst (v := 2) hx hb dX11_ticks_23 (by decide) ?_
    refine lv_icmp_ne (tgt := 32) hx hb dX11_ticks_24 (by decide) (fun c_6 => ?_) (fun c_6 => ?_)
    · skip
      have q_6 : b.toInt ≠ (2 : Int) := i_ne2 (rfl : b.toInt = b.toInt) (show (2 : Int32).toInt = (2 : Int) from rfl) c_6
      refine lv_iload_n hx hb dX11_ticks_32 rfl (lv_at hl 3 rfl) ?_
      refine lv_iconst (v := 3) hx hb dX11_ticks_33 (by decide) ?_
      refine lv_icmp_ne (tgt := 42) hx hb dX11_ticks_34 (by decide) (fun c_7 => ?_) (fun c_7 => ?_)
      · skip
        have q_7 : b.toInt ≠ (3 : Int) := i_ne2 (rfl : b.toInt = b.toInt) (show (3 : Int32).toInt = (3 : Int) from rfl) c_7
        refine lv_iload_n hx hb dX11_ticks_42 rfl (lv_at hl 3 rfl) ?_
        refine lv_iconst (v := 4) hx hb dX11_ticks_43 (by decide) ?_
        refine lv_icmp_ne (tgt := 56) hx hb dX11_ticks_44 (by decide) (fun c_8 => ?_) (fun c_8 => ?_)
        · skip
          have q_8 : b.toInt ≠ (4 : Int) := i_ne2 (rfl : b.toInt = b.toInt) (show (4 : Int32).toInt = (4 : Int) from rfl) c_8
          refine lv_iconst (v := 0) hx hb dX11_ticks_56 (by decide) ?_
          refine lv_istore (lv' := [(4, .int 0), (3, .int v_3), (0, .ref (ad 0)), (1, .int a), (2, .int b)]) hx hb dX11_ticks_57 hl (by decide) rfl (fun ls hl => ?_)
          refine lv_iload hx hb dX11_ticks_59 (lv_at hl 0 rfl) ?_
          refine lv_if_eq (tgt := 68) hx hb dX11_ticks_61 (by decide) (fun c_9 => ?_) (fun c_9 => ?_)
          · skip
            have q_9 : (0 : Int) = (0 : Int) := i_eq2 (show (0 : Int32).toInt = (0 : Int) from rfl) (show (0 : Int32).toInt = (0 : Int) from rfl) c_9
            refine lv_iconst (v := 1) hx hb dX11_ticks_68 (by decide) ?_
            rw [hQ]
            exact W.iret (v := 1) hx hb hr (fun t ht hW => ⟨1, rfl, by have z0 := i_l0; have z1 := i_l1; omega, ht⟩) (fun q h => by cases h) dX11_ticks_69
          · skip
            have q_9 : (0 : Int) ≠ (0 : Int) := i_ne2 (show (0 : Int32).toInt = (0 : Int) from rfl) (show (0 : Int32).toInt = (0 : Int) from rfl) c_9
            exfalso; omega
        · skip
          have q_8 : b.toInt = (4 : Int) := i_eq2 (rfl : b.toInt = b.toInt) (show (4 : Int32).toInt = (4 : Int) from rfl) c_8
          refine lv_iload_n hx hb dX11_ticks_47 rfl (lv_at hl 0 rfl) ?_
          refine lv_iconst (v := 3) hx hb dX11_ticks_48 (by decide) ?_
          refine lv_icmp_ne (tgt := 56) hx hb dX11_ticks_49 (by decide) (fun c_10 => ?_) (fun c_10 => ?_)
          · skip
            have q_10 : (0 : Int) ≠ (3 : Int) := i_ne2 z_4 (show (3 : Int32).toInt = (3 : Int) from rfl) c_10
            refine lv_iconst (v := 0) hx hb dX11_ticks_56 (by decide) ?_
            refine lv_istore (lv' := [(4, .int 0), (3, .int v_3), (0, .ref (ad 0)), (1, .int a), (2, .int b)]) hx hb dX11_ticks_57 hl (by decide) rfl (fun ls hl => ?_)
            refine lv_iload hx hb dX11_ticks_59 (lv_at hl 0 rfl) ?_
            refine lv_if_eq (tgt := 68) hx hb dX11_ticks_61 (by decide) (fun c_11 => ?_) (fun c_11 => ?_)
            · skip
              have q_11 : (0 : Int) = (0 : Int) := i_eq2 (show (0 : Int32).toInt = (0 : Int) from rfl) (show (0 : Int32).toInt = (0 : Int) from rfl) c_11
              refine lv_iconst (v := 1) hx hb dX11_ticks_68 (by decide) ?_
              rw [hQ]
              exact W.iret (v := 1) hx hb hr (fun t ht hW => ⟨1, rfl, by have z0 := i_l0; have z1 := i_l1; omega, ht⟩) (fun q h => by cases h) dX11_ticks_69
            · skip
              have q_11 : (0 : Int) ≠ (0 : Int) := i_ne2 (show (0 : Int32).toInt = (0 : Int) from rfl) (show (0 : Int32).toInt = (0 : Int) from rfl) c_11
              exfalso; omega
          · skip
            have q_10 : (0 : Int) = (3 : Int) := i_eq2 z_4 (show (3 : Int32).toInt = (3 : Int) from rfl) c_10
            exfalso; omega
      · skip
        have q_7 : b.toInt = (3 : Int) := i_eq2 (rfl : b.toInt = b.toInt) (show (3 : Int32).toInt = (3 : Int) from rfl) c_7
        refine lv_iload_n hx hb dX11_ticks_37 rfl (lv_at hl 0 rfl) ?_
        refine lv_iconst (v := 4) hx hb dX11_ticks_38 (by decide) ?_
        refine lv_icmp_eq (tgt := 52) hx hb dX11_ticks_39 (by decide) (fun c_12 => ?_) (fun c_12 => ?_)
        · skip
          have q_12 : (0 : Int) = (4 : Int) := i_eq2 z_4 (show (4 : Int32).toInt = (4 : Int) from rfl) c_12
          exfalso; omega
        · skip
          have q_12 : (0 : Int) ≠ (4 : Int) := i_ne2 z_4 (show (4 : Int32).toInt = (4 : Int) from rfl) c_12
          refine lv_iload_n hx hb dX11_ticks_42 rfl (lv_at hl 3 rfl) ?_
          refine lv_iconst (v := 4) hx hb dX11_ticks_43 (by decide) ?_
          refine lv_icmp_ne (tgt := 56) hx hb dX11_ticks_44 (by decide) (fun c_13 => ?_) (fun c_13 => ?_)
          · skip
            have q_13 : b.toInt ≠ (4 : Int) := i_ne2 (rfl : b.toInt = b.toInt) (show (4 : Int32).toInt = (4 : Int) from rfl) c_13
            refine lv_iconst (v := 0) hx hb dX11_ticks_56 (by decide) ?_
            refine lv_istore (lv' := [(4, .int 0), (3, .int v_3), (0, .ref (ad 0)), (1, .int a), (2, .int b)]) hx hb dX11_ticks_57 hl (by decide) rfl (fun ls hl => ?_)
            refine lv_iload hx hb dX11_ticks_59 (lv_at hl 0 rfl) ?_
            refine lv_if_eq (tgt := 68) hx hb dX11_ticks_61 (by decide) (fun c_14 => ?_) (fun c_14 => ?_)
            · skip
              have q_14 : (0 : Int) = (0 : Int) := i_eq2 (show (0 : Int32).toInt = (0 : Int) from rfl) (show (0 : Int32).toInt = (0 : Int) from rfl) c_14
              refine lv_iconst (v := 1) hx hb dX11_ticks_68 (by decide) ?_
              rw [hQ]
              exact W.iret (v := 1) hx hb hr (fun t ht hW => ⟨1, rfl, by have z0 := i_l0; have z1 := i_l1; omega, ht⟩) (fun q h => by cases h) dX11_ticks_69
            · skip
              have q_14 : (0 : Int) ≠ (0 : Int) := i_ne2 (show (0 : Int32).toInt = (0 : Int) from rfl) (show (0 : Int32).toInt = (0 : Int) from rfl) c_14
              exfalso; omega
          · skip
            have q_13 : b.toInt = (4 : Int) := i_eq2 (rfl : b.toInt = b.toInt) (show (4 : Int32).toInt = (4 : Int) from rfl) c_13
            exfalso; omega
    · skip
      have q_6 : b.toInt = (2 : Int) := i_eq2 (rfl : b.toInt = b.toInt) (show (2 : Int32).toInt = (2 : Int) from rfl) c_6
      refine lv_iload_n hx hb dX11_ticks_27 rfl (lv_at hl 0 rfl) ?_
      refine lv_iconst (v := 1) hx hb dX11_ticks_28 (by decide) ?_
      refine lv_icmp_eq (tgt := 52) hx hb dX11_ticks_29 (by decide) (fun c_15 => ?_) (fun c_15 => ?_)
      · skip
        have q_15 : (0 : Int) = (1 : Int) := i_eq2 z_4 (show (1 : Int32).toInt = (1 : Int) from rfl) c_15
        exfalso; omega
      · skip
        have q_15 : (0 : Int) ≠ (1 : Int) := i_ne2 z_4 (show (1 : Int32).toInt = (1 : Int) from rfl) c_15
        refine lv_iload_n hx hb dX11_ticks_32 rfl (lv_at hl 3 rfl) ?_
        refine lv_iconst (v := 3) hx hb dX11_ticks_33 (by decide) ?_
        refine lv_icmp_ne (tgt := 42) hx hb dX11_ticks_34 (by decide) (fun c_16 => ?_) (fun c_16 => ?_)
        · skip
          have q_16 : b.toInt ≠ (3 : Int) := i_ne2 (rfl : b.toInt = b.toInt) (show (3 : Int32).toInt = (3 : Int) from rfl) c_16
          refine lv_iload_n hx hb dX11_ticks_42 rfl (lv_at hl 3 rfl) ?_
          refine lv_iconst (v := 4) hx hb dX11_ticks_43 (by decide) ?_
          refine lv_icmp_ne (tgt := 56) hx hb dX11_ticks_44 (by decide) (fun c_17 => ?_) (fun c_17 => ?_)
          · skip
            have q_17 : b.toInt ≠ (4 : Int) := i_ne2 (rfl : b.toInt = b.toInt) (show (4 : Int32).toInt = (4 : Int) from rfl) c_17
            refine lv_iconst (v := 0) hx hb dX11_ticks_56 (by decide) ?_
            refine lv_istore (lv' := [(4, .int 0), (3, .int v_3), (0, .ref (ad 0)), (1, .int a), (2, .int b)]) hx hb dX11_ticks_57 hl (by decide) rfl (fun ls hl => ?_)
            refine lv_iload hx hb dX11_ticks_59 (lv_at hl 0 rfl) ?_
            refine lv_if_eq (tgt := 68) hx hb dX11_ticks_61 (by decide) (fun c_18 => ?_) (fun c_18 => ?_)
            · skip
              have q_18 : (0 : Int) = (0 : Int) := i_eq2 (show (0 : Int32).toInt = (0 : Int) from rfl) (show (0 : Int32).toInt = (0 : Int) from rfl) c_18
              refine lv_iconst (v := 1) hx hb dX11_ticks_68 (by decide) ?_
              rw [hQ]
              exact W.iret (v := 1) hx hb hr (fun t ht hW => ⟨1, rfl, by have z0 := i_l0; have z1 := i_l1; omega, ht⟩) (fun q h => by cases h) dX11_ticks_69
            · skip
              have q_18 : (0 : Int) ≠ (0 : Int) := i_ne2 (show (0 : Int32).toInt = (0 : Int) from rfl) (show (0 : Int32).toInt = (0 : Int) from rfl) c_18
              exfalso; omega
          · skip
            have q_17 : b.toInt = (4 : Int) := i_eq2 (rfl : b.toInt = b.toInt) (show (4 : Int32).toInt = (4 : Int) from rfl) c_17
            exfalso; omega
        · skip
          have q_16 : b.toInt = (3 : Int) := i_eq2 (rfl : b.toInt = b.toInt) (show (3 : Int32).toInt = (3 : Int) from rfl) c_16
          exfalso; omega
  · skip
    have q_5 : b.toInt = (1 : Int) := i_eq2 (rfl : b.toInt = b.toInt) (show (1 : Int32).toInt = (1 : Int) from rfl) c_5
    refine lv_iload_n hx hb dX11_ticks_17 rfl (lv_at hl 0 rfl) ?_
    refine lv_iconst (v := 2) hx hb dX11_ticks_18 (by decide) ?_
    refine lv_icmp_eq (tgt := 52) hx hb dX11_ticks_19 (by decide) (fun c_19 => ?_) (fun c_19 => ?_)
    · skip
      have q_19 : (0 : Int) = (2 : Int) := i_eq2 z_4 (show (2 : Int32).toInt = (2 : Int) from rfl) c_19
      exfalso; omega
    · skip
      have q_19 : (0 : Int) ≠ (2 : Int) := i_ne2 z_4 (show (2 : Int32).toInt = (2 : Int) from rfl) c_19
      refine lv_iload_n hx hb dX11_ticks_22 rfl (lv_at hl 3 rfl) ?_
      refine lv_iconst (v := 2) hx hb dX11_ticks_23 (by decide) ?_
      refine lv_icmp_ne (tgt := 32) hx hb dX11_ticks_24 (by decide) (fun c_20 => ?_) (fun c_20 => ?_)
      · skip
        have q_20 : b.toInt ≠ (2 : Int) := i_ne2 (rfl : b.toInt = b.toInt) (show (2 : Int32).toInt = (2 : Int) from rfl) c_20
        refine lv_iload_n hx hb dX11_ticks_32 rfl (lv_at hl 3 rfl) ?_
        refine lv_iconst (v := 3) hx hb dX11_ticks_33 (by decide) ?_
        refine lv_icmp_ne (tgt := 42) hx hb dX11_ticks_34 (by decide) (fun c_21 => ?_) (fun c_21 => ?_)
        · skip
          have q_21 : b.toInt ≠ (3 : Int) := i_ne2 (rfl : b.toInt = b.toInt) (show (3 : Int32).toInt = (3 : Int) from rfl) c_21
          refine lv_iload_n hx hb dX11_ticks_42 rfl (lv_at hl 3 rfl) ?_
          refine lv_iconst (v := 4) hx hb dX11_ticks_43 (by decide) ?_
          refine lv_icmp_ne (tgt := 56) hx hb dX11_ticks_44 (by decide) (fun c_22 => ?_) (fun c_22 => ?_)
          · skip
            have q_22 : b.toInt ≠ (4 : Int) := i_ne2 (rfl : b.toInt = b.toInt) (show (4 : Int32).toInt = (4 : Int) from rfl) c_22
            refine lv_iconst (v := 0) hx hb dX11_ticks_56 (by decide) ?_
            refine lv_istore (lv' := [(4, .int 0), (3, .int v_3), (0, .ref (ad 0)), (1, .int a), (2, .int b)]) hx hb dX11_ticks_57 hl (by decide) rfl (fun ls hl => ?_)
            refine lv_iload hx hb dX11_ticks_59 (lv_at hl 0 rfl) ?_
            refine lv_if_eq (tgt := 68) hx hb dX11_ticks_61 (by decide) (fun c_23 => ?_) (fun c_23 => ?_)
            · skip
              have q_23 : (0 : Int) = (0 : Int) := i_eq2 (show (0 : Int32).toInt = (0 : Int) from rfl) (show (0 : Int32).toInt = (0 : Int) from rfl) c_23
              refine lv_iconst (v := 1) hx hb dX11_ticks_68 (by decide) ?_
              rw [hQ]
              exact W.iret (v := 1) hx hb hr (fun t ht hW => ⟨1, rfl, by have z0 := i_l0; have z1 := i_l1; omega, ht⟩) (fun q h => by cases h) dX11_ticks_69
            · skip
              have q_23 : (0 : Int) ≠ (0 : Int) := i_ne2 (show (0 : Int32).toInt = (0 : Int) from rfl) (show (0 : Int32).toInt = (0 : Int) from rfl) c_23
              exfalso; omega
          · skip
            have q_22 : b.toInt = (4 : Int) := i_eq2 (rfl : b.toInt = b.toInt) (show (4 : Int32).toInt = (4 : Int) from rfl) c_22
            exfalso; omega
        · skip
          have q_21 : b.toInt = (3 : Int) := i_eq2 (rfl : b.toInt = b.toInt) (show (3 : Int32).toInt = (3 : Int) from rfl) c_21
          exfalso; omega
      · skip
        have q_20 : b.toInt = (2 : Int) := i_eq2 (rfl : b.toInt = b.toInt) (show (2 : Int32).toInt = (2 : Int) from rfl) c_20
        exfalso; omega
set_option maxHeartbeats 4000000 in
set_option maxRecDepth 100000 in
theorem c0_X11_next (l : Launch) (D : va_G) (cy : Nat → ClassId) (ad : Nat → Nat) (hI : mInj ad) (sz : Nat) (iv : gIv) (ar : gAr) (a : Int32) (b : Int32) (yL : ∀ i, (ar 1 i).toInt = 0) (hc : 0 ≤ a.toInt ∧ a.toInt < 108) (hq : 1 ≤ b.toInt ∧ b.toInt < 7) : Met l yX11_next wsX11_next ({ frames := 1, cells := 0, slots := 0, locals := 22 } : Room) (va_Pc [.ref (ad 0), .int a, .int b] (mPre D cy ad sz iv ar)) (vp_Si (fun r => r.toInt = nbN a.toInt.toNat b.toInt.toNat)) 0 0 (fun _ => False) := by
  refine Met.ofW (cc := cX11_next) (maxL := 7) (ret := (some .int)) (by decide) rfl ?_
  intro p e s m args below meth c s₁ B hml hv
  obtain ⟨rfl, rfl, hP, hK, hSt, hNw⟩ := hv
  have hx := B.exec
  have hb := B.bytes
  have hr := B.returns
  have hts := atoms_spec (ws := wsX11_next) B.pre
  have hown : s.vm.findClass RX11 = some m.cls := findClass_of_methodNamed B.named
  have hlocks := B.notSynchronized
  have hS : va_S (mA ad s.heap.size) s.heap s.heap [] := va_S.rf
  have hl := lv_entry ([.ref (ad 0), .int a, .int b]) (n := 7) (Nat.le_of_ble_eq_true rfl)
  rw [lg_entry_eq]
  generalize (lg_sl ([.ref (ad 0), .int a, .int b]) ++ List.replicate (7 - (lg_sl ([.ref (ad 0), .int a, .int b])).length) Slot.unset).toArray = ls at hl ⊢
  have hl : lv_has ls 7 [(0, .ref (ad 0)), (1, .int a), (2, .int b)] := hl
  obtain ⟨Q, hQ⟩ : ∃ Q, Q = MQ below (vp_Si (fun r => r.toInt = nbN a.toInt.toNat b.toInt.toNat)) (([.ref (ad 0), .int a, .int b] : List Value).toArray) s 0 0 (fun _ => False) := ⟨_, rfl⟩
  rw [← hQ]
  refine lv_iload_n hx hb dX11_next_0 rfl (lv_at hl 1 rfl) ?_
  refine lv_bipush (v := 6) hx hb dX11_next_1 (by decide) ?_
  refine lv_irem hx hb dX11_next_3 (by decide) ?_
  refine lv_topi (fun v_1 ev_1 => ?_)
  have tv_1 : v_1.toInt = a.toInt % (6 : Int) := i_rem (rfl : a.toInt = a.toInt) (show (6 : Int32).toInt = (6 : Int) from rfl) (by omega) (by omega) ev_1
  refine lv_iload_n hx hb dX11_next_4 rfl (lv_at hl 2 rfl) ?_
  refine lv_iconst (v := 1) hx hb dX11_next_5 (by decide) ?_
  refine lv_icmp_ne (tgt := 13) hx hb dX11_next_6 (by decide) (fun c_2 => ?_) (fun c_2 => ?_)
  · skip
    have q_2 : b.toInt ≠ (1 : Int) := i_ne2 (rfl : b.toInt = b.toInt) (show (1 : Int32).toInt = (1 : Int) from rfl) c_2
    refine lv_iload_n hx hb dX11_next_13 rfl (lv_at hl 2 rfl) ?_
    refine lv_iconst (v := 2) hx hb dX11_next_14 (by decide) ?_
    refine lv_icmp_ne (tgt := 22) hx hb dX11_next_15 (by decide) (fun c_3 => ?_) (fun c_3 => ?_)
    · skip
      have q_3 : b.toInt ≠ (2 : Int) := i_ne2 (rfl : b.toInt = b.toInt) (show (2 : Int32).toInt = (2 : Int) from rfl) c_3
      refine lv_iconst (v := 0) hx hb dX11_next_22 (by decide) ?_
      refine lv_iadd hx hb dX11_next_23 ?_
      refine lv_topi (fun v_4 ev_4 => ?_)
      have tv_4 : v_4.toInt = v_1.toInt + (0 : Int) := i_add (rfl : v_1.toInt = v_1.toInt) (show (0 : Int32).toInt = (0 : Int) from rfl) (by omega) (by omega) ev_4
      refine lv_istore_n (lv' := [(3, .int v_4), (0, .ref (ad 0)), (1, .int a), (2, .int b)]) hx hb dX11_next_24 rfl hl (by decide) rfl (fun ls hl => ?_)
      refine lv_iload_n hx hb dX11_next_25 rfl (lv_at hl 2 rfl) ?_
      refine lv_bipush (v := 6) hx hb dX11_next_26 (by decide) ?_
      refine lv_idiv hx hb dX11_next_28 (by decide) ?_
      refine lv_topi (fun v_5 ev_5 => ?_)
      have tv_5 : v_5.toInt = a.toInt / (6 : Int) := i_div (rfl : a.toInt = a.toInt) (show (6 : Int32).toInt = (6 : Int) from rfl) (by omega) (by omega) ev_5
      refine lv_bipush (v := 6) hx hb dX11_next_29 (by decide) ?_
      refine lv_irem hx hb dX11_next_31 (by decide) ?_
      refine lv_topi (fun v_6 ev_6 => ?_)
      have tv_6 : v_6.toInt = v_5.toInt % (6 : Int) := i_rem (rfl : v_5.toInt = v_5.toInt) (show (6 : Int32).toInt = (6 : Int) from rfl) (by omega) (by omega) ev_6
      refine lv_iload_n hx hb dX11_next_32 rfl (lv_at hl 3 rfl) ?_
      refine lv_iconst (v := 3) hx hb dX11_next_33 (by decide) ?_
      refine lv_icmp_ne (tgt := 41) hx hb dX11_next_34 (by decide) (fun c_7 => ?_) (fun c_7 => ?_)
      · skip
        have q_7 : b.toInt ≠ (3 : Int) := i_ne2 (rfl : b.toInt = b.toInt) (show (3 : Int32).toInt = (3 : Int) from rfl) c_7
        refine lv_iload_n hx hb dX11_next_41 rfl (lv_at hl 3 rfl) ?_
        refine lv_iconst (v := 4) hx hb dX11_next_42 (by decide) ?_
        refine lv_icmp_ne (tgt := 50) hx hb dX11_next_43 (by decide) (fun c_8 => ?_) (fun c_8 => ?_)
        · skip
          have q_8 : b.toInt ≠ (4 : Int) := i_ne2 (rfl : b.toInt = b.toInt) (show (4 : Int32).toInt = (4 : Int) from rfl) c_8
          refine lv_iconst (v := 0) hx hb dX11_next_50 (by decide) ?_
          refine lv_iadd hx hb dX11_next_51 ?_
          refine lv_topi (fun v_9 ev_9 => ?_)
          have tv_9 : v_9.toInt = v_6.toInt + (0 : Int) := i_add (rfl : v_6.toInt = v_6.toInt) (show (0 : Int32).toInt = (0 : Int) from rfl) (by omega) (by omega) ev_9
          refine lv_istore (lv' := [(4, .int v_9), (3, .int v_4), (0, .ref (ad 0)), (1, .int a), (2, .int b)]) hx hb dX11_next_52 hl (by decide) rfl (fun ls hl => ?_)
          refine lv_iload_n hx hb dX11_next_54 rfl (lv_at hl 3 rfl) ?_
          refine g_callSi (va_runS (As := [.int a]) (rest := []) ⟨hx, hb, hml, hown, hts⟩ (c_X11_layerOf l a (by omega)) (va_cwS 1 hts gX11_next_X11_layerOf rfl rfl rfl (by decide +kernel) ⟨Nat.le_of_ble_eq_true rfl, Nat.le_of_ble_eq_true rfl⟩) (g_preT) rfl rfl hl.1 rfl (lv_room (Nat.le_of_ble_eq_true rfl)) dX11_next_55 ⟨Nat.zero_le _, Nat.zero_le _⟩) (fun r_10 w_10 => ?_)
          try dsimp only at w_10
          refine lv_iload_n hx hb dX11_next_58 rfl (lv_at hl 4 rfl) ?_
          refine lv_iconst (v := 5) hx hb dX11_next_59 (by decide) ?_
          refine lv_icmp_ne (tgt := 67) hx hb dX11_next_60 (by decide) (fun c_11 => ?_) (fun c_11 => ?_)
          · skip
            have q_11 : b.toInt ≠ (5 : Int) := i_ne2 (rfl : b.toInt = b.toInt) (show (5 : Int32).toInt = (5 : Int) from rfl) c_11
            refine lv_iload_n hx hb dX11_next_67 rfl (lv_at hl 4 rfl) ?_
            refine lv_bipush (v := 6) hx hb dX11_next_68 (by decide) ?_
            refine lv_icmp_ne (tgt := 77) hx hb dX11_next_70 (by decide) (fun c_12 => ?_) (fun c_12 => ?_)
            · skip
              have q_12 : b.toInt ≠ (6 : Int) := i_ne2 (rfl : b.toInt = b.toInt) (show (6 : Int32).toInt = (6 : Int) from rfl) c_12
              exfalso; omega
            · skip
              have q_12 : b.toInt = (6 : Int) := i_eq2 (rfl : b.toInt = b.toInt) (show (6 : Int32).toInt = (6 : Int) from rfl) c_12
              refine lv_iconst (v := (-1)) hx hb dX11_next_73 (by decide) ?_
              refine lv_goto (tgt := 78) hx hb dX11_next_74 (by decide) ?_
              refine lv_iadd hx hb dX11_next_78 ?_
              refine lv_topi (fun v_13 ev_13 => ?_)
              have rg_14 := i_rng r_10
              have tv_13 : v_13.toInt = r_10.toInt + (-1 : Int) := i_add (rfl : r_10.toInt = r_10.toInt) (show ((-1) : Int32).toInt = (-1 : Int) from rfl) (by omega) (by omega) ev_13
              refine lv_istore (lv' := [(5, .int v_13), (4, .int v_9), (3, .int v_4), (0, .ref (ad 0)), (1, .int a), (2, .int b)]) hx hb dX11_next_79 hl (by decide) rfl (fun ls hl => ?_)
              refine lv_iload_n hx hb dX11_next_81 rfl (lv_at hl 2 rfl) ?_
              refine lv_iconst (v := 0) hx hb dX11_next_82 (by decide) ?_
              refine lv_iconst (v := 5) hx hb dX11_next_83 (by decide) ?_
              have zl_15 : (0 : Int32).toInt = (0 : Int) := rfl
              have zl_16 : (5 : Int32).toInt = (5 : Int) := rfl
              refine g_callSi (va_runS (As := [.int v_4, .int 0, .int 5]) (rest := []) ⟨hx, hb, hml, hown, hts⟩ (c_X11_isIn l v_4 0 5) (va_cwS 3 hts gX11_next_X11_isIn rfl rfl rfl (by decide +kernel) ⟨Nat.le_of_ble_eq_true rfl, Nat.le_of_ble_eq_true rfl⟩) (g_preT) rfl rfl hl.1 rfl (lv_room (Nat.le_of_ble_eq_true rfl)) dX11_next_84 ⟨Nat.zero_le _, Nat.zero_le _⟩) (fun r_17 w_17 => ?_)
              try dsimp only at w_17
              refine lv_if_eq (tgt := 110) hx hb dX11_next_87 (by decide) (fun c_18 => ?_) (fun c_18 => ?_)
              · skip
                have q_18 : r_17.toInt = (0 : Int) := i_eq2 (rfl : r_17.toInt = r_17.toInt) (show (0 : Int32).toInt = (0 : Int) from rfl) c_18
                refine lv_iconst (v := (-1)) hx hb dX11_next_110 (by decide) ?_
                rw [hQ]
                exact W.iret (v := (-1)) hx hb hr (fun t ht hW => ⟨(-1), rfl, by
                  have zm := i_m1
                  have hB : b.toInt.toNat = 6 := by omega
                  rw [hB, nb6]
                  split <;> omega, ht⟩) (fun q h => by cases h) dX11_next_111
              · skip
                have q_18 : r_17.toInt ≠ (0 : Int) := i_ne2 (rfl : r_17.toInt = r_17.toInt) (show (0 : Int32).toInt = (0 : Int) from rfl) c_18
                refine lv_iload hx hb dX11_next_90 (lv_at hl 1 rfl) ?_
                refine lv_iconst (v := 0) hx hb dX11_next_92 (by decide) ?_
                refine lv_iconst (v := 5) hx hb dX11_next_93 (by decide) ?_
                have zl_19 : (0 : Int32).toInt = (0 : Int) := rfl
                have zl_20 : (5 : Int32).toInt = (5 : Int) := rfl
                refine g_callSi (va_runS (As := [.int v_9, .int 0, .int 5]) (rest := []) ⟨hx, hb, hml, hown, hts⟩ (c_X11_isIn l v_9 0 5) (va_cwS 3 hts gX11_next_X11_isIn rfl rfl rfl (by decide +kernel) ⟨Nat.le_of_ble_eq_true rfl, Nat.le_of_ble_eq_true rfl⟩) (g_preT) rfl rfl hl.1 rfl (lv_room (Nat.le_of_ble_eq_true rfl)) dX11_next_94 ⟨Nat.zero_le _, Nat.zero_le _⟩) (fun r_21 w_21 => ?_)
                try dsimp only at w_21
                refine lv_if_eq (tgt := 110) hx hb dX11_next_97 (by decide) (fun c_22 => ?_) (fun c_22 => ?_)
                · skip
                  have q_22 : r_21.toInt = (0 : Int) := i_eq2 (rfl : r_21.toInt = r_21.toInt) (show (0 : Int32).toInt = (0 : Int) from rfl) c_22
                  refine lv_iconst (v := (-1)) hx hb dX11_next_110 (by decide) ?_
                  rw [hQ]
                  exact W.iret (v := (-1)) hx hb hr (fun t ht hW => ⟨(-1), rfl, by
                    have zm := i_m1
                    have hB : b.toInt.toNat = 6 := by omega
                    rw [hB, nb6]
                    split <;> omega, ht⟩) (fun q h => by cases h) dX11_next_111
                · skip
                  have q_22 : r_21.toInt ≠ (0 : Int) := i_ne2 (rfl : r_21.toInt = r_21.toInt) (show (0 : Int32).toInt = (0 : Int) from rfl) c_22
                  refine lv_iload hx hb dX11_next_100 (lv_at hl 0 rfl) ?_
                  refine lv_iconst (v := 0) hx hb dX11_next_102 (by decide) ?_
                  refine lv_iconst (v := 2) hx hb dX11_next_103 (by decide) ?_
                  have zl_23 : (0 : Int32).toInt = (0 : Int) := rfl
                  have zl_24 : (2 : Int32).toInt = (2 : Int) := rfl
                  refine g_callSi (va_runS (As := [.int v_13, .int 0, .int 2]) (rest := []) ⟨hx, hb, hml, hown, hts⟩ (c_X11_isIn l v_13 0 2) (va_cwS 3 hts gX11_next_X11_isIn rfl rfl rfl (by decide +kernel) ⟨Nat.le_of_ble_eq_true rfl, Nat.le_of_ble_eq_true rfl⟩) (g_preT) rfl rfl hl.1 rfl (lv_room (Nat.le_of_ble_eq_true rfl)) dX11_next_104 ⟨Nat.zero_le _, Nat.zero_le _⟩) (fun r_25 w_25 => ?_)
                  try dsimp only at w_25
                  refine lv_if_ne (tgt := 112) hx hb dX11_next_107 (by decide) (fun c_26 => ?_) (fun c_26 => ?_)
                  · skip
                    have q_26 : r_25.toInt ≠ (0 : Int) := i_ne2 (rfl : r_25.toInt = r_25.toInt) (show (0 : Int32).toInt = (0 : Int) from rfl) c_26
                    refine lv_iload_n hx hb dX11_next_112 rfl (lv_at hl 2 rfl) ?_
                    refine lv_bipush (v := 6) hx hb dX11_next_113 (by decide) ?_
                    refine lv_iload hx hb dX11_next_115 (lv_at hl 1 rfl) ?_
                    refine lv_imul hx hb dX11_next_117 ?_
                    refine lv_topi (fun v_27 ev_27 => ?_)
                    have tv_27 : v_27.toInt = (6 : Int) * v_9.toInt := i_mul (show (6 : Int32).toInt = (6 : Int) from rfl) (rfl : v_9.toInt = v_9.toInt) (by omega) (by omega) ev_27
                    refine lv_iadd hx hb dX11_next_118 ?_
                    refine lv_topi (fun v_28 ev_28 => ?_)
                    have tv_28 : v_28.toInt = v_4.toInt + v_27.toInt := i_add (rfl : v_4.toInt = v_4.toInt) (rfl : v_27.toInt = v_27.toInt) (by omega) (by omega) ev_28
                    refine lv_bipush (v := 36) hx hb dX11_next_119 (by decide) ?_
                    refine lv_iload hx hb dX11_next_121 (lv_at hl 0 rfl) ?_
                    refine lv_imul hx hb dX11_next_123 ?_
                    refine lv_topi (fun v_29 ev_29 => ?_)
                    have rg_30 := i_rng v_13
                    have tv_29 : v_29.toInt = (36 : Int) * v_13.toInt := i_mul (show (36 : Int32).toInt = (36 : Int) from rfl) (rfl : v_13.toInt = v_13.toInt) (by omega) (by omega) ev_29
                    refine lv_iadd hx hb dX11_next_124 ?_
                    refine lv_topi (fun v_31 ev_31 => ?_)
                    have rg_32 := i_rng v_29
                    have tv_31 : v_31.toInt = v_28.toInt + v_29.toInt := i_add (rfl : v_28.toInt = v_28.toInt) (rfl : v_29.toInt = v_29.toInt) (by omega) (by omega) ev_31
                    refine lv_istore (lv' := [(6, .int v_31), (5, .int v_13), (4, .int v_9), (3, .int v_4), (0, .ref (ad 0)), (1, .int a), (2, .int b)]) hx hb dX11_next_125 hl (by decide) rfl (fun ls hl => ?_)
                    refine lv_aload_n hx hb dX11_next_127 rfl (lv_at hl 4 rfl) ?_
                    refine lv_iload hx hb dX11_next_128 (lv_at hl 0 rfl) ?_
                    refine g_callSi (va_runV (As := [.int v_31]) (rest := []) ⟨hx, hb, hml, hown, hts⟩ (c0_X11_isObstacle l D cy ad hI _ iv ar v_31 yL (by omega)) (cwV 1 hts gX11_next_X11_isObstacle rfl rfl rfl (by decide +kernel) ⟨Nat.le_of_ble_eq_true rfl, Nat.le_of_ble_eq_true rfl⟩) (m_preV hP hK hSt hNw hS (m_at11 (Nat.le_of_ble_eq_true rfl) rfl) rfl) rfl rfl hl.1 rfl (lv_room (Nat.le_of_ble_eq_true rfl)) dX11_next_130 ⟨Nat.zero_le _, Nat.zero_le _⟩) (fun r_33 w_33 => ?_)
                    try dsimp only at w_33
                    refine lv_if_eq (tgt := 140) hx hb dX11_next_133 (by decide) (fun c_34 => ?_) (fun c_34 => ?_)
                    · skip
                      have q_34 : (0 : Int) = (0 : Int) := i_eq2 w_33 (show (0 : Int32).toInt = (0 : Int) from rfl) c_34
                      refine lv_iload hx hb dX11_next_140 (lv_at hl 0 rfl) ?_
                      rw [hQ]
                      exact W.iret (v := v_31) hx hb hr (fun t ht hW => ⟨v_31, rfl, by
                        have zm := i_m1
                        have hB : b.toInt.toNat = 6 := by omega
                        rw [hB, nb6]
                        split <;> omega, ht⟩) (fun q h => by cases h) dX11_next_142
                    · skip
                      have q_34 : (0 : Int) ≠ (0 : Int) := i_ne2 w_33 (show (0 : Int32).toInt = (0 : Int) from rfl) c_34
                      exfalso; omega
                  · skip
                    have q_26 : r_25.toInt = (0 : Int) := i_eq2 (rfl : r_25.toInt = r_25.toInt) (show (0 : Int32).toInt = (0 : Int) from rfl) c_26
                    refine lv_iconst (v := (-1)) hx hb dX11_next_110 (by decide) ?_
                    rw [hQ]
                    exact W.iret (v := (-1)) hx hb hr (fun t ht hW => ⟨(-1), rfl, by
                      have zm := i_m1
                      have hB : b.toInt.toNat = 6 := by omega
                      rw [hB, nb6]
                      split <;> omega, ht⟩) (fun q h => by cases h) dX11_next_111
          · skip
            have q_11 : b.toInt = (5 : Int) := i_eq2 (rfl : b.toInt = b.toInt) (show (5 : Int32).toInt = (5 : Int) from rfl) c_11
            refine lv_iconst (v := 1) hx hb dX11_next_63 (by decide) ?_
            refine lv_goto (tgt := 78) hx hb dX11_next_64 (by decide) ?_
            refine lv_iadd hx hb dX11_next_78 ?_
            refine lv_topi (fun v_35 ev_35 => ?_)
            have rg_36 := i_rng r_10
            have tv_35 : v_35.toInt = r_10.toInt + (1 : Int) := i_add (rfl : r_10.toInt = r_10.toInt) (show (1 : Int32).toInt = (1 : Int) from rfl) (by omega) (by omega) ev_35
            refine lv_istore (lv' := [(5, .int v_35), (4, .int v_9), (3, .int v_4), (0, .ref (ad 0)), (1, .int a), (2, .int b)]) hx hb dX11_next_79 hl (by decide) rfl (fun ls hl => ?_)
            refine lv_iload_n hx hb dX11_next_81 rfl (lv_at hl 2 rfl) ?_
            refine lv_iconst (v := 0) hx hb dX11_next_82 (by decide) ?_
            refine lv_iconst (v := 5) hx hb dX11_next_83 (by decide) ?_
            have zl_37 : (0 : Int32).toInt = (0 : Int) := rfl
            have zl_38 : (5 : Int32).toInt = (5 : Int) := rfl
            refine g_callSi (va_runS (As := [.int v_4, .int 0, .int 5]) (rest := []) ⟨hx, hb, hml, hown, hts⟩ (c_X11_isIn l v_4 0 5) (va_cwS 3 hts gX11_next_X11_isIn rfl rfl rfl (by decide +kernel) ⟨Nat.le_of_ble_eq_true rfl, Nat.le_of_ble_eq_true rfl⟩) (g_preT) rfl rfl hl.1 rfl (lv_room (Nat.le_of_ble_eq_true rfl)) dX11_next_84 ⟨Nat.zero_le _, Nat.zero_le _⟩) (fun r_39 w_39 => ?_)
            try dsimp only at w_39
            refine lv_if_eq (tgt := 110) hx hb dX11_next_87 (by decide) (fun c_40 => ?_) (fun c_40 => ?_)
            · skip
              have q_40 : r_39.toInt = (0 : Int) := i_eq2 (rfl : r_39.toInt = r_39.toInt) (show (0 : Int32).toInt = (0 : Int) from rfl) c_40
              refine lv_iconst (v := (-1)) hx hb dX11_next_110 (by decide) ?_
              rw [hQ]
              exact W.iret (v := (-1)) hx hb hr (fun t ht hW => ⟨(-1), rfl, by
                have zm := i_m1
                have hB : b.toInt.toNat = 5 := by omega
                rw [hB, nb5]
                split <;> omega, ht⟩) (fun q h => by cases h) dX11_next_111
            · skip
              have q_40 : r_39.toInt ≠ (0 : Int) := i_ne2 (rfl : r_39.toInt = r_39.toInt) (show (0 : Int32).toInt = (0 : Int) from rfl) c_40
              refine lv_iload hx hb dX11_next_90 (lv_at hl 1 rfl) ?_
              refine lv_iconst (v := 0) hx hb dX11_next_92 (by decide) ?_
              refine lv_iconst (v := 5) hx hb dX11_next_93 (by decide) ?_
              have zl_41 : (0 : Int32).toInt = (0 : Int) := rfl
              have zl_42 : (5 : Int32).toInt = (5 : Int) := rfl
              refine g_callSi (va_runS (As := [.int v_9, .int 0, .int 5]) (rest := []) ⟨hx, hb, hml, hown, hts⟩ (c_X11_isIn l v_9 0 5) (va_cwS 3 hts gX11_next_X11_isIn rfl rfl rfl (by decide +kernel) ⟨Nat.le_of_ble_eq_true rfl, Nat.le_of_ble_eq_true rfl⟩) (g_preT) rfl rfl hl.1 rfl (lv_room (Nat.le_of_ble_eq_true rfl)) dX11_next_94 ⟨Nat.zero_le _, Nat.zero_le _⟩) (fun r_43 w_43 => ?_)
              try dsimp only at w_43
              refine lv_if_eq (tgt := 110) hx hb dX11_next_97 (by decide) (fun c_44 => ?_) (fun c_44 => ?_)
              · skip
                have q_44 : r_43.toInt = (0 : Int) := i_eq2 (rfl : r_43.toInt = r_43.toInt) (show (0 : Int32).toInt = (0 : Int) from rfl) c_44
                refine lv_iconst (v := (-1)) hx hb dX11_next_110 (by decide) ?_
                rw [hQ]
                exact W.iret (v := (-1)) hx hb hr (fun t ht hW => ⟨(-1), rfl, by
                  have zm := i_m1
                  have hB : b.toInt.toNat = 5 := by omega
                  rw [hB, nb5]
                  split <;> omega, ht⟩) (fun q h => by cases h) dX11_next_111
              · skip
                have q_44 : r_43.toInt ≠ (0 : Int) := i_ne2 (rfl : r_43.toInt = r_43.toInt) (show (0 : Int32).toInt = (0 : Int) from rfl) c_44
                refine lv_iload hx hb dX11_next_100 (lv_at hl 0 rfl) ?_
                refine lv_iconst (v := 0) hx hb dX11_next_102 (by decide) ?_
                refine lv_iconst (v := 2) hx hb dX11_next_103 (by decide) ?_
                have zl_45 : (0 : Int32).toInt = (0 : Int) := rfl
                have zl_46 : (2 : Int32).toInt = (2 : Int) := rfl
                refine g_callSi (va_runS (As := [.int v_35, .int 0, .int 2]) (rest := []) ⟨hx, hb, hml, hown, hts⟩ (c_X11_isIn l v_35 0 2) (va_cwS 3 hts gX11_next_X11_isIn rfl rfl rfl (by decide +kernel) ⟨Nat.le_of_ble_eq_true rfl, Nat.le_of_ble_eq_true rfl⟩) (g_preT) rfl rfl hl.1 rfl (lv_room (Nat.le_of_ble_eq_true rfl)) dX11_next_104 ⟨Nat.zero_le _, Nat.zero_le _⟩) (fun r_47 w_47 => ?_)
                try dsimp only at w_47
                refine lv_if_ne (tgt := 112) hx hb dX11_next_107 (by decide) (fun c_48 => ?_) (fun c_48 => ?_)
                · skip
                  have q_48 : r_47.toInt ≠ (0 : Int) := i_ne2 (rfl : r_47.toInt = r_47.toInt) (show (0 : Int32).toInt = (0 : Int) from rfl) c_48
                  refine lv_iload_n hx hb dX11_next_112 rfl (lv_at hl 2 rfl) ?_
                  refine lv_bipush (v := 6) hx hb dX11_next_113 (by decide) ?_
                  refine lv_iload hx hb dX11_next_115 (lv_at hl 1 rfl) ?_
                  refine lv_imul hx hb dX11_next_117 ?_
                  refine lv_topi (fun v_49 ev_49 => ?_)
                  have tv_49 : v_49.toInt = (6 : Int) * v_9.toInt := i_mul (show (6 : Int32).toInt = (6 : Int) from rfl) (rfl : v_9.toInt = v_9.toInt) (by omega) (by omega) ev_49
                  refine lv_iadd hx hb dX11_next_118 ?_
                  refine lv_topi (fun v_50 ev_50 => ?_)
                  have tv_50 : v_50.toInt = v_4.toInt + v_49.toInt := i_add (rfl : v_4.toInt = v_4.toInt) (rfl : v_49.toInt = v_49.toInt) (by omega) (by omega) ev_50
                  refine lv_bipush (v := 36) hx hb dX11_next_119 (by decide) ?_
                  refine lv_iload hx hb dX11_next_121 (lv_at hl 0 rfl) ?_
                  refine lv_imul hx hb dX11_next_123 ?_
                  refine lv_topi (fun v_51 ev_51 => ?_)
                  have rg_52 := i_rng v_35
                  have tv_51 : v_51.toInt = (36 : Int) * v_35.toInt := i_mul (show (36 : Int32).toInt = (36 : Int) from rfl) (rfl : v_35.toInt = v_35.toInt) (by omega) (by omega) ev_51
                  refine lv_iadd hx hb dX11_next_124 ?_
                  refine lv_topi (fun v_53 ev_53 => ?_)
                  have rg_54 := i_rng v_51
                  have tv_53 : v_53.toInt = v_50.toInt + v_51.toInt := i_add (rfl : v_50.toInt = v_50.toInt) (rfl : v_51.toInt = v_51.toInt) (by omega) (by omega) ev_53
                  refine lv_istore (lv' := [(6, .int v_53), (5, .int v_35), (4, .int v_9), (3, .int v_4), (0, .ref (ad 0)), (1, .int a), (2, .int b)]) hx hb dX11_next_125 hl (by decide) rfl (fun ls hl => ?_)
                  refine lv_aload_n hx hb dX11_next_127 rfl (lv_at hl 4 rfl) ?_
                  refine lv_iload hx hb dX11_next_128 (lv_at hl 0 rfl) ?_
                  refine g_callSi (va_runV (As := [.int v_53]) (rest := []) ⟨hx, hb, hml, hown, hts⟩ (c0_X11_isObstacle l D cy ad hI _ iv ar v_53 yL (by omega)) (cwV 1 hts gX11_next_X11_isObstacle rfl rfl rfl (by decide +kernel) ⟨Nat.le_of_ble_eq_true rfl, Nat.le_of_ble_eq_true rfl⟩) (m_preV hP hK hSt hNw hS (m_at11 (Nat.le_of_ble_eq_true rfl) rfl) rfl) rfl rfl hl.1 rfl (lv_room (Nat.le_of_ble_eq_true rfl)) dX11_next_130 ⟨Nat.zero_le _, Nat.zero_le _⟩) (fun r_55 w_55 => ?_)
                  try dsimp only at w_55
                  refine lv_if_eq (tgt := 140) hx hb dX11_next_133 (by decide) (fun c_56 => ?_) (fun c_56 => ?_)
                  · skip
                    have q_56 : (0 : Int) = (0 : Int) := i_eq2 w_55 (show (0 : Int32).toInt = (0 : Int) from rfl) c_56
                    refine lv_iload hx hb dX11_next_140 (lv_at hl 0 rfl) ?_
                    rw [hQ]
                    exact W.iret (v := v_53) hx hb hr (fun t ht hW => ⟨v_53, rfl, by
                      have zm := i_m1
                      have hB : b.toInt.toNat = 5 := by omega
                      rw [hB, nb5]
                      split <;> omega, ht⟩) (fun q h => by cases h) dX11_next_142
                  · skip
                    have q_56 : (0 : Int) ≠ (0 : Int) := i_ne2 w_55 (show (0 : Int32).toInt = (0 : Int) from rfl) c_56
                    exfalso; omega
                · skip
                  have q_48 : r_47.toInt = (0 : Int) := i_eq2 (rfl : r_47.toInt = r_47.toInt) (show (0 : Int32).toInt = (0 : Int) from rfl) c_48
                  refine lv_iconst (v := (-1)) hx hb dX11_next_110 (by decide) ?_
                  rw [hQ]
                  exact W.iret (v := (-1)) hx hb hr (fun t ht hW => ⟨(-1), rfl, by
                    have zm := i_m1
                    have hB : b.toInt.toNat = 5 := by omega
                    rw [hB, nb5]
                    split <;> omega, ht⟩) (fun q h => by cases h) dX11_next_111
        · skip
          have q_8 : b.toInt = (4 : Int) := i_eq2 (rfl : b.toInt = b.toInt) (show (4 : Int32).toInt = (4 : Int) from rfl) c_8
          refine lv_iconst (v := (-1)) hx hb dX11_next_46 (by decide) ?_
          refine lv_goto (tgt := 51) hx hb dX11_next_47 (by decide) ?_
          refine lv_iadd hx hb dX11_next_51 ?_
          refine lv_topi (fun v_57 ev_57 => ?_)
          have tv_57 : v_57.toInt = v_6.toInt + (-1 : Int) := i_add (rfl : v_6.toInt = v_6.toInt) (show ((-1) : Int32).toInt = (-1 : Int) from rfl) (by omega) (by omega) ev_57
          refine lv_istore (lv' := [(4, .int v_57), (3, .int v_4), (0, .ref (ad 0)), (1, .int a), (2, .int b)]) hx hb dX11_next_52 hl (by decide) rfl (fun ls hl => ?_)
          refine lv_iload_n hx hb dX11_next_54 rfl (lv_at hl 3 rfl) ?_
          refine g_callSi (va_runS (As := [.int a]) (rest := []) ⟨hx, hb, hml, hown, hts⟩ (c_X11_layerOf l a (by omega)) (va_cwS 1 hts gX11_next_X11_layerOf rfl rfl rfl (by decide +kernel) ⟨Nat.le_of_ble_eq_true rfl, Nat.le_of_ble_eq_true rfl⟩) (g_preT) rfl rfl hl.1 rfl (lv_room (Nat.le_of_ble_eq_true rfl)) dX11_next_55 ⟨Nat.zero_le _, Nat.zero_le _⟩) (fun r_58 w_58 => ?_)
          try dsimp only at w_58
          refine lv_iload_n hx hb dX11_next_58 rfl (lv_at hl 4 rfl) ?_
          refine lv_iconst (v := 5) hx hb dX11_next_59 (by decide) ?_
          refine lv_icmp_ne (tgt := 67) hx hb dX11_next_60 (by decide) (fun c_59 => ?_) (fun c_59 => ?_)
          · skip
            have q_59 : b.toInt ≠ (5 : Int) := i_ne2 (rfl : b.toInt = b.toInt) (show (5 : Int32).toInt = (5 : Int) from rfl) c_59
            refine lv_iload_n hx hb dX11_next_67 rfl (lv_at hl 4 rfl) ?_
            refine lv_bipush (v := 6) hx hb dX11_next_68 (by decide) ?_
            refine lv_icmp_ne (tgt := 77) hx hb dX11_next_70 (by decide) (fun c_60 => ?_) (fun c_60 => ?_)
            · skip
              have q_60 : b.toInt ≠ (6 : Int) := i_ne2 (rfl : b.toInt = b.toInt) (show (6 : Int32).toInt = (6 : Int) from rfl) c_60
              refine lv_iconst (v := 0) hx hb dX11_next_77 (by decide) ?_
              refine lv_iadd hx hb dX11_next_78 ?_
              refine lv_topi (fun v_61 ev_61 => ?_)
              have tv_61 : v_61.toInt = r_58.toInt + (0 : Int) := i_add (rfl : r_58.toInt = r_58.toInt) (show (0 : Int32).toInt = (0 : Int) from rfl) (by omega) (by omega) ev_61
              refine lv_istore (lv' := [(5, .int v_61), (4, .int v_57), (3, .int v_4), (0, .ref (ad 0)), (1, .int a), (2, .int b)]) hx hb dX11_next_79 hl (by decide) rfl (fun ls hl => ?_)
              refine lv_iload_n hx hb dX11_next_81 rfl (lv_at hl 2 rfl) ?_
              refine lv_iconst (v := 0) hx hb dX11_next_82 (by decide) ?_
              refine lv_iconst (v := 5) hx hb dX11_next_83 (by decide) ?_
              have zl_62 : (0 : Int32).toInt = (0 : Int) := rfl
              have zl_63 : (5 : Int32).toInt = (5 : Int) := rfl
              refine g_callSi (va_runS (As := [.int v_4, .int 0, .int 5]) (rest := []) ⟨hx, hb, hml, hown, hts⟩ (c_X11_isIn l v_4 0 5) (va_cwS 3 hts gX11_next_X11_isIn rfl rfl rfl (by decide +kernel) ⟨Nat.le_of_ble_eq_true rfl, Nat.le_of_ble_eq_true rfl⟩) (g_preT) rfl rfl hl.1 rfl (lv_room (Nat.le_of_ble_eq_true rfl)) dX11_next_84 ⟨Nat.zero_le _, Nat.zero_le _⟩) (fun r_64 w_64 => ?_)
              try dsimp only at w_64
              refine lv_if_eq (tgt := 110) hx hb dX11_next_87 (by decide) (fun c_65 => ?_) (fun c_65 => ?_)
              · skip
                have q_65 : r_64.toInt = (0 : Int) := i_eq2 (rfl : r_64.toInt = r_64.toInt) (show (0 : Int32).toInt = (0 : Int) from rfl) c_65
                refine lv_iconst (v := (-1)) hx hb dX11_next_110 (by decide) ?_
                rw [hQ]
                exact W.iret (v := (-1)) hx hb hr (fun t ht hW => ⟨(-1), rfl, by
                  have zm := i_m1
                  have hB : b.toInt.toNat = 4 := by omega
                  rw [hB, nb4]
                  split <;> omega, ht⟩) (fun q h => by cases h) dX11_next_111
              · skip
                have q_65 : r_64.toInt ≠ (0 : Int) := i_ne2 (rfl : r_64.toInt = r_64.toInt) (show (0 : Int32).toInt = (0 : Int) from rfl) c_65
                refine lv_iload hx hb dX11_next_90 (lv_at hl 1 rfl) ?_
                refine lv_iconst (v := 0) hx hb dX11_next_92 (by decide) ?_
                refine lv_iconst (v := 5) hx hb dX11_next_93 (by decide) ?_
                have zl_66 : (0 : Int32).toInt = (0 : Int) := rfl
                have zl_67 : (5 : Int32).toInt = (5 : Int) := rfl
                refine g_callSi (va_runS (As := [.int v_57, .int 0, .int 5]) (rest := []) ⟨hx, hb, hml, hown, hts⟩ (c_X11_isIn l v_57 0 5) (va_cwS 3 hts gX11_next_X11_isIn rfl rfl rfl (by decide +kernel) ⟨Nat.le_of_ble_eq_true rfl, Nat.le_of_ble_eq_true rfl⟩) (g_preT) rfl rfl hl.1 rfl (lv_room (Nat.le_of_ble_eq_true rfl)) dX11_next_94 ⟨Nat.zero_le _, Nat.zero_le _⟩) (fun r_68 w_68 => ?_)
                try dsimp only at w_68
                refine lv_if_eq (tgt := 110) hx hb dX11_next_97 (by decide) (fun c_69 => ?_) (fun c_69 => ?_)
                · skip
                  have q_69 : r_68.toInt = (0 : Int) := i_eq2 (rfl : r_68.toInt = r_68.toInt) (show (0 : Int32).toInt = (0 : Int) from rfl) c_69
                  refine lv_iconst (v := (-1)) hx hb dX11_next_110 (by decide) ?_
                  rw [hQ]
                  exact W.iret (v := (-1)) hx hb hr (fun t ht hW => ⟨(-1), rfl, by
                    have zm := i_m1
                    have hB : b.toInt.toNat = 4 := by omega
                    rw [hB, nb4]
                    split <;> omega, ht⟩) (fun q h => by cases h) dX11_next_111
                · skip
                  have q_69 : r_68.toInt ≠ (0 : Int) := i_ne2 (rfl : r_68.toInt = r_68.toInt) (show (0 : Int32).toInt = (0 : Int) from rfl) c_69
                  refine lv_iload hx hb dX11_next_100 (lv_at hl 0 rfl) ?_
                  refine lv_iconst (v := 0) hx hb dX11_next_102 (by decide) ?_
                  refine lv_iconst (v := 2) hx hb dX11_next_103 (by decide) ?_
                  have zl_70 : (0 : Int32).toInt = (0 : Int) := rfl
                  have zl_71 : (2 : Int32).toInt = (2 : Int) := rfl
                  refine g_callSi (va_runS (As := [.int v_61, .int 0, .int 2]) (rest := []) ⟨hx, hb, hml, hown, hts⟩ (c_X11_isIn l v_61 0 2) (va_cwS 3 hts gX11_next_X11_isIn rfl rfl rfl (by decide +kernel) ⟨Nat.le_of_ble_eq_true rfl, Nat.le_of_ble_eq_true rfl⟩) (g_preT) rfl rfl hl.1 rfl (lv_room (Nat.le_of_ble_eq_true rfl)) dX11_next_104 ⟨Nat.zero_le _, Nat.zero_le _⟩) (fun r_72 w_72 => ?_)
                  try dsimp only at w_72
                  refine lv_if_ne (tgt := 112) hx hb dX11_next_107 (by decide) (fun c_73 => ?_) (fun c_73 => ?_)
                  · skip
                    have q_73 : r_72.toInt ≠ (0 : Int) := i_ne2 (rfl : r_72.toInt = r_72.toInt) (show (0 : Int32).toInt = (0 : Int) from rfl) c_73
                    refine lv_iload_n hx hb dX11_next_112 rfl (lv_at hl 2 rfl) ?_
                    refine lv_bipush (v := 6) hx hb dX11_next_113 (by decide) ?_
                    refine lv_iload hx hb dX11_next_115 (lv_at hl 1 rfl) ?_
                    refine lv_imul hx hb dX11_next_117 ?_
                    refine lv_topi (fun v_74 ev_74 => ?_)
                    have tv_74 : v_74.toInt = (6 : Int) * v_57.toInt := i_mul (show (6 : Int32).toInt = (6 : Int) from rfl) (rfl : v_57.toInt = v_57.toInt) (by omega) (by omega) ev_74
                    refine lv_iadd hx hb dX11_next_118 ?_
                    refine lv_topi (fun v_75 ev_75 => ?_)
                    have tv_75 : v_75.toInt = v_4.toInt + v_74.toInt := i_add (rfl : v_4.toInt = v_4.toInt) (rfl : v_74.toInt = v_74.toInt) (by omega) (by omega) ev_75
                    refine lv_bipush (v := 36) hx hb dX11_next_119 (by decide) ?_
                    refine lv_iload hx hb dX11_next_121 (lv_at hl 0 rfl) ?_
                    refine lv_imul hx hb dX11_next_123 ?_
                    refine lv_topi (fun v_76 ev_76 => ?_)
                    have rg_77 := i_rng v_61
                    have tv_76 : v_76.toInt = (36 : Int) * v_61.toInt := i_mul (show (36 : Int32).toInt = (36 : Int) from rfl) (rfl : v_61.toInt = v_61.toInt) (by omega) (by omega) ev_76
                    refine lv_iadd hx hb dX11_next_124 ?_
                    refine lv_topi (fun v_78 ev_78 => ?_)
                    have rg_79 := i_rng v_76
                    have tv_78 : v_78.toInt = v_75.toInt + v_76.toInt := i_add (rfl : v_75.toInt = v_75.toInt) (rfl : v_76.toInt = v_76.toInt) (by omega) (by omega) ev_78
                    refine lv_istore (lv' := [(6, .int v_78), (5, .int v_61), (4, .int v_57), (3, .int v_4), (0, .ref (ad 0)), (1, .int a), (2, .int b)]) hx hb dX11_next_125 hl (by decide) rfl (fun ls hl => ?_)
                    refine lv_aload_n hx hb dX11_next_127 rfl (lv_at hl 4 rfl) ?_
                    refine lv_iload hx hb dX11_next_128 (lv_at hl 0 rfl) ?_
                    refine g_callSi (va_runV (As := [.int v_78]) (rest := []) ⟨hx, hb, hml, hown, hts⟩ (c0_X11_isObstacle l D cy ad hI _ iv ar v_78 yL (by omega)) (cwV 1 hts gX11_next_X11_isObstacle rfl rfl rfl (by decide +kernel) ⟨Nat.le_of_ble_eq_true rfl, Nat.le_of_ble_eq_true rfl⟩) (m_preV hP hK hSt hNw hS (m_at11 (Nat.le_of_ble_eq_true rfl) rfl) rfl) rfl rfl hl.1 rfl (lv_room (Nat.le_of_ble_eq_true rfl)) dX11_next_130 ⟨Nat.zero_le _, Nat.zero_le _⟩) (fun r_80 w_80 => ?_)
                    try dsimp only at w_80
                    refine lv_if_eq (tgt := 140) hx hb dX11_next_133 (by decide) (fun c_81 => ?_) (fun c_81 => ?_)
                    · skip
                      have q_81 : (0 : Int) = (0 : Int) := i_eq2 w_80 (show (0 : Int32).toInt = (0 : Int) from rfl) c_81
                      refine lv_iload hx hb dX11_next_140 (lv_at hl 0 rfl) ?_
                      rw [hQ]
                      exact W.iret (v := v_78) hx hb hr (fun t ht hW => ⟨v_78, rfl, by
                        have zm := i_m1
                        have hB : b.toInt.toNat = 4 := by omega
                        rw [hB, nb4]
                        split <;> omega, ht⟩) (fun q h => by cases h) dX11_next_142
                    · skip
                      have q_81 : (0 : Int) ≠ (0 : Int) := i_ne2 w_80 (show (0 : Int32).toInt = (0 : Int) from rfl) c_81
                      exfalso; omega
                  · skip
                    have q_73 : r_72.toInt = (0 : Int) := i_eq2 (rfl : r_72.toInt = r_72.toInt) (show (0 : Int32).toInt = (0 : Int) from rfl) c_73
                    refine lv_iconst (v := (-1)) hx hb dX11_next_110 (by decide) ?_
                    rw [hQ]
                    exact W.iret (v := (-1)) hx hb hr (fun t ht hW => ⟨(-1), rfl, by
                      have zm := i_m1
                      have hB : b.toInt.toNat = 4 := by omega
                      rw [hB, nb4]
                      split <;> omega, ht⟩) (fun q h => by cases h) dX11_next_111
            · skip
              have q_60 : b.toInt = (6 : Int) := i_eq2 (rfl : b.toInt = b.toInt) (show (6 : Int32).toInt = (6 : Int) from rfl) c_60
              exfalso; omega
          · skip
            have q_59 : b.toInt = (5 : Int) := i_eq2 (rfl : b.toInt = b.toInt) (show (5 : Int32).toInt = (5 : Int) from rfl) c_59
            exfalso; omega
      · skip
        have q_7 : b.toInt = (3 : Int) := i_eq2 (rfl : b.toInt = b.toInt) (show (3 : Int32).toInt = (3 : Int) from rfl) c_7
        refine lv_iconst (v := 1) hx hb dX11_next_37 (by decide) ?_
        refine lv_goto (tgt := 51) hx hb dX11_next_38 (by decide) ?_
        refine lv_iadd hx hb dX11_next_51 ?_
        refine lv_topi (fun v_82 ev_82 => ?_)
        have tv_82 : v_82.toInt = v_6.toInt + (1 : Int) := i_add (rfl : v_6.toInt = v_6.toInt) (show (1 : Int32).toInt = (1 : Int) from rfl) (by omega) (by omega) ev_82
        refine lv_istore (lv' := [(4, .int v_82), (3, .int v_4), (0, .ref (ad 0)), (1, .int a), (2, .int b)]) hx hb dX11_next_52 hl (by decide) rfl (fun ls hl => ?_)
        refine lv_iload_n hx hb dX11_next_54 rfl (lv_at hl 3 rfl) ?_
        refine g_callSi (va_runS (As := [.int a]) (rest := []) ⟨hx, hb, hml, hown, hts⟩ (c_X11_layerOf l a (by omega)) (va_cwS 1 hts gX11_next_X11_layerOf rfl rfl rfl (by decide +kernel) ⟨Nat.le_of_ble_eq_true rfl, Nat.le_of_ble_eq_true rfl⟩) (g_preT) rfl rfl hl.1 rfl (lv_room (Nat.le_of_ble_eq_true rfl)) dX11_next_55 ⟨Nat.zero_le _, Nat.zero_le _⟩) (fun r_83 w_83 => ?_)
        try dsimp only at w_83
        refine lv_iload_n hx hb dX11_next_58 rfl (lv_at hl 4 rfl) ?_
        refine lv_iconst (v := 5) hx hb dX11_next_59 (by decide) ?_
        refine lv_icmp_ne (tgt := 67) hx hb dX11_next_60 (by decide) (fun c_84 => ?_) (fun c_84 => ?_)
        · skip
          have q_84 : b.toInt ≠ (5 : Int) := i_ne2 (rfl : b.toInt = b.toInt) (show (5 : Int32).toInt = (5 : Int) from rfl) c_84
          refine lv_iload_n hx hb dX11_next_67 rfl (lv_at hl 4 rfl) ?_
          refine lv_bipush (v := 6) hx hb dX11_next_68 (by decide) ?_
          refine lv_icmp_ne (tgt := 77) hx hb dX11_next_70 (by decide) (fun c_85 => ?_) (fun c_85 => ?_)
          · skip
            have q_85 : b.toInt ≠ (6 : Int) := i_ne2 (rfl : b.toInt = b.toInt) (show (6 : Int32).toInt = (6 : Int) from rfl) c_85
            refine lv_iconst (v := 0) hx hb dX11_next_77 (by decide) ?_
            refine lv_iadd hx hb dX11_next_78 ?_
            refine lv_topi (fun v_86 ev_86 => ?_)
            have tv_86 : v_86.toInt = r_83.toInt + (0 : Int) := i_add (rfl : r_83.toInt = r_83.toInt) (show (0 : Int32).toInt = (0 : Int) from rfl) (by omega) (by omega) ev_86
            refine lv_istore (lv' := [(5, .int v_86), (4, .int v_82), (3, .int v_4), (0, .ref (ad 0)), (1, .int a), (2, .int b)]) hx hb dX11_next_79 hl (by decide) rfl (fun ls hl => ?_)
            refine lv_iload_n hx hb dX11_next_81 rfl (lv_at hl 2 rfl) ?_
            refine lv_iconst (v := 0) hx hb dX11_next_82 (by decide) ?_
            refine lv_iconst (v := 5) hx hb dX11_next_83 (by decide) ?_
            have zl_87 : (0 : Int32).toInt = (0 : Int) := rfl
            have zl_88 : (5 : Int32).toInt = (5 : Int) := rfl
            refine g_callSi (va_runS (As := [.int v_4, .int 0, .int 5]) (rest := []) ⟨hx, hb, hml, hown, hts⟩ (c_X11_isIn l v_4 0 5) (va_cwS 3 hts gX11_next_X11_isIn rfl rfl rfl (by decide +kernel) ⟨Nat.le_of_ble_eq_true rfl, Nat.le_of_ble_eq_true rfl⟩) (g_preT) rfl rfl hl.1 rfl (lv_room (Nat.le_of_ble_eq_true rfl)) dX11_next_84 ⟨Nat.zero_le _, Nat.zero_le _⟩) (fun r_89 w_89 => ?_)
            try dsimp only at w_89
            refine lv_if_eq (tgt := 110) hx hb dX11_next_87 (by decide) (fun c_90 => ?_) (fun c_90 => ?_)
            · skip
              have q_90 : r_89.toInt = (0 : Int) := i_eq2 (rfl : r_89.toInt = r_89.toInt) (show (0 : Int32).toInt = (0 : Int) from rfl) c_90
              refine lv_iconst (v := (-1)) hx hb dX11_next_110 (by decide) ?_
              rw [hQ]
              exact W.iret (v := (-1)) hx hb hr (fun t ht hW => ⟨(-1), rfl, by
                have zm := i_m1
                have hB : b.toInt.toNat = 3 := by omega
                rw [hB, nb3]
                split <;> omega, ht⟩) (fun q h => by cases h) dX11_next_111
            · skip
              have q_90 : r_89.toInt ≠ (0 : Int) := i_ne2 (rfl : r_89.toInt = r_89.toInt) (show (0 : Int32).toInt = (0 : Int) from rfl) c_90
              refine lv_iload hx hb dX11_next_90 (lv_at hl 1 rfl) ?_
              refine lv_iconst (v := 0) hx hb dX11_next_92 (by decide) ?_
              refine lv_iconst (v := 5) hx hb dX11_next_93 (by decide) ?_
              have zl_91 : (0 : Int32).toInt = (0 : Int) := rfl
              have zl_92 : (5 : Int32).toInt = (5 : Int) := rfl
              refine g_callSi (va_runS (As := [.int v_82, .int 0, .int 5]) (rest := []) ⟨hx, hb, hml, hown, hts⟩ (c_X11_isIn l v_82 0 5) (va_cwS 3 hts gX11_next_X11_isIn rfl rfl rfl (by decide +kernel) ⟨Nat.le_of_ble_eq_true rfl, Nat.le_of_ble_eq_true rfl⟩) (g_preT) rfl rfl hl.1 rfl (lv_room (Nat.le_of_ble_eq_true rfl)) dX11_next_94 ⟨Nat.zero_le _, Nat.zero_le _⟩) (fun r_93 w_93 => ?_)
              try dsimp only at w_93
              refine lv_if_eq (tgt := 110) hx hb dX11_next_97 (by decide) (fun c_94 => ?_) (fun c_94 => ?_)
              · skip
                have q_94 : r_93.toInt = (0 : Int) := i_eq2 (rfl : r_93.toInt = r_93.toInt) (show (0 : Int32).toInt = (0 : Int) from rfl) c_94
                refine lv_iconst (v := (-1)) hx hb dX11_next_110 (by decide) ?_
                rw [hQ]
                exact W.iret (v := (-1)) hx hb hr (fun t ht hW => ⟨(-1), rfl, by
                  have zm := i_m1
                  have hB : b.toInt.toNat = 3 := by omega
                  rw [hB, nb3]
                  split <;> omega, ht⟩) (fun q h => by cases h) dX11_next_111
              · skip
                have q_94 : r_93.toInt ≠ (0 : Int) := i_ne2 (rfl : r_93.toInt = r_93.toInt) (show (0 : Int32).toInt = (0 : Int) from rfl) c_94
                refine lv_iload hx hb dX11_next_100 (lv_at hl 0 rfl) ?_
                refine lv_iconst (v := 0) hx hb dX11_next_102 (by decide) ?_
                refine lv_iconst (v := 2) hx hb dX11_next_103 (by decide) ?_
                have zl_95 : (0 : Int32).toInt = (0 : Int) := rfl
                have zl_96 : (2 : Int32).toInt = (2 : Int) := rfl
                refine g_callSi (va_runS (As := [.int v_86, .int 0, .int 2]) (rest := []) ⟨hx, hb, hml, hown, hts⟩ (c_X11_isIn l v_86 0 2) (va_cwS 3 hts gX11_next_X11_isIn rfl rfl rfl (by decide +kernel) ⟨Nat.le_of_ble_eq_true rfl, Nat.le_of_ble_eq_true rfl⟩) (g_preT) rfl rfl hl.1 rfl (lv_room (Nat.le_of_ble_eq_true rfl)) dX11_next_104 ⟨Nat.zero_le _, Nat.zero_le _⟩) (fun r_97 w_97 => ?_)
                try dsimp only at w_97
                refine lv_if_ne (tgt := 112) hx hb dX11_next_107 (by decide) (fun c_98 => ?_) (fun c_98 => ?_)
                · skip
                  have q_98 : r_97.toInt ≠ (0 : Int) := i_ne2 (rfl : r_97.toInt = r_97.toInt) (show (0 : Int32).toInt = (0 : Int) from rfl) c_98
                  refine lv_iload_n hx hb dX11_next_112 rfl (lv_at hl 2 rfl) ?_
                  refine lv_bipush (v := 6) hx hb dX11_next_113 (by decide) ?_
                  refine lv_iload hx hb dX11_next_115 (lv_at hl 1 rfl) ?_
                  refine lv_imul hx hb dX11_next_117 ?_
                  refine lv_topi (fun v_99 ev_99 => ?_)
                  have tv_99 : v_99.toInt = (6 : Int) * v_82.toInt := i_mul (show (6 : Int32).toInt = (6 : Int) from rfl) (rfl : v_82.toInt = v_82.toInt) (by omega) (by omega) ev_99
                  refine lv_iadd hx hb dX11_next_118 ?_
                  refine lv_topi (fun v_100 ev_100 => ?_)
                  have tv_100 : v_100.toInt = v_4.toInt + v_99.toInt := i_add (rfl : v_4.toInt = v_4.toInt) (rfl : v_99.toInt = v_99.toInt) (by omega) (by omega) ev_100
                  refine lv_bipush (v := 36) hx hb dX11_next_119 (by decide) ?_
                  refine lv_iload hx hb dX11_next_121 (lv_at hl 0 rfl) ?_
                  refine lv_imul hx hb dX11_next_123 ?_
                  refine lv_topi (fun v_101 ev_101 => ?_)
                  have rg_102 := i_rng v_86
                  have tv_101 : v_101.toInt = (36 : Int) * v_86.toInt := i_mul (show (36 : Int32).toInt = (36 : Int) from rfl) (rfl : v_86.toInt = v_86.toInt) (by omega) (by omega) ev_101
                  refine lv_iadd hx hb dX11_next_124 ?_
                  refine lv_topi (fun v_103 ev_103 => ?_)
                  have rg_104 := i_rng v_101
                  have tv_103 : v_103.toInt = v_100.toInt + v_101.toInt := i_add (rfl : v_100.toInt = v_100.toInt) (rfl : v_101.toInt = v_101.toInt) (by omega) (by omega) ev_103
                  refine lv_istore (lv' := [(6, .int v_103), (5, .int v_86), (4, .int v_82), (3, .int v_4), (0, .ref (ad 0)), (1, .int a), (2, .int b)]) hx hb dX11_next_125 hl (by decide) rfl (fun ls hl => ?_)
                  refine lv_aload_n hx hb dX11_next_127 rfl (lv_at hl 4 rfl) ?_
                  refine lv_iload hx hb dX11_next_128 (lv_at hl 0 rfl) ?_
                  refine g_callSi (va_runV (As := [.int v_103]) (rest := []) ⟨hx, hb, hml, hown, hts⟩ (c0_X11_isObstacle l D cy ad hI _ iv ar v_103 yL (by omega)) (cwV 1 hts gX11_next_X11_isObstacle rfl rfl rfl (by decide +kernel) ⟨Nat.le_of_ble_eq_true rfl, Nat.le_of_ble_eq_true rfl⟩) (m_preV hP hK hSt hNw hS (m_at11 (Nat.le_of_ble_eq_true rfl) rfl) rfl) rfl rfl hl.1 rfl (lv_room (Nat.le_of_ble_eq_true rfl)) dX11_next_130 ⟨Nat.zero_le _, Nat.zero_le _⟩) (fun r_105 w_105 => ?_)
                  try dsimp only at w_105
                  refine lv_if_eq (tgt := 140) hx hb dX11_next_133 (by decide) (fun c_106 => ?_) (fun c_106 => ?_)
                  · skip
                    have q_106 : (0 : Int) = (0 : Int) := i_eq2 w_105 (show (0 : Int32).toInt = (0 : Int) from rfl) c_106
                    refine lv_iload hx hb dX11_next_140 (lv_at hl 0 rfl) ?_
                    rw [hQ]
                    exact W.iret (v := v_103) hx hb hr (fun t ht hW => ⟨v_103, rfl, by
                      have zm := i_m1
                      have hB : b.toInt.toNat = 3 := by omega
                      rw [hB, nb3]
                      split <;> omega, ht⟩) (fun q h => by cases h) dX11_next_142
                  · skip
                    have q_106 : (0 : Int) ≠ (0 : Int) := i_ne2 w_105 (show (0 : Int32).toInt = (0 : Int) from rfl) c_106
                    exfalso; omega
                · skip
                  have q_98 : r_97.toInt = (0 : Int) := i_eq2 (rfl : r_97.toInt = r_97.toInt) (show (0 : Int32).toInt = (0 : Int) from rfl) c_98
                  refine lv_iconst (v := (-1)) hx hb dX11_next_110 (by decide) ?_
                  rw [hQ]
                  exact W.iret (v := (-1)) hx hb hr (fun t ht hW => ⟨(-1), rfl, by
                    have zm := i_m1
                    have hB : b.toInt.toNat = 3 := by omega
                    rw [hB, nb3]
                    split <;> omega, ht⟩) (fun q h => by cases h) dX11_next_111
          · skip
            have q_85 : b.toInt = (6 : Int) := i_eq2 (rfl : b.toInt = b.toInt) (show (6 : Int32).toInt = (6 : Int) from rfl) c_85
            exfalso; omega
        · skip
          have q_84 : b.toInt = (5 : Int) := i_eq2 (rfl : b.toInt = b.toInt) (show (5 : Int32).toInt = (5 : Int) from rfl) c_84
          exfalso; omega
    · skip
      have q_3 : b.toInt = (2 : Int) := i_eq2 (rfl : b.toInt = b.toInt) (show (2 : Int32).toInt = (2 : Int) from rfl) c_3
      refine lv_iconst (v := (-1)) hx hb dX11_next_18 (by decide) ?_
      refine lv_goto (tgt := 23) hx hb dX11_next_19 (by decide) ?_
      refine lv_iadd hx hb dX11_next_23 ?_
      refine lv_topi (fun v_107 ev_107 => ?_)
      have tv_107 : v_107.toInt = v_1.toInt + (-1 : Int) := i_add (rfl : v_1.toInt = v_1.toInt) (show ((-1) : Int32).toInt = (-1 : Int) from rfl) (by omega) (by omega) ev_107
      refine lv_istore_n (lv' := [(3, .int v_107), (0, .ref (ad 0)), (1, .int a), (2, .int b)]) hx hb dX11_next_24 rfl hl (by decide) rfl (fun ls hl => ?_)
      refine lv_iload_n hx hb dX11_next_25 rfl (lv_at hl 2 rfl) ?_
      refine lv_bipush (v := 6) hx hb dX11_next_26 (by decide) ?_
      refine lv_idiv hx hb dX11_next_28 (by decide) ?_
      refine lv_topi (fun v_108 ev_108 => ?_)
      have tv_108 : v_108.toInt = a.toInt / (6 : Int) := i_div (rfl : a.toInt = a.toInt) (show (6 : Int32).toInt = (6 : Int) from rfl) (by omega) (by omega) ev_108
      refine lv_bipush (v := 6) hx hb dX11_next_29 (by decide) ?_
      refine lv_irem hx hb dX11_next_31 (by decide) ?_
      refine lv_topi (fun v_109 ev_109 => ?_)
      have tv_109 : v_109.toInt = v_108.toInt % (6 : Int) := i_rem (rfl : v_108.toInt = v_108.toInt) (show (6 : Int32).toInt = (6 : Int) from rfl) (by omega) (by omega) ev_109
      refine lv_iload_n hx hb dX11_next_32 rfl (lv_at hl 3 rfl) ?_
      refine lv_iconst (v := 3) hx hb dX11_next_33 (by decide) ?_
      refine lv_icmp_ne (tgt := 41) hx hb dX11_next_34 (by decide) (fun c_110 => ?_) (fun c_110 => ?_)
      · skip
        have q_110 : b.toInt ≠ (3 : Int) := i_ne2 (rfl : b.toInt = b.toInt) (show (3 : Int32).toInt = (3 : Int) from rfl) c_110
        refine lv_iload_n hx hb dX11_next_41 rfl (lv_at hl 3 rfl) ?_
        refine lv_iconst (v := 4) hx hb dX11_next_42 (by decide) ?_
        refine lv_icmp_ne (tgt := 50) hx hb dX11_next_43 (by decide) (fun c_111 => ?_) (fun c_111 => ?_)
        · skip
          have q_111 : b.toInt ≠ (4 : Int) := i_ne2 (rfl : b.toInt = b.toInt) (show (4 : Int32).toInt = (4 : Int) from rfl) c_111
          refine lv_iconst (v := 0) hx hb dX11_next_50 (by decide) ?_
          refine lv_iadd hx hb dX11_next_51 ?_
          refine lv_topi (fun v_112 ev_112 => ?_)
          have tv_112 : v_112.toInt = v_109.toInt + (0 : Int) := i_add (rfl : v_109.toInt = v_109.toInt) (show (0 : Int32).toInt = (0 : Int) from rfl) (by omega) (by omega) ev_112
          refine lv_istore (lv' := [(4, .int v_112), (3, .int v_107), (0, .ref (ad 0)), (1, .int a), (2, .int b)]) hx hb dX11_next_52 hl (by decide) rfl (fun ls hl => ?_)
          refine lv_iload_n hx hb dX11_next_54 rfl (lv_at hl 3 rfl) ?_
          refine g_callSi (va_runS (As := [.int a]) (rest := []) ⟨hx, hb, hml, hown, hts⟩ (c_X11_layerOf l a (by omega)) (va_cwS 1 hts gX11_next_X11_layerOf rfl rfl rfl (by decide +kernel) ⟨Nat.le_of_ble_eq_true rfl, Nat.le_of_ble_eq_true rfl⟩) (g_preT) rfl rfl hl.1 rfl (lv_room (Nat.le_of_ble_eq_true rfl)) dX11_next_55 ⟨Nat.zero_le _, Nat.zero_le _⟩) (fun r_113 w_113 => ?_)
          try dsimp only at w_113
          refine lv_iload_n hx hb dX11_next_58 rfl (lv_at hl 4 rfl) ?_
          refine lv_iconst (v := 5) hx hb dX11_next_59 (by decide) ?_
          refine lv_icmp_ne (tgt := 67) hx hb dX11_next_60 (by decide) (fun c_114 => ?_) (fun c_114 => ?_)
          · skip
            have q_114 : b.toInt ≠ (5 : Int) := i_ne2 (rfl : b.toInt = b.toInt) (show (5 : Int32).toInt = (5 : Int) from rfl) c_114
            refine lv_iload_n hx hb dX11_next_67 rfl (lv_at hl 4 rfl) ?_
            refine lv_bipush (v := 6) hx hb dX11_next_68 (by decide) ?_
            refine lv_icmp_ne (tgt := 77) hx hb dX11_next_70 (by decide) (fun c_115 => ?_) (fun c_115 => ?_)
            · skip
              have q_115 : b.toInt ≠ (6 : Int) := i_ne2 (rfl : b.toInt = b.toInt) (show (6 : Int32).toInt = (6 : Int) from rfl) c_115
              refine lv_iconst (v := 0) hx hb dX11_next_77 (by decide) ?_
              refine lv_iadd hx hb dX11_next_78 ?_
              refine lv_topi (fun v_116 ev_116 => ?_)
              have tv_116 : v_116.toInt = r_113.toInt + (0 : Int) := i_add (rfl : r_113.toInt = r_113.toInt) (show (0 : Int32).toInt = (0 : Int) from rfl) (by omega) (by omega) ev_116
              refine lv_istore (lv' := [(5, .int v_116), (4, .int v_112), (3, .int v_107), (0, .ref (ad 0)), (1, .int a), (2, .int b)]) hx hb dX11_next_79 hl (by decide) rfl (fun ls hl => ?_)
              refine lv_iload_n hx hb dX11_next_81 rfl (lv_at hl 2 rfl) ?_
              refine lv_iconst (v := 0) hx hb dX11_next_82 (by decide) ?_
              refine lv_iconst (v := 5) hx hb dX11_next_83 (by decide) ?_
              have zl_117 : (0 : Int32).toInt = (0 : Int) := rfl
              have zl_118 : (5 : Int32).toInt = (5 : Int) := rfl
              refine g_callSi (va_runS (As := [.int v_107, .int 0, .int 5]) (rest := []) ⟨hx, hb, hml, hown, hts⟩ (c_X11_isIn l v_107 0 5) (va_cwS 3 hts gX11_next_X11_isIn rfl rfl rfl (by decide +kernel) ⟨Nat.le_of_ble_eq_true rfl, Nat.le_of_ble_eq_true rfl⟩) (g_preT) rfl rfl hl.1 rfl (lv_room (Nat.le_of_ble_eq_true rfl)) dX11_next_84 ⟨Nat.zero_le _, Nat.zero_le _⟩) (fun r_119 w_119 => ?_)
              try dsimp only at w_119
              refine lv_if_eq (tgt := 110) hx hb dX11_next_87 (by decide) (fun c_120 => ?_) (fun c_120 => ?_)
              · skip
                have q_120 : r_119.toInt = (0 : Int) := i_eq2 (rfl : r_119.toInt = r_119.toInt) (show (0 : Int32).toInt = (0 : Int) from rfl) c_120
                refine lv_iconst (v := (-1)) hx hb dX11_next_110 (by decide) ?_
                rw [hQ]
                exact W.iret (v := (-1)) hx hb hr (fun t ht hW => ⟨(-1), rfl, by
                  have zm := i_m1
                  have hB : b.toInt.toNat = 2 := by omega
                  rw [hB, nb2]
                  split <;> omega, ht⟩) (fun q h => by cases h) dX11_next_111
              · skip
                have q_120 : r_119.toInt ≠ (0 : Int) := i_ne2 (rfl : r_119.toInt = r_119.toInt) (show (0 : Int32).toInt = (0 : Int) from rfl) c_120
                refine lv_iload hx hb dX11_next_90 (lv_at hl 1 rfl) ?_
                refine lv_iconst (v := 0) hx hb dX11_next_92 (by decide) ?_
                refine lv_iconst (v := 5) hx hb dX11_next_93 (by decide) ?_
                have zl_121 : (0 : Int32).toInt = (0 : Int) := rfl
                have zl_122 : (5 : Int32).toInt = (5 : Int) := rfl
                refine g_callSi (va_runS (As := [.int v_112, .int 0, .int 5]) (rest := []) ⟨hx, hb, hml, hown, hts⟩ (c_X11_isIn l v_112 0 5) (va_cwS 3 hts gX11_next_X11_isIn rfl rfl rfl (by decide +kernel) ⟨Nat.le_of_ble_eq_true rfl, Nat.le_of_ble_eq_true rfl⟩) (g_preT) rfl rfl hl.1 rfl (lv_room (Nat.le_of_ble_eq_true rfl)) dX11_next_94 ⟨Nat.zero_le _, Nat.zero_le _⟩) (fun r_123 w_123 => ?_)
                try dsimp only at w_123
                refine lv_if_eq (tgt := 110) hx hb dX11_next_97 (by decide) (fun c_124 => ?_) (fun c_124 => ?_)
                · skip
                  have q_124 : r_123.toInt = (0 : Int) := i_eq2 (rfl : r_123.toInt = r_123.toInt) (show (0 : Int32).toInt = (0 : Int) from rfl) c_124
                  refine lv_iconst (v := (-1)) hx hb dX11_next_110 (by decide) ?_
                  rw [hQ]
                  exact W.iret (v := (-1)) hx hb hr (fun t ht hW => ⟨(-1), rfl, by
                    have zm := i_m1
                    have hB : b.toInt.toNat = 2 := by omega
                    rw [hB, nb2]
                    split <;> omega, ht⟩) (fun q h => by cases h) dX11_next_111
                · skip
                  have q_124 : r_123.toInt ≠ (0 : Int) := i_ne2 (rfl : r_123.toInt = r_123.toInt) (show (0 : Int32).toInt = (0 : Int) from rfl) c_124
                  refine lv_iload hx hb dX11_next_100 (lv_at hl 0 rfl) ?_
                  refine lv_iconst (v := 0) hx hb dX11_next_102 (by decide) ?_
                  refine lv_iconst (v := 2) hx hb dX11_next_103 (by decide) ?_
                  have zl_125 : (0 : Int32).toInt = (0 : Int) := rfl
                  have zl_126 : (2 : Int32).toInt = (2 : Int) := rfl
                  refine g_callSi (va_runS (As := [.int v_116, .int 0, .int 2]) (rest := []) ⟨hx, hb, hml, hown, hts⟩ (c_X11_isIn l v_116 0 2) (va_cwS 3 hts gX11_next_X11_isIn rfl rfl rfl (by decide +kernel) ⟨Nat.le_of_ble_eq_true rfl, Nat.le_of_ble_eq_true rfl⟩) (g_preT) rfl rfl hl.1 rfl (lv_room (Nat.le_of_ble_eq_true rfl)) dX11_next_104 ⟨Nat.zero_le _, Nat.zero_le _⟩) (fun r_127 w_127 => ?_)
                  try dsimp only at w_127
                  refine lv_if_ne (tgt := 112) hx hb dX11_next_107 (by decide) (fun c_128 => ?_) (fun c_128 => ?_)
                  · skip
                    have q_128 : r_127.toInt ≠ (0 : Int) := i_ne2 (rfl : r_127.toInt = r_127.toInt) (show (0 : Int32).toInt = (0 : Int) from rfl) c_128
                    refine lv_iload_n hx hb dX11_next_112 rfl (lv_at hl 2 rfl) ?_
                    refine lv_bipush (v := 6) hx hb dX11_next_113 (by decide) ?_
                    refine lv_iload hx hb dX11_next_115 (lv_at hl 1 rfl) ?_
                    refine lv_imul hx hb dX11_next_117 ?_
                    refine lv_topi (fun v_129 ev_129 => ?_)
                    have tv_129 : v_129.toInt = (6 : Int) * v_112.toInt := i_mul (show (6 : Int32).toInt = (6 : Int) from rfl) (rfl : v_112.toInt = v_112.toInt) (by omega) (by omega) ev_129
                    refine lv_iadd hx hb dX11_next_118 ?_
                    refine lv_topi (fun v_130 ev_130 => ?_)
                    have tv_130 : v_130.toInt = v_107.toInt + v_129.toInt := i_add (rfl : v_107.toInt = v_107.toInt) (rfl : v_129.toInt = v_129.toInt) (by omega) (by omega) ev_130
                    refine lv_bipush (v := 36) hx hb dX11_next_119 (by decide) ?_
                    refine lv_iload hx hb dX11_next_121 (lv_at hl 0 rfl) ?_
                    refine lv_imul hx hb dX11_next_123 ?_
                    refine lv_topi (fun v_131 ev_131 => ?_)
                    have rg_132 := i_rng v_116
                    have tv_131 : v_131.toInt = (36 : Int) * v_116.toInt := i_mul (show (36 : Int32).toInt = (36 : Int) from rfl) (rfl : v_116.toInt = v_116.toInt) (by omega) (by omega) ev_131
                    refine lv_iadd hx hb dX11_next_124 ?_
                    refine lv_topi (fun v_133 ev_133 => ?_)
                    have rg_134 := i_rng v_131
                    have tv_133 : v_133.toInt = v_130.toInt + v_131.toInt := i_add (rfl : v_130.toInt = v_130.toInt) (rfl : v_131.toInt = v_131.toInt) (by omega) (by omega) ev_133
                    refine lv_istore (lv' := [(6, .int v_133), (5, .int v_116), (4, .int v_112), (3, .int v_107), (0, .ref (ad 0)), (1, .int a), (2, .int b)]) hx hb dX11_next_125 hl (by decide) rfl (fun ls hl => ?_)
                    refine lv_aload_n hx hb dX11_next_127 rfl (lv_at hl 4 rfl) ?_
                    refine lv_iload hx hb dX11_next_128 (lv_at hl 0 rfl) ?_
                    refine g_callSi (va_runV (As := [.int v_133]) (rest := []) ⟨hx, hb, hml, hown, hts⟩ (c0_X11_isObstacle l D cy ad hI _ iv ar v_133 yL (by omega)) (cwV 1 hts gX11_next_X11_isObstacle rfl rfl rfl (by decide +kernel) ⟨Nat.le_of_ble_eq_true rfl, Nat.le_of_ble_eq_true rfl⟩) (m_preV hP hK hSt hNw hS (m_at11 (Nat.le_of_ble_eq_true rfl) rfl) rfl) rfl rfl hl.1 rfl (lv_room (Nat.le_of_ble_eq_true rfl)) dX11_next_130 ⟨Nat.zero_le _, Nat.zero_le _⟩) (fun r_135 w_135 => ?_)
                    try dsimp only at w_135
                    refine lv_if_eq (tgt := 140) hx hb dX11_next_133 (by decide) (fun c_136 => ?_) (fun c_136 => ?_)
                    · skip
                      have q_136 : (0 : Int) = (0 : Int) := i_eq2 w_135 (show (0 : Int32).toInt = (0 : Int) from rfl) c_136
                      refine lv_iload hx hb dX11_next_140 (lv_at hl 0 rfl) ?_
                      rw [hQ]
                      exact W.iret (v := v_133) hx hb hr (fun t ht hW => ⟨v_133, rfl, by
                        have zm := i_m1
                        have hB : b.toInt.toNat = 2 := by omega
                        rw [hB, nb2]
                        split <;> omega, ht⟩) (fun q h => by cases h) dX11_next_142
                    · skip
                      have q_136 : (0 : Int) ≠ (0 : Int) := i_ne2 w_135 (show (0 : Int32).toInt = (0 : Int) from rfl) c_136
                      exfalso; omega
                  · skip
                    have q_128 : r_127.toInt = (0 : Int) := i_eq2 (rfl : r_127.toInt = r_127.toInt) (show (0 : Int32).toInt = (0 : Int) from rfl) c_128
                    refine lv_iconst (v := (-1)) hx hb dX11_next_110 (by decide) ?_
                    rw [hQ]
                    exact W.iret (v := (-1)) hx hb hr (fun t ht hW => ⟨(-1), rfl, by
                      have zm := i_m1
                      have hB : b.toInt.toNat = 2 := by omega
                      rw [hB, nb2]
                      split <;> omega, ht⟩) (fun q h => by cases h) dX11_next_111
            · skip
              have q_115 : b.toInt = (6 : Int) := i_eq2 (rfl : b.toInt = b.toInt) (show (6 : Int32).toInt = (6 : Int) from rfl) c_115
              exfalso; omega
          · skip
            have q_114 : b.toInt = (5 : Int) := i_eq2 (rfl : b.toInt = b.toInt) (show (5 : Int32).toInt = (5 : Int) from rfl) c_114
            exfalso; omega
        · skip
          have q_111 : b.toInt = (4 : Int) := i_eq2 (rfl : b.toInt = b.toInt) (show (4 : Int32).toInt = (4 : Int) from rfl) c_111
          exfalso; omega
      · skip
        have q_110 : b.toInt = (3 : Int) := i_eq2 (rfl : b.toInt = b.toInt) (show (3 : Int32).toInt = (3 : Int) from rfl) c_110
        exfalso; omega
  · skip
    have q_2 : b.toInt = (1 : Int) := i_eq2 (rfl : b.toInt = b.toInt) (show (1 : Int32).toInt = (1 : Int) from rfl) c_2
    refine lv_iconst (v := 1) hx hb dX11_next_9 (by decide) ?_
    refine lv_goto (tgt := 23) hx hb dX11_next_10 (by decide) ?_
    refine lv_iadd hx hb dX11_next_23 ?_
    refine lv_topi (fun v_137 ev_137 => ?_)
    have tv_137 : v_137.toInt = v_1.toInt + (1 : Int) := i_add (rfl : v_1.toInt = v_1.toInt) (show (1 : Int32).toInt = (1 : Int) from rfl) (by omega) (by omega) ev_137
    refine lv_istore_n (lv' := [(3, .int v_137), (0, .ref (ad 0)), (1, .int a), (2, .int b)]) hx hb dX11_next_24 rfl hl (by decide) rfl (fun ls hl => ?_)
    refine lv_iload_n hx hb dX11_next_25 rfl (lv_at hl 2 rfl) ?_
    refine lv_bipush (v := 6) hx hb dX11_next_26 (by decide) ?_
    refine lv_idiv hx hb dX11_next_28 (by decide) ?_
    refine lv_topi (fun v_138 ev_138 => ?_)
    have tv_138 : v_138.toInt = a.toInt / (6 : Int) := i_div (rfl : a.toInt = a.toInt) (show (6 : Int32).toInt = (6 : Int) from rfl) (by omega) (by omega) ev_138
    refine lv_bipush (v := 6) hx hb dX11_next_29 (by decide) ?_
    refine lv_irem hx hb dX11_next_31 (by decide) ?_
    refine lv_topi (fun v_139 ev_139 => ?_)
    have tv_139 : v_139.toInt = v_138.toInt % (6 : Int) := i_rem (rfl : v_138.toInt = v_138.toInt) (show (6 : Int32).toInt = (6 : Int) from rfl) (by omega) (by omega) ev_139
    refine lv_iload_n hx hb dX11_next_32 rfl (lv_at hl 3 rfl) ?_
    refine lv_iconst (v := 3) hx hb dX11_next_33 (by decide) ?_
    refine lv_icmp_ne (tgt := 41) hx hb dX11_next_34 (by decide) (fun c_140 => ?_) (fun c_140 => ?_)
    · skip
      have q_140 : b.toInt ≠ (3 : Int) := i_ne2 (rfl : b.toInt = b.toInt) (show (3 : Int32).toInt = (3 : Int) from rfl) c_140
      refine lv_iload_n hx hb dX11_next_41 rfl (lv_at hl 3 rfl) ?_
      refine lv_iconst (v := 4) hx hb dX11_next_42 (by decide) ?_
      refine lv_icmp_ne (tgt := 50) hx hb dX11_next_43 (by decide) (fun c_141 => ?_) (fun c_141 => ?_)
      · skip
        have q_141 : b.toInt ≠ (4 : Int) := i_ne2 (rfl : b.toInt = b.toInt) (show (4 : Int32).toInt = (4 : Int) from rfl) c_141
        refine lv_iconst (v := 0) hx hb dX11_next_50 (by decide) ?_
        refine lv_iadd hx hb dX11_next_51 ?_
        refine lv_topi (fun v_142 ev_142 => ?_)
        have tv_142 : v_142.toInt = v_139.toInt + (0 : Int) := i_add (rfl : v_139.toInt = v_139.toInt) (show (0 : Int32).toInt = (0 : Int) from rfl) (by omega) (by omega) ev_142
        refine lv_istore (lv' := [(4, .int v_142), (3, .int v_137), (0, .ref (ad 0)), (1, .int a), (2, .int b)]) hx hb dX11_next_52 hl (by decide) rfl (fun ls hl => ?_)
        refine lv_iload_n hx hb dX11_next_54 rfl (lv_at hl 3 rfl) ?_
        refine g_callSi (va_runS (As := [.int a]) (rest := []) ⟨hx, hb, hml, hown, hts⟩ (c_X11_layerOf l a (by omega)) (va_cwS 1 hts gX11_next_X11_layerOf rfl rfl rfl (by decide +kernel) ⟨Nat.le_of_ble_eq_true rfl, Nat.le_of_ble_eq_true rfl⟩) (g_preT) rfl rfl hl.1 rfl (lv_room (Nat.le_of_ble_eq_true rfl)) dX11_next_55 ⟨Nat.zero_le _, Nat.zero_le _⟩) (fun r_143 w_143 => ?_)
        try dsimp only at w_143
        refine lv_iload_n hx hb dX11_next_58 rfl (lv_at hl 4 rfl) ?_
        refine lv_iconst (v := 5) hx hb dX11_next_59 (by decide) ?_
        refine lv_icmp_ne (tgt := 67) hx hb dX11_next_60 (by decide) (fun c_144 => ?_) (fun c_144 => ?_)
        · skip
          have q_144 : b.toInt ≠ (5 : Int) := i_ne2 (rfl : b.toInt = b.toInt) (show (5 : Int32).toInt = (5 : Int) from rfl) c_144
          refine lv_iload_n hx hb dX11_next_67 rfl (lv_at hl 4 rfl) ?_
          refine lv_bipush (v := 6) hx hb dX11_next_68 (by decide) ?_
          refine lv_icmp_ne (tgt := 77) hx hb dX11_next_70 (by decide) (fun c_145 => ?_) (fun c_145 => ?_)
          · skip
            have q_145 : b.toInt ≠ (6 : Int) := i_ne2 (rfl : b.toInt = b.toInt) (show (6 : Int32).toInt = (6 : Int) from rfl) c_145
            refine lv_iconst (v := 0) hx hb dX11_next_77 (by decide) ?_
            refine lv_iadd hx hb dX11_next_78 ?_
            refine lv_topi (fun v_146 ev_146 => ?_)
            have tv_146 : v_146.toInt = r_143.toInt + (0 : Int) := i_add (rfl : r_143.toInt = r_143.toInt) (show (0 : Int32).toInt = (0 : Int) from rfl) (by omega) (by omega) ev_146
            refine lv_istore (lv' := [(5, .int v_146), (4, .int v_142), (3, .int v_137), (0, .ref (ad 0)), (1, .int a), (2, .int b)]) hx hb dX11_next_79 hl (by decide) rfl (fun ls hl => ?_)
            refine lv_iload_n hx hb dX11_next_81 rfl (lv_at hl 2 rfl) ?_
            refine lv_iconst (v := 0) hx hb dX11_next_82 (by decide) ?_
            refine lv_iconst (v := 5) hx hb dX11_next_83 (by decide) ?_
            have zl_147 : (0 : Int32).toInt = (0 : Int) := rfl
            have zl_148 : (5 : Int32).toInt = (5 : Int) := rfl
            refine g_callSi (va_runS (As := [.int v_137, .int 0, .int 5]) (rest := []) ⟨hx, hb, hml, hown, hts⟩ (c_X11_isIn l v_137 0 5) (va_cwS 3 hts gX11_next_X11_isIn rfl rfl rfl (by decide +kernel) ⟨Nat.le_of_ble_eq_true rfl, Nat.le_of_ble_eq_true rfl⟩) (g_preT) rfl rfl hl.1 rfl (lv_room (Nat.le_of_ble_eq_true rfl)) dX11_next_84 ⟨Nat.zero_le _, Nat.zero_le _⟩) (fun r_149 w_149 => ?_)
            try dsimp only at w_149
            refine lv_if_eq (tgt := 110) hx hb dX11_next_87 (by decide) (fun c_150 => ?_) (fun c_150 => ?_)
            · skip
              have q_150 : r_149.toInt = (0 : Int) := i_eq2 (rfl : r_149.toInt = r_149.toInt) (show (0 : Int32).toInt = (0 : Int) from rfl) c_150
              refine lv_iconst (v := (-1)) hx hb dX11_next_110 (by decide) ?_
              rw [hQ]
              exact W.iret (v := (-1)) hx hb hr (fun t ht hW => ⟨(-1), rfl, by
                have zm := i_m1
                have hB : b.toInt.toNat = 1 := by omega
                rw [hB, nb1]
                split <;> omega, ht⟩) (fun q h => by cases h) dX11_next_111
            · skip
              have q_150 : r_149.toInt ≠ (0 : Int) := i_ne2 (rfl : r_149.toInt = r_149.toInt) (show (0 : Int32).toInt = (0 : Int) from rfl) c_150
              refine lv_iload hx hb dX11_next_90 (lv_at hl 1 rfl) ?_
              refine lv_iconst (v := 0) hx hb dX11_next_92 (by decide) ?_
              refine lv_iconst (v := 5) hx hb dX11_next_93 (by decide) ?_
              have zl_151 : (0 : Int32).toInt = (0 : Int) := rfl
              have zl_152 : (5 : Int32).toInt = (5 : Int) := rfl
              refine g_callSi (va_runS (As := [.int v_142, .int 0, .int 5]) (rest := []) ⟨hx, hb, hml, hown, hts⟩ (c_X11_isIn l v_142 0 5) (va_cwS 3 hts gX11_next_X11_isIn rfl rfl rfl (by decide +kernel) ⟨Nat.le_of_ble_eq_true rfl, Nat.le_of_ble_eq_true rfl⟩) (g_preT) rfl rfl hl.1 rfl (lv_room (Nat.le_of_ble_eq_true rfl)) dX11_next_94 ⟨Nat.zero_le _, Nat.zero_le _⟩) (fun r_153 w_153 => ?_)
              try dsimp only at w_153
              refine lv_if_eq (tgt := 110) hx hb dX11_next_97 (by decide) (fun c_154 => ?_) (fun c_154 => ?_)
              · skip
                have q_154 : r_153.toInt = (0 : Int) := i_eq2 (rfl : r_153.toInt = r_153.toInt) (show (0 : Int32).toInt = (0 : Int) from rfl) c_154
                refine lv_iconst (v := (-1)) hx hb dX11_next_110 (by decide) ?_
                rw [hQ]
                exact W.iret (v := (-1)) hx hb hr (fun t ht hW => ⟨(-1), rfl, by
                  have zm := i_m1
                  have hB : b.toInt.toNat = 1 := by omega
                  rw [hB, nb1]
                  split <;> omega, ht⟩) (fun q h => by cases h) dX11_next_111
              · skip
                have q_154 : r_153.toInt ≠ (0 : Int) := i_ne2 (rfl : r_153.toInt = r_153.toInt) (show (0 : Int32).toInt = (0 : Int) from rfl) c_154
                refine lv_iload hx hb dX11_next_100 (lv_at hl 0 rfl) ?_
                refine lv_iconst (v := 0) hx hb dX11_next_102 (by decide) ?_
                refine lv_iconst (v := 2) hx hb dX11_next_103 (by decide) ?_
                have zl_155 : (0 : Int32).toInt = (0 : Int) := rfl
                have zl_156 : (2 : Int32).toInt = (2 : Int) := rfl
                refine g_callSi (va_runS (As := [.int v_146, .int 0, .int 2]) (rest := []) ⟨hx, hb, hml, hown, hts⟩ (c_X11_isIn l v_146 0 2) (va_cwS 3 hts gX11_next_X11_isIn rfl rfl rfl (by decide +kernel) ⟨Nat.le_of_ble_eq_true rfl, Nat.le_of_ble_eq_true rfl⟩) (g_preT) rfl rfl hl.1 rfl (lv_room (Nat.le_of_ble_eq_true rfl)) dX11_next_104 ⟨Nat.zero_le _, Nat.zero_le _⟩) (fun r_157 w_157 => ?_)
                try dsimp only at w_157
                refine lv_if_ne (tgt := 112) hx hb dX11_next_107 (by decide) (fun c_158 => ?_) (fun c_158 => ?_)
                · skip
                  have q_158 : r_157.toInt ≠ (0 : Int) := i_ne2 (rfl : r_157.toInt = r_157.toInt) (show (0 : Int32).toInt = (0 : Int) from rfl) c_158
                  refine lv_iload_n hx hb dX11_next_112 rfl (lv_at hl 2 rfl) ?_
                  refine lv_bipush (v := 6) hx hb dX11_next_113 (by decide) ?_
                  refine lv_iload hx hb dX11_next_115 (lv_at hl 1 rfl) ?_
                  refine lv_imul hx hb dX11_next_117 ?_
                  refine lv_topi (fun v_159 ev_159 => ?_)
                  have tv_159 : v_159.toInt = (6 : Int) * v_142.toInt := i_mul (show (6 : Int32).toInt = (6 : Int) from rfl) (rfl : v_142.toInt = v_142.toInt) (by omega) (by omega) ev_159
                  refine lv_iadd hx hb dX11_next_118 ?_
                  refine lv_topi (fun v_160 ev_160 => ?_)
                  have tv_160 : v_160.toInt = v_137.toInt + v_159.toInt := i_add (rfl : v_137.toInt = v_137.toInt) (rfl : v_159.toInt = v_159.toInt) (by omega) (by omega) ev_160
                  refine lv_bipush (v := 36) hx hb dX11_next_119 (by decide) ?_
                  refine lv_iload hx hb dX11_next_121 (lv_at hl 0 rfl) ?_
                  refine lv_imul hx hb dX11_next_123 ?_
                  refine lv_topi (fun v_161 ev_161 => ?_)
                  have rg_162 := i_rng v_146
                  have tv_161 : v_161.toInt = (36 : Int) * v_146.toInt := i_mul (show (36 : Int32).toInt = (36 : Int) from rfl) (rfl : v_146.toInt = v_146.toInt) (by omega) (by omega) ev_161
                  refine lv_iadd hx hb dX11_next_124 ?_
                  refine lv_topi (fun v_163 ev_163 => ?_)
                  have rg_164 := i_rng v_161
                  have tv_163 : v_163.toInt = v_160.toInt + v_161.toInt := i_add (rfl : v_160.toInt = v_160.toInt) (rfl : v_161.toInt = v_161.toInt) (by omega) (by omega) ev_163
                  refine lv_istore (lv' := [(6, .int v_163), (5, .int v_146), (4, .int v_142), (3, .int v_137), (0, .ref (ad 0)), (1, .int a), (2, .int b)]) hx hb dX11_next_125 hl (by decide) rfl (fun ls hl => ?_)
                  refine lv_aload_n hx hb dX11_next_127 rfl (lv_at hl 4 rfl) ?_
                  refine lv_iload hx hb dX11_next_128 (lv_at hl 0 rfl) ?_
                  refine g_callSi (va_runV (As := [.int v_163]) (rest := []) ⟨hx, hb, hml, hown, hts⟩ (c0_X11_isObstacle l D cy ad hI _ iv ar v_163 yL (by omega)) (cwV 1 hts gX11_next_X11_isObstacle rfl rfl rfl (by decide +kernel) ⟨Nat.le_of_ble_eq_true rfl, Nat.le_of_ble_eq_true rfl⟩) (m_preV hP hK hSt hNw hS (m_at11 (Nat.le_of_ble_eq_true rfl) rfl) rfl) rfl rfl hl.1 rfl (lv_room (Nat.le_of_ble_eq_true rfl)) dX11_next_130 ⟨Nat.zero_le _, Nat.zero_le _⟩) (fun r_165 w_165 => ?_)
                  try dsimp only at w_165
                  refine lv_if_eq (tgt := 140) hx hb dX11_next_133 (by decide) (fun c_166 => ?_) (fun c_166 => ?_)
                  · skip
                    have q_166 : (0 : Int) = (0 : Int) := i_eq2 w_165 (show (0 : Int32).toInt = (0 : Int) from rfl) c_166
                    refine lv_iload hx hb dX11_next_140 (lv_at hl 0 rfl) ?_
                    rw [hQ]
                    exact W.iret (v := v_163) hx hb hr (fun t ht hW => ⟨v_163, rfl, by
                      have zm := i_m1
                      have hB : b.toInt.toNat = 1 := by omega
                      rw [hB, nb1]
                      split <;> omega, ht⟩) (fun q h => by cases h) dX11_next_142
                  · skip
                    have q_166 : (0 : Int) ≠ (0 : Int) := i_ne2 w_165 (show (0 : Int32).toInt = (0 : Int) from rfl) c_166
                    exfalso; omega
                · skip
                  have q_158 : r_157.toInt = (0 : Int) := i_eq2 (rfl : r_157.toInt = r_157.toInt) (show (0 : Int32).toInt = (0 : Int) from rfl) c_158
                  refine lv_iconst (v := (-1)) hx hb dX11_next_110 (by decide) ?_
                  rw [hQ]
                  exact W.iret (v := (-1)) hx hb hr (fun t ht hW => ⟨(-1), rfl, by
                    have zm := i_m1
                    have hB : b.toInt.toNat = 1 := by omega
                    rw [hB, nb1]
                    split <;> omega, ht⟩) (fun q h => by cases h) dX11_next_111
          · skip
            have q_145 : b.toInt = (6 : Int) := i_eq2 (rfl : b.toInt = b.toInt) (show (6 : Int32).toInt = (6 : Int) from rfl) c_145
            exfalso; omega
        · skip
          have q_144 : b.toInt = (5 : Int) := i_eq2 (rfl : b.toInt = b.toInt) (show (5 : Int32).toInt = (5 : Int) from rfl) c_144
          exfalso; omega
      · skip
        have q_141 : b.toInt = (4 : Int) := i_eq2 (rfl : b.toInt = b.toInt) (show (4 : Int32).toInt = (4 : Int) from rfl) c_141
        exfalso; omega
    · skip
      have q_140 : b.toInt = (3 : Int) := i_eq2 (rfl : b.toInt = b.toInt) (show (3 : Int32).toInt = (3 : Int) from rfl) c_140
      exfalso; omega
set_option maxHeartbeats 4000000 in
set_option maxRecDepth 100000 in
theorem c0_X11_measures (l : Launch) (D : va_G) (cy : Nat → ClassId) (ad : Nat → Nat) (hI : mInj ad) (sz : Nat) (iv : gIv) (ar : gAr) (a : Int32) (yL : ∀ i, (ar 1 i).toInt = 0) (hc : 0 ≤ a.toInt ∧ a.toInt < 108) : Met l yX11_measures wsX11_measures ({ frames := 2, cells := 0, slots := 0, locals := 48 } : Room) (va_Pc [.ref (ad 0), .int a] (mPre D cy ad sz iv ar)) (va_Qv (fun (u : gIv × gAr) => u.1 = iv ∧ (∀ c, c ≠ 5 → c ≠ 6 → u.2 c = ar c) ∧ (∀ c, c < 108 → (u.2 5 (108 * a.toInt.toNat + c)).toInt = man c a.toInt.toNat) ∧ (u.2 6 a.toInt.toNat).toInt = 1) (mPost D cy ad) (mA ad sz)) 0 0 (mA ad sz) := by
  refine Met.ofW (cc := cX11_measures) (maxL := 7) (ret := none) (by decide) rfl ?_
  intro p e s m args below meth c s₁ B hml hv
  obtain ⟨rfl, rfl, hP, hK, hSt, hNw⟩ := hv
  have hx := B.exec
  have hb := B.bytes
  have hr := B.returns
  have hts := atoms_spec (ws := wsX11_measures) B.pre
  have hown : s.vm.findClass RX11 = some m.cls := findClass_of_methodNamed B.named
  have hlocks := B.notSynchronized
  have hS : va_S (mA ad s.heap.size) s.heap s.heap [] := va_S.rf
  have inX11 : ∀ w ∈ u_ws RX11 TX11 30, w ∈ wsX11_measures := by decide +kernel
  have lk0 := hts (.fieldLink RX11 25 "FormationPlannerModel" "isKnown" "[Z") (by decide +kernel)
  have lk1 := hts (.fieldLink RX11 22 "FormationPlannerModel" "times" "[I") (by decide +kernel)
  have lk2 := hts (.constant RX11 124 100000) (by decide +kernel)
  have hl := lv_entry ([.ref (ad 0), .int a]) (n := 7) (Nat.le_of_ble_eq_true rfl)
  rw [lg_entry_eq]
  generalize (lg_sl ([.ref (ad 0), .int a]) ++ List.replicate (7 - (lg_sl ([.ref (ad 0), .int a])).length) Slot.unset).toArray = ls at hl ⊢
  have hl : lv_has ls 7 [(0, .ref (ad 0)), (1, .int a)] := hl
  obtain ⟨Q, hQ⟩ : ∃ Q, Q = MQ below (va_Qv (fun (u : gIv × gAr) => u.1 = iv ∧ (∀ c, c ≠ 5 → c ≠ 6 → u.2 c = ar c) ∧ (∀ c, c < 108 → (u.2 5 (108 * a.toInt.toNat + c)).toInt = man c a.toInt.toNat) ∧ (u.2 6 a.toInt.toNat).toInt = 1) (mPost D cy ad) (mA ad s.heap.size)) (([.ref (ad 0), .int a] : List Value).toArray) s 0 0 (mA ad s.heap.size) := ⟨_, rfl⟩
  rw [← hQ]
  refine lv_iconst (v := 0) hx hb dX11_measures_0 (by decide) ?_
  refine lv_istore_n (lv' := [(2, .int 0), (0, .ref (ad 0)), (1, .int a)]) hx hb dX11_measures_1 rfl hl (by decide) rfl (fun ls hl => ?_)
  have loop3 : ∀ (n : Nat) (x2_1 : Int32) (ar_2 : gAr) (H : Heap) (locs : List Loc) (ls : Array Slot), ((108 - (x2_1.toInt)).toNat) < n → (0 ≤ (x2_1.toInt) ∧ (x2_1.toInt) ≤ 108) → (∀ c, c ≠ 5 → ar_2 c = ar c) → (∀ c : Nat, (c : Int) < (x2_1.toInt) → (ar_2 5 (108 * a.toInt.toNat + c)).toInt = if c = a.toInt.toNat then 0 else 100000) → va_P D vwCl (MW cy ad iv ar_2) H → va_S (mA ad s.heap.size) s.heap H locs → lv_has ls 7 [(2, .int x2_1), (0, .ref (ad 0)), (1, .int a)] → W p l e (headSpec wsX11_measures (({ frames := 2, cells := 0, slots := 0, locals := 48 } : Room))).room s m (([.ref (ad 0), .int a] : List Value).toArray) below meth c H locs 0 0 Q (F0 m 2 ls []) := by
    intro n
    induction n with
    | zero => intro x2_1 ar_2 H locs ls hm; omega
    | succ n ih3 =>
      intro x2_1 ar_2 H locs ls hm hg0 hga hgf hP hS hl
      refine lv_iload_n hx hb dX11_measures_2 rfl (lv_at hl 0 rfl) ?_
      refine lv_bipush (v := 108) hx hb dX11_measures_3 (by decide) ?_
      refine lv_icmp_ge (tgt := 44) hx hb dX11_measures_5 (by decide) (fun c_4 => ?_) (fun c_4 => ?_)
      · skip
        have q_4 : (108 : Int) ≤ x2_1.toInt := i_le2 (show (108 : Int32).toInt = (108 : Int) from rfl) (rfl : x2_1.toInt = x2_1.toInt) c_4
        have hmi : MBI a.toInt.toNat (ar_2 5) := MBI.init (by omega) (fun c hc => hgf c (by omega))
        refine lv_iconst (v := 1) hx hb dX11_measures_44 (by decide) ?_
        refine lv_istore_n (lv' := [(2, .int 1), (0, .ref (ad 0)), (1, .int a)]) hx hb dX11_measures_45 rfl hl (by decide) rfl (fun ls hl => ?_)
        have loop7 : ∀ (n : Nat) (x2_5 : Int32) (ar_6 : gAr) (H : Heap) (locs : List Loc) (ls : Array Slot), ((2 * sm (ar_6 5) (108 * a.toInt.toNat) 108 + (x2_5.toInt)).toNat) < n → (0 ≤ (x2_5.toInt) ∧ (x2_5.toInt) ≤ 1) → (∀ c, c ≠ 5 → ar_6 c = ar c) → (MBI a.toInt.toNat (ar_6 5)) → ((x2_5.toInt) = 0 → ∀ c : Nat, c < 108 → ∀ q : Nat, 1 ≤ q → q < 7 → MFX (ar_6 5) a.toInt.toNat c q) → va_P D vwCl (MW cy ad iv ar_6) H → va_S (mA ad s.heap.size) s.heap H locs → lv_has ls 7 [(2, .int x2_5), (0, .ref (ad 0)), (1, .int a)] → W p l e (headSpec wsX11_measures (({ frames := 2, cells := 0, slots := 0, locals := 48 } : Room))).room s m (([.ref (ad 0), .int a] : List Value).toArray) below meth c H locs 0 0 Q (F0 m 46 ls []) := by
          intro n
          induction n with
          | zero => intro x2_5 ar_6 H locs ls hm; omega
          | succ n ih7 =>
            intro x2_5 ar_6 H locs ls hm hm0 hma hmm hmx hP hS hl
            refine lv_iload_n hx hb dX11_measures_46 rfl (lv_at hl 0 rfl) ?_
            refine lv_if_eq (tgt := 165) hx hb dX11_measures_47 (by decide) (fun c_8 => ?_) (fun c_8 => ?_)
            · skip
              have q_8 : x2_5.toInt = (0 : Int) := i_eq2 (rfl : x2_5.toInt = x2_5.toInt) (show (0 : Int32).toInt = (0 : Int) from rfl) c_8
              refine lv_aload_n hx hb dX11_measures_165 rfl (lv_at hl 1 rfl) ?_
              refine va_get (D := D) (ci := 11) (v := .ref (ad 6)) (C := RX11) (T := TX11) (N := 30) hx hb hts inX11 hown hK hP 0 (m_at11 (Nat.le_of_ble_eq_true rfl) rfl) rfl 8 (by decide) lk0 (fun _ h9 => h9) rfl dX11_measures_166 ?_
              refine lv_iload_n hx hb dX11_measures_169 rfl (lv_at hl 2 rfl) ?_
              refine lv_iconst (v := 1) hx hb dX11_measures_170 (by decide) ?_
              refine va_zast hx hb hK hP (mD hI) hS 6 1 (m_at13 (Nat.le_of_ble_eq_true rfl) rfl) rfl (g_in (N := 108) (rfl : a.toInt = a.toInt) rfl (by omega) (by omega)) dX11_measures_171 (fun H locs hP _ hS => ?_)
              rw [m_pt13 (Nat.le_of_ble_eq_true rfl) rfl] at hP
              obtain ⟨ar_9, ear_9⟩ : ∃ z : gAr, z = va_up ar_6 6 (upd (ar_6 6) a.toNatClampNeg 1) := ⟨_, rfl⟩
              have hP : va_P D vwCl (MW cy ad iv ar_9) H := by rw [ear_9]; exact hP
              rw [hQ]
              exact W.vret hx hb hr (fun t ht hW => ⟨⟨(iv, ar_9), rfl, ⟨rfl, fun c h5 h6 => by show ar_9 c = ar c; rw [ear_9, ua_o h6]; exact hma c h5, fun c hc => by show (ar_9 5 _).toInt = _; rw [ear_9, ua_o (by omega)]; exact MBI.all (by omega) hmm (hmx (by omega)) c hc, by show (ar_9 6 _).toInt = 1; rw [ear_9, ua_s, g_cN (rfl : a.toInt = _), pk_us]; rfl⟩, by show va_P _ _ _ _; rw [ht]; exact hP⟩, hS.F ht⟩) hS.2.2 dX11_measures_172
            · skip
              have q_8 : x2_5.toInt ≠ (0 : Int) := i_ne2 (rfl : x2_5.toInt = x2_5.toInt) (show (0 : Int32).toInt = (0 : Int) from rfl) c_8
              
              refine lv_iconst (v := 0) hx hb dX11_measures_50 (by decide) ?_
              refine lv_istore_n (lv' := [(2, .int 0), (0, .ref (ad 0)), (1, .int a)]) hx hb dX11_measures_51 rfl hl (by decide) rfl (fun ls hl => ?_)
              refine lv_iconst (v := 0) hx hb dX11_measures_52 (by decide) ?_
              refine lv_istore_n (lv' := [(3, .int 0), (2, .int 0), (0, .ref (ad 0)), (1, .int a)]) hx hb dX11_measures_53 rfl hl (by decide) rfl (fun ls hl => ?_)
              have loop13 : ∀ (n : Nat) (x3_10 : Int32) (x2_11 : Int32) (ar_12 : gAr) (H : Heap) (locs : List Loc) (ls : Array Slot), ((108 - (x3_10.toInt)).toNat) < n → (0 ≤ (x3_10.toInt) ∧ (x3_10.toInt) ≤ 108 ∧ 0 ≤ (x2_11.toInt) ∧ (x2_11.toInt) ≤ 1) → (∀ c, c ≠ 5 → ar_12 c = ar c) → (MBI a.toInt.toNat (ar_12 5)) → (sm (ar_12 5) (108 * a.toInt.toNat) 108 ≤ sm (ar_6 5) (108 * a.toInt.toNat) 108 ∧ ((x2_11.toInt) = 1 → sm (ar_12 5) (108 * a.toInt.toNat) 108 < sm (ar_6 5) (108 * a.toInt.toNat) 108)) → ((x2_11.toInt) = 0 → ∀ c : Nat, (c : Int) < (x3_10.toInt) → ∀ q : Nat, 1 ≤ q → q < 7 → MFX (ar_12 5) a.toInt.toNat c q) → va_P D vwCl (MW cy ad iv ar_12) H → va_S (mA ad s.heap.size) s.heap H locs → lv_has ls 7 [(3, .int x3_10), (2, .int x2_11), (0, .ref (ad 0)), (1, .int a)] → W p l e (headSpec wsX11_measures (({ frames := 2, cells := 0, slots := 0, locals := 48 } : Room))).room s m (([.ref (ad 0), .int a] : List Value).toArray) below meth c H locs 0 0 Q (F0 m 54 ls []) := by
                intro n
                induction n with
                | zero => intro x3_10 x2_11 ar_12 H locs ls hm; omega
                | succ n ih13 =>
                  intro x3_10 x2_11 ar_12 H locs ls hm hn0 hna hnm hns hnx hP hS hl
                  refine lv_iload_n hx hb dX11_measures_54 rfl (lv_at hl 0 rfl) ?_
                  refine lv_bipush (v := 108) hx hb dX11_measures_55 (by decide) ?_
                  refine lv_icmp_ge (tgt := 162) hx hb dX11_measures_57 (by decide) (fun c_14 => ?_) (fun c_14 => ?_)
                  · skip
                    have q_14 : (108 : Int) ≤ x3_10.toInt := i_le2 (show (108 : Int32).toInt = (108 : Int) from rfl) (rfl : x3_10.toInt = x3_10.toInt) c_14
                    refine lv_goto (tgt := 46) hx hb dX11_measures_162 (by decide) ?_
                    have hs0 := MBI.sm0 (g := a.toInt.toNat) (by omega) hnm
                    exact ih7 x2_11 ar_12 _ _ _ (by omega) (by omega) hna hnm (fun h c hc => hnx h c (by omega)) hP hS (lv_sub hl [1, 2, 3] rfl)
                  · skip
                    have q_14 : x3_10.toInt < (108 : Int) := i_nle2 (show (108 : Int32).toInt = (108 : Int) from rfl) (rfl : x3_10.toInt = x3_10.toInt) c_14
                    refine lv_iconst (v := 1) hx hb dX11_measures_60 (by decide) ?_
                    refine lv_istore (lv' := [(4, .int 1), (3, .int x3_10), (2, .int x2_11), (0, .ref (ad 0)), (1, .int a)]) hx hb dX11_measures_61 hl (by decide) rfl (fun ls hl => ?_)
                    have loop18 : ∀ (n : Nat) (x4_15 : Int32) (x2_16 : Int32) (ar_17 : gAr) (H : Heap) (locs : List Loc) (ls : Array Slot), ((7 - (x4_15.toInt)).toNat) < n → (1 ≤ (x4_15.toInt) ∧ (x4_15.toInt) ≤ 7 ∧ 0 ≤ (x2_16.toInt) ∧ (x2_16.toInt) ≤ 1) → (∀ c, c ≠ 5 → ar_17 c = ar c) → (MBI a.toInt.toNat (ar_17 5)) → (sm (ar_17 5) (108 * a.toInt.toNat) 108 ≤ sm (ar_6 5) (108 * a.toInt.toNat) 108 ∧ ((x2_16.toInt) = 1 → sm (ar_17 5) (108 * a.toInt.toNat) 108 < sm (ar_6 5) (108 * a.toInt.toNat) 108)) → ((x2_16.toInt) = 0 → ∀ c : Nat, (c : Int) < (x3_10.toInt) → ∀ q : Nat, 1 ≤ q → q < 7 → MFX (ar_17 5) a.toInt.toNat c q) → ((x2_16.toInt) = 0 → ∀ q : Nat, 1 ≤ q → (q : Int) < (x4_15.toInt) → MFX (ar_17 5) a.toInt.toNat (x3_10.toInt).toNat q) → va_P D vwCl (MW cy ad iv ar_17) H → va_S (mA ad s.heap.size) s.heap H locs → lv_has ls 7 [(4, .int x4_15), (3, .int x3_10), (2, .int x2_16), (0, .ref (ad 0)), (1, .int a)] → W p l e (headSpec wsX11_measures (({ frames := 2, cells := 0, slots := 0, locals := 48 } : Room))).room s m (([.ref (ad 0), .int a] : List Value).toArray) below meth c H locs 0 0 Q (F0 m 63 ls []) := by
                      intro n
                      induction n with
                      | zero => intro x4_15 x2_16 ar_17 H locs ls hm; omega
                      | succ n ih18 =>
                        intro x4_15 x2_16 ar_17 H locs ls hm ho0 hoa hom hos hox hoy hP hS hl
                        refine lv_iload hx hb dX11_measures_63 (lv_at hl 0 rfl) ?_
                        refine lv_bipush (v := 7) hx hb dX11_measures_65 (by decide) ?_
                        refine lv_icmp_ge (tgt := 156) hx hb dX11_measures_67 (by decide) (fun c_19 => ?_) (fun c_19 => ?_)
                        · skip
                          have q_19 : (7 : Int) ≤ x4_15.toInt := i_le2 (show (7 : Int32).toInt = (7 : Int) from rfl) (rfl : x4_15.toInt = x4_15.toInt) c_19
                          have hnx2 : (x2_16.toInt) = 0 → ∀ c : Nat, (c : Int) < (x3_10.toInt) + 1 → ∀ q : Nat, 1 ≤ q → q < 7 → MFX (ar_17 5) a.toInt.toNat c q := fun h0 c hc q h1 h7 => (Classical.em ((c : Int) = (x3_10.toInt))).elim (fun e => by
                            have e2 : c = (x3_10.toInt).toNat := by omega
                            rw [e2]; exact hoy h0 q h1 (by omega)) (fun e => hox h0 c (by omega) q h1 h7)
                          obtain ⟨x3_20, ex3_20⟩ : ∃ y : Int32, y = x3_10 + 1 := ⟨_, rfl⟩
                          have tx3_20 : x3_20.toInt = x3_10.toInt + (1 : Int) := i_add (rfl : x3_10.toInt = x3_10.toInt) (show (1 : Int32).toInt = (1 : Int) from rfl) (by omega) (by omega) ex3_20
                          refine lv_iinc (v := x3_20) (lv' := [(3, .int x3_20), (4, .int x4_15), (2, .int x2_16), (0, .ref (ad 0)), (1, .int a)]) hx hb dX11_measures_156 hl (k := 1) rfl (by rw [ex3_20]; rfl) (by decide) rfl (fun ls hl => ?_)
                          refine lv_goto (tgt := 54) hx hb dX11_measures_159 (by decide) ?_
                          exact ih13 x3_20 x2_16 ar_17 _ _ _ (by omega) (by omega) hoa hom hos (fun h c hc => hnx2 h c (by omega)) hP hS (lv_sub hl [0, 2, 3, 4] rfl)
                        · skip
                          have q_19 : x4_15.toInt < (7 : Int) := i_nle2 (show (7 : Int32).toInt = (7 : Int) from rfl) (rfl : x4_15.toInt = x4_15.toInt) c_19
                          have hL1 : ∀ i, (ar_17 1 i).toInt = 0 := fun i => by rw [hoa 1 (by omega)]; exact yL i
                          have hbb := nb_b (c := (x3_10.toInt).toNat) (q := (x4_15.toInt).toNat) (by omega) (by omega)
                          refine lv_aload_n hx hb dX11_measures_70 rfl (lv_at hl 3 rfl) ?_
                          refine lv_iload_n hx hb dX11_measures_71 rfl (lv_at hl 1 rfl) ?_
                          refine g_callSi (va_runV (As := [.int x3_10]) (rest := []) ⟨hx, hb, hml, hown, hts⟩ (c0_X11_isObstacle l D cy ad hI _ iv ar_17 x3_10 hL1 (by omega)) (cwV 1 hts gX11_measures_X11_isObstacle rfl rfl rfl (by decide +kernel) ⟨Nat.le_of_ble_eq_true rfl, Nat.le_of_ble_eq_true rfl⟩) (m_preV hP hK hSt hNw hS (m_at11 (Nat.le_of_ble_eq_true rfl) rfl) rfl) rfl rfl hl.1 rfl (lv_room (Nat.le_of_ble_eq_true rfl)) dX11_measures_72 ⟨Nat.zero_le _, Nat.zero_le _⟩) (fun r_21 w_21 => ?_)
                          try dsimp only at w_21
                          refine lv_if_ne (tgt := 156) hx hb dX11_measures_75 (by decide) (fun c_22 => ?_) (fun c_22 => ?_)
                          · skip
                            have q_22 : (0 : Int) ≠ (0 : Int) := i_ne2 w_21 (show (0 : Int32).toInt = (0 : Int) from rfl) c_22
                            exfalso; omega
                          · skip
                            have q_22 : (0 : Int) = (0 : Int) := i_eq2 w_21 (show (0 : Int32).toInt = (0 : Int) from rfl) c_22
                            refine lv_aload_n hx hb dX11_measures_78 rfl (lv_at hl 3 rfl) ?_
                            refine lv_iload_n hx hb dX11_measures_79 rfl (lv_at hl 1 rfl) ?_
                            refine lv_iload hx hb dX11_measures_80 (lv_at hl 0 rfl) ?_
                            refine g_callSi (va_runV (As := [.int x3_10, .int x4_15]) (rest := []) ⟨hx, hb, hml, hown, hts⟩ (c0_X11_next l D cy ad hI _ iv ar_17 x3_10 x4_15 hL1 (by omega) (by omega)) (cwV 2 hts gX11_measures_X11_next rfl rfl rfl (by decide +kernel) ⟨Nat.le_of_ble_eq_true rfl, Nat.le_of_ble_eq_true rfl⟩) (m_preV hP hK hSt hNw hS (m_at11 (Nat.le_of_ble_eq_true rfl) rfl) rfl) rfl rfl hl.1 rfl (lv_room (Nat.le_of_ble_eq_true rfl)) dX11_measures_82 ⟨Nat.zero_le _, Nat.zero_le _⟩) (fun r_23 w_23 => ?_)
                            try dsimp only at w_23
                            have hnx1 := w_23
                            refine lv_istore (lv' := [(5, .int r_23), (4, .int x4_15), (3, .int x3_10), (2, .int x2_16), (0, .ref (ad 0)), (1, .int a)]) hx hb dX11_measures_85 hl (by decide) rfl (fun ls hl => ?_)
                            refine lv_iload hx hb dX11_measures_87 (lv_at hl 0 rfl) ?_
                            refine lv_if_ge (tgt := 97) hx hb dX11_measures_89 (by decide) (fun c_24 => ?_) (fun c_24 => ?_)
                            · skip
                              have q_24 : (0 : Int) ≤ r_23.toInt := i_le2 (show (0 : Int32).toInt = (0 : Int) from rfl) (rfl : r_23.toInt = r_23.toInt) c_24
                              refine lv_aload_n hx hb dX11_measures_97 rfl (lv_at hl 4 rfl) ?_
                              refine lv_iload_n hx hb dX11_measures_98 rfl (lv_at hl 2 rfl) ?_
                              refine lv_iload hx hb dX11_measures_99 (lv_at hl 1 rfl) ?_
                              refine g_callSi (va_runV (As := [.int x3_10, .int x4_15]) (rest := []) ⟨hx, hb, hml, hown, hts⟩ (c0_X11_ticks l D cy ad hI _ iv ar_17 x3_10 x4_15 hL1 (by omega)) (cwV 2 hts gX11_measures_X11_ticks rfl rfl rfl (by decide +kernel) ⟨Nat.le_of_ble_eq_true rfl, Nat.le_of_ble_eq_true rfl⟩) (m_preV hP hK hSt hNw hS (m_at11 (Nat.le_of_ble_eq_true rfl) rfl) rfl) rfl rfl hl.1 rfl (lv_room (Nat.le_of_ble_eq_true rfl)) dX11_measures_101 ⟨Nat.zero_le _, Nat.zero_le _⟩) (fun r_25 w_25 => ?_)
                              try dsimp only at w_25
                              refine lv_aload_n hx hb dX11_measures_104 rfl (lv_at hl 4 rfl) ?_
                              refine va_get (D := D) (ci := 11) (v := .ref (ad 5)) (C := RX11) (T := TX11) (N := 30) hx hb hts inX11 hown hK hP 0 (m_at11 (Nat.le_of_ble_eq_true rfl) rfl) rfl 7 (by decide) lk1 (fun _ h9 => h9) rfl dX11_measures_105 ?_
                              refine lv_bipush (v := 108) hx hb dX11_measures_108 (by decide) ?_
                              refine lv_iload_n hx hb dX11_measures_110 rfl (lv_at hl 5 rfl) ?_
                              refine lv_imul hx hb dX11_measures_111 ?_
                              refine lv_topi (fun v_26 ev_26 => ?_)
                              have tv_26 : v_26.toInt = (108 : Int) * a.toInt := i_mul (show (108 : Int32).toInt = (108 : Int) from rfl) (rfl : a.toInt = a.toInt) (by omega) (by omega) ev_26
                              refine lv_iload hx hb dX11_measures_112 (lv_at hl 0 rfl) ?_
                              refine lv_iadd hx hb dX11_measures_114 ?_
                              refine lv_topi (fun v_27 ev_27 => ?_)
                              have rg_28 := i_rng r_23
                              have tv_27 : v_27.toInt = v_26.toInt + r_23.toInt := i_add (rfl : v_26.toInt = v_26.toInt) (rfl : r_23.toInt = r_23.toInt) (by omega) (by omega) ev_27
                              refine va_iald hx hb hK hP 5 0 (m_at12 (Nat.le_of_ble_eq_true rfl) rfl) rfl (g_in (N := 11664) (rfl : v_27.toInt = v_27.toInt) rfl (by omega) (by omega)) dX11_measures_115 ?_
                              refine lv_topi (fun v_29 ev_29 => ?_)
                              have hv1 : v_29.toInt = (ar_17 5 (108 * a.toInt.toNat + (r_23.toInt).toNat)).toInt := by
                                rw [ev_29, g_cN (rfl : v_27.toInt = _)]
                                congr 2
                                omega
                              have hvn := hom.2 (r_23.toInt).toNat (by omega)
                              have hvm := man_b (c := (r_23.toInt).toNat) (g := a.toInt.toNat) (by omega) (by omega)
                              refine lv_iadd hx hb dX11_measures_116 ?_
                              refine lv_topi (fun v_30 ev_30 => ?_)
                              have tv_30 : v_30.toInt = (1 : Int) + v_29.toInt := i_add w_25 (rfl : v_29.toInt = v_29.toInt) (by omega) (by omega) ev_30
                              refine lv_istore (lv' := [(6, .int v_30), (5, .int r_23), (4, .int x4_15), (3, .int x3_10), (2, .int x2_16), (0, .ref (ad 0)), (1, .int a)]) hx hb dX11_measures_117 hl (by decide) rfl (fun ls hl => ?_)
                              refine lv_iload hx hb dX11_measures_119 (lv_at hl 0 rfl) ?_
                              refine lv_aload_n hx hb dX11_measures_121 rfl (lv_at hl 5 rfl) ?_
                              refine va_get (D := D) (ci := 11) (v := .ref (ad 5)) (C := RX11) (T := TX11) (N := 30) hx hb hts inX11 hown hK hP 0 (m_at11 (Nat.le_of_ble_eq_true rfl) rfl) rfl 7 (by decide) lk1 (fun _ h9 => h9) rfl dX11_measures_122 ?_
                              refine lv_bipush (v := 108) hx hb dX11_measures_125 (by decide) ?_
                              refine lv_iload_n hx hb dX11_measures_127 rfl (lv_at hl 6 rfl) ?_
                              refine lv_imul hx hb dX11_measures_128 ?_
                              refine lv_topi (fun v_31 ev_31 => ?_)
                              have tv_31 : v_31.toInt = (108 : Int) * a.toInt := i_mul (show (108 : Int32).toInt = (108 : Int) from rfl) (rfl : a.toInt = a.toInt) (by omega) (by omega) ev_31
                              refine lv_iload_n hx hb dX11_measures_129 rfl (lv_at hl 3 rfl) ?_
                              refine lv_iadd hx hb dX11_measures_130 ?_
                              refine lv_topi (fun v_32 ev_32 => ?_)
                              have tv_32 : v_32.toInt = v_31.toInt + x3_10.toInt := i_add (rfl : v_31.toInt = v_31.toInt) (rfl : x3_10.toInt = x3_10.toInt) (by omega) (by omega) ev_32
                              refine va_iald hx hb hK hP 5 0 (m_at12 (Nat.le_of_ble_eq_true rfl) rfl) rfl (g_in (N := 11664) (rfl : v_32.toInt = v_32.toInt) rfl (by omega) (by omega)) dX11_measures_131 ?_
                              refine lv_topi (fun v_33 ev_33 => ?_)
                              have hv2 : v_33.toInt = (ar_17 5 (108 * a.toInt.toNat + (x3_10.toInt).toNat)).toInt := by
                                rw [ev_33, g_cN (rfl : v_32.toInt = _)]
                                congr 2
                                omega
                              have hvc := hom.2 (x3_10.toInt).toNat (by omega)
                              refine lv_icmp_ge (tgt := 150) hx hb dX11_measures_132 (by decide) (fun c_34 => ?_) (fun c_34 => ?_)
                              · skip
                                have q_34 : v_33.toInt ≤ v_30.toInt := i_le2 (rfl : v_33.toInt = v_33.toInt) (rfl : v_30.toInt = v_30.toInt) c_34
                                have hcur : ∀ q : Nat, (q : Int) = (x4_15.toInt) → MFX (ar_17 5) a.toInt.toNat (x3_10.toInt).toNat q := fun q hq n hn => by
                                  have e : q = (x4_15.toInt).toNat := by omega
                                  subst e
                                  have e2 : n = (r_23.toInt).toNat := by omega
                                  rw [e2]
                                  omega
                                have hoy2 : (x2_16.toInt) = 0 → ∀ q : Nat, 1 ≤ q → (q : Int) < (x4_15.toInt) + 1 → MFX (ar_17 5) a.toInt.toNat (x3_10.toInt).toNat q := fun h0 q h1 hq => (Classical.em ((q : Int) = (x4_15.toInt))).elim (hcur q) (fun e => hoy h0 q h1 (by omega))
                                have hoa2 := hoa
                                have hom2 := hom
                                have hos2 := hos
                                have hox2 := hox
                                obtain ⟨x4_35, ex4_35⟩ : ∃ y : Int32, y = x4_15 + 1 := ⟨_, rfl⟩
                                have tx4_35 : x4_35.toInt = x4_15.toInt + (1 : Int) := i_add (rfl : x4_15.toInt = x4_15.toInt) (show (1 : Int32).toInt = (1 : Int) from rfl) (by omega) (by omega) ex4_35
                                refine lv_iinc (v := x4_35) (lv' := [(4, .int x4_35), (6, .int v_30), (5, .int r_23), (3, .int x3_10), (2, .int x2_16), (0, .ref (ad 0)), (1, .int a)]) hx hb dX11_measures_150 hl (k := 2) rfl (by rw [ex4_35]; rfl) (by decide) rfl (fun ls hl => ?_)
                                refine lv_goto (tgt := 63) hx hb dX11_measures_153 (by decide) ?_
                                exact ih18 x4_35 x2_16 ar_17 _ _ _ (by omega) (by omega) hoa2 hom2 hos2 hox2 (fun h q h1 hq => hoy2 h q h1 (by omega)) hP hS (lv_sub hl [0, 3, 4, 5, 6] rfl)
                              · skip
                                have q_34 : v_30.toInt < v_33.toInt := i_nle2 (rfl : v_33.toInt = v_33.toInt) (rfl : v_30.toInt = v_30.toInt) c_34
                                refine lv_aload_n hx hb dX11_measures_135 rfl (lv_at hl 5 rfl) ?_
                                refine va_get (D := D) (ci := 11) (v := .ref (ad 5)) (C := RX11) (T := TX11) (N := 30) hx hb hts inX11 hown hK hP 0 (m_at11 (Nat.le_of_ble_eq_true rfl) rfl) rfl 7 (by decide) lk1 (fun _ h9 => h9) rfl dX11_measures_136 ?_
                                refine lv_bipush (v := 108) hx hb dX11_measures_139 (by decide) ?_
                                refine lv_iload_n hx hb dX11_measures_141 rfl (lv_at hl 6 rfl) ?_
                                refine lv_imul hx hb dX11_measures_142 ?_
                                refine lv_topi (fun v_36 ev_36 => ?_)
                                have tv_36 : v_36.toInt = (108 : Int) * a.toInt := i_mul (show (108 : Int32).toInt = (108 : Int) from rfl) (rfl : a.toInt = a.toInt) (by omega) (by omega) ev_36
                                refine lv_iload_n hx hb dX11_measures_143 rfl (lv_at hl 3 rfl) ?_
                                refine lv_iadd hx hb dX11_measures_144 ?_
                                refine lv_topi (fun v_37 ev_37 => ?_)
                                have tv_37 : v_37.toInt = v_36.toInt + x3_10.toInt := i_add (rfl : v_36.toInt = v_36.toInt) (rfl : x3_10.toInt = x3_10.toInt) (by omega) (by omega) ev_37
                                refine lv_iload hx hb dX11_measures_145 (lv_at hl 0 rfl) ?_
                                refine va_iast hx hb hK hP (mD hI) hS 5 0 (m_at12 (Nat.le_of_ble_eq_true rfl) rfl) rfl (g_in (N := 11664) (rfl : v_37.toInt = v_37.toInt) rfl (by omega) (by omega)) dX11_measures_147 (fun H locs hP _ hS => ?_)
                                rw [m_pt12 (Nat.le_of_ble_eq_true rfl) rfl] at hP
                                obtain ⟨ar_38, ear_38⟩ : ∃ z : gAr, z = va_up ar_17 5 (upd (ar_17 5) v_37.toNatClampNeg v_30) := ⟨_, rfl⟩
                                rw [← ear_38] at hP
                                have hix : v_37.toNatClampNeg = 108 * a.toInt.toNat + (x3_10.toInt).toNat := by rw [g_cN (rfl : v_37.toInt = _)]; omega
                                have har : ar_38 5 = upd (ar_17 5) (108 * a.toInt.toNat + (x3_10.toInt).toNat) v_30 := by rw [ear_38, ua_s, hix]
                                have hset := MBI.set (g := a.toInt.toNat) (c := (x3_10.toInt).toNat) (q := (x4_15.toInt).toNat) (n := (r_23.toInt).toNat) (by omega) hom (by omega) (by omega) (by omega) (by omega) (x := v_30) (by omega) (by omega)
                                have hom2 : MBI a.toInt.toNat (ar_38 5) := by rw [har]; exact hset.1
                                have hsm : sm (ar_38 5) (108 * a.toInt.toNat) 108 < sm (ar_17 5) (108 * a.toInt.toNat) 108 := by rw [har]; exact hset.2
                                have hos2 : sm (ar_38 5) (108 * a.toInt.toNat) 108 ≤ sm (ar_6 5) (108 * a.toInt.toNat) 108 ∧ ((1 : Int32).toInt = 1 → sm (ar_38 5) (108 * a.toInt.toNat) 108 < sm (ar_6 5) (108 * a.toInt.toNat) 108) := ⟨by omega, fun _ => by omega⟩
                                have hoa2 : ∀ c, c ≠ 5 → ar_38 c = ar c := fun c h => by rw [ear_38, ua_o h]; exact hoa c h
                                refine lv_iconst (v := 1) hx hb dX11_measures_148 (by decide) ?_
                                refine lv_istore_n (lv' := [(2, .int 1), (6, .int v_30), (5, .int r_23), (4, .int x4_15), (3, .int x3_10), (0, .ref (ad 0)), (1, .int a)]) hx hb dX11_measures_149 rfl hl (by decide) rfl (fun ls hl => ?_)
                                obtain ⟨x4_39, ex4_39⟩ : ∃ y : Int32, y = x4_15 + 1 := ⟨_, rfl⟩
                                have tx4_39 : x4_39.toInt = x4_15.toInt + (1 : Int) := i_add (rfl : x4_15.toInt = x4_15.toInt) (show (1 : Int32).toInt = (1 : Int) from rfl) (by omega) (by omega) ex4_39
                                refine lv_iinc (v := x4_39) (lv' := [(4, .int x4_39), (2, .int 1), (6, .int v_30), (5, .int r_23), (3, .int x3_10), (0, .ref (ad 0)), (1, .int a)]) hx hb dX11_measures_150 hl (k := 3) rfl (by rw [ex4_39]; rfl) (by decide) rfl (fun ls hl => ?_)
                                refine lv_goto (tgt := 63) hx hb dX11_measures_153 (by decide) ?_
                                have zl_40 : (1 : Int32).toInt = (1 : Int) := rfl
                                exact ih18 x4_39 1 ar_38 _ _ _ (by omega) (by omega) hoa2 hom2 hos2 (fun h => absurd h (by decide)) (fun h => absurd h (by decide)) hP hS (lv_sub hl [0, 4, 1, 5, 6] rfl)
                            · skip
                              have q_24 : r_23.toInt < (0 : Int) := i_nle2 (show (0 : Int32).toInt = (0 : Int) from rfl) (rfl : r_23.toInt = r_23.toInt) c_24
                              refine lv_ldc (v := 100000) hx hb hown lk2 dX11_measures_92 ?_
                              refine lv_goto (tgt := 117) hx hb dX11_measures_94 (by decide) ?_
                              refine lv_istore (lv' := [(6, .int 100000), (5, .int r_23), (4, .int x4_15), (3, .int x3_10), (2, .int x2_16), (0, .ref (ad 0)), (1, .int a)]) hx hb dX11_measures_117 hl (by decide) rfl (fun ls hl => ?_)
                              refine lv_iload hx hb dX11_measures_119 (lv_at hl 0 rfl) ?_
                              refine lv_aload_n hx hb dX11_measures_121 rfl (lv_at hl 5 rfl) ?_
                              refine va_get (D := D) (ci := 11) (v := .ref (ad 5)) (C := RX11) (T := TX11) (N := 30) hx hb hts inX11 hown hK hP 0 (m_at11 (Nat.le_of_ble_eq_true rfl) rfl) rfl 7 (by decide) lk1 (fun _ h9 => h9) rfl dX11_measures_122 ?_
                              refine lv_bipush (v := 108) hx hb dX11_measures_125 (by decide) ?_
                              refine lv_iload_n hx hb dX11_measures_127 rfl (lv_at hl 6 rfl) ?_
                              refine lv_imul hx hb dX11_measures_128 ?_
                              refine lv_topi (fun v_41 ev_41 => ?_)
                              have tv_41 : v_41.toInt = (108 : Int) * a.toInt := i_mul (show (108 : Int32).toInt = (108 : Int) from rfl) (rfl : a.toInt = a.toInt) (by omega) (by omega) ev_41
                              refine lv_iload_n hx hb dX11_measures_129 rfl (lv_at hl 3 rfl) ?_
                              refine lv_iadd hx hb dX11_measures_130 ?_
                              refine lv_topi (fun v_42 ev_42 => ?_)
                              have tv_42 : v_42.toInt = v_41.toInt + x3_10.toInt := i_add (rfl : v_41.toInt = v_41.toInt) (rfl : x3_10.toInt = x3_10.toInt) (by omega) (by omega) ev_42
                              refine va_iald hx hb hK hP 5 0 (m_at12 (Nat.le_of_ble_eq_true rfl) rfl) rfl (g_in (N := 11664) (rfl : v_42.toInt = v_42.toInt) rfl (by omega) (by omega)) dX11_measures_131 ?_
                              refine lv_topi (fun v_43 ev_43 => ?_)
                              have hv2 : v_43.toInt = (ar_17 5 (108 * a.toInt.toNat + (x3_10.toInt).toNat)).toInt := by
                                rw [ev_43, g_cN (rfl : v_42.toInt = _)]
                                congr 2
                                omega
                              have hvc := hom.2 (x3_10.toInt).toNat (by omega)
                              refine lv_icmp_ge (tgt := 150) hx hb dX11_measures_132 (by decide) (fun c_44 => ?_) (fun c_44 => ?_)
                              · skip
                                have q_44 : v_43.toInt ≤ (100000 : Int) := i_le2 (rfl : v_43.toInt = v_43.toInt) (show (100000 : Int32).toInt = (100000 : Int) from rfl) c_44
                                have hcur : ∀ q : Nat, (q : Int) = (x4_15.toInt) → MFX (ar_17 5) a.toInt.toNat (x3_10.toInt).toNat q := fun q hq n hn => by
                                  have e : q = (x4_15.toInt).toNat := by omega
                                  subst e
                                  exfalso
                                  omega
                                have hoy2 : (x2_16.toInt) = 0 → ∀ q : Nat, 1 ≤ q → (q : Int) < (x4_15.toInt) + 1 → MFX (ar_17 5) a.toInt.toNat (x3_10.toInt).toNat q := fun h0 q h1 hq => (Classical.em ((q : Int) = (x4_15.toInt))).elim (hcur q) (fun e => hoy h0 q h1 (by omega))
                                have hoa2 := hoa
                                have hom2 := hom
                                have hos2 := hos
                                have hox2 := hox
                                obtain ⟨x4_45, ex4_45⟩ : ∃ y : Int32, y = x4_15 + 1 := ⟨_, rfl⟩
                                have tx4_45 : x4_45.toInt = x4_15.toInt + (1 : Int) := i_add (rfl : x4_15.toInt = x4_15.toInt) (show (1 : Int32).toInt = (1 : Int) from rfl) (by omega) (by omega) ex4_45
                                refine lv_iinc (v := x4_45) (lv' := [(4, .int x4_45), (6, .int 100000), (5, .int r_23), (3, .int x3_10), (2, .int x2_16), (0, .ref (ad 0)), (1, .int a)]) hx hb dX11_measures_150 hl (k := 2) rfl (by rw [ex4_45]; rfl) (by decide) rfl (fun ls hl => ?_)
                                refine lv_goto (tgt := 63) hx hb dX11_measures_153 (by decide) ?_
                                exact ih18 x4_45 x2_16 ar_17 _ _ _ (by omega) (by omega) hoa2 hom2 hos2 hox2 (fun h q h1 hq => hoy2 h q h1 (by omega)) hP hS (lv_sub hl [0, 3, 4, 5, 6] rfl)
                              · skip
                                have q_44 : (100000 : Int) < v_43.toInt := i_nle2 (rfl : v_43.toInt = v_43.toInt) (show (100000 : Int32).toInt = (100000 : Int) from rfl) c_44
                                exfalso; omega
                    have zl_46 : (1 : Int32).toInt = (1 : Int) := rfl
                    exact loop18 (((7 - ((1 : Int))).toNat) + 1) 1 x2_11 ar_12 _ _ _ (by omega) (by omega) hna hnm hns hnx (fun _ q h1 hq => by exfalso; omega) hP hS (lv_sub hl [0, 1, 2, 3, 4] rfl)
              have zl_47 : (0 : Int32).toInt = (0 : Int) := rfl
              have zl_48 : (0 : Int32).toInt = (0 : Int) := rfl
              exact loop13 (((108 - ((0 : Int))).toNat) + 1) 0 0 ar_6 _ _ _ (by omega) (by omega) hma hmm ⟨Int.le_refl _, fun h => absurd h (by decide)⟩ (fun _ c hc => by exfalso; omega) hP hS (lv_sub hl [0, 1, 2, 3] rfl)
        have zl_49 : (1 : Int32).toInt = (1 : Int) := rfl
        exact loop7 (((2 * sm (ar_2 5) (108 * a.toInt.toNat) 108 + ((1 : Int))).toNat) + 1) 1 ar_2 _ _ _ (by omega) (by omega) hga hmi (fun h => absurd h (by decide)) hP hS (lv_sub hl [0, 1, 2] rfl)
      · skip
        have q_4 : x2_1.toInt < (108 : Int) := i_nle2 (show (108 : Int32).toInt = (108 : Int) from rfl) (rfl : x2_1.toInt = x2_1.toInt) c_4
        refine lv_aload_n hx hb dX11_measures_8 rfl (lv_at hl 1 rfl) ?_
        refine va_get (D := D) (ci := 11) (v := .ref (ad 5)) (C := RX11) (T := TX11) (N := 30) hx hb hts inX11 hown hK hP 0 (m_at11 (Nat.le_of_ble_eq_true rfl) rfl) rfl 7 (by decide) lk1 (fun _ h9 => h9) rfl dX11_measures_9 ?_
        refine lv_bipush (v := 108) hx hb dX11_measures_12 (by decide) ?_
        refine lv_iload_n hx hb dX11_measures_14 rfl (lv_at hl 2 rfl) ?_
        refine lv_imul hx hb dX11_measures_15 ?_
        refine lv_topi (fun v_50 ev_50 => ?_)
        have tv_50 : v_50.toInt = (108 : Int) * a.toInt := i_mul (show (108 : Int32).toInt = (108 : Int) from rfl) (rfl : a.toInt = a.toInt) (by omega) (by omega) ev_50
        refine lv_iload_n hx hb dX11_measures_16 rfl (lv_at hl 0 rfl) ?_
        refine lv_iadd hx hb dX11_measures_17 ?_
        refine lv_topi (fun v_51 ev_51 => ?_)
        have tv_51 : v_51.toInt = v_50.toInt + x2_1.toInt := i_add (rfl : v_50.toInt = v_50.toInt) (rfl : x2_1.toInt = x2_1.toInt) (by omega) (by omega) ev_51
        refine lv_iload_n hx hb dX11_measures_18 rfl (lv_at hl 0 rfl) ?_
        refine lv_iload_n hx hb dX11_measures_19 rfl (lv_at hl 2 rfl) ?_
        refine lv_icmp_ne (tgt := 35) hx hb dX11_measures_20 (by decide) (fun c_52 => ?_) (fun c_52 => ?_)
        · skip
          have q_52 : x2_1.toInt ≠ a.toInt := i_ne2 (rfl : x2_1.toInt = x2_1.toInt) (rfl : a.toInt = a.toInt) c_52
          refine lv_ldc (v := 100000) hx hb hown lk2 dX11_measures_35 ?_
          refine va_iast hx hb hK hP (mD hI) hS 5 0 (m_at12 (Nat.le_of_ble_eq_true rfl) rfl) rfl (g_in (N := 11664) (rfl : v_51.toInt = v_51.toInt) rfl (by omega) (by omega)) dX11_measures_37 (fun H locs hP _ hS => ?_)
          rw [m_pt12 (Nat.le_of_ble_eq_true rfl) rfl] at hP
          obtain ⟨ar_53, ear_53⟩ : ∃ z : gAr, z = va_up ar_2 5 (upd (ar_2 5) v_51.toNatClampNeg 100000) := ⟨_, rfl⟩
          rw [← ear_53] at hP
          have hix : v_51.toNatClampNeg = 108 * a.toInt.toNat + (x2_1.toInt).toNat := by rw [g_cN (rfl : v_51.toInt = _)]; omega
          have har : ar_53 5 = upd (ar_2 5) (108 * a.toInt.toNat + (x2_1.toInt).toNat) 100000 := by rw [ear_53, ua_s, hix]
          have hga2 : ∀ c, c ≠ 5 → ar_53 c = ar c := fun c h => by rw [ear_53, ua_o h]; exact hga c h
          have hgf2 : ∀ c : Nat, (c : Int) < (x2_1.toInt) + 1 → (ar_53 5 (108 * a.toInt.toNat + c)).toInt = if c = a.toInt.toNat then 0 else 100000 := fun c hc => by
            rw [har]
            by_cases e : c = (x2_1.toInt).toNat
            · rw [e, pk_us]
              split <;> first | rfl | (exfalso; omega)
            · rw [pk_un (show 108 * a.toInt.toNat + c ≠ 108 * a.toInt.toNat + (x2_1.toInt).toNat from by omega)]; exact hgf c (by omega)
          obtain ⟨x2_54, ex2_54⟩ : ∃ y : Int32, y = x2_1 + 1 := ⟨_, rfl⟩
          have tx2_54 : x2_54.toInt = x2_1.toInt + (1 : Int) := i_add (rfl : x2_1.toInt = x2_1.toInt) (show (1 : Int32).toInt = (1 : Int) from rfl) (by omega) (by omega) ex2_54
          refine lv_iinc (v := x2_54) (lv' := [(2, .int x2_54), (0, .ref (ad 0)), (1, .int a)]) hx hb dX11_measures_38 hl (k := 0) rfl (by rw [ex2_54]; rfl) (by decide) rfl (fun ls hl => ?_)
          refine lv_goto (tgt := 2) hx hb dX11_measures_41 (by decide) ?_
          exact ih3 x2_54 ar_53 _ _ _ (by omega) (by omega) hga2 (fun c hc => hgf2 c (by omega)) hP hS (lv_sub hl [0, 1, 2] rfl)
        · skip
          have q_52 : x2_1.toInt = a.toInt := i_eq2 (rfl : x2_1.toInt = x2_1.toInt) (rfl : a.toInt = a.toInt) c_52
          refine lv_aload_n hx hb dX11_measures_23 rfl (lv_at hl 1 rfl) ?_
          refine lv_iload_n hx hb dX11_measures_24 rfl (lv_at hl 0 rfl) ?_
          refine g_callSi (va_runV (As := [.int x2_1]) (rest := [.int v_51, .ref (ad 5)]) ⟨hx, hb, hml, hown, hts⟩ (c0_X11_isObstacle l D cy ad hI _ iv ar_2 x2_1 (fun i => by rw [hga 1 (by omega)]; exact yL i) (by omega)) (cwV 1 hts gX11_measures_X11_isObstacle rfl rfl rfl (by decide +kernel) ⟨Nat.le_of_ble_eq_true rfl, Nat.le_of_ble_eq_true rfl⟩) (m_preV hP hK hSt hNw hS (m_at11 (Nat.le_of_ble_eq_true rfl) rfl) rfl) rfl rfl hl.1 rfl (lv_room (Nat.le_of_ble_eq_true rfl)) dX11_measures_25 ⟨Nat.zero_le _, Nat.zero_le _⟩) (fun r_55 w_55 => ?_)
          try dsimp only at w_55
          refine lv_if_ne (tgt := 35) hx hb dX11_measures_28 (by decide) (fun c_56 => ?_) (fun c_56 => ?_)
          · skip
            have q_56 : (0 : Int) ≠ (0 : Int) := i_ne2 w_55 (show (0 : Int32).toInt = (0 : Int) from rfl) c_56
            exfalso; omega
          · skip
            have q_56 : (0 : Int) = (0 : Int) := i_eq2 w_55 (show (0 : Int32).toInt = (0 : Int) from rfl) c_56
            refine lv_iconst (v := 0) hx hb dX11_measures_31 (by decide) ?_
            refine lv_goto (tgt := 37) hx hb dX11_measures_32 (by decide) ?_
            refine va_iast hx hb hK hP (mD hI) hS 5 0 (m_at12 (Nat.le_of_ble_eq_true rfl) rfl) rfl (g_in (N := 11664) (rfl : v_51.toInt = v_51.toInt) rfl (by omega) (by omega)) dX11_measures_37 (fun H locs hP _ hS => ?_)
            rw [m_pt12 (Nat.le_of_ble_eq_true rfl) rfl] at hP
            obtain ⟨ar_57, ear_57⟩ : ∃ z : gAr, z = va_up ar_2 5 (upd (ar_2 5) v_51.toNatClampNeg 0) := ⟨_, rfl⟩
            rw [← ear_57] at hP
            have hix : v_51.toNatClampNeg = 108 * a.toInt.toNat + (x2_1.toInt).toNat := by rw [g_cN (rfl : v_51.toInt = _)]; omega
            have har : ar_57 5 = upd (ar_2 5) (108 * a.toInt.toNat + (x2_1.toInt).toNat) 0 := by rw [ear_57, ua_s, hix]
            have hga2 : ∀ c, c ≠ 5 → ar_57 c = ar c := fun c h => by rw [ear_57, ua_o h]; exact hga c h
            have hgf2 : ∀ c : Nat, (c : Int) < (x2_1.toInt) + 1 → (ar_57 5 (108 * a.toInt.toNat + c)).toInt = if c = a.toInt.toNat then 0 else 100000 := fun c hc => by
              rw [har]
              by_cases e : c = (x2_1.toInt).toNat
              · rw [e, pk_us]
                split <;> first | rfl | (exfalso; omega)
              · rw [pk_un (show 108 * a.toInt.toNat + c ≠ 108 * a.toInt.toNat + (x2_1.toInt).toNat from by omega)]; exact hgf c (by omega)
            obtain ⟨x2_58, ex2_58⟩ : ∃ y : Int32, y = x2_1 + 1 := ⟨_, rfl⟩
            have tx2_58 : x2_58.toInt = x2_1.toInt + (1 : Int) := i_add (rfl : x2_1.toInt = x2_1.toInt) (show (1 : Int32).toInt = (1 : Int) from rfl) (by omega) (by omega) ex2_58
            refine lv_iinc (v := x2_58) (lv' := [(2, .int x2_58), (0, .ref (ad 0)), (1, .int a)]) hx hb dX11_measures_38 hl (k := 0) rfl (by rw [ex2_58]; rfl) (by decide) rfl (fun ls hl => ?_)
            refine lv_goto (tgt := 2) hx hb dX11_measures_41 (by decide) ?_
            exact ih3 x2_58 ar_57 _ _ _ (by omega) (by omega) hga2 (fun c hc => hgf2 c (by omega)) hP hS (lv_sub hl [0, 1, 2] rfl)
  have zl_59 : (0 : Int32).toInt = (0 : Int) := rfl
  exact loop3 (((108 - ((0 : Int))).toNat) + 1) 0 ar _ _ _ (by omega) (by omega) (fun _ _ => rfl) (fun c hc => by exfalso; omega) hP hS (lv_sub hl [0, 1, 2] rfl)
set_option maxHeartbeats 4000000 in
set_option maxRecDepth 100000 in
theorem c0_X11_time (l : Launch) (D : va_G) (cy : Nat → ClassId) (ad : Nat → Nat) (hI : mInj ad) (sz : Nat) (iv : gIv) (ar : gAr) (a : Int32) (b : Int32) (hca : 0 ≤ a.toInt ∧ a.toInt < 108) (hcb : 0 ≤ b.toInt ∧ b.toInt < 108) (yk : (ar 6 b.toInt.toNat).toInt = 1) (yt : ∀ c, c < 108 → (ar 5 (108 * b.toInt.toNat + c)).toInt = man c b.toInt.toNat) : Met l yX11_time wsX11_time ({ frames := 0, cells := 0, slots := 0, locals := 0 } : Room) (va_Pc [.ref (ad 0), .int a, .int b] (mPre D cy ad sz iv ar)) (vp_Si (fun r => r.toInt = man a.toInt.toNat b.toInt.toNat)) 0 0 (fun _ => False) := by
  refine Met.ofW (cc := cX11_time) (maxL := 3) (ret := (some .int)) (by decide) rfl ?_
  intro p e s m args below meth c s₁ B hml hv
  obtain ⟨rfl, rfl, hP, hK, hSt, hNw⟩ := hv
  have hx := B.exec
  have hb := B.bytes
  have hr := B.returns
  have hts := atoms_spec (ws := wsX11_time) B.pre
  have hown : s.vm.findClass RX11 = some m.cls := findClass_of_methodNamed B.named
  have hlocks := B.notSynchronized
  have hS : va_S (mA ad s.heap.size) s.heap s.heap [] := va_S.rf
  have inX11 : ∀ w ∈ u_ws RX11 TX11 30, w ∈ wsX11_time := by decide +kernel
  have lk0 := hts (.fieldLink RX11 25 "FormationPlannerModel" "isKnown" "[Z") (by decide +kernel)
  have lk1 := hts (.fieldLink RX11 22 "FormationPlannerModel" "times" "[I") (by decide +kernel)
  have hl := lv_entry ([.ref (ad 0), .int a, .int b]) (n := 3) (Nat.le_of_ble_eq_true rfl)
  rw [lg_entry_eq]
  generalize (lg_sl ([.ref (ad 0), .int a, .int b]) ++ List.replicate (3 - (lg_sl ([.ref (ad 0), .int a, .int b])).length) Slot.unset).toArray = ls at hl ⊢
  have hl : lv_has ls 3 [(0, .ref (ad 0)), (1, .int a), (2, .int b)] := hl
  obtain ⟨Q, hQ⟩ : ∃ Q, Q = MQ below (vp_Si (fun r => r.toInt = man a.toInt.toNat b.toInt.toNat)) (([.ref (ad 0), .int a, .int b] : List Value).toArray) s 0 0 (fun _ => False) := ⟨_, rfl⟩
  rw [← hQ]
  refine lv_aload_n hx hb dX11_time_0 rfl (lv_at hl 0 rfl) ?_
  refine va_get (D := D) (ci := 11) (v := .ref (ad 6)) (C := RX11) (T := TX11) (N := 30) hx hb hts inX11 hown hK hP 0 (m_at11 (Nat.le_of_ble_eq_true rfl) rfl) rfl 8 (by decide) lk0 (fun _ h9 => h9) rfl dX11_time_1 ?_
  refine lv_iload_n hx hb dX11_time_4 rfl (lv_at hl 2 rfl) ?_
  refine va_zald hx hb hK hP 6 1 (m_at13 (Nat.le_of_ble_eq_true rfl) rfl) rfl (g_in (N := 108) (rfl : b.toInt = b.toInt) rfl (by omega) (by omega)) dX11_time_5 ?_
  refine lv_topi (fun v_1 ev_1 => ?_)
  have z_2 : v_1.toInt = (1 : Int) := by rw [ev_1, g_cN (rfl : b.toInt = _)]; exact yk
  refine lv_if_ne (tgt := 14) hx hb dX11_time_6 (by decide) (fun c_3 => ?_) (fun c_3 => ?_)
  · skip
    have q_3 : (1 : Int) ≠ (0 : Int) := i_ne2 z_2 (show (0 : Int32).toInt = (0 : Int) from rfl) c_3
    refine lv_aload_n hx hb dX11_time_14 rfl (lv_at hl 0 rfl) ?_
    refine va_get (D := D) (ci := 11) (v := .ref (ad 5)) (C := RX11) (T := TX11) (N := 30) hx hb hts inX11 hown hK hP 0 (m_at11 (Nat.le_of_ble_eq_true rfl) rfl) rfl 7 (by decide) lk1 (fun _ h9 => h9) rfl dX11_time_15 ?_
    refine lv_bipush (v := 108) hx hb dX11_time_18 (by decide) ?_
    refine lv_iload_n hx hb dX11_time_20 rfl (lv_at hl 2 rfl) ?_
    refine lv_imul hx hb dX11_time_21 ?_
    refine lv_topi (fun v_4 ev_4 => ?_)
    have tv_4 : v_4.toInt = (108 : Int) * b.toInt := i_mul (show (108 : Int32).toInt = (108 : Int) from rfl) (rfl : b.toInt = b.toInt) (by omega) (by omega) ev_4
    refine lv_iload_n hx hb dX11_time_22 rfl (lv_at hl 1 rfl) ?_
    refine lv_iadd hx hb dX11_time_23 ?_
    refine lv_topi (fun v_5 ev_5 => ?_)
    have tv_5 : v_5.toInt = v_4.toInt + a.toInt := i_add (rfl : v_4.toInt = v_4.toInt) (rfl : a.toInt = a.toInt) (by omega) (by omega) ev_5
    refine va_iald hx hb hK hP 5 0 (m_at12 (Nat.le_of_ble_eq_true rfl) rfl) rfl (g_in (N := 11664) (rfl : v_5.toInt = v_5.toInt) rfl (by omega) (by omega)) dX11_time_24 ?_
    refine lv_topi (fun v_6 ev_6 => ?_)
    have hv1 : v_6.toInt = man a.toInt.toNat b.toInt.toNat := by
      rw [ev_6, g_cN (rfl : v_5.toInt = _), ← yt a.toInt.toNat (by omega)]
      congr 2
      omega
    rw [hQ]
    exact W.iret (v := v_6) hx hb hr (fun t ht hW => ⟨v_6, rfl, hv1, ht⟩) (fun q h => by cases h) dX11_time_25
  · skip
    have q_3 : (1 : Int) = (0 : Int) := i_eq2 z_2 (show (0 : Int32).toInt = (0 : Int) from rfl) c_3
    exfalso; omega
set_option maxHeartbeats 4000000 in
set_option maxRecDepth 100000 in
theorem f_X11_time (l : Launch) (D : va_G) (cy : Nat → ClassId) (ad : Nat → Nat) (hI : mInj ad) (sz : Nat) (iv : gIv) (ar : gAr) (a : Int32) (b : Int32) (hF_iv : mFr iv ar) (hca : 0 ≤ a.toInt ∧ a.toInt < 108) (hcb : 0 ≤ b.toInt ∧ b.toInt < 108) : Met l yX11_time wsX11_time ({ frames := 3, cells := 0, slots := 0, locals := 74 } : Room) (va_Pc [.ref (ad 0), .int a, .int b] (mPre D cy ad sz iv ar)) (va_Qi (fun (r : Int32) (u : gIv × gAr) => r.toInt = man a.toInt.toNat b.toInt.toNat ∧ (u.2 6 b.toInt.toNat).toInt = 1 ∧ ∀ c, c < 108 → (u.2 5 (108 * b.toInt.toNat + c)).toInt = man c b.toInt.toNat) (mPost D cy ad) (mA ad sz)) 0 0 (mA ad sz) := by
  refine Met.ofW (cc := cX11_time) (maxL := 3) (ret := (some .int)) (by decide) rfl ?_
  intro p e s m args below meth c s₁ B hml hv
  obtain ⟨rfl, rfl, hP, hK, hSt, hNw⟩ := hv
  have hx := B.exec
  have hb := B.bytes
  have hr := B.returns
  have hts := atoms_spec (ws := wsX11_time) B.pre
  have hown : s.vm.findClass RX11 = some m.cls := findClass_of_methodNamed B.named
  have hlocks := B.notSynchronized
  have hS : va_S (mA ad s.heap.size) s.heap s.heap [] := va_S.rf
  have inX11 : ∀ w ∈ u_ws RX11 TX11 30, w ∈ wsX11_time := by decide +kernel
  have lk0 := hts (.fieldLink RX11 25 "FormationPlannerModel" "isKnown" "[Z") (by decide +kernel)
  have lk1 := hts (.fieldLink RX11 22 "FormationPlannerModel" "times" "[I") (by decide +kernel)
  have hl := lv_entry ([.ref (ad 0), .int a, .int b]) (n := 3) (Nat.le_of_ble_eq_true rfl)
  rw [lg_entry_eq]
  generalize (lg_sl ([.ref (ad 0), .int a, .int b]) ++ List.replicate (3 - (lg_sl ([.ref (ad 0), .int a, .int b])).length) Slot.unset).toArray = ls at hl ⊢
  have hl : lv_has ls 3 [(0, .ref (ad 0)), (1, .int a), (2, .int b)] := hl
  obtain ⟨Q, hQ⟩ : ∃ Q, Q = MQ below (va_Qi (fun (r : Int32) (u : gIv × gAr) => r.toInt = man a.toInt.toNat b.toInt.toNat ∧ (u.2 6 b.toInt.toNat).toInt = 1 ∧ ∀ c, c < 108 → (u.2 5 (108 * b.toInt.toNat + c)).toInt = man c b.toInt.toNat) (mPost D cy ad) (mA ad s.heap.size)) (([.ref (ad 0), .int a, .int b] : List Value).toArray) s 0 0 (mA ad s.heap.size) := ⟨_, rfl⟩
  rw [← hQ]
  refine lv_aload_n hx hb dX11_time_0 rfl (lv_at hl 0 rfl) ?_
  refine va_get (D := D) (ci := 11) (v := .ref (ad 6)) (C := RX11) (T := TX11) (N := 30) hx hb hts inX11 hown hK hP 0 (m_at11 (Nat.le_of_ble_eq_true rfl) rfl) rfl 8 (by decide) lk0 (fun _ h9 => h9) rfl dX11_time_1 ?_
  refine lv_iload_n hx hb dX11_time_4 rfl (lv_at hl 2 rfl) ?_
  refine va_zald hx hb hK hP 6 1 (m_at13 (Nat.le_of_ble_eq_true rfl) rfl) rfl (g_in (N := 108) (rfl : b.toInt = b.toInt) rfl (by omega) (by omega)) dX11_time_5 ?_
  refine lv_topi (fun v_1 ev_1 => ?_)
  refine lv_if_ne (tgt := 14) hx hb dX11_time_6 (by decide) (fun c_2 => ?_) (fun c_2 => ?_)
  · skip
    have q_2 : (0 : Int) ≠ (0 : Int) := i_ne2 (show v_1.toInt = (0 : Int) from by rw [ev_1]; exact mra hF_iv 6 _ (by decide)) (show (0 : Int32).toInt = (0 : Int) from rfl) c_2
    exfalso; omega
  · skip
    have q_2 : (0 : Int) = (0 : Int) := i_eq2 (show v_1.toInt = (0 : Int) from by rw [ev_1]; exact mra hF_iv 6 _ (by decide)) (show (0 : Int32).toInt = (0 : Int) from rfl) c_2
    refine lv_aload_n hx hb dX11_time_9 rfl (lv_at hl 0 rfl) ?_
    refine lv_iload_n hx hb dX11_time_10 rfl (lv_at hl 2 rfl) ?_
    refine m_callv (va_runV (As := [.int b]) (rest := []) ⟨hx, hb, hml, hown, hts⟩ (c0_X11_measures l D cy ad hI _ iv ar b (fun i => mra hF_iv 1 i (by decide)) (by omega)) (cwV 1 hts gX11_time_X11_measures rfl rfl rfl (by decide +kernel) ⟨Nat.le_of_ble_eq_true rfl, Nat.le_of_ble_eq_true rfl⟩) (m_preV hP hK hSt hNw hS (m_at11 (Nat.le_of_ble_eq_true rfl) rfl) rfl) rfl rfl hl.1 rfl (lv_room (Nat.le_of_ble_eq_true rfl)) dX11_time_11 ⟨Nat.zero_le _, Nat.zero_le _⟩) hS (fun iv_3 ar_3 H locs w_3 hP hS => ?_)
    try dsimp only at w_3
    obtain ⟨_, _, wt, wk⟩ := w_3
    refine lv_aload_n hx hb dX11_time_14 rfl (lv_at hl 0 rfl) ?_
    refine va_get (D := D) (ci := 11) (v := .ref (ad 5)) (C := RX11) (T := TX11) (N := 30) hx hb hts inX11 hown hK hP 0 (m_at11 (Nat.le_of_ble_eq_true rfl) rfl) rfl 7 (by decide) lk1 (fun _ h9 => h9) rfl dX11_time_15 ?_
    refine lv_bipush (v := 108) hx hb dX11_time_18 (by decide) ?_
    refine lv_iload_n hx hb dX11_time_20 rfl (lv_at hl 2 rfl) ?_
    refine lv_imul hx hb dX11_time_21 ?_
    refine lv_topi (fun v_4 ev_4 => ?_)
    have tv_4 : v_4.toInt = (108 : Int) * b.toInt := i_mul (show (108 : Int32).toInt = (108 : Int) from rfl) (rfl : b.toInt = b.toInt) (by omega) (by omega) ev_4
    refine lv_iload_n hx hb dX11_time_22 rfl (lv_at hl 1 rfl) ?_
    refine lv_iadd hx hb dX11_time_23 ?_
    refine lv_topi (fun v_5 ev_5 => ?_)
    have tv_5 : v_5.toInt = v_4.toInt + a.toInt := i_add (rfl : v_4.toInt = v_4.toInt) (rfl : a.toInt = a.toInt) (by omega) (by omega) ev_5
    refine va_iald hx hb hK hP 5 0 (m_at12 (Nat.le_of_ble_eq_true rfl) rfl) rfl (g_in (N := 11664) (rfl : v_5.toInt = v_5.toInt) rfl (by omega) (by omega)) dX11_time_24 ?_
    refine lv_topi (fun v_6 ev_6 => ?_)
    have hv1 : v_6.toInt = man a.toInt.toNat b.toInt.toNat := by
      rw [ev_6, g_cN (rfl : v_5.toInt = _), ← wt a.toInt.toNat (by omega)]
      congr 2
      omega
    rw [hQ]
    exact W.iret (v := v_6) hx hb hr (fun t ht hW => ⟨⟨v_6, (iv_3, ar_3), rfl, ⟨hv1, wk, wt⟩, by show va_P _ _ _ _; rw [ht]; exact hP⟩, hS.F ht⟩) hS.2.2 dX11_time_25
set_option maxHeartbeats 4000000 in
set_option maxRecDepth 100000 in
theorem f_X11_flightTime (l : Launch) (D : va_G) (cy : Nat → ClassId) (ad : Nat → Nat) (hI : mInj ad) (sz : Nat) (iv : gIv) (ar : gAr) (a : Int32) (b : Int32) (hF_iv : mFr iv ar) : Met l yX11_flightTime wsX11_flightTime ({ frames := 4, cells := 0, slots := 0, locals := 96 } : Room) (va_Pc [.ref (ad 0), .int a, .int b] (mPre D cy ad sz iv ar)) (va_Qi (fun (r : Int32) (u : gIv × gAr) => (0 ≤ a.toInt ∧ a.toInt < 108 ∧ 0 ≤ b.toInt ∧ b.toInt < 108) ∧ r.toInt = man a.toInt.toNat b.toInt.toNat ∨ ¬ (0 ≤ a.toInt ∧ a.toInt < 108 ∧ 0 ≤ b.toInt ∧ b.toInt < 108) ∧ r.toInt = -2) (mPost D cy ad) (mA ad sz)) 0 0 (mA ad sz) := by
  refine Met.ofW (cc := cX11_flightTime) (maxL := 3) (ret := (some .int)) (by decide) rfl ?_
  intro p e s m args below meth c s₁ B hml hv
  obtain ⟨rfl, rfl, hP, hK, hSt, hNw⟩ := hv
  have hx := B.exec
  have hb := B.bytes
  have hr := B.returns
  have hts := atoms_spec (ws := wsX11_flightTime) B.pre
  have hown : s.vm.findClass RX11 = some m.cls := findClass_of_methodNamed B.named
  have hlocks := B.notSynchronized
  have hS : va_S (mA ad s.heap.size) s.heap s.heap [] := va_S.rf
  have lk0 := hts (.constant RX11 124 100000) (by decide +kernel)
  have hl := lv_entry ([.ref (ad 0), .int a, .int b]) (n := 3) (Nat.le_of_ble_eq_true rfl)
  rw [lg_entry_eq]
  generalize (lg_sl ([.ref (ad 0), .int a, .int b]) ++ List.replicate (3 - (lg_sl ([.ref (ad 0), .int a, .int b])).length) Slot.unset).toArray = ls at hl ⊢
  have hl : lv_has ls 3 [(0, .ref (ad 0)), (1, .int a), (2, .int b)] := hl
  obtain ⟨Q, hQ⟩ : ∃ Q, Q = MQ below (va_Qi (fun (r : Int32) (u : gIv × gAr) => (0 ≤ a.toInt ∧ a.toInt < 108 ∧ 0 ≤ b.toInt ∧ b.toInt < 108) ∧ r.toInt = man a.toInt.toNat b.toInt.toNat ∨ ¬ (0 ≤ a.toInt ∧ a.toInt < 108 ∧ 0 ≤ b.toInt ∧ b.toInt < 108) ∧ r.toInt = -2) (mPost D cy ad) (mA ad s.heap.size)) (([.ref (ad 0), .int a, .int b] : List Value).toArray) s 0 0 (mA ad s.heap.size) := ⟨_, rfl⟩
  rw [← hQ]
  refine lv_iload_n hx hb dX11_flightTime_0 rfl (lv_at hl 1 rfl) ?_
  refine g_callSi (va_runS (As := [.int a]) (rest := []) ⟨hx, hb, hml, hown, hts⟩ (c_X11_isCell l a) (va_cwS 1 hts gX11_flightTime_X11_isCell rfl rfl rfl (by decide +kernel) ⟨Nat.le_of_ble_eq_true rfl, Nat.le_of_ble_eq_true rfl⟩) (g_preT) rfl rfl hl.1 rfl (lv_room (Nat.le_of_ble_eq_true rfl)) dX11_flightTime_1 ⟨Nat.zero_le _, Nat.zero_le _⟩) (fun r_1 w_1 => ?_)
  try dsimp only at w_1
  refine lv_if_eq (tgt := 14) hx hb dX11_flightTime_4 (by decide) (fun c_2 => ?_) (fun c_2 => ?_)
  · skip
    have q_2 : r_1.toInt = (0 : Int) := i_eq2 (rfl : r_1.toInt = r_1.toInt) (show (0 : Int32).toInt = (0 : Int) from rfl) c_2
    refine lv_bipush (v := (-2)) hx hb dX11_flightTime_14 (by decide) ?_
    rw [hQ]
    exact W.iret (v := (-2)) hx hb hr (fun t ht hW => ⟨⟨(-2), (iv, ar), rfl, Or.inr ⟨by omega, rfl⟩, by show va_P _ _ _ _; rw [ht]; exact hP⟩, hS.F ht⟩) hS.2.2 dX11_flightTime_16
  · skip
    have q_2 : r_1.toInt ≠ (0 : Int) := i_ne2 (rfl : r_1.toInt = r_1.toInt) (show (0 : Int32).toInt = (0 : Int) from rfl) c_2
    refine lv_iload_n hx hb dX11_flightTime_7 rfl (lv_at hl 2 rfl) ?_
    refine g_callSi (va_runS (As := [.int b]) (rest := []) ⟨hx, hb, hml, hown, hts⟩ (c_X11_isCell l b) (va_cwS 1 hts gX11_flightTime_X11_isCell rfl rfl rfl (by decide +kernel) ⟨Nat.le_of_ble_eq_true rfl, Nat.le_of_ble_eq_true rfl⟩) (g_preT) rfl rfl hl.1 rfl (lv_room (Nat.le_of_ble_eq_true rfl)) dX11_flightTime_8 ⟨Nat.zero_le _, Nat.zero_le _⟩) (fun r_3 w_3 => ?_)
    try dsimp only at w_3
    refine lv_if_ne (tgt := 17) hx hb dX11_flightTime_11 (by decide) (fun c_4 => ?_) (fun c_4 => ?_)
    · skip
      have q_4 : r_3.toInt ≠ (0 : Int) := i_ne2 (rfl : r_3.toInt = r_3.toInt) (show (0 : Int32).toInt = (0 : Int) from rfl) c_4
      refine lv_aload_n hx hb dX11_flightTime_17 rfl (lv_at hl 0 rfl) ?_
      refine lv_iload_n hx hb dX11_flightTime_18 rfl (lv_at hl 1 rfl) ?_
      refine lv_iload_n hx hb dX11_flightTime_19 rfl (lv_at hl 2 rfl) ?_
      refine m_calli (va_runV (As := [.int a, .int b]) (rest := []) ⟨hx, hb, hml, hown, hts⟩ (f_X11_time l D cy ad hI _ iv ar a b hF_iv (by omega) (by omega)) (cwV 2 hts gX11_flightTime_X11_time rfl rfl rfl (by decide +kernel) ⟨Nat.le_of_ble_eq_true rfl, Nat.le_of_ble_eq_true rfl⟩) (m_preV hP hK hSt hNw hS (m_at11 (Nat.le_of_ble_eq_true rfl) rfl) rfl) rfl rfl hl.1 rfl (lv_room (Nat.le_of_ble_eq_true rfl)) dX11_flightTime_20 ⟨Nat.zero_le _, Nat.zero_le _⟩) hS (fun r_5 iv_5 ar_5 H locs w_5 hP hS => ?_)
      try dsimp only at w_5
      obtain ⟨wq0, wq1, wq2⟩ := w_5
      have hmb := man_b (c := a.toInt.toNat) (g := b.toInt.toNat) (by omega) (by omega)
      refine lv_ldc (v := 100000) hx hb hown lk0 dX11_flightTime_23 ?_
      refine lv_icmp_ge (tgt := 37) hx hb dX11_flightTime_25 (by decide) (fun c_6 => ?_) (fun c_6 => ?_)
      · skip
        have q_6 : (100000 : Int) ≤ r_5.toInt := i_le2 (show (100000 : Int32).toInt = (100000 : Int) from rfl) (rfl : r_5.toInt = r_5.toInt) c_6
        exfalso; omega
      · skip
        have q_6 : r_5.toInt < (100000 : Int) := i_nle2 (show (100000 : Int32).toInt = (100000 : Int) from rfl) (rfl : r_5.toInt = r_5.toInt) c_6
        refine lv_aload_n hx hb dX11_flightTime_28 rfl (lv_at hl 0 rfl) ?_
        refine lv_iload_n hx hb dX11_flightTime_29 rfl (lv_at hl 1 rfl) ?_
        refine lv_iload_n hx hb dX11_flightTime_30 rfl (lv_at hl 2 rfl) ?_
        refine g_callSi (va_runV (As := [.int a, .int b]) (rest := []) ⟨hx, hb, hml, hown, hts⟩ (c0_X11_time l D cy ad hI _ iv_5 ar_5 a b (by omega) (by omega) wq1 wq2) (cwV 2 hts gX11_flightTime_X11_time rfl rfl rfl (by decide +kernel) ⟨Nat.le_of_ble_eq_true rfl, Nat.le_of_ble_eq_true rfl⟩) (m_preV hP hK hSt hNw hS (m_at11 (Nat.le_of_ble_eq_true rfl) rfl) rfl) rfl rfl hl.1 rfl (lv_room (Nat.le_of_ble_eq_true rfl)) dX11_flightTime_31 ⟨Nat.zero_le _, Nat.zero_le _⟩) (fun r_7 w_7 => ?_)
        try dsimp only at w_7
        have hfin := w_7
        refine lv_goto (tgt := 38) hx hb dX11_flightTime_34 (by decide) ?_
        rw [hQ]
        exact W.iret (v := r_7) hx hb hr (fun t ht hW => ⟨⟨r_7, (iv_5, ar_5), rfl, Or.inl ⟨by omega, hfin⟩, by show va_P _ _ _ _; rw [ht]; exact hP⟩, hS.F ht⟩) hS.2.2 dX11_flightTime_38
    · skip
      have q_4 : r_3.toInt = (0 : Int) := i_eq2 (rfl : r_3.toInt = r_3.toInt) (show (0 : Int32).toInt = (0 : Int) from rfl) c_4
      refine lv_bipush (v := (-2)) hx hb dX11_flightTime_14 (by decide) ?_
      rw [hQ]
      exact W.iret (v := (-2)) hx hb hr (fun t ht hW => ⟨⟨(-2), (iv, ar), rfl, Or.inr ⟨by omega, rfl⟩, by show va_P _ _ _ _; rw [ht]; exact hP⟩, hS.F ht⟩) hS.2.2 dX11_flightTime_16
