set_option maxHeartbeats 4000000 in
set_option maxRecDepth 100000 in
theorem c0_neighbour (l : Launch) (A : Nat → Prop) (sz : Nat) (a : Int32) (b : Int32) (yab : 0 ≤ a.toInt ∧ a.toInt < 108 ∧ 0 ≤ b.toInt ∧ b.toInt < 7) : Met l yX4_neighbour wsX4_neighbour ({ frames := 1, cells := 0, slots := 0, locals := 20 } : Room) (va_Pc [.int a, .int b] (sPre A sz)) (vp_Si (fun r => r.toInt = nbN a.toInt.toNat b.toInt.toNat)) 0 0 (fun _ => False) := by
  refine Met.ofW (cc := cX4_neighbour) (maxL := 6) (ret := (some .int)) (by decide) rfl ?_
  intro p e s m args below meth c s₁ B hml hv
  obtain ⟨rfl, rfl, hSt, hNw⟩ := hv
  have hx := B.exec
  have hb := B.bytes
  have hr := B.returns
  have hts := atoms_spec (ws := wsX4_neighbour) B.pre
  have hown : s.vm.findClass RX4 = some m.cls := findClass_of_methodNamed B.named
  have hlocks := B.notSynchronized
  have hS : va_S A s.heap s.heap [] := va_S.rf
  have lk0 := hts (.initialized RX10) (by decide +kernel)
  have lk1 := hts (.static yX10_isAction) (by decide +kernel)
  have lk2 := hts (.static yX10_isLayer) (by decide +kernel)
  have hl := lv_entry ([.int a, .int b]) (n := 6) (Nat.le_of_ble_eq_true rfl)
  rw [lg_entry_eq]
  generalize (lg_sl ([.int a, .int b]) ++ List.replicate (6 - (lg_sl ([.int a, .int b])).length) Slot.unset).toArray = ls at hl ⊢
  have hl : lv_has ls 6 [(0, .int a), (1, .int b)] := hl
  obtain ⟨Q, hQ⟩ : ∃ Q, Q = MQ below (vp_Si (fun r => r.toInt = nbN a.toInt.toNat b.toInt.toNat)) (([.int a, .int b] : List Value).toArray) s 0 0 (fun _ => False) := ⟨_, rfl⟩
  rw [← hQ]
  refine lv_iload_n hx hb dX4_neighbour_0 rfl (lv_at hl 1 rfl) ?_
  refine g_callSi (va_runSN (As := [.int b]) (rest := []) ⟨hx, hb, hml, hown, hts⟩ (c_X10_isAction l b) ⟨va_cnB 1 hts gX4_neighbour_X10_isAction_n27 rfl rfl rfl (hNw (.methodLinkNest RX4 27 yX10_isAction "FormationPlanner") (by decide +kernel)) lk0 (by decide +kernel) ⟨Nat.le_of_ble_eq_true rfl, Nat.le_of_ble_eq_true rfl⟩, lk1, trivial⟩ (g_preT) rfl rfl hl.1 rfl (lv_room (Nat.le_of_ble_eq_true rfl)) dX4_neighbour_1 ⟨Nat.zero_le _, Nat.zero_le _⟩) (fun r_1 w_1 => ?_)
  try dsimp only at w_1
  have z_1 : r_1.toInt = 1 := by omega
  refine lv_if_ne (tgt := 9) hx hb dX4_neighbour_4 (by decide) (fun c_2 => ?_) (fun c_2 => ?_)
  · skip
    have q_2 : (1 : Int) ≠ (0 : Int) := i_ne2 z_1 (show (0 : Int32).toInt = (0 : Int) from rfl) c_2
    refine lv_iload_n hx hb dX4_neighbour_9 rfl (lv_at hl 0 rfl) ?_
    refine lv_bipush (v := 6) hx hb dX4_neighbour_10 (by decide) ?_
    refine lv_irem hx hb dX4_neighbour_12 (by decide) ?_
    refine lv_topi (fun v_3 ev_3 => ?_)
    have tv_3 : v_3.toInt = a.toInt % (6 : Int) := i_rem (rfl : a.toInt = a.toInt) (show (6 : Int32).toInt = (6 : Int) from rfl) (by omega) (by omega) ev_3
    obtain ⟨t_4, hz_4, ht_4⟩ := hSt.2.1
    refine va_getsN hx hb hz_4 hS hown (va_Nw.use (A := (([.int a, .int b] : List Value).toArray)) rfl (hNw (.fieldLinkNest RX4 41 "FormationPlanner" "COLUMN_STEP" "[I" "FormationPlanner") (by decide +kernel))) (fun _ h => h) dX4_neighbour_13 ?_
    refine lv_iload_n hx hb dX4_neighbour_16 rfl (lv_at hl 1 rfl) ?_
    refine va_ti hx hb ht_4 hS (N := 7) (g_in (rfl : b.toInt = b.toInt) rfl (by omega) (by omega)) rfl dX4_neighbour_17 ?_
    refine lv_topi (fun v_6 ev_6 => ?_)
    have ht3 := t3r (q := b.toInt.toNat) (by omega)
    have hc1 : v_6.toInt = (tCOL b.toInt.toNat).toInt := by rw [ev_6, g_cN (rfl : b.toInt = _)]
    refine lv_iadd hx hb dX4_neighbour_18 ?_
    refine lv_topi (fun v_7 ev_7 => ?_)
    have tv_7 : v_7.toInt = v_3.toInt + v_6.toInt := i_add (rfl : v_3.toInt = v_3.toInt) (rfl : v_6.toInt = v_6.toInt) (by omega) (by omega) ev_7
    refine lv_istore_n (lv' := [(2, .int v_7), (0, .int a), (1, .int b)]) hx hb dX4_neighbour_19 rfl hl (by decide) rfl (fun ls hl => ?_)
    refine lv_iload_n hx hb dX4_neighbour_20 rfl (lv_at hl 1 rfl) ?_
    refine lv_bipush (v := 6) hx hb dX4_neighbour_21 (by decide) ?_
    refine lv_idiv hx hb dX4_neighbour_23 (by decide) ?_
    refine lv_topi (fun v_8 ev_8 => ?_)
    have tv_8 : v_8.toInt = a.toInt / (6 : Int) := i_div (rfl : a.toInt = a.toInt) (show (6 : Int32).toInt = (6 : Int) from rfl) (by omega) (by omega) ev_8
    refine lv_bipush (v := 6) hx hb dX4_neighbour_24 (by decide) ?_
    refine lv_irem hx hb dX4_neighbour_26 (by decide) ?_
    refine lv_topi (fun v_9 ev_9 => ?_)
    have tv_9 : v_9.toInt = v_8.toInt % (6 : Int) := i_rem (rfl : v_8.toInt = v_8.toInt) (show (6 : Int32).toInt = (6 : Int) from rfl) (by omega) (by omega) ev_9
    obtain ⟨t_10, hz_10, ht_10⟩ := hSt.2.2.1
    refine va_getsN hx hb hz_10 hS hown (va_Nw.use (A := (([.int a, .int b] : List Value).toArray)) rfl (hNw (.fieldLinkNest RX4 44 "FormationPlanner" "ROW_STEP" "[I" "FormationPlanner") (by decide +kernel))) (fun _ h => h) dX4_neighbour_27 ?_
    refine lv_iload_n hx hb dX4_neighbour_30 rfl (lv_at hl 2 rfl) ?_
    refine va_ti hx hb ht_10 hS (N := 7) (g_in (rfl : b.toInt = b.toInt) rfl (by omega) (by omega)) rfl dX4_neighbour_31 ?_
    refine lv_topi (fun v_12 ev_12 => ?_)
    have hc2 : v_12.toInt = (tROW b.toInt.toNat).toInt := by rw [ev_12, g_cN (rfl : b.toInt = _)]
    refine lv_iadd hx hb dX4_neighbour_32 ?_
    refine lv_topi (fun v_13 ev_13 => ?_)
    have tv_13 : v_13.toInt = v_9.toInt + v_12.toInt := i_add (rfl : v_9.toInt = v_9.toInt) (rfl : v_12.toInt = v_12.toInt) (by omega) (by omega) ev_13
    refine lv_istore_n (lv' := [(3, .int v_13), (2, .int v_7), (0, .int a), (1, .int b)]) hx hb dX4_neighbour_33 rfl hl (by decide) rfl (fun ls hl => ?_)
    refine lv_iload_n hx hb dX4_neighbour_34 rfl (lv_at hl 2 rfl) ?_
    refine lv_bipush (v := 36) hx hb dX4_neighbour_35 (by decide) ?_
    refine lv_idiv hx hb dX4_neighbour_37 (by decide) ?_
    refine lv_topi (fun v_14 ev_14 => ?_)
    have tv_14 : v_14.toInt = a.toInt / (36 : Int) := i_div (rfl : a.toInt = a.toInt) (show (36 : Int32).toInt = (36 : Int) from rfl) (by omega) (by omega) ev_14
    obtain ⟨t_15, hz_15, ht_15⟩ := hSt.2.2.2
    refine va_getsN hx hb hz_15 hS hown (va_Nw.use (A := (([.int a, .int b] : List Value).toArray)) rfl (hNw (.fieldLinkNest RX4 47 "FormationPlanner" "LAYER_STEP" "[I" "FormationPlanner") (by decide +kernel))) (fun _ h => h) dX4_neighbour_38 ?_
    refine lv_iload_n hx hb dX4_neighbour_41 rfl (lv_at hl 3 rfl) ?_
    refine va_ti hx hb ht_15 hS (N := 7) (g_in (rfl : b.toInt = b.toInt) rfl (by omega) (by omega)) rfl dX4_neighbour_42 ?_
    refine lv_topi (fun v_17 ev_17 => ?_)
    have hc3 : v_17.toInt = (tLAY b.toInt.toNat).toInt := by rw [ev_17, g_cN (rfl : b.toInt = _)]
    refine lv_iadd hx hb dX4_neighbour_43 ?_
    refine lv_topi (fun v_18 ev_18 => ?_)
    have tv_18 : v_18.toInt = v_14.toInt + v_17.toInt := i_add (rfl : v_14.toInt = v_14.toInt) (rfl : v_17.toInt = v_17.toInt) (by omega) (by omega) ev_18
    refine lv_istore (lv' := [(4, .int v_18), (3, .int v_13), (2, .int v_7), (0, .int a), (1, .int b)]) hx hb dX4_neighbour_44 hl (by decide) rfl (fun ls hl => ?_)
    have hnb := nb_of (c := a.toInt.toNat) (q := b.toInt.toNat) (by omega) (by omega) (x := (v_7.toInt)) (y := (v_13.toInt)) (z := (v_18.toInt)) (by omega) (by omega) (by omega)
    refine lv_iload_n hx hb dX4_neighbour_46 rfl (lv_at hl 2 rfl) ?_
    refine lv_if_lt (tgt := 78) hx hb dX4_neighbour_47 (by decide) (fun c_19 => ?_) (fun c_19 => ?_)
    · skip
      have q_19 : v_7.toInt < (0 : Int) := i_lt2 (rfl : v_7.toInt = v_7.toInt) (show (0 : Int32).toInt = (0 : Int) from rfl) c_19
      refine lv_iconst (v := 0) hx hb dX4_neighbour_78 (by decide) ?_
      refine lv_istore (lv' := [(5, .int 0), (4, .int v_18), (3, .int v_13), (2, .int v_7), (0, .int a), (1, .int b)]) hx hb dX4_neighbour_79 hl (by decide) rfl (fun ls hl => ?_)
      refine lv_iload hx hb dX4_neighbour_81 (lv_at hl 0 rfl) ?_
      refine lv_if_eq (tgt := 101) hx hb dX4_neighbour_83 (by decide) (fun c_20 => ?_) (fun c_20 => ?_)
      · skip
        have q_20 : (0 : Int) = (0 : Int) := i_eq2 (show (0 : Int32).toInt = (0 : Int) from rfl) (show (0 : Int32).toInt = (0 : Int) from rfl) c_20
        refine lv_iconst (v := (-1)) hx hb dX4_neighbour_101 (by decide) ?_
        rw [hQ]
        exact W.iret (v := (-1)) hx hb hr (fun t ht hW => ⟨(-1), rfl, by have zm := i_m1; omega, ht⟩) (fun q h => by cases h) dX4_neighbour_102
      · skip
        have q_20 : (0 : Int) ≠ (0 : Int) := i_ne2 (show (0 : Int32).toInt = (0 : Int) from rfl) (show (0 : Int32).toInt = (0 : Int) from rfl) c_20
        exfalso; omega
    · skip
      have q_19 : (0 : Int) ≤ v_7.toInt := i_nlt2 (rfl : v_7.toInt = v_7.toInt) (show (0 : Int32).toInt = (0 : Int) from rfl) c_19
      refine lv_iload_n hx hb dX4_neighbour_50 rfl (lv_at hl 2 rfl) ?_
      refine lv_bipush (v := 6) hx hb dX4_neighbour_51 (by decide) ?_
      refine lv_icmp_ge (tgt := 78) hx hb dX4_neighbour_53 (by decide) (fun c_21 => ?_) (fun c_21 => ?_)
      · skip
        have q_21 : (6 : Int) ≤ v_7.toInt := i_le2 (show (6 : Int32).toInt = (6 : Int) from rfl) (rfl : v_7.toInt = v_7.toInt) c_21
        refine lv_iconst (v := 0) hx hb dX4_neighbour_78 (by decide) ?_
        refine lv_istore (lv' := [(5, .int 0), (4, .int v_18), (3, .int v_13), (2, .int v_7), (0, .int a), (1, .int b)]) hx hb dX4_neighbour_79 hl (by decide) rfl (fun ls hl => ?_)
        refine lv_iload hx hb dX4_neighbour_81 (lv_at hl 0 rfl) ?_
        refine lv_if_eq (tgt := 101) hx hb dX4_neighbour_83 (by decide) (fun c_22 => ?_) (fun c_22 => ?_)
        · skip
          have q_22 : (0 : Int) = (0 : Int) := i_eq2 (show (0 : Int32).toInt = (0 : Int) from rfl) (show (0 : Int32).toInt = (0 : Int) from rfl) c_22
          refine lv_iconst (v := (-1)) hx hb dX4_neighbour_101 (by decide) ?_
          rw [hQ]
          exact W.iret (v := (-1)) hx hb hr (fun t ht hW => ⟨(-1), rfl, by have zm := i_m1; omega, ht⟩) (fun q h => by cases h) dX4_neighbour_102
        · skip
          have q_22 : (0 : Int) ≠ (0 : Int) := i_ne2 (show (0 : Int32).toInt = (0 : Int) from rfl) (show (0 : Int32).toInt = (0 : Int) from rfl) c_22
          exfalso; omega
      · skip
        have q_21 : v_7.toInt < (6 : Int) := i_nle2 (show (6 : Int32).toInt = (6 : Int) from rfl) (rfl : v_7.toInt = v_7.toInt) c_21
        refine lv_iload_n hx hb dX4_neighbour_56 rfl (lv_at hl 1 rfl) ?_
        refine lv_if_lt (tgt := 78) hx hb dX4_neighbour_57 (by decide) (fun c_23 => ?_) (fun c_23 => ?_)
        · skip
          have q_23 : v_13.toInt < (0 : Int) := i_lt2 (rfl : v_13.toInt = v_13.toInt) (show (0 : Int32).toInt = (0 : Int) from rfl) c_23
          refine lv_iconst (v := 0) hx hb dX4_neighbour_78 (by decide) ?_
          refine lv_istore (lv' := [(5, .int 0), (4, .int v_18), (3, .int v_13), (2, .int v_7), (0, .int a), (1, .int b)]) hx hb dX4_neighbour_79 hl (by decide) rfl (fun ls hl => ?_)
          refine lv_iload hx hb dX4_neighbour_81 (lv_at hl 0 rfl) ?_
          refine lv_if_eq (tgt := 101) hx hb dX4_neighbour_83 (by decide) (fun c_24 => ?_) (fun c_24 => ?_)
          · skip
            have q_24 : (0 : Int) = (0 : Int) := i_eq2 (show (0 : Int32).toInt = (0 : Int) from rfl) (show (0 : Int32).toInt = (0 : Int) from rfl) c_24
            refine lv_iconst (v := (-1)) hx hb dX4_neighbour_101 (by decide) ?_
            rw [hQ]
            exact W.iret (v := (-1)) hx hb hr (fun t ht hW => ⟨(-1), rfl, by have zm := i_m1; omega, ht⟩) (fun q h => by cases h) dX4_neighbour_102
          · skip
            have q_24 : (0 : Int) ≠ (0 : Int) := i_ne2 (show (0 : Int32).toInt = (0 : Int) from rfl) (show (0 : Int32).toInt = (0 : Int) from rfl) c_24
            exfalso; omega
        · skip
          have q_23 : (0 : Int) ≤ v_13.toInt := i_nlt2 (rfl : v_13.toInt = v_13.toInt) (show (0 : Int32).toInt = (0 : Int) from rfl) c_23
          refine lv_iload_n hx hb dX4_neighbour_60 rfl (lv_at hl 1 rfl) ?_
          refine lv_bipush (v := 6) hx hb dX4_neighbour_61 (by decide) ?_
          refine lv_icmp_ge (tgt := 78) hx hb dX4_neighbour_63 (by decide) (fun c_25 => ?_) (fun c_25 => ?_)
          · skip
            have q_25 : (6 : Int) ≤ v_13.toInt := i_le2 (show (6 : Int32).toInt = (6 : Int) from rfl) (rfl : v_13.toInt = v_13.toInt) c_25
            refine lv_iconst (v := 0) hx hb dX4_neighbour_78 (by decide) ?_
            refine lv_istore (lv' := [(5, .int 0), (4, .int v_18), (3, .int v_13), (2, .int v_7), (0, .int a), (1, .int b)]) hx hb dX4_neighbour_79 hl (by decide) rfl (fun ls hl => ?_)
            refine lv_iload hx hb dX4_neighbour_81 (lv_at hl 0 rfl) ?_
            refine lv_if_eq (tgt := 101) hx hb dX4_neighbour_83 (by decide) (fun c_26 => ?_) (fun c_26 => ?_)
            · skip
              have q_26 : (0 : Int) = (0 : Int) := i_eq2 (show (0 : Int32).toInt = (0 : Int) from rfl) (show (0 : Int32).toInt = (0 : Int) from rfl) c_26
              refine lv_iconst (v := (-1)) hx hb dX4_neighbour_101 (by decide) ?_
              rw [hQ]
              exact W.iret (v := (-1)) hx hb hr (fun t ht hW => ⟨(-1), rfl, by have zm := i_m1; omega, ht⟩) (fun q h => by cases h) dX4_neighbour_102
            · skip
              have q_26 : (0 : Int) ≠ (0 : Int) := i_ne2 (show (0 : Int32).toInt = (0 : Int) from rfl) (show (0 : Int32).toInt = (0 : Int) from rfl) c_26
              exfalso; omega
          · skip
            have q_25 : v_13.toInt < (6 : Int) := i_nle2 (show (6 : Int32).toInt = (6 : Int) from rfl) (rfl : v_13.toInt = v_13.toInt) c_25
            refine lv_iload hx hb dX4_neighbour_66 (lv_at hl 0 rfl) ?_
            refine g_callSi (va_runSN (As := [.int v_18]) (rest := []) ⟨hx, hb, hml, hown, hts⟩ (c_X10_isLayer l v_18) ⟨va_cnB 1 hts gX4_neighbour_X10_isLayer_n50 rfl rfl rfl (hNw (.methodLinkNest RX4 50 yX10_isLayer "FormationPlanner") (by decide +kernel)) lk0 (by decide +kernel) ⟨Nat.le_of_ble_eq_true rfl, Nat.le_of_ble_eq_true rfl⟩, lk2, trivial⟩ (g_preT) rfl rfl hl.1 rfl (lv_room (Nat.le_of_ble_eq_true rfl)) dX4_neighbour_68 ⟨Nat.zero_le _, Nat.zero_le _⟩) (fun r_27 w_27 => ?_)
            try dsimp only at w_27
            refine lv_if_eq (tgt := 78) hx hb dX4_neighbour_71 (by decide) (fun c_28 => ?_) (fun c_28 => ?_)
            · skip
              have q_28 : r_27.toInt = (0 : Int) := i_eq2 (rfl : r_27.toInt = r_27.toInt) (show (0 : Int32).toInt = (0 : Int) from rfl) c_28
              refine lv_iconst (v := 0) hx hb dX4_neighbour_78 (by decide) ?_
              refine lv_istore (lv' := [(5, .int 0), (4, .int v_18), (3, .int v_13), (2, .int v_7), (0, .int a), (1, .int b)]) hx hb dX4_neighbour_79 hl (by decide) rfl (fun ls hl => ?_)
              refine lv_iload hx hb dX4_neighbour_81 (lv_at hl 0 rfl) ?_
              refine lv_if_eq (tgt := 101) hx hb dX4_neighbour_83 (by decide) (fun c_29 => ?_) (fun c_29 => ?_)
              · skip
                have q_29 : (0 : Int) = (0 : Int) := i_eq2 (show (0 : Int32).toInt = (0 : Int) from rfl) (show (0 : Int32).toInt = (0 : Int) from rfl) c_29
                refine lv_iconst (v := (-1)) hx hb dX4_neighbour_101 (by decide) ?_
                rw [hQ]
                exact W.iret (v := (-1)) hx hb hr (fun t ht hW => ⟨(-1), rfl, by have zm := i_m1; omega, ht⟩) (fun q h => by cases h) dX4_neighbour_102
              · skip
                have q_29 : (0 : Int) ≠ (0 : Int) := i_ne2 (show (0 : Int32).toInt = (0 : Int) from rfl) (show (0 : Int32).toInt = (0 : Int) from rfl) c_29
                exfalso; omega
            · skip
              have q_28 : r_27.toInt ≠ (0 : Int) := i_ne2 (rfl : r_27.toInt = r_27.toInt) (show (0 : Int32).toInt = (0 : Int) from rfl) c_28
              refine lv_iconst (v := 1) hx hb dX4_neighbour_74 (by decide) ?_
              refine lv_goto (tgt := 79) hx hb dX4_neighbour_75 (by decide) ?_
              refine lv_istore (lv' := [(5, .int 1), (4, .int v_18), (3, .int v_13), (2, .int v_7), (0, .int a), (1, .int b)]) hx hb dX4_neighbour_79 hl (by decide) rfl (fun ls hl => ?_)
              refine lv_iload hx hb dX4_neighbour_81 (lv_at hl 0 rfl) ?_
              refine lv_if_eq (tgt := 101) hx hb dX4_neighbour_83 (by decide) (fun c_30 => ?_) (fun c_30 => ?_)
              · skip
                have q_30 : (1 : Int) = (0 : Int) := i_eq2 (show (1 : Int32).toInt = (1 : Int) from rfl) (show (0 : Int32).toInt = (0 : Int) from rfl) c_30
                exfalso; omega
              · skip
                have q_30 : (1 : Int) ≠ (0 : Int) := i_ne2 (show (1 : Int32).toInt = (1 : Int) from rfl) (show (0 : Int32).toInt = (0 : Int) from rfl) c_30
                refine lv_iload_n hx hb dX4_neighbour_86 rfl (lv_at hl 3 rfl) ?_
                refine lv_bipush (v := 6) hx hb dX4_neighbour_87 (by decide) ?_
                refine lv_iload_n hx hb dX4_neighbour_89 rfl (lv_at hl 2 rfl) ?_
                refine lv_imul hx hb dX4_neighbour_90 ?_
                refine lv_topi (fun v_31 ev_31 => ?_)
                have tv_31 : v_31.toInt = (6 : Int) * v_13.toInt := i_mul (show (6 : Int32).toInt = (6 : Int) from rfl) (rfl : v_13.toInt = v_13.toInt) (by omega) (by omega) ev_31
                refine lv_iadd hx hb dX4_neighbour_91 ?_
                refine lv_topi (fun v_32 ev_32 => ?_)
                have tv_32 : v_32.toInt = v_7.toInt + v_31.toInt := i_add (rfl : v_7.toInt = v_7.toInt) (rfl : v_31.toInt = v_31.toInt) (by omega) (by omega) ev_32
                refine lv_bipush (v := 36) hx hb dX4_neighbour_92 (by decide) ?_
                refine lv_iload hx hb dX4_neighbour_94 (lv_at hl 1 rfl) ?_
                refine lv_imul hx hb dX4_neighbour_96 ?_
                refine lv_topi (fun v_33 ev_33 => ?_)
                have tv_33 : v_33.toInt = (36 : Int) * v_18.toInt := i_mul (show (36 : Int32).toInt = (36 : Int) from rfl) (rfl : v_18.toInt = v_18.toInt) (by omega) (by omega) ev_33
                refine lv_iadd hx hb dX4_neighbour_97 ?_
                refine lv_topi (fun v_34 ev_34 => ?_)
                have tv_34 : v_34.toInt = v_32.toInt + v_33.toInt := i_add (rfl : v_32.toInt = v_32.toInt) (rfl : v_33.toInt = v_33.toInt) (by omega) (by omega) ev_34
                refine lv_goto (tgt := 102) hx hb dX4_neighbour_98 (by decide) ?_
                rw [hQ]
                exact W.iret (v := v_34) hx hb hr (fun t ht hW => ⟨v_34, rfl, by have zm := i_m1; omega, ht⟩) (fun q h => by cases h) dX4_neighbour_102
  · skip
    have q_2 : (1 : Int) = (0 : Int) := i_eq2 z_1 (show (0 : Int32).toInt = (0 : Int) from rfl) c_2
    exfalso; omega
