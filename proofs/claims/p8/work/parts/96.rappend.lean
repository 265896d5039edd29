set_option maxHeartbeats 4000000 in
set_option maxRecDepth 100000 in
theorem c_X11_append (l : Launch) (D : va_G) (cy : Nat → ClassId) (ad : Nat → Nat) (hI : mInj ad) (sz : Nat) (iv : gIv) (ar : gAr) (a : Int32) (b : Int32) (hri : RI iv ar) : Met l yX11_append wsX11_append ({ frames := 1, cells := 0, slots := 0, locals := 22 } : Room) (va_Pc [.ref (ad 0), .int a, .int b] (mPre D cy ad sz iv ar)) (va_Qi (fun (r : Int32) (u : gIv × gAr) => RI u.1 u.2 ∧ u.1 0 17 = iv 0 17 ∧ ((0 ≤ a.toInt ∧ a.toInt < 128 ∧ 1 ≤ b.toInt ∧ b.toInt ≤ 60) ∧ (iv 0 4).toInt + b.toInt ≤ 60 ∧ r.toInt = (iv 0 4).toInt + b.toInt ∧ (u.1 0 4).toInt = (iv 0 4).toInt + b.toInt ∨ (0 ≤ a.toInt ∧ a.toInt < 128 ∧ 1 ≤ b.toInt ∧ b.toInt ≤ 60) ∧ 60 < (iv 0 4).toInt + b.toInt ∧ r.toInt = -3 ∧ (u.1 0 4).toInt = (iv 0 4).toInt ∨ ¬ (0 ≤ a.toInt ∧ a.toInt < 128 ∧ 1 ≤ b.toInt ∧ b.toInt ≤ 60) ∧ r.toInt = -2 ∧ (u.1 0 4).toInt = (iv 0 4).toInt)) (mPost D cy ad) (mA ad sz)) 0 0 (mA ad sz) := by
  refine Met.ofW (cc := cX11_append) (maxL := 4) (ret := (some .int)) (by decide) rfl ?_
  intro p e s m args below meth c s₁ B hml hv
  obtain ⟨rfl, rfl, hP, hK, hSt, hNw⟩ := hv
  have hx := B.exec
  have hb := B.bytes
  have hr := B.returns
  have hts := atoms_spec (ws := wsX11_append) B.pre
  have hown : s.vm.findClass RX11 = some m.cls := findClass_of_methodNamed B.named
  have hlocks := B.notSynchronized
  have hS : va_S (mA ad s.heap.size) s.heap s.heap [] := va_S.rf
  have inX11 : ∀ w ∈ u_ws RX11 TX11 30, w ∈ wsX11_append := by decide +kernel
  have lk0 := hts (.fieldLink RX11 105 "FormationPlannerModel" "written" "I") (by decide +kernel)
  have lk1 := hts (.fieldLink RX11 16 "FormationPlannerModel" "text" "[I") (by decide +kernel)
  have hl := lv_entry ([.ref (ad 0), .int a, .int b]) (n := 4) (Nat.le_of_ble_eq_true rfl)
  rw [lg_entry_eq]
  generalize (lg_sl ([.ref (ad 0), .int a, .int b]) ++ List.replicate (4 - (lg_sl ([.ref (ad 0), .int a, .int b])).length) Slot.unset).toArray = ls at hl ⊢
  have hl : lv_has ls 4 [(0, .ref (ad 0)), (1, .int a), (2, .int b)] := hl
  obtain ⟨Q, hQ⟩ : ∃ Q, Q = MQ below (va_Qi (fun (r : Int32) (u : gIv × gAr) => RI u.1 u.2 ∧ u.1 0 17 = iv 0 17 ∧ ((0 ≤ a.toInt ∧ a.toInt < 128 ∧ 1 ≤ b.toInt ∧ b.toInt ≤ 60) ∧ (iv 0 4).toInt + b.toInt ≤ 60 ∧ r.toInt = (iv 0 4).toInt + b.toInt ∧ (u.1 0 4).toInt = (iv 0 4).toInt + b.toInt ∨ (0 ≤ a.toInt ∧ a.toInt < 128 ∧ 1 ≤ b.toInt ∧ b.toInt ≤ 60) ∧ 60 < (iv 0 4).toInt + b.toInt ∧ r.toInt = -3 ∧ (u.1 0 4).toInt = (iv 0 4).toInt ∨ ¬ (0 ≤ a.toInt ∧ a.toInt < 128 ∧ 1 ≤ b.toInt ∧ b.toInt ≤ 60) ∧ r.toInt = -2 ∧ (u.1 0 4).toInt = (iv 0 4).toInt)) (mPost D cy ad) (mA ad s.heap.size)) (([.ref (ad 0), .int a, .int b] : List Value).toArray) s 0 0 (mA ad s.heap.size) := ⟨_, rfl⟩
  rw [← hQ]
  have hwr := hri.2.2.2.1
  refine lv_iload_n hx hb dX11_append_0 rfl (lv_at hl 1 rfl) ?_
  refine lv_iconst (v := 0) hx hb dX11_append_1 (by decide) ?_
  refine lv_bipush (v := 127) hx hb dX11_append_2 (by decide) ?_
  have zl_1 : (0 : Int32).toInt = (0 : Int) := rfl
  have zl_2 : (127 : Int32).toInt = (127 : Int) := rfl
  refine g_callSi (va_runS (As := [.int a, .int 0, .int 127]) (rest := []) ⟨hx, hb, hml, hown, hts⟩ (c_X11_isIn l a 0 127) (va_cwS 3 hts gX11_append_X11_isIn rfl rfl rfl (by decide +kernel) ⟨Nat.le_of_ble_eq_true rfl, Nat.le_of_ble_eq_true rfl⟩) (g_preT) rfl rfl hl.1 rfl (lv_room (Nat.le_of_ble_eq_true rfl)) dX11_append_4 ⟨Nat.zero_le _, Nat.zero_le _⟩) (fun r_3 w_3 => ?_)
  try dsimp only at w_3
  refine lv_if_eq (tgt := 20) hx hb dX11_append_7 (by decide) (fun c_4 => ?_) (fun c_4 => ?_)
  · skip
    have q_4 : r_3.toInt = (0 : Int) := i_eq2 (rfl : r_3.toInt = r_3.toInt) (show (0 : Int32).toInt = (0 : Int) from rfl) c_4
    refine lv_bipush (v := (-2)) hx hb dX11_append_20 (by decide) ?_
    rw [hQ]
    exact W.iret (v := (-2)) hx hb hr (fun t ht hW => ⟨⟨(-2), (iv, ar), rfl, ⟨hri, rfl, by have z2 : (-2 : Int32).toInt = -2 := rfl; have z3 : (-3 : Int32).toInt = -3 := rfl; show _ ∧ _ ∧ _ ∧ (iv 0 4).toInt = _ ∨ _ ∧ _ ∧ _ ∧ (iv 0 4).toInt = _ ∨ _ ∧ _ ∧ (iv 0 4).toInt = _; omega⟩, by show va_P _ _ _ _; rw [ht]; exact hP⟩, hS.F ht⟩) hS.2.2 dX11_append_22
  · skip
    have q_4 : r_3.toInt ≠ (0 : Int) := i_ne2 (rfl : r_3.toInt = r_3.toInt) (show (0 : Int32).toInt = (0 : Int) from rfl) c_4
    refine lv_iload_n hx hb dX11_append_10 rfl (lv_at hl 2 rfl) ?_
    refine lv_iconst (v := 1) hx hb dX11_append_11 (by decide) ?_
    refine lv_bipush (v := 60) hx hb dX11_append_12 (by decide) ?_
    have zl_5 : (1 : Int32).toInt = (1 : Int) := rfl
    have zl_6 : (60 : Int32).toInt = (60 : Int) := rfl
    refine g_callSi (va_runS (As := [.int b, .int 1, .int 60]) (rest := []) ⟨hx, hb, hml, hown, hts⟩ (c_X11_isIn l b 1 60) (va_cwS 3 hts gX11_append_X11_isIn rfl rfl rfl (by decide +kernel) ⟨Nat.le_of_ble_eq_true rfl, Nat.le_of_ble_eq_true rfl⟩) (g_preT) rfl rfl hl.1 rfl (lv_room (Nat.le_of_ble_eq_true rfl)) dX11_append_14 ⟨Nat.zero_le _, Nat.zero_le _⟩) (fun r_7 w_7 => ?_)
    try dsimp only at w_7
    refine lv_if_ne (tgt := 23) hx hb dX11_append_17 (by decide) (fun c_8 => ?_) (fun c_8 => ?_)
    · skip
      have q_8 : r_7.toInt ≠ (0 : Int) := i_ne2 (rfl : r_7.toInt = r_7.toInt) (show (0 : Int32).toInt = (0 : Int) from rfl) c_8
      refine lv_aload_n hx hb dX11_append_23 rfl (lv_at hl 0 rfl) ?_
      refine va_get (D := D) (ci := 11) (v := .int (iv 0 4)) (C := RX11) (T := TX11) (N := 30) hx hb hts inX11 hown hK hP 0 (m_at11 (Nat.le_of_ble_eq_true rfl) rfl) rfl 4 (by decide) lk0 (fun _ h9 => h9) rfl dX11_append_24 ?_
      refine lv_iload_n hx hb dX11_append_27 rfl (lv_at hl 2 rfl) ?_
      refine lv_iadd hx hb dX11_append_28 ?_
      refine lv_topi (fun v_9 ev_9 => ?_)
      have rg_10 := i_rng b
      have tv_9 : v_9.toInt = ((iv 0 4).toInt) + b.toInt := i_add (rfl : (iv 0 4).toInt = (iv 0 4).toInt) (rfl : b.toInt = b.toInt) (by omega) (by omega) ev_9
      refine lv_bipush (v := 60) hx hb dX11_append_29 (by decide) ?_
      refine lv_icmp_le (tgt := 37) hx hb dX11_append_31 (by decide) (fun c_11 => ?_) (fun c_11 => ?_)
      · skip
        have q_11 : v_9.toInt ≤ (60 : Int) := i_le2 (rfl : v_9.toInt = v_9.toInt) (show (60 : Int32).toInt = (60 : Int) from rfl) c_11
        refine lv_iconst (v := 0) hx hb dX11_append_37 (by decide) ?_
        refine lv_istore_n (lv' := [(3, .int 0), (0, .ref (ad 0)), (1, .int a), (2, .int b)]) hx hb dX11_append_38 rfl hl (by decide) rfl (fun ls hl => ?_)
        have loop14 : ∀ (n : Nat) (x3_12 : Int32) (iv_13 : gIv) (ar_13 : gAr) (H : Heap) (locs : List Loc) (ls : Array Slot), (((b.toInt) - (x3_12.toInt)).toNat) < n → (0 ≤ (x3_12.toInt) ∧ (x3_12.toInt) ≤ b.toInt) → ((iv_13 0 4).toInt = (iv 0 4).toInt + (x3_12.toInt)) → (∀ x y, ¬ (x = 0 ∧ y = 4) → iv_13 x y = iv x y) → (∀ c, c ≠ 3 → ar_13 c = ar c) → va_P D vwCl (MW cy ad iv_13 ar_13) H → va_S (mA ad s.heap.size) s.heap H locs → lv_has ls 4 [(3, .int x3_12), (0, .ref (ad 0)), (1, .int a), (2, .int b)] → W p l e (headSpec wsX11_append (({ frames := 1, cells := 0, slots := 0, locals := 22 } : Room))).room s m (([.ref (ad 0), .int a, .int b] : List Value).toArray) below meth c H locs 0 0 Q (F0 m 39 ls []) := by
          intro n
          induction n with
          | zero => intro x3_12 iv_13 ar_13 H locs ls hm; omega
          | succ n ih14 =>
            intro x3_12 iv_13 ar_13 H locs ls hm hg0 hgw hgi hga hP hS hl
            refine lv_iload_n hx hb dX11_append_39 rfl (lv_at hl 0 rfl) ?_
            refine lv_iload_n hx hb dX11_append_40 rfl (lv_at hl 3 rfl) ?_
            refine lv_icmp_ge (tgt := 70) hx hb dX11_append_41 (by decide) (fun c_15 => ?_) (fun c_15 => ?_)
            · skip
              have q_15 : b.toInt ≤ x3_12.toInt := i_le2 (rfl : b.toInt = b.toInt) (rfl : x3_12.toInt = x3_12.toInt) c_15
              refine lv_aload_n hx hb dX11_append_70 rfl (lv_at hl 1 rfl) ?_
              refine va_get (D := D) (ci := 11) (v := .int (iv_13 0 4)) (C := RX11) (T := TX11) (N := 30) hx hb hts inX11 hown hK hP 0 (m_at11 (Nat.le_of_ble_eq_true rfl) rfl) rfl 4 (by decide) lk0 (fun _ h9 => h9) rfl dX11_append_71 ?_
              have hw9 : 0 ≤ (iv_13 0 4).toInt ∧ (iv_13 0 4).toInt ≤ 60 := by omega
              rw [hQ]
              exact W.iret (v := (iv_13 0 4)) hx hb hr (fun t ht hW => ⟨⟨(iv_13 0 4), (iv_13, ar_13), rfl, ⟨hri.txt hgi hga hw9, hgi 0 17 (by omega), Or.inl ⟨by omega, by omega, by omega, by show (iv_13 0 4).toInt = _; omega⟩⟩, by show va_P _ _ _ _; rw [ht]; exact hP⟩, hS.F ht⟩) hS.2.2 dX11_append_74
            · skip
              have q_15 : x3_12.toInt < b.toInt := i_nle2 (rfl : b.toInt = b.toInt) (rfl : x3_12.toInt = x3_12.toInt) c_15
              refine lv_aload_n hx hb dX11_append_44 rfl (lv_at hl 1 rfl) ?_
              refine va_get (D := D) (ci := 11) (v := .ref (ad 3)) (C := RX11) (T := TX11) (N := 30) hx hb hts inX11 hown hK hP 0 (m_at11 (Nat.le_of_ble_eq_true rfl) rfl) rfl 2 (by decide) lk1 (fun _ h9 => h9) rfl dX11_append_45 ?_
              refine lv_aload_n hx hb dX11_append_48 rfl (lv_at hl 1 rfl) ?_
              refine va_get (D := D) (ci := 11) (v := .int (iv_13 0 4)) (C := RX11) (T := TX11) (N := 30) hx hb hts inX11 hown hK hP 0 (m_at11 (Nat.le_of_ble_eq_true rfl) rfl) rfl 4 (by decide) lk0 (fun _ h9 => h9) rfl dX11_append_49 ?_
              refine lv_iload_n hx hb dX11_append_52 rfl (lv_at hl 2 rfl) ?_
              refine va_iast hx hb hK hP (mD hI) hS 3 0 (m_at12 (Nat.le_of_ble_eq_true rfl) rfl) rfl (g_in (N := 60) (rfl : (iv_13 0 4).toInt = (iv_13 0 4).toInt) rfl (by omega) (by omega)) dX11_append_53 (fun H locs hP _ hS => ?_)
              rw [m_pt12 (Nat.le_of_ble_eq_true rfl) rfl] at hP
              obtain ⟨ar_16, ear_16⟩ : ∃ z : gAr, z = va_up ar_13 3 (upd (ar_13 3) (iv_13 0 4).toNatClampNeg a) := ⟨_, rfl⟩
              rw [← ear_16] at hP
              have hga2 : ∀ c, c ≠ 3 → ar_16 c = ar c := fun c h => by rw [ear_16, ua_o h]; exact hga c h
              refine lv_aload_n hx hb dX11_append_54 rfl (lv_at hl 1 rfl) ?_
              refine lv_dup hx hb dX11_append_55 rfl ?_
              refine va_get (D := D) (ci := 11) (v := .int (iv_13 0 4)) (C := RX11) (T := TX11) (N := 30) hx hb hts inX11 hown hK hP 0 (m_at11 (Nat.le_of_ble_eq_true rfl) rfl) rfl 4 (by decide) lk0 (fun _ h9 => h9) rfl dX11_append_56 ?_
              refine lv_iconst (v := 1) hx hb dX11_append_59 (by decide) ?_
              refine lv_iadd hx hb dX11_append_60 ?_
              refine lv_topi (fun v_17 ev_17 => ?_)
              have tv_17 : v_17.toInt = ((iv_13 0 4).toInt) + (1 : Int) := i_add (rfl : (iv_13 0 4).toInt = (iv_13 0 4).toInt) (show (1 : Int32).toInt = (1 : Int) from rfl) (by omega) (by omega) ev_17
              refine va_put (D := D) (ci := 11) (v := .int v_17) (ty := .int) (C := RX11) (T := TX11) (N := 30) hx hb hts inX11 tyX11 tyX11_ok nmX11 hown hK hP (mD hI) hS 0 (m_at11 (Nat.le_of_ble_eq_true rfl) rfl) rfl 4 (by decide) lk0 (fun _ h9 => h9) rfl (by decide +kernel) rfl rfl (Nat.le_of_ble_eq_true rfl) dX11_append_61 (fun H locs hP _ hS => ?_)
              have hP : va_P D vwCl (MW cy ad (u2 iv_13 0 4 v_17) ar_16) H := by rw [← m_pt11_4 (Nat.le_of_ble_eq_true rfl) rfl]; exact hP
              obtain ⟨iv_18, eiv_18⟩ : ∃ z : gIv, z = u2 iv_13 0 4 v_17 := ⟨_, rfl⟩
              rw [← eiv_18] at hP
              have hgi2 : ∀ x y, ¬ (x = 0 ∧ y = 4) → iv_18 x y = iv x y := fun x y h => by rw [eiv_18, u2_o h]; exact hgi x y h
              have hgw2 : (iv_18 0 4).toInt = (iv_13 0 4).toInt + 1 := by rw [eiv_18, u2_s]; omega
              obtain ⟨x3_19, ex3_19⟩ : ∃ y : Int32, y = x3_12 + 1 := ⟨_, rfl⟩
              have tx3_19 : x3_19.toInt = x3_12.toInt + (1 : Int) := i_add (rfl : x3_12.toInt = x3_12.toInt) (show (1 : Int32).toInt = (1 : Int) from rfl) (by omega) (by omega) ex3_19
              refine lv_iinc (v := x3_19) (lv' := [(3, .int x3_19), (0, .ref (ad 0)), (1, .int a), (2, .int b)]) hx hb dX11_append_64 hl (k := 0) rfl (by rw [ex3_19]; rfl) (by decide) rfl (fun ls hl => ?_)
              refine lv_goto (tgt := 39) hx hb dX11_append_67 (by decide) ?_
              exact ih14 x3_19 iv_18 ar_16 _ _ _ (by omega) (by omega) (by omega) hgi2 hga2 hP hS (lv_sub hl [0, 1, 2, 3] rfl)
        have zl_20 : (0 : Int32).toInt = (0 : Int) := rfl
        exact loop14 ((((b.toInt) - ((0 : Int))).toNat) + 1) 0 iv ar _ _ _ (by omega) (by omega) (by omega) (fun _ _ _ => rfl) (fun _ _ => rfl) hP hS (lv_sub hl [0, 1, 2, 3] rfl)
      · skip
        have q_11 : (60 : Int) < v_9.toInt := i_nle2 (rfl : v_9.toInt = v_9.toInt) (show (60 : Int32).toInt = (60 : Int) from rfl) c_11
        refine lv_bipush (v := (-3)) hx hb dX11_append_34 (by decide) ?_
        rw [hQ]
        exact W.iret (v := (-3)) hx hb hr (fun t ht hW => ⟨⟨(-3), (iv, ar), rfl, ⟨hri, rfl, by have z2 : (-2 : Int32).toInt = -2 := rfl; have z3 : (-3 : Int32).toInt = -3 := rfl; show _ ∧ _ ∧ _ ∧ (iv 0 4).toInt = _ ∨ _ ∧ _ ∧ _ ∧ (iv 0 4).toInt = _ ∨ _ ∧ _ ∧ (iv 0 4).toInt = _; omega⟩, by show va_P _ _ _ _; rw [ht]; exact hP⟩, hS.F ht⟩) hS.2.2 dX11_append_36
    · skip
      have q_8 : r_7.toInt = (0 : Int) := i_eq2 (rfl : r_7.toInt = r_7.toInt) (show (0 : Int32).toInt = (0 : Int) from rfl) c_8
      refine lv_bipush (v := (-2)) hx hb dX11_append_20 (by decide) ?_
      rw [hQ]
      exact W.iret (v := (-2)) hx hb hr (fun t ht hW => ⟨⟨(-2), (iv, ar), rfl, ⟨hri, rfl, by have z2 : (-2 : Int32).toInt = -2 := rfl; have z3 : (-3 : Int32).toInt = -3 := rfl; show _ ∧ _ ∧ _ ∧ (iv 0 4).toInt = _ ∨ _ ∧ _ ∧ _ ∧ (iv 0 4).toInt = _ ∨ _ ∧ _ ∧ (iv 0 4).toInt = _; omega⟩, by show va_P _ _ _ _; rw [ht]; exact hP⟩, hS.F ht⟩) hS.2.2 dX11_append_22
