set_option maxHeartbeats 4000000 in
set_option maxRecDepth 100000 in
theorem c_X11_undo (l : Launch) (D : va_G) (cy : Nat → ClassId) (ad : Nat → Nat) (hI : mInj ad) (sz : Nat) (iv : gIv) (ar : gAr)  (hri : RI iv ar) : Met l yX11_undo wsX11_undo ({ frames := 1, cells := 0, slots := 0, locals := 21 } : Room) (va_Pc [.ref (ad 0)] (mPre D cy ad sz iv ar)) (va_Qi (fun (r : Int32) (u : gIv × gAr) => RI u.1 u.2 ∧ u.1 0 4 = iv 0 4 ∧ u.1 0 17 = iv 0 17) (mPost D cy ad) (mA ad sz)) 0 0 (mA ad sz) := by
  refine Met.ofW (cc := cX11_undo) (maxL := 2) (ret := (some .int)) (by decide) rfl ?_
  intro p e s m args below meth c s₁ B hml hv
  obtain ⟨rfl, rfl, hP, hK, hSt, hNw⟩ := hv
  have hx := B.exec
  have hb := B.bytes
  have hr := B.returns
  have hts := atoms_spec (ws := wsX11_undo) B.pre
  have hown : s.vm.findClass RX11 = some m.cls := findClass_of_methodNamed B.named
  have hlocks := B.notSynchronized
  have hS : va_S (mA ad s.heap.size) s.heap s.heap [] := va_S.rf
  have inX11 : ∀ w ∈ u_ws RX11 TX11 30, w ∈ wsX11_undo := by decide +kernel
  have lk0 := hts (.fieldLink RX11 77 "FormationPlannerModel" "changes" "I") (by decide +kernel)
  have lk1 := hts (.fieldLink RX11 9 "FormationPlannerModel" "s" "[I") (by decide +kernel)
  have lk2 := hts (.fieldLink RX11 13 "FormationPlannerModel" "past" "[I") (by decide +kernel)
  have hl := lv_entry ([.ref (ad 0)]) (n := 2) (Nat.le_of_ble_eq_true rfl)
  rw [lg_entry_eq]
  generalize (lg_sl ([.ref (ad 0)]) ++ List.replicate (2 - (lg_sl ([.ref (ad 0)])).length) Slot.unset).toArray = ls at hl ⊢
  have hl : lv_has ls 2 [(0, .ref (ad 0))] := hl
  obtain ⟨Q, hQ⟩ : ∃ Q, Q = MQ below (va_Qi (fun (r : Int32) (u : gIv × gAr) => RI u.1 u.2 ∧ u.1 0 4 = iv 0 4 ∧ u.1 0 17 = iv 0 17) (mPost D cy ad) (mA ad s.heap.size)) (([.ref (ad 0)] : List Value).toArray) s 0 0 (mA ad s.heap.size) := ⟨_, rfl⟩
  rw [← hQ]
  have hch := hri.2.1
  refine lv_aload_n hx hb dX11_undo_0 rfl (lv_at hl 0 rfl) ?_
  refine va_get (D := D) (ci := 11) (v := .int (iv 0 3)) (C := RX11) (T := TX11) (N := 30) hx hb hts inX11 hown hK hP 0 (m_at11 (Nat.le_of_ble_eq_true rfl) rfl) rfl 3 (by decide) lk0 (fun _ h9 => h9) rfl dX11_undo_1 ?_
  refine lv_if_ne (tgt := 9) hx hb dX11_undo_4 (by decide) (fun c_1 => ?_) (fun c_1 => ?_)
  · skip
    have q_1 : (iv 0 3).toInt ≠ (0 : Int) := i_ne2 (rfl : (iv 0 3).toInt = (iv 0 3).toInt) (show (0 : Int32).toInt = (0 : Int) from rfl) c_1
    refine lv_aload_n hx hb dX11_undo_9 rfl (lv_at hl 0 rfl) ?_
    refine lv_dup hx hb dX11_undo_10 rfl ?_
    refine va_get (D := D) (ci := 11) (v := .int (iv 0 3)) (C := RX11) (T := TX11) (N := 30) hx hb hts inX11 hown hK hP 0 (m_at11 (Nat.le_of_ble_eq_true rfl) rfl) rfl 3 (by decide) lk0 (fun _ h9 => h9) rfl dX11_undo_11 ?_
    refine lv_iconst (v := 1) hx hb dX11_undo_14 (by decide) ?_
    refine lv_isub hx hb dX11_undo_15 ?_
    refine lv_topi (fun v_2 ev_2 => ?_)
    have tv_2 : v_2.toInt = ((iv 0 3).toInt) - (1 : Int) := i_sub (rfl : (iv 0 3).toInt = (iv 0 3).toInt) (show (1 : Int32).toInt = (1 : Int) from rfl) (by omega) (by omega) ev_2
    refine va_put (D := D) (ci := 11) (v := .int v_2) (ty := .int) (C := RX11) (T := TX11) (N := 30) hx hb hts inX11 tyX11 tyX11_ok nmX11 hown hK hP (mD hI) hS 0 (m_at11 (Nat.le_of_ble_eq_true rfl) rfl) rfl 3 (by decide) lk0 (fun _ h9 => h9) rfl (by decide +kernel) rfl rfl (Nat.le_of_ble_eq_true rfl) dX11_undo_16 (fun H locs hP _ hS => ?_)
    have hP : va_P D vwCl (MW cy ad (u2 iv 0 3 v_2) ar) H := by rw [← m_pt11_3 (Nat.le_of_ble_eq_true rfl) rfl]; exact hP
    obtain ⟨iv_3, eiv_3⟩ : ∃ z : gIv, z = u2 iv 0 3 v_2 := ⟨_, rfl⟩
    rw [← eiv_3] at hP
    have hc7 : (iv_3 0 3).toInt = (iv 0 3).toInt - 1 := by rw [eiv_3, u2_s]; omega
    refine lv_iconst (v := 0) hx hb dX11_undo_19 (by decide) ?_
    refine lv_istore_n (lv' := [(1, .int 0), (0, .ref (ad 0))]) hx hb dX11_undo_20 rfl hl (by decide) rfl (fun ls hl => ?_)
    have loop6 : ∀ (n : Nat) (x1_4 : Int32) (ar_5 : gAr) (H : Heap) (locs : List Loc) (ls : Array Slot), ((126 - (x1_4.toInt)).toNat) < n → (0 ≤ (x1_4.toInt) ∧ (x1_4.toInt) ≤ 126) → (∀ c, c ≠ 1 → ar_5 c = ar c) → (∀ i : Nat, (i : Int) < (x1_4.toInt) → ar_5 1 i = ar 2 (126 * (iv_3 0 3).toInt.toNat + i)) → va_P D vwCl (MW cy ad iv_3 ar_5) H → va_S (mA ad s.heap.size) s.heap H locs → lv_has ls 2 [(1, .int x1_4), (0, .ref (ad 0))] → W p l e (headSpec wsX11_undo (({ frames := 1, cells := 0, slots := 0, locals := 21 } : Room))).room s m (([.ref (ad 0)] : List Value).toArray) below meth c H locs 0 0 Q (F0 m 21 ls []) := by
      intro n
      induction n with
      | zero => intro x1_4 ar_5 H locs ls hm; omega
      | succ n ih6 =>
        intro x1_4 ar_5 H locs ls hm hk0 hka hkc hP hS hl
        refine lv_iload_n hx hb dX11_undo_21 rfl (lv_at hl 0 rfl) ?_
        refine lv_bipush (v := 126) hx hb dX11_undo_22 (by decide) ?_
        refine lv_icmp_ge (tgt := 53) hx hb dX11_undo_24 (by decide) (fun c_7 => ?_) (fun c_7 => ?_)
        · skip
          have q_7 : (126 : Int) ≤ x1_4.toInt := i_le2 (show (126 : Int32).toInt = (126 : Int) from rfl) (rfl : x1_4.toInt = x1_4.toInt) c_7
          refine lv_aload_n hx hb dX11_undo_53 rfl (lv_at hl 1 rfl) ?_
          refine m_callv (va_runV (As := []) (rest := []) ⟨hx, hb, hml, hown, hts⟩ (c_X11_discards l D cy ad hI _ iv_3 ar_5) (cwV 0 hts gX11_undo_X11_discards rfl rfl rfl (by decide +kernel) ⟨Nat.le_of_ble_eq_true rfl, Nat.le_of_ble_eq_true rfl⟩) (m_preV hP hK hSt hNw hS (m_at11 (Nat.le_of_ble_eq_true rfl) rfl) rfl) rfl rfl hl.1 rfl (lv_room (Nat.le_of_ble_eq_true rfl)) dX11_undo_54 ⟨Nat.zero_le _, Nat.zero_le _⟩) hS (fun iv_8 ar_8 H locs w_8 hP hS => ?_)
          try dsimp only at w_8
          obtain ⟨iv_9, eiv_9⟩ : ∃ z : gIv, z = u2 iv_3 0 15 0 := ⟨_, rfl⟩
          have eiv_8 : iv_8 = u2 iv_9 0 16 (-1) := by rw [eiv_9]; exact w_8.1
          have hd2 := w_8.2.1
          have hd3 := w_8.2.2
          have he3 : iv_8 0 3 = iv_3 0 3 := by rw [w_8.1, u2_o (by omega), u2_o (by omega)]
          have he15 : (iv_8 0 15).toInt = 0 := by rw [w_8.1, u2_o (by omega), u2_s]; rfl
          have he4 : iv_8 0 4 = iv 0 4 := by rw [w_8.1, u2_o (by omega), u2_o (by omega), eiv_3, u2_o (by omega)]
          have he17 : iv_8 0 17 = iv 0 17 := by rw [w_8.1, u2_o (by omega), u2_o (by omega), eiv_3, u2_o (by omega)]
          have hri2 : RI iv_8 ar_8 := RI.chg hri (SI.of (hri.2.2.1 (iv_3 0 3).toInt.toNat (by omega)) (fun i hi => by rw [hd2 1 (by omega)]; exact hkc i (by omega))) (by rw [he3]; omega) (fun k hk => SI.of (hri.2.2.1 k (by rw [he3] at hk; omega)) (fun i hi => by show ar_8 2 _ = ar 2 _; rw [hd2 2 (by omega), hka 2 (by omega)])) hd3 he15 he4 he17 (by rw [hd2 7 (by omega)]; exact hka 7 (by omega)) (by rw [hd2 8 (by omega)]; exact hka 8 (by omega))
          refine lv_aload_n hx hb dX11_undo_57 rfl (lv_at hl 1 rfl) ?_
          refine va_get (D := D) (ci := 11) (v := .int (iv_8 0 3)) (C := RX11) (T := TX11) (N := 30) hx hb hts inX11 hown hK hP 0 (m_at11 (Nat.le_of_ble_eq_true rfl) rfl) rfl 3 (by decide) lk0 (fun _ h9 => h9) rfl dX11_undo_58 ?_
          have f_10 : iv_8 0 3 = v_2 := by rw [eiv_8, u2_o (by omega)]; rw [eiv_9, u2_o (by omega)]; rw [eiv_3]; exact u2_s _ _ _ _
          rw [hQ]
          exact W.iret (v := (iv_8 0 3)) hx hb hr (fun t ht hW => ⟨⟨(iv_8 0 3), (iv_8, ar_8), rfl, ⟨hri2, he4, he17⟩, by show va_P _ _ _ _; rw [ht]; exact hP⟩, hS.F ht⟩) hS.2.2 dX11_undo_61
        · skip
          have q_7 : x1_4.toInt < (126 : Int) := i_nle2 (show (126 : Int32).toInt = (126 : Int) from rfl) (rfl : x1_4.toInt = x1_4.toInt) c_7
          refine lv_aload_n hx hb dX11_undo_27 rfl (lv_at hl 1 rfl) ?_
          refine va_get (D := D) (ci := 11) (v := .ref (ad 1)) (C := RX11) (T := TX11) (N := 30) hx hb hts inX11 hown hK hP 0 (m_at11 (Nat.le_of_ble_eq_true rfl) rfl) rfl 0 (by decide) lk1 (fun _ h9 => h9) rfl dX11_undo_28 ?_
          refine lv_iload_n hx hb dX11_undo_31 rfl (lv_at hl 0 rfl) ?_
          refine lv_aload_n hx hb dX11_undo_32 rfl (lv_at hl 1 rfl) ?_
          refine va_get (D := D) (ci := 11) (v := .ref (ad 2)) (C := RX11) (T := TX11) (N := 30) hx hb hts inX11 hown hK hP 0 (m_at11 (Nat.le_of_ble_eq_true rfl) rfl) rfl 1 (by decide) lk2 (fun _ h9 => h9) rfl dX11_undo_33 ?_
          refine lv_bipush (v := 126) hx hb dX11_undo_36 (by decide) ?_
          refine lv_aload_n hx hb dX11_undo_38 rfl (lv_at hl 1 rfl) ?_
          refine va_get (D := D) (ci := 11) (v := .int (iv_3 0 3)) (C := RX11) (T := TX11) (N := 30) hx hb hts inX11 hown hK hP 0 (m_at11 (Nat.le_of_ble_eq_true rfl) rfl) rfl 3 (by decide) lk0 (fun _ h9 => h9) rfl dX11_undo_39 ?_
          have f_11 : iv_3 0 3 = v_2 := by rw [eiv_3]; exact u2_s _ _ _ _
          refine lv_imul hx hb dX11_undo_42 ?_
          refine lv_topi (fun v_12 ev_12 => ?_)
          have tv_12 : v_12.toInt = (126 : Int) * v_2.toInt := i_mul (show (126 : Int32).toInt = (126 : Int) from rfl) ((congrArg Int32.toInt f_11).trans (rfl : v_2.toInt = v_2.toInt)) (by omega) (by omega) ev_12
          refine lv_iload_n hx hb dX11_undo_43 rfl (lv_at hl 0 rfl) ?_
          refine lv_iadd hx hb dX11_undo_44 ?_
          refine lv_topi (fun v_13 ev_13 => ?_)
          have tv_13 : v_13.toInt = v_12.toInt + x1_4.toInt := i_add (rfl : v_12.toInt = v_12.toInt) (rfl : x1_4.toInt = x1_4.toInt) (by omega) (by omega) ev_13
          refine va_iald hx hb hK hP 2 0 (m_at12 (Nat.le_of_ble_eq_true rfl) rfl) rfl (g_in (N := 1008) (rfl : v_13.toInt = v_13.toInt) rfl (by omega) (by omega)) dX11_undo_45 ?_
          refine lv_topi (fun v_14 ev_14 => ?_)
          have hv1 : v_14 = ar 2 (126 * (iv_3 0 3).toInt.toNat + (x1_4.toInt).toNat) := by rw [ev_14, g_cN (rfl : v_13.toInt = _), hka 2 (by omega), show (v_13.toInt).toNat = 126 * (iv_3 0 3).toInt.toNat + (x1_4.toInt).toNat from by omega]
          refine va_iast hx hb hK hP (mD hI) hS 1 0 (m_at12 (Nat.le_of_ble_eq_true rfl) rfl) rfl (g_in (N := 126) (rfl : x1_4.toInt = x1_4.toInt) rfl (by omega) (by omega)) dX11_undo_46 (fun H locs hP _ hS => ?_)
          rw [m_pt12 (Nat.le_of_ble_eq_true rfl) rfl] at hP
          obtain ⟨ar_15, ear_15⟩ : ∃ z : gAr, z = va_up ar_5 1 (upd (ar_5 1) x1_4.toNatClampNeg v_14) := ⟨_, rfl⟩
          rw [← ear_15] at hP
          have har : ar_15 1 = upd (ar_5 1) (x1_4.toInt).toNat v_14 := by rw [ear_15, ua_s, g_cN (rfl : x1_4.toInt = _)]
          have hka2 : ∀ c, c ≠ 1 → ar_15 c = ar c := fun c h => by rw [ear_15, ua_o h]; exact hka c h
          have hkc2 : ∀ i : Nat, (i : Int) < (x1_4.toInt) + 1 → ar_15 1 i = ar 2 (126 * (iv_3 0 3).toInt.toNat + i) := fun i hi => by
            rw [har]
            by_cases e : i = (x1_4.toInt).toNat
            · rw [e, pk_us, hv1]
            · rw [pk_un e]; exact hkc i (by omega)
          obtain ⟨x1_16, ex1_16⟩ : ∃ y : Int32, y = x1_4 + 1 := ⟨_, rfl⟩
          have tx1_16 : x1_16.toInt = x1_4.toInt + (1 : Int) := i_add (rfl : x1_4.toInt = x1_4.toInt) (show (1 : Int32).toInt = (1 : Int) from rfl) (by omega) (by omega) ex1_16
          refine lv_iinc (v := x1_16) (lv' := [(1, .int x1_16), (0, .ref (ad 0))]) hx hb dX11_undo_47 hl (k := 0) rfl (by rw [ex1_16]; rfl) (by decide) rfl (fun ls hl => ?_)
          refine lv_goto (tgt := 21) hx hb dX11_undo_50 (by decide) ?_
          exact ih6 x1_16 ar_15 _ _ _ (by omega) (by omega) hka2 (fun i hi => hkc2 i (by omega)) hP hS (lv_sub hl [0, 1] rfl)
    have zl_17 : (0 : Int32).toInt = (0 : Int) := rfl
    exact loop6 (((126 - ((0 : Int))).toNat) + 1) 0 ar _ _ _ (by omega) (by omega) (fun _ _ => rfl) (fun i hi => by exfalso; omega) hP hS (lv_sub hl [0, 1] rfl)
  · skip
    have q_1 : (iv 0 3).toInt = (0 : Int) := i_eq2 (rfl : (iv 0 3).toInt = (iv 0 3).toInt) (show (0 : Int32).toInt = (0 : Int) from rfl) c_1
    refine lv_iconst (v := (-1)) hx hb dX11_undo_7 (by decide) ?_
    rw [hQ]
    exact W.iret (v := (-1)) hx hb hr (fun t ht hW => ⟨⟨(-1), (iv, ar), rfl, ⟨hri, rfl, rfl⟩, by show va_P _ _ _ _; rw [ht]; exact hP⟩, hS.F ht⟩) hS.2.2 dX11_undo_8
