set_option maxHeartbeats 4000000 in
set_option maxRecDepth 100000 in
theorem c_X11_removeDrone (l : Launch) (D : va_G) (cy : Nat → ClassId) (ad : Nat → Nat) (hI : mInj ad) (sz : Nat) (iv : gIv) (ar : gAr) (a : Int32) (hri : RI iv ar) : Met l yX11_removeDrone wsX11_removeDrone ({ frames := 2, cells := 0, slots := 0, locals := 43 } : Room) (va_Pc [.ref (ad 0), .int a] (mPre D cy ad sz iv ar)) (va_Qi (fun (r : Int32) (u : gIv × gAr) => RI u.1 u.2 ∧ u.1 0 4 = iv 0 4 ∧ u.1 0 17 = iv 0 17) (mPost D cy ad) (mA ad sz)) 0 0 (mA ad sz) := by
  refine Met.ofW (cc := cX11_removeDrone) (maxL := 3) (ret := (some .int)) (by decide) rfl ?_
  intro p e s m args below meth c s₁ B hml hv
  obtain ⟨rfl, rfl, hP, hK, hSt, hNw⟩ := hv
  have hx := B.exec
  have hb := B.bytes
  have hr := B.returns
  have hts := atoms_spec (ws := wsX11_removeDrone) B.pre
  have hown : s.vm.findClass RX11 = some m.cls := findClass_of_methodNamed B.named
  have hlocks := B.notSynchronized
  have hS : va_S (mA ad s.heap.size) s.heap s.heap [] := va_S.rf
  have inX11 : ∀ w ∈ u_ws RX11 TX11 30, w ∈ wsX11_removeDrone := by decide +kernel
  have lk0 := hts (.fieldLink RX11 9 "FormationPlannerModel" "s" "[I") (by decide +kernel)
  have hl := lv_entry ([.ref (ad 0), .int a]) (n := 3) (Nat.le_of_ble_eq_true rfl)
  rw [lg_entry_eq]
  generalize (lg_sl ([.ref (ad 0), .int a]) ++ List.replicate (3 - (lg_sl ([.ref (ad 0), .int a])).length) Slot.unset).toArray = ls at hl ⊢
  have hl : lv_has ls 3 [(0, .ref (ad 0)), (1, .int a)] := hl
  obtain ⟨Q, hQ⟩ : ∃ Q, Q = MQ below (va_Qi (fun (r : Int32) (u : gIv × gAr) => RI u.1 u.2 ∧ u.1 0 4 = iv 0 4 ∧ u.1 0 17 = iv 0 17) (mPost D cy ad) (mA ad s.heap.size)) (([.ref (ad 0), .int a] : List Value).toArray) s 0 0 (mA ad s.heap.size) := ⟨_, rfl⟩
  rw [← hQ]
  obtain ⟨⟨hs1, hs2, hs3, hs4, -⟩, -⟩ := id hri.1
  refine lv_aload_n hx hb dX11_removeDrone_0 rfl (lv_at hl 0 rfl) ?_
  refine lv_iload_n hx hb dX11_removeDrone_1 rfl (lv_at hl 1 rfl) ?_
  refine g_callSi (va_runV (As := [.int a]) (rest := []) ⟨hx, hb, hml, hown, hts⟩ (c_X11_isDrone l D cy ad hI _ iv ar a ⟨hri.1.1.1, hri.1.1.2.1⟩) (cwV 1 hts gX11_removeDrone_X11_isDrone rfl rfl rfl (by decide +kernel) ⟨Nat.le_of_ble_eq_true rfl, Nat.le_of_ble_eq_true rfl⟩) (m_preV hP hK hSt hNw hS (m_at11 (Nat.le_of_ble_eq_true rfl) rfl) rfl) rfl rfl hl.1 rfl (lv_room (Nat.le_of_ble_eq_true rfl)) dX11_removeDrone_2 ⟨Nat.zero_le _, Nat.zero_le _⟩) (fun r_1 w_1 => ?_)
  try dsimp only at w_1
  refine lv_if_ne (tgt := 10) hx hb dX11_removeDrone_5 (by decide) (fun c_2 => ?_) (fun c_2 => ?_)
  · skip
    have q_2 : r_1.toInt ≠ (0 : Int) := i_ne2 (rfl : r_1.toInt = r_1.toInt) (show (0 : Int32).toInt = (0 : Int) from rfl) c_2
    refine lv_aload_n hx hb dX11_removeDrone_10 rfl (lv_at hl 0 rfl) ?_
    refine m_callv (va_runV (As := []) (rest := []) ⟨hx, hb, hml, hown, hts⟩ (c_X11_changes l D cy ad hI _ iv ar hri.2.1 hri.2.2.1 hri.1) (cwV 0 hts gX11_removeDrone_X11_changes rfl rfl rfl (by decide +kernel) ⟨Nat.le_of_ble_eq_true rfl, Nat.le_of_ble_eq_true rfl⟩) (m_preV hP hK hSt hNw hS (m_at11 (Nat.le_of_ble_eq_true rfl) rfl) rfl) rfl rfl hl.1 rfl (lv_room (Nat.le_of_ble_eq_true rfl)) dX11_removeDrone_11 ⟨Nat.zero_le _, Nat.zero_le _⟩) hS (fun iv_3 ar_3 H locs w_3 hP hS => ?_)
    try dsimp only at w_3
    obtain ⟨ci, ca, c3, cpa, cz, c15⟩ := id w_3
    refine lv_aload_n hx hb dX11_removeDrone_14 rfl (lv_at hl 0 rfl) ?_
    refine va_get (D := D) (ci := 11) (v := .ref (ad 1)) (C := RX11) (T := TX11) (N := 30) hx hb hts inX11 hown hK hP 0 (m_at11 (Nat.le_of_ble_eq_true rfl) rfl) rfl 0 (by decide) lk0 (fun _ h9 => h9) rfl dX11_removeDrone_15 ?_
    refine lv_bipush (v := 111) hx hb dX11_removeDrone_18 (by decide) ?_
    refine lv_dup2_11 hx hb dX11_removeDrone_20 rfl rfl ?_
    refine va_iald hx hb hK hP 1 0 (m_at12 (Nat.le_of_ble_eq_true rfl) rfl) rfl (g_in (N := 126) (show (111 : Int32).toInt = (111 : Int) from rfl) rfl (by omega) (by omega)) dX11_removeDrone_21 ?_
    refine lv_topi (fun v_4 ev_4 => ?_)
    have hv1 : v_4.toInt = (ar 1 111).toInt := by rw [ev_4, ca 1 (by omega) (by omega)]; rfl
    refine lv_iconst (v := 1) hx hb dX11_removeDrone_22 (by decide) ?_
    refine lv_isub hx hb dX11_removeDrone_23 ?_
    refine lv_topi (fun v_5 ev_5 => ?_)
    have tv_5 : v_5.toInt = v_4.toInt - (1 : Int) := i_sub (rfl : v_4.toInt = v_4.toInt) (show (1 : Int32).toInt = (1 : Int) from rfl) (by omega) (by omega) ev_5
    refine va_iast hx hb hK hP (mD hI) hS 1 0 (m_at12 (Nat.le_of_ble_eq_true rfl) rfl) rfl (g_in (N := 126) (show (111 : Int32).toInt = (111 : Int) from rfl) rfl (by omega) (by omega)) dX11_removeDrone_24 (fun H locs hP _ hS => ?_)
    rw [m_pt12 (Nat.le_of_ble_eq_true rfl) rfl] at hP
    obtain ⟨ar_6, ear_6⟩ : ∃ z : gAr, z = va_up ar_3 1 (upd (ar_3 1) (111 : Int32).toNatClampNeg v_5) := ⟨_, rfl⟩
    rw [← ear_6] at hP
    have hgn0 : (ar_6 1 111).toInt = (ar 1 111).toInt - 1 := by rw [ear_6, ua_s, show (111 : Int32).toNatClampNeg = 111 from rfl, pk_us]; omega
    have hga0 : ∀ c, c ≠ 1 → ar_6 c = ar_3 c := fun c h => by rw [ear_6, ua_o h]
    have hge0 : ∀ j, j ≠ 111 → ar_6 1 j = ar 1 j := fun j h => by rw [ear_6, ua_s, show (111 : Int32).toNatClampNeg = 111 from rfl, pk_un h, ca 1 (by omega) (by omega)]
    refine lv_iload_n hx hb dX11_removeDrone_25 rfl (lv_at hl 1 rfl) ?_
    refine lv_istore_n (lv' := [(2, .int a), (0, .ref (ad 0)), (1, .int a)]) hx hb dX11_removeDrone_26 rfl hl (by decide) rfl (fun ls hl => ?_)
    have loop9 : ∀ (n : Nat) (x2_7 : Int32) (ar_8 : gAr) (H : Heap) (locs : List Loc) (ls : Array Slot), ((6 - (x2_7.toInt)).toNat) < n → (0 ≤ (x2_7.toInt) ∧ (x2_7.toInt) ≤ 6) → ((ar_8 1 111).toInt = (ar 1 111).toInt - 1) → (∀ c, c ≠ 1 → ar_8 c = ar_3 c) → (∀ j, j ≠ 111 → ¬ (112 ≤ j ∧ j < 118) → ar_8 1 j = ar 1 j) → (∀ i : Nat, i < 6 → ∃ j : Nat, j < 6 ∧ ((i : Int) < (ar 1 111).toInt → (j : Int) < (ar 1 111).toInt) ∧ ar_8 1 (112 + i) = ar 1 (112 + j)) → va_P D vwCl (MW cy ad iv_3 ar_8) H → va_S (mA ad s.heap.size) s.heap H locs → lv_has ls 3 [(2, .int x2_7), (0, .ref (ad 0)), (1, .int a)] → W p l e (headSpec wsX11_removeDrone (({ frames := 2, cells := 0, slots := 0, locals := 43 } : Room))).room s m (([.ref (ad 0), .int a] : List Value).toArray) below meth c H locs 0 0 Q (F0 m 27 ls []) := by
      intro n
      induction n with
      | zero => intro x2_7 ar_8 H locs ls hm; omega
      | succ n ih9 =>
        intro x2_7 ar_8 H locs ls hm hg0 hgn hga hge hgx hP hS hl
        refine lv_iload_n hx hb dX11_removeDrone_27 rfl (lv_at hl 0 rfl) ?_
        refine lv_aload_n hx hb dX11_removeDrone_28 rfl (lv_at hl 1 rfl) ?_
        refine va_get (D := D) (ci := 11) (v := .ref (ad 1)) (C := RX11) (T := TX11) (N := 30) hx hb hts inX11 hown hK hP 0 (m_at11 (Nat.le_of_ble_eq_true rfl) rfl) rfl 0 (by decide) lk0 (fun _ h9 => h9) rfl dX11_removeDrone_29 ?_
        refine lv_bipush (v := 111) hx hb dX11_removeDrone_32 (by decide) ?_
        refine va_iald hx hb hK hP 1 0 (m_at12 (Nat.le_of_ble_eq_true rfl) rfl) rfl (g_in (N := 126) (show (111 : Int32).toInt = (111 : Int) from rfl) rfl (by omega) (by omega)) dX11_removeDrone_34 ?_
        refine lv_topi (fun v_10 ev_10 => ?_)
        have hv2 : v_10.toInt = (ar 1 111).toInt - 1 := by rw [ev_10]; exact hgn
        refine lv_icmp_ge (tgt := 64) hx hb dX11_removeDrone_35 (by decide) (fun c_11 => ?_) (fun c_11 => ?_)
        · skip
          have q_11 : v_10.toInt ≤ x2_7.toInt := i_le2 (rfl : v_10.toInt = v_10.toInt) (rfl : x2_7.toInt = x2_7.toInt) c_11
          have hri2 : RI iv_3 ar_8 := RI.chg hri (SI.shift hri.1 hge ⟨by omega, by omega⟩ hgx) c3 (fun k hk => SI.of (cpa k hk) (fun i hi => by show ar_8 2 _ = _; rw [hga 2 (by omega)])) (fun g hg => by rw [hga 6 (by omega)]; exact cz g hg) c15 (ci 0 4 (by omega)) (ci 0 17 (by omega)) (by rw [hga 7 (by omega)]; exact ca 7 (by omega) (by omega)) (by rw [hga 8 (by omega)]; exact ca 8 (by omega) (by omega))
          refine lv_aload_n hx hb dX11_removeDrone_64 rfl (lv_at hl 1 rfl) ?_
          refine va_get (D := D) (ci := 11) (v := .ref (ad 1)) (C := RX11) (T := TX11) (N := 30) hx hb hts inX11 hown hK hP 0 (m_at11 (Nat.le_of_ble_eq_true rfl) rfl) rfl 0 (by decide) lk0 (fun _ h9 => h9) rfl dX11_removeDrone_65 ?_
          refine lv_bipush (v := 111) hx hb dX11_removeDrone_68 (by decide) ?_
          refine va_iald hx hb hK hP 1 0 (m_at12 (Nat.le_of_ble_eq_true rfl) rfl) rfl (g_in (N := 126) (show (111 : Int32).toInt = (111 : Int) from rfl) rfl (by omega) (by omega)) dX11_removeDrone_70 ?_
          refine lv_topi (fun v_12 ev_12 => ?_)
          rw [hQ]
          exact W.iret (v := v_12) hx hb hr (fun t ht hW => ⟨⟨v_12, (iv_3, ar_8), rfl, ⟨hri2, ci 0 4 (by omega), ci 0 17 (by omega)⟩, by show va_P _ _ _ _; rw [ht]; exact hP⟩, hS.F ht⟩) hS.2.2 dX11_removeDrone_71
        · skip
          have q_11 : x2_7.toInt < v_10.toInt := i_nle2 (rfl : v_10.toInt = v_10.toInt) (rfl : x2_7.toInt = x2_7.toInt) c_11
          refine lv_aload_n hx hb dX11_removeDrone_38 rfl (lv_at hl 1 rfl) ?_
          refine va_get (D := D) (ci := 11) (v := .ref (ad 1)) (C := RX11) (T := TX11) (N := 30) hx hb hts inX11 hown hK hP 0 (m_at11 (Nat.le_of_ble_eq_true rfl) rfl) rfl 0 (by decide) lk0 (fun _ h9 => h9) rfl dX11_removeDrone_39 ?_
          refine lv_bipush (v := 112) hx hb dX11_removeDrone_42 (by decide) ?_
          refine lv_iload_n hx hb dX11_removeDrone_44 rfl (lv_at hl 0 rfl) ?_
          refine lv_iadd hx hb dX11_removeDrone_45 ?_
          refine lv_topi (fun v_13 ev_13 => ?_)
          have tv_13 : v_13.toInt = (112 : Int) + x2_7.toInt := i_add (show (112 : Int32).toInt = (112 : Int) from rfl) (rfl : x2_7.toInt = x2_7.toInt) (by omega) (by omega) ev_13
          refine lv_aload_n hx hb dX11_removeDrone_46 rfl (lv_at hl 1 rfl) ?_
          refine va_get (D := D) (ci := 11) (v := .ref (ad 1)) (C := RX11) (T := TX11) (N := 30) hx hb hts inX11 hown hK hP 0 (m_at11 (Nat.le_of_ble_eq_true rfl) rfl) rfl 0 (by decide) lk0 (fun _ h9 => h9) rfl dX11_removeDrone_47 ?_
          refine lv_bipush (v := 112) hx hb dX11_removeDrone_50 (by decide) ?_
          refine lv_iload_n hx hb dX11_removeDrone_52 rfl (lv_at hl 0 rfl) ?_
          refine lv_iadd hx hb dX11_removeDrone_53 ?_
          refine lv_topi (fun v_14 ev_14 => ?_)
          have tv_14 : v_14.toInt = (112 : Int) + x2_7.toInt := i_add (show (112 : Int32).toInt = (112 : Int) from rfl) (rfl : x2_7.toInt = x2_7.toInt) (by omega) (by omega) ev_14
          refine lv_iconst (v := 1) hx hb dX11_removeDrone_54 (by decide) ?_
          refine lv_iadd hx hb dX11_removeDrone_55 ?_
          refine lv_topi (fun v_15 ev_15 => ?_)
          have tv_15 : v_15.toInt = v_14.toInt + (1 : Int) := i_add (rfl : v_14.toInt = v_14.toInt) (show (1 : Int32).toInt = (1 : Int) from rfl) (by omega) (by omega) ev_15
          refine va_iald hx hb hK hP 1 0 (m_at12 (Nat.le_of_ble_eq_true rfl) rfl) rfl (g_in (N := 126) (rfl : v_15.toInt = v_15.toInt) rfl (by omega) (by omega)) dX11_removeDrone_56 ?_
          refine lv_topi (fun v_16 ev_16 => ?_)
          have hv3 : v_16 = ar_8 1 (112 + ((x2_7.toInt).toNat + 1)) := by rw [ev_16, g_cN (rfl : v_15.toInt = _), show (v_15.toInt).toNat = 112 + ((x2_7.toInt).toNat + 1) from by omega]
          refine va_iast hx hb hK hP (mD hI) hS 1 0 (m_at12 (Nat.le_of_ble_eq_true rfl) rfl) rfl (g_in (N := 126) (rfl : v_13.toInt = v_13.toInt) rfl (by omega) (by omega)) dX11_removeDrone_57 (fun H locs hP _ hS => ?_)
          rw [m_pt12 (Nat.le_of_ble_eq_true rfl) rfl] at hP
          obtain ⟨ar_17, ear_17⟩ : ∃ z : gAr, z = va_up ar_8 1 (upd (ar_8 1) v_13.toNatClampNeg v_16) := ⟨_, rfl⟩
          rw [← ear_17] at hP
          have har : ar_17 1 = upd (ar_8 1) (112 + (x2_7.toInt).toNat) v_16 := by rw [ear_17, ua_s, g_cN (rfl : v_13.toInt = _), show (v_13.toInt).toNat = 112 + (x2_7.toInt).toNat from by omega]
          have hgn2 : (ar_17 1 111).toInt = (ar 1 111).toInt - 1 := by rw [har, pk_un (show 111 ≠ 112 + (x2_7.toInt).toNat from by omega)]; exact hgn
          have hga2 : ∀ c, c ≠ 1 → ar_17 c = ar_3 c := fun c h => by rw [ear_17, ua_o h]; exact hga c h
          have hge2 : ∀ j, j ≠ 111 → ¬ (112 ≤ j ∧ j < 118) → ar_17 1 j = ar 1 j := fun j h h2 => by rw [har, pk_un (show j ≠ 112 + (x2_7.toInt).toNat from by omega)]; exact hge j h h2
          have hgx2 : ∀ i : Nat, i < 6 → ∃ j : Nat, j < 6 ∧ ((i : Int) < (ar 1 111).toInt → (j : Int) < (ar 1 111).toInt) ∧ ar_17 1 (112 + i) = ar 1 (112 + j) := fun i hi => by
            rw [har]
            by_cases e : i = (x2_7.toInt).toNat
            · rw [e, pk_us, hv3]
              obtain ⟨j, j1, j2, j3⟩ := hgx ((x2_7.toInt).toNat + 1) (by omega)
              exact ⟨j, j1, fun _ => j2 (by omega), j3⟩
            · rw [pk_un (show 112 + i ≠ 112 + (x2_7.toInt).toNat from by omega)]; exact hgx i hi
          obtain ⟨x2_18, ex2_18⟩ : ∃ y : Int32, y = x2_7 + 1 := ⟨_, rfl⟩
          have tx2_18 : x2_18.toInt = x2_7.toInt + (1 : Int) := i_add (rfl : x2_7.toInt = x2_7.toInt) (show (1 : Int32).toInt = (1 : Int) from rfl) (by omega) (by omega) ex2_18
          refine lv_iinc (v := x2_18) (lv' := [(2, .int x2_18), (0, .ref (ad 0)), (1, .int a)]) hx hb dX11_removeDrone_58 hl (k := 0) rfl (by rw [ex2_18]; rfl) (by decide) rfl (fun ls hl => ?_)
          refine lv_goto (tgt := 27) hx hb dX11_removeDrone_61 (by decide) ?_
          exact ih9 x2_18 ar_17 _ _ _ (by omega) (by omega) hgn2 hga2 hge2 hgx2 hP hS (lv_sub hl [0, 1, 2] rfl)
    exact loop9 (((6 - (a.toInt)).toNat) + 1) a ar_6 _ _ _ (by omega) (by omega) hgn0 hga0 (fun j h _ => hge0 j h) (fun i hi => ⟨i, hi, id, hge0 (112 + i) (by omega)⟩) hP hS (lv_sub hl [0, 1, 2] rfl)
  · skip
    have q_2 : r_1.toInt = (0 : Int) := i_eq2 (rfl : r_1.toInt = r_1.toInt) (show (0 : Int32).toInt = (0 : Int) from rfl) c_2
    refine lv_iconst (v := (-1)) hx hb dX11_removeDrone_8 (by decide) ?_
    rw [hQ]
    exact W.iret (v := (-1)) hx hb hr (fun t ht hW => ⟨⟨(-1), (iv, ar), rfl, ⟨hri, rfl, rfl⟩, by show va_P _ _ _ _; rw [ht]; exact hP⟩, hS.F ht⟩) hS.2.2 dX11_removeDrone_9
set_option maxHeartbeats 4000000 in
set_option maxRecDepth 100000 in
theorem c_X11_here (l : Launch) (D : va_G) (cy : Nat → ClassId) (ad : Nat → Nat) (hI : mInj ad) (sz : Nat) (iv : gIv) (ar : gAr)  (h0 : 0 ≤ (iv 0 5).toInt ∧ (iv 0 4).toInt ≤ 60) : Met l yX11_here wsX11_here ({ frames := 0, cells := 0, slots := 0, locals := 0 } : Room) (va_Pc [.ref (ad 0)] (mPre D cy ad sz iv ar)) (vp_Si (fun r => (iv 0 5).toInt < (iv 0 4).toInt ∧ r.toInt = (ar 3 (iv 0 5).toInt.toNat).toInt ∨ (iv 0 4).toInt ≤ (iv 0 5).toInt ∧ r.toInt = -1)) 0 0 (fun _ => False) := by
  refine Met.ofW (cc := cX11_here) (maxL := 1) (ret := (some .int)) (by decide) rfl ?_
  intro p e s m args below meth c s₁ B hml hv
  obtain ⟨rfl, rfl, hP, hK, hSt, hNw⟩ := hv
  have hx := B.exec
  have hb := B.bytes
  have hr := B.returns
  have hts := atoms_spec (ws := wsX11_here) B.pre
  have hown : s.vm.findClass RX11 = some m.cls := findClass_of_methodNamed B.named
  have hlocks := B.notSynchronized
  have hS : va_S (mA ad s.heap.size) s.heap s.heap [] := va_S.rf
  have inX11 : ∀ w ∈ u_ws RX11 TX11 30, w ∈ wsX11_here := by decide +kernel
  have lk0 := hts (.fieldLink RX11 108 "FormationPlannerModel" "at" "I") (by decide +kernel)
  have lk1 := hts (.fieldLink RX11 105 "FormationPlannerModel" "written" "I") (by decide +kernel)
  have lk2 := hts (.fieldLink RX11 16 "FormationPlannerModel" "text" "[I") (by decide +kernel)
  have hl := lv_entry ([.ref (ad 0)]) (n := 1) (Nat.le_of_ble_eq_true rfl)
  rw [lg_entry_eq]
  generalize (lg_sl ([.ref (ad 0)]) ++ List.replicate (1 - (lg_sl ([.ref (ad 0)])).length) Slot.unset).toArray = ls at hl ⊢
  have hl : lv_has ls 1 [(0, .ref (ad 0))] := hl
  obtain ⟨Q, hQ⟩ : ∃ Q, Q = MQ below (vp_Si (fun r => (iv 0 5).toInt < (iv 0 4).toInt ∧ r.toInt = (ar 3 (iv 0 5).toInt.toNat).toInt ∨ (iv 0 4).toInt ≤ (iv 0 5).toInt ∧ r.toInt = -1)) (([.ref (ad 0)] : List Value).toArray) s 0 0 (fun _ => False) := ⟨_, rfl⟩
  rw [← hQ]
  refine lv_aload_n hx hb dX11_here_0 rfl (lv_at hl 0 rfl) ?_
  refine va_get (D := D) (ci := 11) (v := .int (iv 0 5)) (C := RX11) (T := TX11) (N := 30) hx hb hts inX11 hown hK hP 0 (m_at11 (Nat.le_of_ble_eq_true rfl) rfl) rfl 5 (by decide) lk0 (fun _ h9 => h9) rfl dX11_here_1 ?_
  refine lv_aload_n hx hb dX11_here_4 rfl (lv_at hl 0 rfl) ?_
  refine va_get (D := D) (ci := 11) (v := .int (iv 0 4)) (C := RX11) (T := TX11) (N := 30) hx hb hts inX11 hown hK hP 0 (m_at11 (Nat.le_of_ble_eq_true rfl) rfl) rfl 4 (by decide) lk1 (fun _ h9 => h9) rfl dX11_here_5 ?_
  refine lv_icmp_ge (tgt := 23) hx hb dX11_here_8 (by decide) (fun c_1 => ?_) (fun c_1 => ?_)
  · skip
    have q_1 : (iv 0 4).toInt ≤ (iv 0 5).toInt := i_le2 (rfl : (iv 0 4).toInt = (iv 0 4).toInt) (rfl : (iv 0 5).toInt = (iv 0 5).toInt) c_1
    refine lv_iconst (v := (-1)) hx hb dX11_here_23 (by decide) ?_
    rw [hQ]
    exact W.iret (v := (-1)) hx hb hr (fun t ht hW => ⟨(-1), rfl, by have zm := i_m1; omega, ht⟩) (fun q h => by cases h) dX11_here_24
  · skip
    have q_1 : (iv 0 5).toInt < (iv 0 4).toInt := i_nle2 (rfl : (iv 0 4).toInt = (iv 0 4).toInt) (rfl : (iv 0 5).toInt = (iv 0 5).toInt) c_1
    refine lv_aload_n hx hb dX11_here_11 rfl (lv_at hl 0 rfl) ?_
    refine va_get (D := D) (ci := 11) (v := .ref (ad 3)) (C := RX11) (T := TX11) (N := 30) hx hb hts inX11 hown hK hP 0 (m_at11 (Nat.le_of_ble_eq_true rfl) rfl) rfl 2 (by decide) lk2 (fun _ h9 => h9) rfl dX11_here_12 ?_
    refine lv_aload_n hx hb dX11_here_15 rfl (lv_at hl 0 rfl) ?_
    refine va_get (D := D) (ci := 11) (v := .int (iv 0 5)) (C := RX11) (T := TX11) (N := 30) hx hb hts inX11 hown hK hP 0 (m_at11 (Nat.le_of_ble_eq_true rfl) rfl) rfl 5 (by decide) lk0 (fun _ h9 => h9) rfl dX11_here_16 ?_
    refine va_iald hx hb hK hP 3 0 (m_at12 (Nat.le_of_ble_eq_true rfl) rfl) rfl (g_in (N := 60) (rfl : (iv 0 5).toInt = (iv 0 5).toInt) rfl (by omega) (by omega)) dX11_here_19 ?_
    refine lv_topi (fun v_2 ev_2 => ?_)
    have hv1 : v_2.toInt = (ar 3 (iv 0 5).toInt.toNat).toInt := by rw [ev_2, g_cN (rfl : (iv 0 5).toInt = _)]
    refine lv_goto (tgt := 24) hx hb dX11_here_20 (by decide) ?_
    rw [hQ]
    exact W.iret (v := v_2) hx hb hr (fun t ht hW => ⟨v_2, rfl, by have zm := i_m1; omega, ht⟩) (fun q h => by cases h) dX11_here_24
set_option maxHeartbeats 4000000 in
set_option maxRecDepth 100000 in
theorem c_X11_readsAll (l : Launch) (D : va_G) (cy : Nat → ClassId) (ad : Nat → Nat) (hI : mInj ad) (sz : Nat) (iv : gIv) (ar : gAr)  (hw0 : 0 ≤ (iv 0 4).toInt ∧ (iv 0 4).toInt ≤ 60) : Met l yX11_readsAll wsX11_readsAll ({ frames := 1, cells := 0, slots := 0, locals := 22 } : Room) (va_Pc [.ref (ad 0)] (mPre D cy ad sz iv ar)) (va_Qi (fun (r : Int32) (u : gIv × gAr) => (∀ x y, ¬ (x = 0 ∧ y = 5) → u.1 x y = iv x y) ∧ (∀ c, c ≠ 4 → u.2 c = ar c) ∧ (0 ≤ (u.1 0 5).toInt ∧ (u.1 0 5).toInt ≤ 60) ∧ (r.toInt = -1 ∨ 1 ≤ r.toInt ∧ r.toInt ≤ 20) ∧ ∀ k : Nat, (k : Int) < r.toInt → 0 ≤ (u.2 4 k).toInt ∧ (u.2 4 k).toInt < 108) (mPost D cy ad) (mA ad sz)) 0 0 (mA ad sz) := by
  refine Met.ofW (cc := cX11_readsAll) (maxL := 5) (ret := (some .int)) (by decide) rfl ?_
  intro p e s m args below meth c s₁ B hml hv
  obtain ⟨rfl, rfl, hP, hK, hSt, hNw⟩ := hv
  have hx := B.exec
  have hb := B.bytes
  have hr := B.returns
  have hts := atoms_spec (ws := wsX11_readsAll) B.pre
  have hown : s.vm.findClass RX11 = some m.cls := findClass_of_methodNamed B.named
  have hlocks := B.notSynchronized
  have hS : va_S (mA ad s.heap.size) s.heap s.heap [] := va_S.rf
  have inX11 : ∀ w ∈ u_ws RX11 TX11 30, w ∈ wsX11_readsAll := by decide +kernel
  have lk0 := hts (.fieldLink RX11 108 "FormationPlannerModel" "at" "I") (by decide +kernel)
  have lk1 := hts (.fieldLink RX11 19 "FormationPlannerModel" "read" "[I") (by decide +kernel)
  have lk2 := hts (.fieldLink RX11 105 "FormationPlannerModel" "written" "I") (by decide +kernel)
  have hl := lv_entry ([.ref (ad 0)]) (n := 5) (Nat.le_of_ble_eq_true rfl)
  rw [lg_entry_eq]
  generalize (lg_sl ([.ref (ad 0)]) ++ List.replicate (5 - (lg_sl ([.ref (ad 0)])).length) Slot.unset).toArray = ls at hl ⊢
  have hl : lv_has ls 5 [(0, .ref (ad 0))] := hl
  obtain ⟨Q, hQ⟩ : ∃ Q, Q = MQ below (va_Qi (fun (r : Int32) (u : gIv × gAr) => (∀ x y, ¬ (x = 0 ∧ y = 5) → u.1 x y = iv x y) ∧ (∀ c, c ≠ 4 → u.2 c = ar c) ∧ (0 ≤ (u.1 0 5).toInt ∧ (u.1 0 5).toInt ≤ 60) ∧ (r.toInt = -1 ∨ 1 ≤ r.toInt ∧ r.toInt ≤ 20) ∧ ∀ k : Nat, (k : Int) < r.toInt → 0 ≤ (u.2 4 k).toInt ∧ (u.2 4 k).toInt < 108) (mPost D cy ad) (mA ad s.heap.size)) (([.ref (ad 0)] : List Value).toArray) s 0 0 (mA ad s.heap.size) := ⟨_, rfl⟩
  rw [← hQ]
  refine lv_aload_n hx hb dX11_readsAll_0 rfl (lv_at hl 0 rfl) ?_
  refine lv_iconst (v := 0) hx hb dX11_readsAll_1 (by decide) ?_
  refine va_put (D := D) (ci := 11) (v := .int 0) (ty := .int) (C := RX11) (T := TX11) (N := 30) hx hb hts inX11 tyX11 tyX11_ok nmX11 hown hK hP (mD hI) hS 0 (m_at11 (Nat.le_of_ble_eq_true rfl) rfl) rfl 5 (by decide) lk0 (fun _ h9 => h9) rfl (by decide +kernel) rfl rfl (Nat.le_of_ble_eq_true rfl) dX11_readsAll_2 (fun H locs hP _ hS => ?_)
  have hP : va_P D vwCl (MW cy ad (u2 iv 0 5 0) ar) H := by rw [← m_pt11_5 (Nat.le_of_ble_eq_true rfl) rfl]; exact hP
  obtain ⟨iv_1, eiv_1⟩ : ∃ z : gIv, z = u2 iv 0 5 0 := ⟨_, rfl⟩
  rw [← eiv_1] at hP
  have hgi0 : ∀ x y, ¬ (x = 0 ∧ y = 5) → iv_1 x y = iv x y := fun x y h => by rw [eiv_1, u2_o h]
  have hg50 : (iv_1 0 5).toInt = 0 := by rw [eiv_1, u2_s]; rfl
  have hgw0 : (iv_1 0 4).toInt = (iv 0 4).toInt := by rw [hgi0 0 4 (by omega)]
  refine lv_iconst (v := 0) hx hb dX11_readsAll_5 (by decide) ?_
  refine lv_istore_n (lv' := [(1, .int 0), (0, .ref (ad 0))]) hx hb dX11_readsAll_6 rfl hl (by decide) rfl (fun ls hl => ?_)
  have loop4 : ∀ (n : Nat) (x1_2 : Int32) (iv_3 : gIv) (ar_3 : gAr) (H : Heap) (locs : List Loc) (ls : Array Slot), (((iv 0 4).toInt - (iv_3 0 5).toInt).toNat) < n → (0 ≤ (x1_2.toInt) ∧ 3 * (x1_2.toInt) ≤ (iv_3 0 5).toInt ∧ (iv_3 0 5).toInt ≤ (iv 0 4).toInt) → ((iv_3 0 4).toInt = (iv 0 4).toInt) → (∀ x y, ¬ (x = 0 ∧ y = 5) → iv_3 x y = iv x y) → (∀ c, c ≠ 4 → ar_3 c = ar c) → (∀ k : Nat, (k : Int) < (x1_2.toInt) → 0 ≤ (ar_3 4 k).toInt ∧ (ar_3 4 k).toInt < 108) → va_P D vwCl (MW cy ad iv_3 ar_3) H → va_S (mA ad s.heap.size) s.heap H locs → lv_has ls 5 [(1, .int x1_2), (0, .ref (ad 0))] → W p l e (headSpec wsX11_readsAll (({ frames := 1, cells := 0, slots := 0, locals := 22 } : Room))).room s m (([.ref (ad 0)] : List Value).toArray) below meth c H locs 0 0 Q (F0 m 7 ls []) := by
    intro n
    induction n with
    | zero => intro x1_2 iv_3 ar_3 H locs ls hm; omega
    | succ n ih4 =>
      intro x1_2 iv_3 ar_3 H locs ls hm hg0 hgw hgi hga hgr hP hS hl
      refine lv_aload_n hx hb dX11_readsAll_7 rfl (lv_at hl 1 rfl) ?_
      refine g_callSi (va_runV (As := []) (rest := []) ⟨hx, hb, hml, hown, hts⟩ (c_X11_here l D cy ad hI _ iv_3 ar_3 (by omega)) (cwV 0 hts gX11_readsAll_X11_here rfl rfl rfl (by decide +kernel) ⟨Nat.le_of_ble_eq_true rfl, Nat.le_of_ble_eq_true rfl⟩) (m_preV hP hK hSt hNw hS (m_at11 (Nat.le_of_ble_eq_true rfl) rfl) rfl) rfl rfl hl.1 rfl (lv_room (Nat.le_of_ble_eq_true rfl)) dX11_readsAll_8 ⟨Nat.zero_le _, Nat.zero_le _⟩) (fun r_5 w_5 => ?_)
      try dsimp only at w_5
      skip
      refine lv_bipush (v := 97) hx hb dX11_readsAll_11 (by decide) ?_
      refine lv_bipush (v := 102) hx hb dX11_readsAll_13 (by decide) ?_
      have zl_6 : (97 : Int32).toInt = (97 : Int) := rfl
      have zl_7 : (102 : Int32).toInt = (102 : Int) := rfl
      refine g_callSi (va_runS (As := [.int r_5, .int 97, .int 102]) (rest := []) ⟨hx, hb, hml, hown, hts⟩ (c_X11_isIn l r_5 97 102) (va_cwS 3 hts gX11_readsAll_X11_isIn rfl rfl rfl (by decide +kernel) ⟨Nat.le_of_ble_eq_true rfl, Nat.le_of_ble_eq_true rfl⟩) (g_preT) rfl rfl hl.1 rfl (lv_room (Nat.le_of_ble_eq_true rfl)) dX11_readsAll_15 ⟨Nat.zero_le _, Nat.zero_le _⟩) (fun r_8 w_8 => ?_)
      try dsimp only at w_8
      refine lv_if_ne (tgt := 23) hx hb dX11_readsAll_18 (by decide) (fun c_9 => ?_) (fun c_9 => ?_)
      · skip
        have q_9 : r_8.toInt ≠ (0 : Int) := i_ne2 (rfl : r_8.toInt = r_8.toInt) (show (0 : Int32).toInt = (0 : Int) from rfl) c_9
        refine lv_aload_n hx hb dX11_readsAll_23 rfl (lv_at hl 1 rfl) ?_
        refine g_callSi (va_runV (As := []) (rest := []) ⟨hx, hb, hml, hown, hts⟩ (c_X11_here l D cy ad hI _ iv_3 ar_3 (by omega)) (cwV 0 hts gX11_readsAll_X11_here rfl rfl rfl (by decide +kernel) ⟨Nat.le_of_ble_eq_true rfl, Nat.le_of_ble_eq_true rfl⟩) (m_preV hP hK hSt hNw hS (m_at11 (Nat.le_of_ble_eq_true rfl) rfl) rfl) rfl rfl hl.1 rfl (lv_room (Nat.le_of_ble_eq_true rfl)) dX11_readsAll_24 ⟨Nat.zero_le _, Nat.zero_le _⟩) (fun r_10 w_10 => ?_)
        try dsimp only at w_10
        refine lv_bipush (v := 97) hx hb dX11_readsAll_27 (by decide) ?_
        refine lv_isub hx hb dX11_readsAll_29 ?_
        refine lv_topi (fun v_11 ev_11 => ?_)
        have rg_12 := i_rng r_10
        have tv_11 : v_11.toInt = r_10.toInt - (97 : Int) := i_sub (rfl : r_10.toInt = r_10.toInt) (show (97 : Int32).toInt = (97 : Int) from rfl) (by omega) (by omega) ev_11
        refine lv_istore_n (lv' := [(2, .int v_11), (1, .int x1_2), (0, .ref (ad 0))]) hx hb dX11_readsAll_30 rfl hl (by decide) rfl (fun ls hl => ?_)
        refine lv_aload_n hx hb dX11_readsAll_31 rfl (lv_at hl 2 rfl) ?_
        refine lv_dup hx hb dX11_readsAll_32 rfl ?_
        refine va_get (D := D) (ci := 11) (v := .int (iv_3 0 5)) (C := RX11) (T := TX11) (N := 30) hx hb hts inX11 hown hK hP 0 (m_at11 (Nat.le_of_ble_eq_true rfl) rfl) rfl 5 (by decide) lk0 (fun _ h9 => h9) rfl dX11_readsAll_33 ?_
        refine lv_iconst (v := 1) hx hb dX11_readsAll_36 (by decide) ?_
        refine lv_iadd hx hb dX11_readsAll_37 ?_
        refine lv_topi (fun v_13 ev_13 => ?_)
        have tv_13 : v_13.toInt = ((iv_3 0 5).toInt) + (1 : Int) := i_add (rfl : (iv_3 0 5).toInt = (iv_3 0 5).toInt) (show (1 : Int32).toInt = (1 : Int) from rfl) (by omega) (by omega) ev_13
        refine va_put (D := D) (ci := 11) (v := .int v_13) (ty := .int) (C := RX11) (T := TX11) (N := 30) hx hb hts inX11 tyX11 tyX11_ok nmX11 hown hK hP (mD hI) hS 0 (m_at11 (Nat.le_of_ble_eq_true rfl) rfl) rfl 5 (by decide) lk0 (fun _ h9 => h9) rfl (by decide +kernel) rfl rfl (Nat.le_of_ble_eq_true rfl) dX11_readsAll_38 (fun H locs hP _ hS => ?_)
        have hP : va_P D vwCl (MW cy ad (u2 iv_3 0 5 v_13) ar_3) H := by rw [← m_pt11_5 (Nat.le_of_ble_eq_true rfl) rfl]; exact hP
        obtain ⟨iv_14, eiv_14⟩ : ∃ z : gIv, z = u2 iv_3 0 5 v_13 := ⟨_, rfl⟩
        rw [← eiv_14] at hP
        have hgi1 : ∀ x y, ¬ (x = 0 ∧ y = 5) → iv_14 x y = iv x y := fun x y h => by rw [eiv_14, u2_o h]; exact hgi x y h
        have hga1 : (iv_14 0 5).toInt = (iv_3 0 5).toInt + 1 := by rw [eiv_14, u2_s]; omega
        have hgw1 : (iv_14 0 4).toInt = (iv 0 4).toInt := by rw [hgi1 0 4 (by omega)]
        refine lv_aload_n hx hb dX11_readsAll_41 rfl (lv_at hl 2 rfl) ?_
        refine g_callSi (va_runV (As := []) (rest := []) ⟨hx, hb, hml, hown, hts⟩ (c_X11_here l D cy ad hI _ iv_14 ar_3 (by omega)) (cwV 0 hts gX11_readsAll_X11_here rfl rfl rfl (by decide +kernel) ⟨Nat.le_of_ble_eq_true rfl, Nat.le_of_ble_eq_true rfl⟩) (m_preV hP hK hSt hNw hS (m_at11 (Nat.le_of_ble_eq_true rfl) rfl) rfl) rfl rfl hl.1 rfl (lv_room (Nat.le_of_ble_eq_true rfl)) dX11_readsAll_42 ⟨Nat.zero_le _, Nat.zero_le _⟩) (fun r_15 w_15 => ?_)
        try dsimp only at w_15
        refine lv_bipush (v := 49) hx hb dX11_readsAll_45 (by decide) ?_
        refine lv_bipush (v := 54) hx hb dX11_readsAll_47 (by decide) ?_
        have zl_16 : (49 : Int32).toInt = (49 : Int) := rfl
        have zl_17 : (54 : Int32).toInt = (54 : Int) := rfl
        refine g_callSi (va_runS (As := [.int r_15, .int 49, .int 54]) (rest := []) ⟨hx, hb, hml, hown, hts⟩ (c_X11_isIn l r_15 49 54) (va_cwS 3 hts gX11_readsAll_X11_isIn rfl rfl rfl (by decide +kernel) ⟨Nat.le_of_ble_eq_true rfl, Nat.le_of_ble_eq_true rfl⟩) (g_preT) rfl rfl hl.1 rfl (lv_room (Nat.le_of_ble_eq_true rfl)) dX11_readsAll_49 ⟨Nat.zero_le _, Nat.zero_le _⟩) (fun r_18 w_18 => ?_)
        try dsimp only at w_18
        refine lv_if_ne (tgt := 57) hx hb dX11_readsAll_52 (by decide) (fun c_19 => ?_) (fun c_19 => ?_)
        · skip
          have q_19 : r_18.toInt ≠ (0 : Int) := i_ne2 (rfl : r_18.toInt = r_18.toInt) (show (0 : Int32).toInt = (0 : Int) from rfl) c_19
          refine lv_aload_n hx hb dX11_readsAll_57 rfl (lv_at hl 2 rfl) ?_
          refine g_callSi (va_runV (As := []) (rest := []) ⟨hx, hb, hml, hown, hts⟩ (c_X11_here l D cy ad hI _ iv_14 ar_3 (by omega)) (cwV 0 hts gX11_readsAll_X11_here rfl rfl rfl (by decide +kernel) ⟨Nat.le_of_ble_eq_true rfl, Nat.le_of_ble_eq_true rfl⟩) (m_preV hP hK hSt hNw hS (m_at11 (Nat.le_of_ble_eq_true rfl) rfl) rfl) rfl rfl hl.1 rfl (lv_room (Nat.le_of_ble_eq_true rfl)) dX11_readsAll_58 ⟨Nat.zero_le _, Nat.zero_le _⟩) (fun r_20 w_20 => ?_)
          try dsimp only at w_20
          refine lv_bipush (v := 49) hx hb dX11_readsAll_61 (by decide) ?_
          refine lv_isub hx hb dX11_readsAll_63 ?_
          refine lv_topi (fun v_21 ev_21 => ?_)
          have rg_22 := i_rng r_20
          have tv_21 : v_21.toInt = r_20.toInt - (49 : Int) := i_sub (rfl : r_20.toInt = r_20.toInt) (show (49 : Int32).toInt = (49 : Int) from rfl) (by omega) (by omega) ev_21
          refine lv_istore_n (lv' := [(3, .int v_21), (2, .int v_11), (1, .int x1_2), (0, .ref (ad 0))]) hx hb dX11_readsAll_64 rfl hl (by decide) rfl (fun ls hl => ?_)
          refine lv_aload_n hx hb dX11_readsAll_65 rfl (lv_at hl 3 rfl) ?_
          refine lv_dup hx hb dX11_readsAll_66 rfl ?_
          refine va_get (D := D) (ci := 11) (v := .int (iv_14 0 5)) (C := RX11) (T := TX11) (N := 30) hx hb hts inX11 hown hK hP 0 (m_at11 (Nat.le_of_ble_eq_true rfl) rfl) rfl 5 (by decide) lk0 (fun _ h9 => h9) rfl dX11_readsAll_67 ?_
          have f_23 : iv_14 0 5 = v_13 := by rw [eiv_14]; exact u2_s _ _ _ _
          refine lv_iconst (v := 1) hx hb dX11_readsAll_70 (by decide) ?_
          refine lv_iadd hx hb dX11_readsAll_71 ?_
          refine lv_topi (fun v_24 ev_24 => ?_)
          have tv_24 : v_24.toInt = v_13.toInt + (1 : Int) := i_add ((congrArg Int32.toInt f_23).trans (rfl : v_13.toInt = v_13.toInt)) (show (1 : Int32).toInt = (1 : Int) from rfl) (by omega) (by omega) ev_24
          refine va_put (D := D) (ci := 11) (v := .int v_24) (ty := .int) (C := RX11) (T := TX11) (N := 30) hx hb hts inX11 tyX11 tyX11_ok nmX11 hown hK hP (mD hI) hS 0 (m_at11 (Nat.le_of_ble_eq_true rfl) rfl) rfl 5 (by decide) lk0 (fun _ h9 => h9) rfl (by decide +kernel) rfl rfl (Nat.le_of_ble_eq_true rfl) dX11_readsAll_72 (fun H locs hP _ hS => ?_)
          have hP : va_P D vwCl (MW cy ad (u2 iv_14 0 5 v_24) ar_3) H := by rw [← m_pt11_5 (Nat.le_of_ble_eq_true rfl) rfl]; exact hP
          obtain ⟨iv_25, eiv_25⟩ : ∃ z : gIv, z = u2 iv_14 0 5 v_24 := ⟨_, rfl⟩
          rw [← eiv_25] at hP
          have hgi2 : ∀ x y, ¬ (x = 0 ∧ y = 5) → iv_25 x y = iv x y := fun x y h => by rw [eiv_25, u2_o h]; exact hgi1 x y h
          have hga2 : (iv_25 0 5).toInt = (iv_14 0 5).toInt + 1 := by rw [eiv_25, u2_s]; omega
          have hgw2 : (iv_25 0 4).toInt = (iv 0 4).toInt := by rw [hgi2 0 4 (by omega)]
          refine lv_iconst (v := 0) hx hb dX11_readsAll_75 (by decide) ?_
          refine lv_istore (lv' := [(4, .int 0), (3, .int v_21), (2, .int v_11), (1, .int x1_2), (0, .ref (ad 0))]) hx hb dX11_readsAll_76 hl (by decide) rfl (fun ls hl => ?_)
          have loop28 : ∀ (n : Nat) (x4_26 : Int32) (iv_27 : gIv) (ar_27 : gAr) (H : Heap) (locs : List Loc) (ls : Array Slot), ((2 - (x4_26.toInt)).toNat) < n → (0 ≤ (x4_26.toInt) ∧ (x4_26.toInt) ≤ 2) → (3 * (x1_2.toInt) + 2 ≤ (iv_27 0 5).toInt ∧ (iv_27 0 5).toInt ≤ (iv 0 4).toInt ∧ (iv_3 0 5).toInt + 2 ≤ (iv_27 0 5).toInt) → ((iv_27 0 4).toInt = (iv 0 4).toInt) → (∀ x y, ¬ (x = 0 ∧ y = 5) → iv_27 x y = iv x y) → (∀ c, c ≠ 4 → ar_27 c = ar c) → (∀ k : Nat, (k : Int) < (x1_2.toInt) → 0 ≤ (ar_27 4 k).toInt ∧ (ar_27 4 k).toInt < 108) → va_P D vwCl (MW cy ad iv_27 ar_27) H → va_S (mA ad s.heap.size) s.heap H locs → lv_has ls 5 [(4, .int x4_26), (3, .int v_21), (2, .int v_11), (1, .int x1_2), (0, .ref (ad 0))] → W p l e (headSpec wsX11_readsAll (({ frames := 1, cells := 0, slots := 0, locals := 22 } : Room))).room s m (([.ref (ad 0)] : List Value).toArray) below meth c H locs 0 0 Q (F0 m 78 ls []) := by
            intro n
            induction n with
            | zero => intro x4_26 iv_27 ar_27 H locs ls hm; omega
            | succ n ih28 =>
              intro x4_26 iv_27 ar_27 H locs ls hm hp0 hp5 hpw hpi hpa hpr hP hS hl
              refine lv_iload hx hb dX11_readsAll_78 (lv_at hl 0 rfl) ?_
              refine lv_iconst (v := 2) hx hb dX11_readsAll_80 (by decide) ?_
              refine lv_icmp_ge (tgt := 109) hx hb dX11_readsAll_81 (by decide) (fun c_29 => ?_) (fun c_29 => ?_)
              · skip
                have q_29 : (2 : Int) ≤ x4_26.toInt := i_le2 (show (2 : Int32).toInt = (2 : Int) from rfl) (rfl : x4_26.toInt = x4_26.toInt) c_29
                refine lv_aload_n hx hb dX11_readsAll_109 rfl (lv_at hl 4 rfl) ?_
                refine va_get (D := D) (ci := 11) (v := .ref (ad 4)) (C := RX11) (T := TX11) (N := 30) hx hb hts inX11 hown hK hP 0 (m_at11 (Nat.le_of_ble_eq_true rfl) rfl) rfl 6 (by decide) lk1 (fun _ h9 => h9) rfl dX11_readsAll_110 ?_
                refine lv_iload_n hx hb dX11_readsAll_113 rfl (lv_at hl 3 rfl) ?_
                refine lv_iload_n hx hb dX11_readsAll_114 rfl (lv_at hl 2 rfl) ?_
                refine lv_bipush (v := 6) hx hb dX11_readsAll_115 (by decide) ?_
                refine lv_iload_n hx hb dX11_readsAll_117 rfl (lv_at hl 1 rfl) ?_
                refine lv_imul hx hb dX11_readsAll_118 ?_
                refine lv_topi (fun v_30 ev_30 => ?_)
                have rg_31 := i_rng v_21
                have tv_30 : v_30.toInt = (6 : Int) * v_21.toInt := i_mul (show (6 : Int32).toInt = (6 : Int) from rfl) (rfl : v_21.toInt = v_21.toInt) (by omega) (by omega) ev_30
                refine lv_iadd hx hb dX11_readsAll_119 ?_
                refine lv_topi (fun v_32 ev_32 => ?_)
                have rg_33 := i_rng v_11
                have rg_34 := i_rng v_30
                have tv_32 : v_32.toInt = v_11.toInt + v_30.toInt := i_add (rfl : v_11.toInt = v_11.toInt) (rfl : v_30.toInt = v_30.toInt) (by omega) (by omega) ev_32
                refine lv_bipush (v := 36) hx hb dX11_readsAll_120 (by decide) ?_
                refine lv_iload hx hb dX11_readsAll_122 (lv_at hl 0 rfl) ?_
                refine lv_imul hx hb dX11_readsAll_124 ?_
                refine lv_topi (fun v_35 ev_35 => ?_)
                have tv_35 : v_35.toInt = (36 : Int) * x4_26.toInt := i_mul (show (36 : Int32).toInt = (36 : Int) from rfl) (rfl : x4_26.toInt = x4_26.toInt) (by omega) (by omega) ev_35
                refine lv_iadd hx hb dX11_readsAll_125 ?_
                refine lv_topi (fun v_36 ev_36 => ?_)
                have rg_37 := i_rng v_32
                have tv_36 : v_36.toInt = v_32.toInt + v_35.toInt := i_add (rfl : v_32.toInt = v_32.toInt) (rfl : v_35.toInt = v_35.toInt) (by omega) (by omega) ev_36
                refine va_iast hx hb hK hP (mD hI) hS 4 0 (m_at12 (Nat.le_of_ble_eq_true rfl) rfl) rfl (g_in (N := 60) (rfl : x1_2.toInt = x1_2.toInt) rfl (by omega) (by omega)) dX11_readsAll_126 (fun H locs hP _ hS => ?_)
                rw [m_pt12 (Nat.le_of_ble_eq_true rfl) rfl] at hP
                obtain ⟨ar_38, ear_38⟩ : ∃ z : gAr, z = va_up ar_27 4 (upd (ar_27 4) x1_2.toNatClampNeg v_36) := ⟨_, rfl⟩
                rw [← ear_38] at hP
                have har : ar_38 4 = upd (ar_27 4) (x1_2.toInt).toNat v_36 := by rw [ear_38, ua_s, g_cN (rfl : x1_2.toInt = _)]
                have hga5 : ∀ c, c ≠ 4 → ar_38 c = ar c := fun c h => by rw [ear_38, ua_o h]; exact hpa c h
                have hgr5 : ∀ k : Nat, (k : Int) < (x1_2.toInt) + 1 → 0 ≤ (ar_38 4 k).toInt ∧ (ar_38 4 k).toInt < 108 := fun k hk => by
                  rw [har]
                  by_cases e : k = (x1_2.toInt).toNat
                  · rw [e, pk_us]; omega
                  · rw [pk_un e]; exact hpr k (by omega)
                obtain ⟨x1_39, ex1_39⟩ : ∃ y : Int32, y = x1_2 + 1 := ⟨_, rfl⟩
                have tx1_39 : x1_39.toInt = x1_2.toInt + (1 : Int) := i_add (rfl : x1_2.toInt = x1_2.toInt) (show (1 : Int32).toInt = (1 : Int) from rfl) (by omega) (by omega) ex1_39
                refine lv_iinc (v := x1_39) (lv' := [(1, .int x1_39), (4, .int x4_26), (3, .int v_21), (2, .int v_11), (0, .ref (ad 0))]) hx hb dX11_readsAll_127 hl (k := 3) rfl (by rw [ex1_39]; rfl) (by decide) rfl (fun ls hl => ?_)
                refine lv_aload_n hx hb dX11_readsAll_130 rfl (lv_at hl 4 rfl) ?_
                refine va_get (D := D) (ci := 11) (v := .int (iv_27 0 5)) (C := RX11) (T := TX11) (N := 30) hx hb hts inX11 hown hK hP 0 (m_at11 (Nat.le_of_ble_eq_true rfl) rfl) rfl 5 (by decide) lk0 (fun _ h9 => h9) rfl dX11_readsAll_131 ?_
                refine lv_aload_n hx hb dX11_readsAll_134 rfl (lv_at hl 4 rfl) ?_
                refine va_get (D := D) (ci := 11) (v := .int (iv_27 0 4)) (C := RX11) (T := TX11) (N := 30) hx hb hts inX11 hown hK hP 0 (m_at11 (Nat.le_of_ble_eq_true rfl) rfl) rfl 4 (by decide) lk2 (fun _ h9 => h9) rfl dX11_readsAll_135 ?_
                refine lv_icmp_ne (tgt := 143) hx hb dX11_readsAll_138 (by decide) (fun c_40 => ?_) (fun c_40 => ?_)
                · skip
                  have q_40 : (iv_27 0 5).toInt ≠ (iv_27 0 4).toInt := i_ne2 (rfl : (iv_27 0 5).toInt = (iv_27 0 5).toInt) (rfl : (iv_27 0 4).toInt = (iv_27 0 4).toInt) c_40
                  refine lv_aload_n hx hb dX11_readsAll_143 rfl (lv_at hl 4 rfl) ?_
                  refine g_callSi (va_runV (As := []) (rest := []) ⟨hx, hb, hml, hown, hts⟩ (c_X11_here l D cy ad hI _ iv_27 ar_38 (by omega)) (cwV 0 hts gX11_readsAll_X11_here rfl rfl rfl (by decide +kernel) ⟨Nat.le_of_ble_eq_true rfl, Nat.le_of_ble_eq_true rfl⟩) (m_preV hP hK hSt hNw hS (m_at11 (Nat.le_of_ble_eq_true rfl) rfl) rfl) rfl rfl hl.1 rfl (lv_room (Nat.le_of_ble_eq_true rfl)) dX11_readsAll_144 ⟨Nat.zero_le _, Nat.zero_le _⟩) (fun r_41 w_41 => ?_)
                  try dsimp only at w_41
                  refine lv_bipush (v := 32) hx hb dX11_readsAll_147 (by decide) ?_
                  refine lv_icmp_eq (tgt := 154) hx hb dX11_readsAll_149 (by decide) (fun c_42 => ?_) (fun c_42 => ?_)
                  · skip
                    have q_42 : r_41.toInt = (32 : Int) := i_eq2 (rfl : r_41.toInt = r_41.toInt) (show (32 : Int32).toInt = (32 : Int) from rfl) c_42
                    refine lv_aload_n hx hb dX11_readsAll_154 rfl (lv_at hl 4 rfl) ?_
                    refine lv_dup hx hb dX11_readsAll_155 rfl ?_
                    refine va_get (D := D) (ci := 11) (v := .int (iv_27 0 5)) (C := RX11) (T := TX11) (N := 30) hx hb hts inX11 hown hK hP 0 (m_at11 (Nat.le_of_ble_eq_true rfl) rfl) rfl 5 (by decide) lk0 (fun _ h9 => h9) rfl dX11_readsAll_156 ?_
                    refine lv_iconst (v := 1) hx hb dX11_readsAll_159 (by decide) ?_
                    refine lv_iadd hx hb dX11_readsAll_160 ?_
                    refine lv_topi (fun v_43 ev_43 => ?_)
                    have tv_43 : v_43.toInt = ((iv_27 0 5).toInt) + (1 : Int) := i_add (rfl : (iv_27 0 5).toInt = (iv_27 0 5).toInt) (show (1 : Int32).toInt = (1 : Int) from rfl) (by omega) (by omega) ev_43
                    refine va_put (D := D) (ci := 11) (v := .int v_43) (ty := .int) (C := RX11) (T := TX11) (N := 30) hx hb hts inX11 tyX11 tyX11_ok nmX11 hown hK hP (mD hI) hS 0 (m_at11 (Nat.le_of_ble_eq_true rfl) rfl) rfl 5 (by decide) lk0 (fun _ h9 => h9) rfl (by decide +kernel) rfl rfl (Nat.le_of_ble_eq_true rfl) dX11_readsAll_161 (fun H locs hP _ hS => ?_)
                    have hP : va_P D vwCl (MW cy ad (u2 iv_27 0 5 v_43) ar_38) H := by rw [← m_pt11_5 (Nat.le_of_ble_eq_true rfl) rfl]; exact hP
                    obtain ⟨iv_44, eiv_44⟩ : ∃ z : gIv, z = u2 iv_27 0 5 v_43 := ⟨_, rfl⟩
                    rw [← eiv_44] at hP
                    have hgi4 : ∀ x y, ¬ (x = 0 ∧ y = 5) → iv_44 x y = iv x y := fun x y h => by rw [eiv_44, u2_o h]; exact hpi x y h
                    have hga4 : (iv_44 0 5).toInt = (iv_27 0 5).toInt + 1 := by rw [eiv_44, u2_s]; omega
                    have hgw4 : (iv_44 0 4).toInt = (iv 0 4).toInt := by rw [hgi4 0 4 (by omega)]
                    refine lv_goto (tgt := 7) hx hb dX11_readsAll_164 (by decide) ?_
                    exact ih4 x1_39 iv_44 ar_38 _ _ _ (by omega) (by omega) hgw4 hgi4 hga5 (fun k hk => hgr5 k (by omega)) hP hS (lv_sub hl [0, 4] rfl)
                  · skip
                    have q_42 : r_41.toInt ≠ (32 : Int) := i_ne2 (rfl : r_41.toInt = r_41.toInt) (show (32 : Int32).toInt = (32 : Int) from rfl) c_42
                    refine lv_iconst (v := (-1)) hx hb dX11_readsAll_152 (by decide) ?_
                    rw [hQ]
                    exact W.iret (v := (-1)) hx hb hr (fun t ht hW => ⟨⟨(-1), (iv_27, ar_38), rfl, ⟨hpi, hga5, ⟨by show 0 ≤ (iv_27 0 5).toInt; omega, by show (iv_27 0 5).toInt ≤ 60; omega⟩, by have zm := i_m1; omega, fun k hk => (by exfalso; have zm := i_m1; omega)⟩, by show va_P _ _ _ _; rw [ht]; exact hP⟩, hS.F ht⟩) hS.2.2 dX11_readsAll_153
                · skip
                  have q_40 : (iv_27 0 5).toInt = (iv_27 0 4).toInt := i_eq2 (rfl : (iv_27 0 5).toInt = (iv_27 0 5).toInt) (rfl : (iv_27 0 4).toInt = (iv_27 0 4).toInt) c_40
                  refine lv_iload_n hx hb dX11_readsAll_141 rfl (lv_at hl 0 rfl) ?_
                  rw [hQ]
                  exact W.iret (v := x1_39) hx hb hr (fun t ht hW => ⟨⟨x1_39, (iv_27, ar_38), rfl, ⟨hpi, hga5, ⟨by show 0 ≤ (iv_27 0 5).toInt; omega, by show (iv_27 0 5).toInt ≤ 60; omega⟩, by have zm := i_m1; omega, fun k hk => hgr5 k (by omega)⟩, by show va_P _ _ _ _; rw [ht]; exact hP⟩, hS.F ht⟩) hS.2.2 dX11_readsAll_142
              · skip
                have q_29 : x4_26.toInt < (2 : Int) := i_nle2 (show (2 : Int32).toInt = (2 : Int) from rfl) (rfl : x4_26.toInt = x4_26.toInt) c_29
                refine lv_aload_n hx hb dX11_readsAll_84 rfl (lv_at hl 4 rfl) ?_
                refine g_callSi (va_runV (As := []) (rest := []) ⟨hx, hb, hml, hown, hts⟩ (c_X11_here l D cy ad hI _ iv_27 ar_27 (by omega)) (cwV 0 hts gX11_readsAll_X11_here rfl rfl rfl (by decide +kernel) ⟨Nat.le_of_ble_eq_true rfl, Nat.le_of_ble_eq_true rfl⟩) (m_preV hP hK hSt hNw hS (m_at11 (Nat.le_of_ble_eq_true rfl) rfl) rfl) rfl rfl hl.1 rfl (lv_room (Nat.le_of_ble_eq_true rfl)) dX11_readsAll_85 ⟨Nat.zero_le _, Nat.zero_le _⟩) (fun r_45 w_45 => ?_)
                try dsimp only at w_45
                refine lv_bipush (v := 43) hx hb dX11_readsAll_88 (by decide) ?_
                refine lv_icmp_ne (tgt := 109) hx hb dX11_readsAll_90 (by decide) (fun c_46 => ?_) (fun c_46 => ?_)
                · skip
                  have q_46 : r_45.toInt ≠ (43 : Int) := i_ne2 (rfl : r_45.toInt = r_45.toInt) (show (43 : Int32).toInt = (43 : Int) from rfl) c_46
                  refine lv_aload_n hx hb dX11_readsAll_109 rfl (lv_at hl 4 rfl) ?_
                  refine va_get (D := D) (ci := 11) (v := .ref (ad 4)) (C := RX11) (T := TX11) (N := 30) hx hb hts inX11 hown hK hP 0 (m_at11 (Nat.le_of_ble_eq_true rfl) rfl) rfl 6 (by decide) lk1 (fun _ h9 => h9) rfl dX11_readsAll_110 ?_
                  refine lv_iload_n hx hb dX11_readsAll_113 rfl (lv_at hl 3 rfl) ?_
                  refine lv_iload_n hx hb dX11_readsAll_114 rfl (lv_at hl 2 rfl) ?_
                  refine lv_bipush (v := 6) hx hb dX11_readsAll_115 (by decide) ?_
                  refine lv_iload_n hx hb dX11_readsAll_117 rfl (lv_at hl 1 rfl) ?_
                  refine lv_imul hx hb dX11_readsAll_118 ?_
                  refine lv_topi (fun v_47 ev_47 => ?_)
                  have rg_48 := i_rng v_21
                  have tv_47 : v_47.toInt = (6 : Int) * v_21.toInt := i_mul (show (6 : Int32).toInt = (6 : Int) from rfl) (rfl : v_21.toInt = v_21.toInt) (by omega) (by omega) ev_47
                  refine lv_iadd hx hb dX11_readsAll_119 ?_
                  refine lv_topi (fun v_49 ev_49 => ?_)
                  have rg_50 := i_rng v_11
                  have rg_51 := i_rng v_47
                  have tv_49 : v_49.toInt = v_11.toInt + v_47.toInt := i_add (rfl : v_11.toInt = v_11.toInt) (rfl : v_47.toInt = v_47.toInt) (by omega) (by omega) ev_49
                  refine lv_bipush (v := 36) hx hb dX11_readsAll_120 (by decide) ?_
                  refine lv_iload hx hb dX11_readsAll_122 (lv_at hl 0 rfl) ?_
                  refine lv_imul hx hb dX11_readsAll_124 ?_
                  refine lv_topi (fun v_52 ev_52 => ?_)
                  have tv_52 : v_52.toInt = (36 : Int) * x4_26.toInt := i_mul (show (36 : Int32).toInt = (36 : Int) from rfl) (rfl : x4_26.toInt = x4_26.toInt) (by omega) (by omega) ev_52
                  refine lv_iadd hx hb dX11_readsAll_125 ?_
                  refine lv_topi (fun v_53 ev_53 => ?_)
                  have rg_54 := i_rng v_49
                  have tv_53 : v_53.toInt = v_49.toInt + v_52.toInt := i_add (rfl : v_49.toInt = v_49.toInt) (rfl : v_52.toInt = v_52.toInt) (by omega) (by omega) ev_53
                  refine va_iast hx hb hK hP (mD hI) hS 4 0 (m_at12 (Nat.le_of_ble_eq_true rfl) rfl) rfl (g_in (N := 60) (rfl : x1_2.toInt = x1_2.toInt) rfl (by omega) (by omega)) dX11_readsAll_126 (fun H locs hP _ hS => ?_)
                  rw [m_pt12 (Nat.le_of_ble_eq_true rfl) rfl] at hP
                  obtain ⟨ar_55, ear_55⟩ : ∃ z : gAr, z = va_up ar_27 4 (upd (ar_27 4) x1_2.toNatClampNeg v_53) := ⟨_, rfl⟩
                  rw [← ear_55] at hP
                  have har : ar_55 4 = upd (ar_27 4) (x1_2.toInt).toNat v_53 := by rw [ear_55, ua_s, g_cN (rfl : x1_2.toInt = _)]
                  have hga5 : ∀ c, c ≠ 4 → ar_55 c = ar c := fun c h => by rw [ear_55, ua_o h]; exact hpa c h
                  have hgr5 : ∀ k : Nat, (k : Int) < (x1_2.toInt) + 1 → 0 ≤ (ar_55 4 k).toInt ∧ (ar_55 4 k).toInt < 108 := fun k hk => by
                    rw [har]
                    by_cases e : k = (x1_2.toInt).toNat
                    · rw [e, pk_us]; omega
                    · rw [pk_un e]; exact hpr k (by omega)
                  obtain ⟨x1_56, ex1_56⟩ : ∃ y : Int32, y = x1_2 + 1 := ⟨_, rfl⟩
                  have tx1_56 : x1_56.toInt = x1_2.toInt + (1 : Int) := i_add (rfl : x1_2.toInt = x1_2.toInt) (show (1 : Int32).toInt = (1 : Int) from rfl) (by omega) (by omega) ex1_56
                  refine lv_iinc (v := x1_56) (lv' := [(1, .int x1_56), (4, .int x4_26), (3, .int v_21), (2, .int v_11), (0, .ref (ad 0))]) hx hb dX11_readsAll_127 hl (k := 3) rfl (by rw [ex1_56]; rfl) (by decide) rfl (fun ls hl => ?_)
                  refine lv_aload_n hx hb dX11_readsAll_130 rfl (lv_at hl 4 rfl) ?_
                  refine va_get (D := D) (ci := 11) (v := .int (iv_27 0 5)) (C := RX11) (T := TX11) (N := 30) hx hb hts inX11 hown hK hP 0 (m_at11 (Nat.le_of_ble_eq_true rfl) rfl) rfl 5 (by decide) lk0 (fun _ h9 => h9) rfl dX11_readsAll_131 ?_
                  refine lv_aload_n hx hb dX11_readsAll_134 rfl (lv_at hl 4 rfl) ?_
                  refine va_get (D := D) (ci := 11) (v := .int (iv_27 0 4)) (C := RX11) (T := TX11) (N := 30) hx hb hts inX11 hown hK hP 0 (m_at11 (Nat.le_of_ble_eq_true rfl) rfl) rfl 4 (by decide) lk2 (fun _ h9 => h9) rfl dX11_readsAll_135 ?_
                  refine lv_icmp_ne (tgt := 143) hx hb dX11_readsAll_138 (by decide) (fun c_57 => ?_) (fun c_57 => ?_)
                  · skip
                    have q_57 : (iv_27 0 5).toInt ≠ (iv_27 0 4).toInt := i_ne2 (rfl : (iv_27 0 5).toInt = (iv_27 0 5).toInt) (rfl : (iv_27 0 4).toInt = (iv_27 0 4).toInt) c_57
                    refine lv_aload_n hx hb dX11_readsAll_143 rfl (lv_at hl 4 rfl) ?_
                    refine g_callSi (va_runV (As := []) (rest := []) ⟨hx, hb, hml, hown, hts⟩ (c_X11_here l D cy ad hI _ iv_27 ar_55 (by omega)) (cwV 0 hts gX11_readsAll_X11_here rfl rfl rfl (by decide +kernel) ⟨Nat.le_of_ble_eq_true rfl, Nat.le_of_ble_eq_true rfl⟩) (m_preV hP hK hSt hNw hS (m_at11 (Nat.le_of_ble_eq_true rfl) rfl) rfl) rfl rfl hl.1 rfl (lv_room (Nat.le_of_ble_eq_true rfl)) dX11_readsAll_144 ⟨Nat.zero_le _, Nat.zero_le _⟩) (fun r_58 w_58 => ?_)
                    try dsimp only at w_58
                    refine lv_bipush (v := 32) hx hb dX11_readsAll_147 (by decide) ?_
                    refine lv_icmp_eq (tgt := 154) hx hb dX11_readsAll_149 (by decide) (fun c_59 => ?_) (fun c_59 => ?_)
                    · skip
                      have q_59 : r_58.toInt = (32 : Int) := i_eq2 (rfl : r_58.toInt = r_58.toInt) (show (32 : Int32).toInt = (32 : Int) from rfl) c_59
                      refine lv_aload_n hx hb dX11_readsAll_154 rfl (lv_at hl 4 rfl) ?_
                      refine lv_dup hx hb dX11_readsAll_155 rfl ?_
                      refine va_get (D := D) (ci := 11) (v := .int (iv_27 0 5)) (C := RX11) (T := TX11) (N := 30) hx hb hts inX11 hown hK hP 0 (m_at11 (Nat.le_of_ble_eq_true rfl) rfl) rfl 5 (by decide) lk0 (fun _ h9 => h9) rfl dX11_readsAll_156 ?_
                      refine lv_iconst (v := 1) hx hb dX11_readsAll_159 (by decide) ?_
                      refine lv_iadd hx hb dX11_readsAll_160 ?_
                      refine lv_topi (fun v_60 ev_60 => ?_)
                      have tv_60 : v_60.toInt = ((iv_27 0 5).toInt) + (1 : Int) := i_add (rfl : (iv_27 0 5).toInt = (iv_27 0 5).toInt) (show (1 : Int32).toInt = (1 : Int) from rfl) (by omega) (by omega) ev_60
                      refine va_put (D := D) (ci := 11) (v := .int v_60) (ty := .int) (C := RX11) (T := TX11) (N := 30) hx hb hts inX11 tyX11 tyX11_ok nmX11 hown hK hP (mD hI) hS 0 (m_at11 (Nat.le_of_ble_eq_true rfl) rfl) rfl 5 (by decide) lk0 (fun _ h9 => h9) rfl (by decide +kernel) rfl rfl (Nat.le_of_ble_eq_true rfl) dX11_readsAll_161 (fun H locs hP _ hS => ?_)
                      have hP : va_P D vwCl (MW cy ad (u2 iv_27 0 5 v_60) ar_55) H := by rw [← m_pt11_5 (Nat.le_of_ble_eq_true rfl) rfl]; exact hP
                      obtain ⟨iv_61, eiv_61⟩ : ∃ z : gIv, z = u2 iv_27 0 5 v_60 := ⟨_, rfl⟩
                      rw [← eiv_61] at hP
                      have hgi4 : ∀ x y, ¬ (x = 0 ∧ y = 5) → iv_61 x y = iv x y := fun x y h => by rw [eiv_61, u2_o h]; exact hpi x y h
                      have hga4 : (iv_61 0 5).toInt = (iv_27 0 5).toInt + 1 := by rw [eiv_61, u2_s]; omega
                      have hgw4 : (iv_61 0 4).toInt = (iv 0 4).toInt := by rw [hgi4 0 4 (by omega)]
                      refine lv_goto (tgt := 7) hx hb dX11_readsAll_164 (by decide) ?_
                      exact ih4 x1_56 iv_61 ar_55 _ _ _ (by omega) (by omega) hgw4 hgi4 hga5 (fun k hk => hgr5 k (by omega)) hP hS (lv_sub hl [0, 4] rfl)
                    · skip
                      have q_59 : r_58.toInt ≠ (32 : Int) := i_ne2 (rfl : r_58.toInt = r_58.toInt) (show (32 : Int32).toInt = (32 : Int) from rfl) c_59
                      refine lv_iconst (v := (-1)) hx hb dX11_readsAll_152 (by decide) ?_
                      rw [hQ]
                      exact W.iret (v := (-1)) hx hb hr (fun t ht hW => ⟨⟨(-1), (iv_27, ar_55), rfl, ⟨hpi, hga5, ⟨by show 0 ≤ (iv_27 0 5).toInt; omega, by show (iv_27 0 5).toInt ≤ 60; omega⟩, by have zm := i_m1; omega, fun k hk => (by exfalso; have zm := i_m1; omega)⟩, by show va_P _ _ _ _; rw [ht]; exact hP⟩, hS.F ht⟩) hS.2.2 dX11_readsAll_153
                  · skip
                    have q_57 : (iv_27 0 5).toInt = (iv_27 0 4).toInt := i_eq2 (rfl : (iv_27 0 5).toInt = (iv_27 0 5).toInt) (rfl : (iv_27 0 4).toInt = (iv_27 0 4).toInt) c_57
                    refine lv_iload_n hx hb dX11_readsAll_141 rfl (lv_at hl 0 rfl) ?_
                    rw [hQ]
                    exact W.iret (v := x1_56) hx hb hr (fun t ht hW => ⟨⟨x1_56, (iv_27, ar_55), rfl, ⟨hpi, hga5, ⟨by show 0 ≤ (iv_27 0 5).toInt; omega, by show (iv_27 0 5).toInt ≤ 60; omega⟩, by have zm := i_m1; omega, fun k hk => hgr5 k (by omega)⟩, by show va_P _ _ _ _; rw [ht]; exact hP⟩, hS.F ht⟩) hS.2.2 dX11_readsAll_142
                · skip
                  have q_46 : r_45.toInt = (43 : Int) := i_eq2 (rfl : r_45.toInt = r_45.toInt) (show (43 : Int32).toInt = (43 : Int) from rfl) c_46
                  obtain ⟨x4_62, ex4_62⟩ : ∃ y : Int32, y = x4_26 + 1 := ⟨_, rfl⟩
                  have tx4_62 : x4_62.toInt = x4_26.toInt + (1 : Int) := i_add (rfl : x4_26.toInt = x4_26.toInt) (show (1 : Int32).toInt = (1 : Int) from rfl) (by omega) (by omega) ex4_62
                  refine lv_iinc (v := x4_62) (lv' := [(4, .int x4_62), (3, .int v_21), (2, .int v_11), (1, .int x1_2), (0, .ref (ad 0))]) hx hb dX11_readsAll_93 hl (k := 0) rfl (by rw [ex4_62]; rfl) (by decide) rfl (fun ls hl => ?_)
                  refine lv_aload_n hx hb dX11_readsAll_96 rfl (lv_at hl 4 rfl) ?_
                  refine lv_dup hx hb dX11_readsAll_97 rfl ?_
                  refine va_get (D := D) (ci := 11) (v := .int (iv_27 0 5)) (C := RX11) (T := TX11) (N := 30) hx hb hts inX11 hown hK hP 0 (m_at11 (Nat.le_of_ble_eq_true rfl) rfl) rfl 5 (by decide) lk0 (fun _ h9 => h9) rfl dX11_readsAll_98 ?_
                  refine lv_iconst (v := 1) hx hb dX11_readsAll_101 (by decide) ?_
                  refine lv_iadd hx hb dX11_readsAll_102 ?_
                  refine lv_topi (fun v_63 ev_63 => ?_)
                  have tv_63 : v_63.toInt = ((iv_27 0 5).toInt) + (1 : Int) := i_add (rfl : (iv_27 0 5).toInt = (iv_27 0 5).toInt) (show (1 : Int32).toInt = (1 : Int) from rfl) (by omega) (by omega) ev_63
                  refine va_put (D := D) (ci := 11) (v := .int v_63) (ty := .int) (C := RX11) (T := TX11) (N := 30) hx hb hts inX11 tyX11 tyX11_ok nmX11 hown hK hP (mD hI) hS 0 (m_at11 (Nat.le_of_ble_eq_true rfl) rfl) rfl 5 (by decide) lk0 (fun _ h9 => h9) rfl (by decide +kernel) rfl rfl (Nat.le_of_ble_eq_true rfl) dX11_readsAll_103 (fun H locs hP _ hS => ?_)
                  have hP : va_P D vwCl (MW cy ad (u2 iv_27 0 5 v_63) ar_27) H := by rw [← m_pt11_5 (Nat.le_of_ble_eq_true rfl) rfl]; exact hP
                  obtain ⟨iv_64, eiv_64⟩ : ∃ z : gIv, z = u2 iv_27 0 5 v_63 := ⟨_, rfl⟩
                  rw [← eiv_64] at hP
                  have hgi3 : ∀ x y, ¬ (x = 0 ∧ y = 5) → iv_64 x y = iv x y := fun x y h => by rw [eiv_64, u2_o h]; exact hpi x y h
                  have hga3 : (iv_64 0 5).toInt = (iv_27 0 5).toInt + 1 := by rw [eiv_64, u2_s]; omega
                  have hgw3 : (iv_64 0 4).toInt = (iv 0 4).toInt := by rw [hgi3 0 4 (by omega)]
                  refine lv_goto (tgt := 78) hx hb dX11_readsAll_106 (by decide) ?_
                  exact ih28 x4_62 iv_64 ar_27 _ _ _ (by omega) (by omega) (by omega) hgw3 hgi3 hpa hpr hP hS (lv_sub hl [0, 1, 2, 3, 4] rfl)
          have zl_65 : (0 : Int32).toInt = (0 : Int) := rfl
          exact loop28 (((2 - ((0 : Int))).toNat) + 1) 0 iv_25 ar_3 _ _ _ (by omega) (by omega) (by omega) hgw2 hgi2 hga hgr hP hS (lv_sub hl [0, 1, 2, 3, 4] rfl)
        · skip
          have q_19 : r_18.toInt = (0 : Int) := i_eq2 (rfl : r_18.toInt = r_18.toInt) (show (0 : Int32).toInt = (0 : Int) from rfl) c_19
          refine lv_iconst (v := (-1)) hx hb dX11_readsAll_55 (by decide) ?_
          rw [hQ]
          exact W.iret (v := (-1)) hx hb hr (fun t ht hW => ⟨⟨(-1), (iv_14, ar_3), rfl, ⟨hgi1, hga, ⟨by show 0 ≤ (iv_14 0 5).toInt; omega, by show (iv_14 0 5).toInt ≤ 60; omega⟩, by have zm := i_m1; omega, fun k hk => (by exfalso; have zm := i_m1; omega)⟩, by show va_P _ _ _ _; rw [ht]; exact hP⟩, hS.F ht⟩) hS.2.2 dX11_readsAll_56
      · skip
        have q_9 : r_8.toInt = (0 : Int) := i_eq2 (rfl : r_8.toInt = r_8.toInt) (show (0 : Int32).toInt = (0 : Int) from rfl) c_9
        refine lv_iconst (v := (-1)) hx hb dX11_readsAll_21 (by decide) ?_
        rw [hQ]
        exact W.iret (v := (-1)) hx hb hr (fun t ht hW => ⟨⟨(-1), (iv_3, ar_3), rfl, ⟨hgi, hga, ⟨by show 0 ≤ (iv_3 0 5).toInt; omega, by show (iv_3 0 5).toInt ≤ 60; omega⟩, by have zm := i_m1; omega, fun k hk => (by exfalso; have zm := i_m1; omega)⟩, by show va_P _ _ _ _; rw [ht]; exact hP⟩, hS.F ht⟩) hS.2.2 dX11_readsAll_22
  have zl_66 : (0 : Int32).toInt = (0 : Int) := rfl
  exact loop4 ((((iv 0 4).toInt - (iv_1 0 5).toInt).toNat) + 1) 0 iv_1 ar _ _ _ (by omega) (by omega) hgw0 hgi0 (fun _ _ => rfl) (fun k hk => by exfalso; omega) hP hS (lv_sub hl [0, 1] rfl)
set_option maxHeartbeats 4000000 in
set_option maxRecDepth 100000 in
theorem c_X11_isTaken (l : Launch) (D : va_G) (cy : Nat → ClassId) (ad : Nat → Nat) (hI : mInj ad) (sz : Nat) (iv : gIv) (ar : gAr) (a : Int32) (hm : 0 ≤ a.toInt ∧ a.toInt ≤ 20) (hrd : ∀ k : Nat, (k : Int) < a.toInt → 0 ≤ (ar 4 k).toInt ∧ (ar 4 k).toInt < 108) : Met l yX11_isTaken wsX11_isTaken ({ frames := 1, cells := 0, slots := 0, locals := 21 } : Room) (va_Pc [.ref (ad 0), .int a] (mPre D cy ad sz iv ar)) (vp_Si (fun r => True)) 0 0 (fun _ => False) := by
  refine Met.ofW (cc := cX11_isTaken) (maxL := 5) (ret := (some .boolean)) (by decide) rfl ?_
  intro p e s m args below meth c s₁ B hml hv
  obtain ⟨rfl, rfl, hP, hK, hSt, hNw⟩ := hv
  have hx := B.exec
  have hb := B.bytes
  have hr := B.returns
  have hts := atoms_spec (ws := wsX11_isTaken) B.pre
  have hown : s.vm.findClass RX11 = some m.cls := findClass_of_methodNamed B.named
  have hlocks := B.notSynchronized
  have hS : va_S (mA ad s.heap.size) s.heap s.heap [] := va_S.rf
  have inX11 : ∀ w ∈ u_ws RX11 TX11 30, w ∈ wsX11_isTaken := by decide +kernel
  have lk0 := hts (.fieldLink RX11 19 "FormationPlannerModel" "read" "[I") (by decide +kernel)
  have hl := lv_entry ([.ref (ad 0), .int a]) (n := 5) (Nat.le_of_ble_eq_true rfl)
  rw [lg_entry_eq]
  generalize (lg_sl ([.ref (ad 0), .int a]) ++ List.replicate (5 - (lg_sl ([.ref (ad 0), .int a])).length) Slot.unset).toArray = ls at hl ⊢
  have hl : lv_has ls 5 [(0, .ref (ad 0)), (1, .int a)] := hl
  obtain ⟨Q, hQ⟩ : ∃ Q, Q = MQ below (vp_Si (fun r => True)) (([.ref (ad 0), .int a] : List Value).toArray) s 0 0 (fun _ => False) := ⟨_, rfl⟩
  rw [← hQ]
  refine lv_iconst (v := 0) hx hb dX11_isTaken_0 (by decide) ?_
  refine lv_istore_n (lv' := [(2, .int 0), (0, .ref (ad 0)), (1, .int a)]) hx hb dX11_isTaken_1 rfl hl (by decide) rfl (fun ls hl => ?_)
  refine lv_iconst (v := 0) hx hb dX11_isTaken_2 (by decide) ?_
  refine lv_istore_n (lv' := [(3, .int 0), (2, .int 0), (0, .ref (ad 0)), (1, .int a)]) hx hb dX11_isTaken_3 rfl hl (by decide) rfl (fun ls hl => ?_)
  have loop3 : ∀ (n : Nat) (x3_1 : Int32) (x2_2 : Int32) (ls : Array Slot), ((20 - (x3_1.toInt)).toNat) < n → (0 ≤ (x3_1.toInt) ∧ (x3_1.toInt) ≤ 20 ∧ 0 ≤ (x2_2.toInt) ∧ (x2_2.toInt) ≤ 1) → lv_has ls 5 [(3, .int x3_1), (2, .int x2_2), (0, .ref (ad 0)), (1, .int a)] → W p l e (headSpec wsX11_isTaken (({ frames := 1, cells := 0, slots := 0, locals := 21 } : Room))).room s m (([.ref (ad 0), .int a] : List Value).toArray) below meth c s.heap [] 0 0 Q (F0 m 4 ls []) := by
    intro n
    induction n with
    | zero => intro x3_1 x2_2 ls hm; omega
    | succ n ih3 =>
      intro x3_1 x2_2 ls hm hg0 hl
      refine lv_iload_n hx hb dX11_isTaken_4 rfl (lv_at hl 0 rfl) ?_
      refine lv_iload_n hx hb dX11_isTaken_5 rfl (lv_at hl 3 rfl) ?_
      refine lv_icmp_ge (tgt := 67) hx hb dX11_isTaken_6 (by decide) (fun c_4 => ?_) (fun c_4 => ?_)
      · skip
        have q_4 : a.toInt ≤ x3_1.toInt := i_le2 (rfl : a.toInt = a.toInt) (rfl : x3_1.toInt = x3_1.toInt) c_4
        refine lv_iload_n hx hb dX11_isTaken_67 rfl (lv_at hl 1 rfl) ?_
        rw [hQ]
        exact W.zret (v := x2_2) hx hb hr (i_bool (by omega)) (fun t ht hW => ⟨x2_2, rfl, trivial, ht⟩) (fun q h => by cases h) dX11_isTaken_68
      · skip
        have q_4 : x3_1.toInt < a.toInt := i_nle2 (rfl : a.toInt = a.toInt) (rfl : x3_1.toInt = x3_1.toInt) c_4
        refine lv_iload_n hx hb dX11_isTaken_9 rfl (lv_at hl 1 rfl) ?_
        refine lv_aload_n hx hb dX11_isTaken_10 rfl (lv_at hl 2 rfl) ?_
        refine lv_aload_n hx hb dX11_isTaken_11 rfl (lv_at hl 2 rfl) ?_
        refine va_get (D := D) (ci := 11) (v := .ref (ad 4)) (C := RX11) (T := TX11) (N := 30) hx hb hts inX11 hown hK hP 0 (m_at11 (Nat.le_of_ble_eq_true rfl) rfl) rfl 6 (by decide) lk0 (fun _ h9 => h9) rfl dX11_isTaken_12 ?_
        refine lv_iload_n hx hb dX11_isTaken_15 rfl (lv_at hl 0 rfl) ?_
        refine va_iald hx hb hK hP 4 0 (m_at12 (Nat.le_of_ble_eq_true rfl) rfl) rfl (g_in (N := 60) (rfl : x3_1.toInt = x3_1.toInt) rfl (by omega) (by omega)) dX11_isTaken_16 ?_
        refine lv_topi (fun v_5 ev_5 => ?_)
        have hv1 : 0 ≤ v_5.toInt ∧ v_5.toInt < 108 := by rw [ev_5, g_cN (rfl : x3_1.toInt = _)]; exact hrd (x3_1.toInt).toNat (by omega)
        refine g_callSi (va_runV (As := [.int v_5]) (rest := [.int x2_2]) ⟨hx, hb, hml, hown, hts⟩ (c_X11_isObstacle l D cy ad hI _ iv ar v_5 (by omega)) (cwV 1 hts gX11_isTaken_X11_isObstacle rfl rfl rfl (by decide +kernel) ⟨Nat.le_of_ble_eq_true rfl, Nat.le_of_ble_eq_true rfl⟩) (m_preV hP hK hSt hNw hS (m_at11 (Nat.le_of_ble_eq_true rfl) rfl) rfl) rfl rfl hl.1 rfl (lv_room (Nat.le_of_ble_eq_true rfl)) dX11_isTaken_17 ⟨Nat.zero_le _, Nat.zero_le _⟩) (fun r_6 w_6 => ?_)
        try dsimp only at w_6
        refine lv_ior hx hb dX11_isTaken_20 ?_
        refine lv_topi (fun v_7 ev_7 => ?_)
        have ho1 : 0 ≤ v_7.toInt ∧ v_7.toInt ≤ 1 := or01 (a := x2_2) (b := r_6) (by omega) (by omega) ev_7
        refine lv_istore_n (lv' := [(2, .int v_7), (3, .int x3_1), (0, .ref (ad 0)), (1, .int a)]) hx hb dX11_isTaken_21 rfl hl (by decide) rfl (fun ls hl => ?_)
        refine lv_iconst (v := 0) hx hb dX11_isTaken_22 (by decide) ?_
        refine lv_istore (lv' := [(4, .int 0), (2, .int v_7), (3, .int x3_1), (0, .ref (ad 0)), (1, .int a)]) hx hb dX11_isTaken_23 hl (by decide) rfl (fun ls hl => ?_)
        have loop10 : ∀ (n : Nat) (x4_8 : Int32) (x2_9 : Int32) (ls : Array Slot), ((20 - (x4_8.toInt)).toNat) < n → (0 ≤ (x4_8.toInt) ∧ (x4_8.toInt) ≤ 20 ∧ 0 ≤ (x2_9.toInt) ∧ (x2_9.toInt) ≤ 1) → lv_has ls 5 [(4, .int x4_8), (2, .int x2_9), (3, .int x3_1), (0, .ref (ad 0)), (1, .int a)] → W p l e (headSpec wsX11_isTaken (({ frames := 1, cells := 0, slots := 0, locals := 21 } : Room))).room s m (([.ref (ad 0), .int a] : List Value).toArray) below meth c s.heap [] 0 0 Q (F0 m 25 ls []) := by
          intro n
          induction n with
          | zero => intro x4_8 x2_9 ls hm; omega
          | succ n ih10 =>
            intro x4_8 x2_9 ls hm hk0 hl
            refine lv_iload hx hb dX11_isTaken_25 (lv_at hl 0 rfl) ?_
            refine lv_iload_n hx hb dX11_isTaken_27 rfl (lv_at hl 2 rfl) ?_
            refine lv_icmp_ge (tgt := 61) hx hb dX11_isTaken_28 (by decide) (fun c_11 => ?_) (fun c_11 => ?_)
            · skip
              have q_11 : x3_1.toInt ≤ x4_8.toInt := i_le2 (rfl : x3_1.toInt = x3_1.toInt) (rfl : x4_8.toInt = x4_8.toInt) c_11
              obtain ⟨x3_12, ex3_12⟩ : ∃ y : Int32, y = x3_1 + 1 := ⟨_, rfl⟩
              have tx3_12 : x3_12.toInt = x3_1.toInt + (1 : Int) := i_add (rfl : x3_1.toInt = x3_1.toInt) (show (1 : Int32).toInt = (1 : Int) from rfl) (by omega) (by omega) ex3_12
              refine lv_iinc (v := x3_12) (lv' := [(3, .int x3_12), (4, .int x4_8), (2, .int x2_9), (0, .ref (ad 0)), (1, .int a)]) hx hb dX11_isTaken_61 hl (k := 2) rfl (by rw [ex3_12]; rfl) (by decide) rfl (fun ls hl => ?_)
              refine lv_goto (tgt := 4) hx hb dX11_isTaken_64 (by decide) ?_
              exact ih3 x3_12 x2_9 _ (by omega) (by omega) (lv_sub hl [0, 2, 3, 4] rfl)
            · skip
              have q_11 : x4_8.toInt < x3_1.toInt := i_nle2 (rfl : x3_1.toInt = x3_1.toInt) (rfl : x4_8.toInt = x4_8.toInt) c_11
              refine lv_iload_n hx hb dX11_isTaken_31 rfl (lv_at hl 1 rfl) ?_
              refine lv_aload_n hx hb dX11_isTaken_32 rfl (lv_at hl 3 rfl) ?_
              refine va_get (D := D) (ci := 11) (v := .ref (ad 4)) (C := RX11) (T := TX11) (N := 30) hx hb hts inX11 hown hK hP 0 (m_at11 (Nat.le_of_ble_eq_true rfl) rfl) rfl 6 (by decide) lk0 (fun _ h9 => h9) rfl dX11_isTaken_33 ?_
              refine lv_iload hx hb dX11_isTaken_36 (lv_at hl 0 rfl) ?_
              refine va_iald hx hb hK hP 4 0 (m_at12 (Nat.le_of_ble_eq_true rfl) rfl) rfl (g_in (N := 60) (rfl : x4_8.toInt = x4_8.toInt) rfl (by omega) (by omega)) dX11_isTaken_38 ?_
              refine lv_topi (fun v_13 ev_13 => ?_)
              refine lv_aload_n hx hb dX11_isTaken_39 rfl (lv_at hl 3 rfl) ?_
              refine va_get (D := D) (ci := 11) (v := .ref (ad 4)) (C := RX11) (T := TX11) (N := 30) hx hb hts inX11 hown hK hP 0 (m_at11 (Nat.le_of_ble_eq_true rfl) rfl) rfl 6 (by decide) lk0 (fun _ h9 => h9) rfl dX11_isTaken_40 ?_
              refine lv_iload_n hx hb dX11_isTaken_43 rfl (lv_at hl 2 rfl) ?_
              refine va_iald hx hb hK hP 4 0 (m_at12 (Nat.le_of_ble_eq_true rfl) rfl) rfl (g_in (N := 60) (rfl : x3_1.toInt = x3_1.toInt) rfl (by omega) (by omega)) dX11_isTaken_44 ?_
              refine lv_topi (fun v_14 ev_14 => ?_)
              refine lv_icmp_ne (tgt := 52) hx hb dX11_isTaken_45 (by decide) (fun c_15 => ?_) (fun c_15 => ?_)
              · skip
                have q_15 : v_13.toInt ≠ v_14.toInt := i_ne2 (rfl : v_13.toInt = v_13.toInt) (rfl : v_14.toInt = v_14.toInt) c_15
                refine lv_iconst (v := 0) hx hb dX11_isTaken_52 (by decide) ?_
                refine lv_ior hx hb dX11_isTaken_53 ?_
                refine lv_topi (fun v_16 ev_16 => ?_)
                have z0 := i_l0
                have z1 := i_l1
                have ho2 : 0 ≤ v_16.toInt ∧ v_16.toInt ≤ 1 := or01 (a := x2_9) (b := 0) (by omega) (by omega) ev_16
                refine lv_istore_n (lv' := [(2, .int v_16), (4, .int x4_8), (3, .int x3_1), (0, .ref (ad 0)), (1, .int a)]) hx hb dX11_isTaken_54 rfl hl (by decide) rfl (fun ls hl => ?_)
                obtain ⟨x4_17, ex4_17⟩ : ∃ y : Int32, y = x4_8 + 1 := ⟨_, rfl⟩
                have tx4_17 : x4_17.toInt = x4_8.toInt + (1 : Int) := i_add (rfl : x4_8.toInt = x4_8.toInt) (show (1 : Int32).toInt = (1 : Int) from rfl) (by omega) (by omega) ex4_17
                refine lv_iinc (v := x4_17) (lv' := [(4, .int x4_17), (2, .int v_16), (3, .int x3_1), (0, .ref (ad 0)), (1, .int a)]) hx hb dX11_isTaken_55 hl (k := 1) rfl (by rw [ex4_17]; rfl) (by decide) rfl (fun ls hl => ?_)
                refine lv_goto (tgt := 25) hx hb dX11_isTaken_58 (by decide) ?_
                exact ih10 x4_17 v_16 _ (by omega) (by omega) (lv_sub hl [0, 1, 2, 3, 4] rfl)
              · skip
                have q_15 : v_13.toInt = v_14.toInt := i_eq2 (rfl : v_13.toInt = v_13.toInt) (rfl : v_14.toInt = v_14.toInt) c_15
                refine lv_iconst (v := 1) hx hb dX11_isTaken_48 (by decide) ?_
                refine lv_goto (tgt := 53) hx hb dX11_isTaken_49 (by decide) ?_
                refine lv_ior hx hb dX11_isTaken_53 ?_
                refine lv_topi (fun v_18 ev_18 => ?_)
                have z0 := i_l0
                have z1 := i_l1
                have ho2 : 0 ≤ v_18.toInt ∧ v_18.toInt ≤ 1 := or01 (a := x2_9) (b := 1) (by omega) (by omega) ev_18
                refine lv_istore_n (lv' := [(2, .int v_18), (4, .int x4_8), (3, .int x3_1), (0, .ref (ad 0)), (1, .int a)]) hx hb dX11_isTaken_54 rfl hl (by decide) rfl (fun ls hl => ?_)
                obtain ⟨x4_19, ex4_19⟩ : ∃ y : Int32, y = x4_8 + 1 := ⟨_, rfl⟩
                have tx4_19 : x4_19.toInt = x4_8.toInt + (1 : Int) := i_add (rfl : x4_8.toInt = x4_8.toInt) (show (1 : Int32).toInt = (1 : Int) from rfl) (by omega) (by omega) ex4_19
                refine lv_iinc (v := x4_19) (lv' := [(4, .int x4_19), (2, .int v_18), (3, .int x3_1), (0, .ref (ad 0)), (1, .int a)]) hx hb dX11_isTaken_55 hl (k := 1) rfl (by rw [ex4_19]; rfl) (by decide) rfl (fun ls hl => ?_)
                refine lv_goto (tgt := 25) hx hb dX11_isTaken_58 (by decide) ?_
                exact ih10 x4_19 v_18 _ (by omega) (by omega) (lv_sub hl [0, 1, 2, 3, 4] rfl)
        have zl_20 : (0 : Int32).toInt = (0 : Int) := rfl
        exact loop10 (((20 - ((0 : Int))).toNat) + 1) 0 v_7 _ (by omega) (by omega) (lv_sub hl [0, 1, 2, 3, 4] rfl)
  have zl_21 : (0 : Int32).toInt = (0 : Int) := rfl
  have zl_22 : (0 : Int32).toInt = (0 : Int) := rfl
  exact loop3 (((20 - ((0 : Int))).toNat) + 1) 0 0 _ (by omega) (by omega) (lv_sub hl [0, 1, 2, 3] rfl)
set_option maxHeartbeats 4000000 in
set_option maxRecDepth 100000 in
theorem c_X11_readSlots (l : Launch) (D : va_G) (cy : Nat → ClassId) (ad : Nat → Nat) (hI : mInj ad) (sz : Nat) (iv : gIv) (ar : gAr)  (hri : RI iv ar) : Met l yX11_readSlots wsX11_readSlots ({ frames := 2, cells := 0, slots := 0, locals := 46 } : Room) (va_Pc [.ref (ad 0)] (mPre D cy ad sz iv ar)) (va_Qi (fun (r : Int32) (u : gIv × gAr) => RI u.1 u.2 ∧ (u.1 0 4).toInt = 0 ∧ u.1 0 17 = iv 0 17) (mPost D cy ad) (mA ad sz)) 0 0 (mA ad sz) := by
  refine Met.ofW (cc := cX11_readSlots) (maxL := 3) (ret := (some .int)) (by decide) rfl ?_
  intro p e s m args below meth c s₁ B hml hv
  obtain ⟨rfl, rfl, hP, hK, hSt, hNw⟩ := hv
  have hx := B.exec
  have hb := B.bytes
  have hr := B.returns
  have hts := atoms_spec (ws := wsX11_readSlots) B.pre
  have hown : s.vm.findClass RX11 = some m.cls := findClass_of_methodNamed B.named
  have hlocks := B.notSynchronized
  have hS : va_S (mA ad s.heap.size) s.heap s.heap [] := va_S.rf
  have inX11 : ∀ w ∈ u_ws RX11 TX11 30, w ∈ wsX11_readSlots := by decide +kernel
  have lk0 := hts (.fieldLink RX11 105 "FormationPlannerModel" "written" "I") (by decide +kernel)
  have lk1 := hts (.fieldLink RX11 9 "FormationPlannerModel" "s" "[I") (by decide +kernel)
  have lk2 := hts (.fieldLink RX11 19 "FormationPlannerModel" "read" "[I") (by decide +kernel)
  have lk3 := hts (.fieldLink RX11 108 "FormationPlannerModel" "at" "I") (by decide +kernel)
  have hl := lv_entry ([.ref (ad 0)]) (n := 3) (Nat.le_of_ble_eq_true rfl)
  rw [lg_entry_eq]
  generalize (lg_sl ([.ref (ad 0)]) ++ List.replicate (3 - (lg_sl ([.ref (ad 0)])).length) Slot.unset).toArray = ls at hl ⊢
  have hl : lv_has ls 3 [(0, .ref (ad 0))] := hl
  obtain ⟨Q, hQ⟩ : ∃ Q, Q = MQ below (va_Qi (fun (r : Int32) (u : gIv × gAr) => RI u.1 u.2 ∧ (u.1 0 4).toInt = 0 ∧ u.1 0 17 = iv 0 17) (mPost D cy ad) (mA ad s.heap.size)) (([.ref (ad 0)] : List Value).toArray) s 0 0 (mA ad s.heap.size) := ⟨_, rfl⟩
  rw [← hQ]
  refine lv_aload_n hx hb dX11_readSlots_0 rfl (lv_at hl 0 rfl) ?_
  refine m_calli (va_runV (As := []) (rest := []) ⟨hx, hb, hml, hown, hts⟩ (c_X11_readsAll l D cy ad hI _ iv ar hri.2.2.2.1) (cwV 0 hts gX11_readSlots_X11_readsAll rfl rfl rfl (by decide +kernel) ⟨Nat.le_of_ble_eq_true rfl, Nat.le_of_ble_eq_true rfl⟩) (m_preV hP hK hSt hNw hS (m_at11 (Nat.le_of_ble_eq_true rfl) rfl) rfl) rfl rfl hl.1 rfl (lv_room (Nat.le_of_ble_eq_true rfl)) dX11_readSlots_1 ⟨Nat.zero_le _, Nat.zero_le _⟩) hS (fun r_1 iv_1 ar_1 H locs w_1 hP hS => ?_)
  try dsimp only at w_1
  obtain ⟨wr1, wr2, -, wr3, wr4⟩ := w_1
  refine lv_istore_n (lv' := [(1, .int r_1), (0, .ref (ad 0))]) hx hb dX11_readSlots_4 rfl hl (by decide) rfl (fun ls hl => ?_)
  refine lv_aload_n hx hb dX11_readSlots_5 rfl (lv_at hl 1 rfl) ?_
  refine lv_iconst (v := 0) hx hb dX11_readSlots_6 (by decide) ?_
  refine va_put (D := D) (ci := 11) (v := .int 0) (ty := .int) (C := RX11) (T := TX11) (N := 30) hx hb hts inX11 tyX11 tyX11_ok nmX11 hown hK hP (mD hI) hS 0 (m_at11 (Nat.le_of_ble_eq_true rfl) rfl) rfl 4 (by decide) lk0 (fun _ h9 => h9) rfl (by decide +kernel) rfl rfl (Nat.le_of_ble_eq_true rfl) dX11_readSlots_7 (fun H locs hP _ hS => ?_)
  have hP : va_P D vwCl (MW cy ad (u2 iv_1 0 4 0) ar_1) H := by rw [← m_pt11_4 (Nat.le_of_ble_eq_true rfl) rfl]; exact hP
  obtain ⟨iv_2, eiv_2⟩ : ∃ z : gIv, z = u2 iv_1 0 4 0 := ⟨_, rfl⟩
  rw [← eiv_2] at hP
  have hgi2 : ∀ x y, ¬ (x = 0 ∧ (y = 4 ∨ y = 5)) → iv_2 x y = iv x y := fun x y h => by rw [eiv_2, u2_o (by omega)]; exact wr1 x y (by omega)
  have hw9 : (iv_2 0 4).toInt = 0 := by rw [eiv_2, u2_s]; rfl
  have hri2 : RI iv_2 ar_1 := RI.rd hri hgi2 wr2 (by omega)
  have h17 : iv_2 0 17 = iv 0 17 := hgi2 0 17 (by omega)
  refine lv_iload_n hx hb dX11_readSlots_10 rfl (lv_at hl 0 rfl) ?_
  refine lv_if_ge (tgt := 22) hx hb dX11_readSlots_11 (by decide) (fun c_3 => ?_) (fun c_3 => ?_)
  · skip
    have q_3 : (0 : Int) ≤ r_1.toInt := i_le2 (show (0 : Int32).toInt = (0 : Int) from rfl) (rfl : r_1.toInt = r_1.toInt) c_3
    refine lv_iload_n hx hb dX11_readSlots_22 rfl (lv_at hl 0 rfl) ?_
    refine lv_bipush (v := 6) hx hb dX11_readSlots_23 (by decide) ?_
    refine lv_icmp_le (tgt := 31) hx hb dX11_readSlots_25 (by decide) (fun c_4 => ?_) (fun c_4 => ?_)
    · skip
      have q_4 : r_1.toInt ≤ (6 : Int) := i_le2 (rfl : r_1.toInt = r_1.toInt) (show (6 : Int32).toInt = (6 : Int) from rfl) c_4
      refine lv_aload_n hx hb dX11_readSlots_31 rfl (lv_at hl 1 rfl) ?_
      refine lv_iload_n hx hb dX11_readSlots_32 rfl (lv_at hl 0 rfl) ?_
      refine g_callSi (va_runV (As := [.int r_1]) (rest := []) ⟨hx, hb, hml, hown, hts⟩ (c_X11_isTaken l D cy ad hI _ iv_2 ar_1 r_1 (by omega) (fun k hk => wr4 k (by omega))) (cwV 1 hts gX11_readSlots_X11_isTaken rfl rfl rfl (by decide +kernel) ⟨Nat.le_of_ble_eq_true rfl, Nat.le_of_ble_eq_true rfl⟩) (m_preV hP hK hSt hNw hS (m_at11 (Nat.le_of_ble_eq_true rfl) rfl) rfl) rfl rfl hl.1 rfl (lv_room (Nat.le_of_ble_eq_true rfl)) dX11_readSlots_33 ⟨Nat.zero_le _, Nat.zero_le _⟩) (fun r_5 w_5 => ?_)
      try dsimp only at w_5
      refine lv_if_eq (tgt := 42) hx hb dX11_readSlots_36 (by decide) (fun c_6 => ?_) (fun c_6 => ?_)
      · skip
        have q_6 : r_5.toInt = (0 : Int) := i_eq2 (rfl : r_5.toInt = r_5.toInt) (show (0 : Int32).toInt = (0 : Int) from rfl) c_6
        refine lv_aload_n hx hb dX11_readSlots_42 rfl (lv_at hl 1 rfl) ?_
        refine m_callv (va_runV (As := []) (rest := []) ⟨hx, hb, hml, hown, hts⟩ (c_X11_changes l D cy ad hI _ iv_2 ar_1 hri2.2.1 hri2.2.2.1 hri2.1) (cwV 0 hts gX11_readSlots_X11_changes rfl rfl rfl (by decide +kernel) ⟨Nat.le_of_ble_eq_true rfl, Nat.le_of_ble_eq_true rfl⟩) (m_preV hP hK hSt hNw hS (m_at11 (Nat.le_of_ble_eq_true rfl) rfl) rfl) rfl rfl hl.1 rfl (lv_room (Nat.le_of_ble_eq_true rfl)) dX11_readSlots_43 ⟨Nat.zero_le _, Nat.zero_le _⟩) hS (fun iv_7 ar_7 H locs w_7 hP hS => ?_)
        try dsimp only at w_7
        obtain ⟨ci, ca, c3, cpa, cz, c15⟩ := id w_7
        have hw10 : (iv_7 0 4).toInt = 0 := by rw [ci 0 4 (by omega)]; exact hw9
        have h18 : iv_7 0 17 = iv 0 17 := by rw [ci 0 17 (by omega)]; exact h17
        have hs1 := hri2.1.1.2.2.2.2
        refine lv_aload_n hx hb dX11_readSlots_46 rfl (lv_at hl 1 rfl) ?_
        refine va_get (D := D) (ci := 11) (v := .ref (ad 1)) (C := RX11) (T := TX11) (N := 30) hx hb hts inX11 hown hK hP 0 (m_at11 (Nat.le_of_ble_eq_true rfl) rfl) rfl 0 (by decide) lk1 (fun _ h9 => h9) rfl dX11_readSlots_47 ?_
        refine lv_bipush (v := 118) hx hb dX11_readSlots_50 (by decide) ?_
        refine lv_iload_n hx hb dX11_readSlots_52 rfl (lv_at hl 0 rfl) ?_
        refine va_iast hx hb hK hP (mD hI) hS 1 0 (m_at12 (Nat.le_of_ble_eq_true rfl) rfl) rfl (g_in (N := 126) (show (118 : Int32).toInt = (118 : Int) from rfl) rfl (by omega) (by omega)) dX11_readSlots_53 (fun H locs hP _ hS => ?_)
        rw [m_pt12 (Nat.le_of_ble_eq_true rfl) rfl] at hP
        obtain ⟨ar_8, ear_8⟩ : ∃ z : gAr, z = va_up ar_7 1 (upd (ar_7 1) (118 : Int32).toNatClampNeg r_1) := ⟨_, rfl⟩
        rw [← ear_8] at hP
        have hga0 : ∀ c, c ≠ 1 → ar_8 c = ar_7 c := fun c h => by rw [ear_8, ua_o h]
        have hgn0 : ar_8 1 118 = r_1 := by rw [ear_8, ua_s, show (118 : Int32).toNatClampNeg = 118 from rfl, pk_us]
        have hge0 : ∀ j, j ≠ 118 → ar_8 1 j = ar_1 1 j := fun j h => by rw [ear_8, ua_s, show (118 : Int32).toNatClampNeg = 118 from rfl, pk_un h, ca 1 (by omega) (by omega)]
        refine lv_iconst (v := 0) hx hb dX11_readSlots_54 (by decide) ?_
        refine lv_istore_n (lv' := [(2, .int 0), (1, .int r_1), (0, .ref (ad 0))]) hx hb dX11_readSlots_55 rfl hl (by decide) rfl (fun ls hl => ?_)
        have loop11 : ∀ (n : Nat) (x2_9 : Int32) (ar_10 : gAr) (H : Heap) (locs : List Loc) (ls : Array Slot), (((r_1.toInt) - (x2_9.toInt)).toNat) < n → (0 ≤ (x2_9.toInt) ∧ (x2_9.toInt) ≤ (r_1.toInt)) → (ar_10 1 118 = r_1) → (∀ c, c ≠ 1 → ar_10 c = ar_7 c) → (∀ j, j < 118 → ar_10 1 j = ar_1 1 j) → (∀ i : Nat, i < 6 → 0 ≤ (ar_10 1 (119 + i)).toInt ∧ (ar_10 1 (119 + i)).toInt < 108) → va_P D vwCl (MW cy ad iv_7 ar_10) H → va_S (mA ad s.heap.size) s.heap H locs → lv_has ls 3 [(2, .int x2_9), (1, .int r_1), (0, .ref (ad 0))] → W p l e (headSpec wsX11_readSlots (({ frames := 2, cells := 0, slots := 0, locals := 46 } : Room))).room s m (([.ref (ad 0)] : List Value).toArray) below meth c H locs 0 0 Q (F0 m 56 ls []) := by
          intro n
          induction n with
          | zero => intro x2_9 ar_10 H locs ls hm; omega
          | succ n ih11 =>
            intro x2_9 ar_10 H locs ls hm hg0 hgn hga hge hgx hP hS hl
            refine lv_iload_n hx hb dX11_readSlots_56 rfl (lv_at hl 0 rfl) ?_
            refine lv_iload_n hx hb dX11_readSlots_57 rfl (lv_at hl 1 rfl) ?_
            refine lv_icmp_ge (tgt := 82) hx hb dX11_readSlots_58 (by decide) (fun c_12 => ?_) (fun c_12 => ?_)
            · skip
              have q_12 : r_1.toInt ≤ x2_9.toInt := i_le2 (rfl : r_1.toInt = r_1.toInt) (rfl : x2_9.toInt = x2_9.toInt) c_12
              have hri3 : RI iv_7 ar_10 := RI.chg hri2 (SI.sls hri2.1 hge ⟨by rw [hgn]; omega, by rw [hgn]; omega⟩ hgx) c3 (fun k hk => SI.of (cpa k hk) (fun i hi => by show ar_10 2 _ = _; rw [hga 2 (by omega)])) (fun g hg => by rw [hga 6 (by omega)]; exact cz g hg) c15 (ci 0 4 (by omega)) (ci 0 17 (by omega)) (by rw [hga 7 (by omega)]; exact ca 7 (by omega) (by omega)) (by rw [hga 8 (by omega)]; exact ca 8 (by omega) (by omega))
              refine lv_iload_n hx hb dX11_readSlots_82 rfl (lv_at hl 1 rfl) ?_
              rw [hQ]
              exact W.iret (v := r_1) hx hb hr (fun t ht hW => ⟨⟨r_1, (iv_7, ar_10), rfl, ⟨hri3, by show (iv_7 0 4).toInt = 0; omega, h18⟩, by show va_P _ _ _ _; rw [ht]; exact hP⟩, hS.F ht⟩) hS.2.2 dX11_readSlots_83
            · skip
              have q_12 : x2_9.toInt < r_1.toInt := i_nle2 (rfl : r_1.toInt = r_1.toInt) (rfl : x2_9.toInt = x2_9.toInt) c_12
              refine lv_aload_n hx hb dX11_readSlots_61 rfl (lv_at hl 2 rfl) ?_
              refine va_get (D := D) (ci := 11) (v := .ref (ad 1)) (C := RX11) (T := TX11) (N := 30) hx hb hts inX11 hown hK hP 0 (m_at11 (Nat.le_of_ble_eq_true rfl) rfl) rfl 0 (by decide) lk1 (fun _ h9 => h9) rfl dX11_readSlots_62 ?_
              refine lv_bipush (v := 119) hx hb dX11_readSlots_65 (by decide) ?_
              refine lv_iload_n hx hb dX11_readSlots_67 rfl (lv_at hl 0 rfl) ?_
              refine lv_iadd hx hb dX11_readSlots_68 ?_
              refine lv_topi (fun v_13 ev_13 => ?_)
              have tv_13 : v_13.toInt = (119 : Int) + x2_9.toInt := i_add (show (119 : Int32).toInt = (119 : Int) from rfl) (rfl : x2_9.toInt = x2_9.toInt) (by omega) (by omega) ev_13
              refine lv_aload_n hx hb dX11_readSlots_69 rfl (lv_at hl 2 rfl) ?_
              refine va_get (D := D) (ci := 11) (v := .ref (ad 4)) (C := RX11) (T := TX11) (N := 30) hx hb hts inX11 hown hK hP 0 (m_at11 (Nat.le_of_ble_eq_true rfl) rfl) rfl 6 (by decide) lk2 (fun _ h9 => h9) rfl dX11_readSlots_70 ?_
              refine lv_iload_n hx hb dX11_readSlots_73 rfl (lv_at hl 0 rfl) ?_
              refine va_iald hx hb hK hP 4 0 (m_at12 (Nat.le_of_ble_eq_true rfl) rfl) rfl (g_in (N := 60) (rfl : x2_9.toInt = x2_9.toInt) rfl (by omega) (by omega)) dX11_readSlots_74 ?_
              refine lv_topi (fun v_14 ev_14 => ?_)
              have hv3 : 0 ≤ v_14.toInt ∧ v_14.toInt < 108 := by
                rw [ev_14, g_cN (rfl : x2_9.toInt = _), hga 4 (by omega), ca 4 (by omega) (by omega)]
                exact wr4 (x2_9.toInt).toNat (by omega)
              refine va_iast hx hb hK hP (mD hI) hS 1 0 (m_at12 (Nat.le_of_ble_eq_true rfl) rfl) rfl (g_in (N := 126) (rfl : v_13.toInt = v_13.toInt) rfl (by omega) (by omega)) dX11_readSlots_75 (fun H locs hP _ hS => ?_)
              rw [m_pt12 (Nat.le_of_ble_eq_true rfl) rfl] at hP
              obtain ⟨ar_15, ear_15⟩ : ∃ z : gAr, z = va_up ar_10 1 (upd (ar_10 1) v_13.toNatClampNeg v_14) := ⟨_, rfl⟩
              rw [← ear_15] at hP
              have har : ar_15 1 = upd (ar_10 1) (119 + (x2_9.toInt).toNat) v_14 := by rw [ear_15, ua_s, g_cN (rfl : v_13.toInt = _), show (v_13.toInt).toNat = 119 + (x2_9.toInt).toNat from by omega]
              have hga2 : ∀ c, c ≠ 1 → ar_15 c = ar_7 c := fun c h => by rw [ear_15, ua_o h]; exact hga c h
              have hgn2 : ar_15 1 118 = r_1 := by rw [har, pk_un (show 118 ≠ 119 + (x2_9.toInt).toNat from by omega)]; exact hgn
              have hge2 : ∀ j, j < 118 → ar_15 1 j = ar_1 1 j := fun j h => by rw [har, pk_un (show j ≠ 119 + (x2_9.toInt).toNat from by omega)]; exact hge j h
              have hgx2 : ∀ i : Nat, i < 6 → 0 ≤ (ar_15 1 (119 + i)).toInt ∧ (ar_15 1 (119 + i)).toInt < 108 := fun i hi => by
                rw [har]
                by_cases e : i = (x2_9.toInt).toNat
                · rw [e, pk_us]; exact hv3
                · rw [pk_un (show 119 + i ≠ 119 + (x2_9.toInt).toNat from by omega)]; exact hgx i hi
              obtain ⟨x2_16, ex2_16⟩ : ∃ y : Int32, y = x2_9 + 1 := ⟨_, rfl⟩
              have tx2_16 : x2_16.toInt = x2_9.toInt + (1 : Int) := i_add (rfl : x2_9.toInt = x2_9.toInt) (show (1 : Int32).toInt = (1 : Int) from rfl) (by omega) (by omega) ex2_16
              refine lv_iinc (v := x2_16) (lv' := [(2, .int x2_16), (1, .int r_1), (0, .ref (ad 0))]) hx hb dX11_readSlots_76 hl (k := 0) rfl (by rw [ex2_16]; rfl) (by decide) rfl (fun ls hl => ?_)
              refine lv_goto (tgt := 56) hx hb dX11_readSlots_79 (by decide) ?_
              exact ih11 x2_16 ar_15 _ _ _ (by omega) (by omega) hgn2 hga2 hge2 hgx2 hP hS (lv_sub hl [0, 1, 2] rfl)
        have zl_17 : (0 : Int32).toInt = (0 : Int) := rfl
        exact loop11 ((((r_1.toInt) - ((0 : Int))).toNat) + 1) 0 ar_8 _ _ _ (by omega) (by omega) hgn0 hga0 (fun j h => hge0 j (by omega)) (fun i hi => by rw [hge0 (119 + i) (by omega)]; exact ⟨(hs1 i hi).2.2.1, (hs1 i hi).2.2.2⟩) hP hS (lv_sub hl [0, 1, 2] rfl)
      · skip
        have q_6 : r_5.toInt ≠ (0 : Int) := i_ne2 (rfl : r_5.toInt = r_5.toInt) (show (0 : Int32).toInt = (0 : Int) from rfl) c_6
        refine lv_bipush (v := (-4)) hx hb dX11_readSlots_39 (by decide) ?_
        rw [hQ]
        exact W.iret (v := (-4)) hx hb hr (fun t ht hW => ⟨⟨(-4), (iv_2, ar_1), rfl, ⟨hri2, by show (iv_2 0 4).toInt = 0; omega, h17⟩, by show va_P _ _ _ _; rw [ht]; exact hP⟩, hS.F ht⟩) hS.2.2 dX11_readSlots_41
    · skip
      have q_4 : (6 : Int) < r_1.toInt := i_nle2 (rfl : r_1.toInt = r_1.toInt) (show (6 : Int32).toInt = (6 : Int) from rfl) c_4
      refine lv_bipush (v := (-3)) hx hb dX11_readSlots_28 (by decide) ?_
      rw [hQ]
      exact W.iret (v := (-3)) hx hb hr (fun t ht hW => ⟨⟨(-3), (iv_2, ar_1), rfl, ⟨hri2, by show (iv_2 0 4).toInt = 0; omega, h17⟩, by show va_P _ _ _ _; rw [ht]; exact hP⟩, hS.F ht⟩) hS.2.2 dX11_readSlots_30
  · skip
    have q_3 : r_1.toInt < (0 : Int) := i_nle2 (show (0 : Int32).toInt = (0 : Int) from rfl) (rfl : r_1.toInt = r_1.toInt) c_3
    refine lv_bipush (v := (-100)) hx hb dX11_readSlots_14 (by decide) ?_
    refine lv_aload_n hx hb dX11_readSlots_16 rfl (lv_at hl 1 rfl) ?_
    refine va_get (D := D) (ci := 11) (v := .int (iv_2 0 5)) (C := RX11) (T := TX11) (N := 30) hx hb hts inX11 hown hK hP 0 (m_at11 (Nat.le_of_ble_eq_true rfl) rfl) rfl 5 (by decide) lk3 (fun _ h9 => h9) rfl dX11_readSlots_17 ?_
    have f_18 : iv_2 0 5 = iv_1 0 5 := by rw [eiv_2, u2_o (by omega)]
    refine lv_isub hx hb dX11_readSlots_20 ?_
    refine lv_topi (fun v_19 ev_19 => ?_)
    rw [hQ]
    exact W.iret (v := v_19) hx hb hr (fun t ht hW => ⟨⟨v_19, (iv_2, ar_1), rfl, ⟨hri2, by show (iv_2 0 4).toInt = 0; omega, h17⟩, by show va_P _ _ _ _; rw [ht]; exact hP⟩, hS.F ht⟩) hS.2.2 dX11_readSlots_21
