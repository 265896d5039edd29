set_option maxHeartbeats 4000000 in
set_option maxRecDepth 100000 in
theorem c_X11_nextDrone (l : Launch) (D : va_G) (cy : Nat → ClassId) (ad : Nat → Nat) (hI : mInj ad) (sz : Nat) (iv : gIv) (ar : gAr) (a : Int32) (hsb : SB (ar 1)) (hka : KA ar) (hgo : ∀ i : Nat, (i : Int) < (ar 1 111).toInt → 0 ≤ (ar 14 i).toInt ∧ (ar 14 i).toInt < 108) : Met l yX11_nextDrone wsX11_nextDrone ({ frames := 4, cells := 0, slots := 0, locals := 96 } : Room) (va_Pc [.ref (ad 0), .int a] (mPre D cy ad sz iv ar)) (va_Qi (fun (r : Int32) (u : gIv × gAr) => u.1 = iv ∧ (∀ c, c ≠ 5 → c ≠ 6 → u.2 c = ar c) ∧ KA u.2 ∧ (r.toInt = -1 ∧ (∀ i : Nat, (i : Int) < (ar 1 111).toInt → bt a i ≠ 0) ∨ 0 ≤ r.toInt ∧ r.toInt < (ar 1 111).toInt ∧ bt a r.toInt.toNat = 0)) (mPost D cy ad) (mA ad sz)) 0 0 (mA ad sz) := by
  refine Met.ofW (cc := cX11_nextDrone) (maxL := 6) (ret := (some .int)) (by decide) rfl ?_
  intro p e s m args below meth c s₁ B hml hv
  obtain ⟨rfl, rfl, hP, hK, hSt, hNw⟩ := hv
  have hx := B.exec
  have hb := B.bytes
  have hr := B.returns
  have hts := atoms_spec (ws := wsX11_nextDrone) B.pre
  have hown : s.vm.findClass RX11 = some m.cls := findClass_of_methodNamed B.named
  have hlocks := B.notSynchronized
  have hS : va_S (mA ad s.heap.size) s.heap s.heap [] := va_S.rf
  have inX11 : ∀ w ∈ u_ws RX11 TX11 30, w ∈ wsX11_nextDrone := by decide +kernel
  have lk0 := hts (.fieldLink RX11 9 "FormationPlannerModel" "s" "[I") (by decide +kernel)
  have lk1 := hts (.fieldLink RX11 54 "FormationPlannerModel" "goal" "[I") (by decide +kernel)
  have hl := lv_entry ([.ref (ad 0), .int a]) (n := 6) (Nat.le_of_ble_eq_true rfl)
  rw [lg_entry_eq]
  generalize (lg_sl ([.ref (ad 0), .int a]) ++ List.replicate (6 - (lg_sl ([.ref (ad 0), .int a])).length) Slot.unset).toArray = ls at hl ⊢
  have hl : lv_has ls 6 [(0, .ref (ad 0)), (1, .int a)] := hl
  obtain ⟨Q, hQ⟩ : ∃ Q, Q = MQ below (va_Qi (fun (r : Int32) (u : gIv × gAr) => u.1 = iv ∧ (∀ c, c ≠ 5 → c ≠ 6 → u.2 c = ar c) ∧ KA u.2 ∧ (r.toInt = -1 ∧ (∀ i : Nat, (i : Int) < (ar 1 111).toInt → bt a i ≠ 0) ∨ 0 ≤ r.toInt ∧ r.toInt < (ar 1 111).toInt ∧ bt a r.toInt.toNat = 0)) (mPost D cy ad) (mA ad s.heap.size)) (([.ref (ad 0), .int a] : List Value).toArray) s 0 0 (mA ad s.heap.size) := ⟨_, rfl⟩
  rw [← hQ]
  obtain ⟨hs1, hs2, hs3, hs4, hs5⟩ := id hsb
  refine lv_iconst (v := (-1)) hx hb dX11_nextDrone_0 (by decide) ?_
  refine lv_istore_n (lv' := [(2, .int (-1)), (0, .ref (ad 0)), (1, .int a)]) hx hb dX11_nextDrone_1 rfl hl (by decide) rfl (fun ls hl => ?_)
  refine lv_iconst (v := (-1)) hx hb dX11_nextDrone_2 (by decide) ?_
  refine lv_istore_n (lv' := [(3, .int (-1)), (2, .int (-1)), (0, .ref (ad 0)), (1, .int a)]) hx hb dX11_nextDrone_3 rfl hl (by decide) rfl (fun ls hl => ?_)
  refine lv_iconst (v := 0) hx hb dX11_nextDrone_4 (by decide) ?_
  refine lv_istore (lv' := [(4, .int 0), (3, .int (-1)), (2, .int (-1)), (0, .ref (ad 0)), (1, .int a)]) hx hb dX11_nextDrone_5 hl (by decide) rfl (fun ls hl => ?_)
  have loop5 : ∀ (n : Nat) (x4_1 : Int32) (x3_2 : Int32) (x2_3 : Int32) (ar_4 : gAr) (H : Heap) (locs : List Loc) (ls : Array Slot), ((6 - (x4_1.toInt)).toNat) < n → (0 ≤ (x4_1.toInt) ∧ (x4_1.toInt) ≤ 6) → (∀ c, c ≠ 5 → c ≠ 6 → ar_4 c = ar c) → (KA ar_4) → (((x2_3.toInt) = -1 ∧ (x3_2.toInt) = -1 ∧ ∀ i : Nat, (i : Int) < (x4_1.toInt) → bt a i ≠ 0) ∨ 0 ≤ (x2_3.toInt) ∧ (x2_3.toInt) < (ar 1 111).toInt ∧ bt a (x2_3.toInt).toNat = 0) → va_P D vwCl (MW cy ad iv ar_4) H → va_S (mA ad s.heap.size) s.heap H locs → lv_has ls 6 [(4, .int x4_1), (3, .int x3_2), (2, .int x2_3), (0, .ref (ad 0)), (1, .int a)] → W p l e (headSpec wsX11_nextDrone (({ frames := 4, cells := 0, slots := 0, locals := 96 } : Room))).room s m (([.ref (ad 0), .int a] : List Value).toArray) below meth c H locs 0 0 Q (F0 m 7 ls []) := by
    intro n
    induction n with
    | zero => intro x4_1 x3_2 x2_3 ar_4 H locs ls hm; omega
    | succ n ih5 =>
      intro x4_1 x3_2 x2_3 ar_4 H locs ls hm hg0 hga hgk hfd hP hS hl
      refine lv_iload hx hb dX11_nextDrone_7 (lv_at hl 0 rfl) ?_
      refine lv_aload_n hx hb dX11_nextDrone_9 rfl (lv_at hl 3 rfl) ?_
      refine va_get (D := D) (ci := 11) (v := .ref (ad 1)) (C := RX11) (T := TX11) (N := 30) hx hb hts inX11 hown hK hP 0 (m_at11 (Nat.le_of_ble_eq_true rfl) rfl) rfl 0 (by decide) lk0 (fun _ h9 => h9) rfl dX11_nextDrone_10 ?_
      refine lv_bipush (v := 111) hx hb dX11_nextDrone_13 (by decide) ?_
      refine va_iald hx hb hK hP 1 0 (m_at12 (Nat.le_of_ble_eq_true rfl) rfl) rfl (g_in (N := 126) (show (111 : Int32).toInt = (111 : Int) from rfl) rfl (by omega) (by omega)) dX11_nextDrone_15 ?_
      refine lv_topi (fun v_6 ev_6 => ?_)
      have hv1 : v_6.toInt = (ar 1 111).toInt := by rw [ev_6, hga 1 (by omega) (by omega)]; rfl
      refine lv_icmp_ge (tgt := 69) hx hb dX11_nextDrone_16 (by decide) (fun c_7 => ?_) (fun c_7 => ?_)
      · skip
        have q_7 : v_6.toInt ≤ x4_1.toInt := i_le2 (rfl : v_6.toInt = v_6.toInt) (rfl : x4_1.toInt = x4_1.toInt) c_7
        refine lv_iload_n hx hb dX11_nextDrone_69 rfl (lv_at hl 2 rfl) ?_
        rw [hQ]
        exact W.iret (v := x2_3) hx hb hr (fun t ht hW => ⟨⟨x2_3, (iv, ar_4), rfl, ⟨rfl, hga, hgk, by
          rcases hfd with z | z
          · exact Or.inl ⟨z.1, fun i hi => z.2.2 i (by omega)⟩
          · exact Or.inr z⟩, by show va_P _ _ _ _; rw [ht]; exact hP⟩, hS.F ht⟩) hS.2.2 dX11_nextDrone_70
      · skip
        have q_7 : x4_1.toInt < v_6.toInt := i_nle2 (rfl : v_6.toInt = v_6.toInt) (rfl : x4_1.toInt = x4_1.toInt) c_7
        refine lv_aload_n hx hb dX11_nextDrone_19 rfl (lv_at hl 3 rfl) ?_
        refine lv_aload_n hx hb dX11_nextDrone_20 rfl (lv_at hl 3 rfl) ?_
        refine va_get (D := D) (ci := 11) (v := .ref (ad 1)) (C := RX11) (T := TX11) (N := 30) hx hb hts inX11 hown hK hP 0 (m_at11 (Nat.le_of_ble_eq_true rfl) rfl) rfl 0 (by decide) lk0 (fun _ h9 => h9) rfl dX11_nextDrone_21 ?_
        refine lv_bipush (v := 112) hx hb dX11_nextDrone_24 (by decide) ?_
        refine lv_iload hx hb dX11_nextDrone_26 (lv_at hl 0 rfl) ?_
        refine lv_iadd hx hb dX11_nextDrone_28 ?_
        refine lv_topi (fun v_8 ev_8 => ?_)
        have tv_8 : v_8.toInt = (112 : Int) + x4_1.toInt := i_add (show (112 : Int32).toInt = (112 : Int) from rfl) (rfl : x4_1.toInt = x4_1.toInt) (by omega) (by omega) ev_8
        refine va_iald hx hb hK hP 1 0 (m_at12 (Nat.le_of_ble_eq_true rfl) rfl) rfl (g_in (N := 126) (rfl : v_8.toInt = v_8.toInt) rfl (by omega) (by omega)) dX11_nextDrone_29 ?_
        refine lv_topi (fun v_9 ev_9 => ?_)
        have hv2 : 0 ≤ v_9.toInt ∧ v_9.toInt < 108 := by
          rw [ev_9, g_cN (rfl : v_8.toInt = _), hga 1 (by omega) (by omega), show (v_8.toInt).toNat = 112 + (x4_1.toInt).toNat from by omega]
          exact ⟨(hs5 (x4_1.toInt).toNat (by omega)).1, (hs5 (x4_1.toInt).toNat (by omega)).2.1⟩
        refine lv_aload_n hx hb dX11_nextDrone_30 rfl (lv_at hl 3 rfl) ?_
        refine va_get (D := D) (ci := 11) (v := .ref (ad 14)) (C := RX11) (T := TX11) (N := 30) hx hb hts inX11 hown hK hP 0 (m_at11 (Nat.le_of_ble_eq_true rfl) rfl) rfl 24 (by decide) lk1 (fun _ h9 => h9) rfl dX11_nextDrone_31 ?_
        refine lv_iload hx hb dX11_nextDrone_34 (lv_at hl 0 rfl) ?_
        refine va_iald hx hb hK hP 14 0 (m_at12 (Nat.le_of_ble_eq_true rfl) rfl) rfl (g_in (N := 6) (rfl : x4_1.toInt = x4_1.toInt) rfl (by omega) (by omega)) dX11_nextDrone_36 ?_
        refine lv_topi (fun v_10 ev_10 => ?_)
        have hv3 : 0 ≤ v_10.toInt ∧ v_10.toInt < 108 := by
          rw [ev_10, g_cN (rfl : x4_1.toInt = _), hga 14 (by omega) (by omega)]
          exact hgo (x4_1.toInt).toNat (by omega)
        refine m_calli (va_runV (As := [.int v_9, .int v_10]) (rest := []) ⟨hx, hb, hml, hown, hts⟩ (c_X11_time l D cy ad hI _ iv ar_4 v_9 v_10 (by omega) (by omega) hgk) (cwV 2 hts gX11_nextDrone_X11_time rfl rfl rfl (by decide +kernel) ⟨Nat.le_of_ble_eq_true rfl, Nat.le_of_ble_eq_true rfl⟩) (m_preV hP hK hSt hNw hS (m_at11 (Nat.le_of_ble_eq_true rfl) rfl) rfl) rfl rfl hl.1 rfl (lv_room (Nat.le_of_ble_eq_true rfl)) dX11_nextDrone_37 ⟨Nat.zero_le _, Nat.zero_le _⟩) hS (fun r_11 iv_11 ar_11 H locs w_11 hP hS => ?_)
        try dsimp only at w_11
        have wi_11 := (w_11.2.1).symm
        subst wi_11
        obtain ⟨wt1, -, wf1, wk1, ws1, wn1⟩ := w_11
        have hb1 := ((wk1 v_10.toInt.toNat (by omega) wn1).1 v_9.toInt.toNat (by omega)).1
        rw [← wt1] at hb1
        have hga2 : ∀ c, c ≠ 5 → c ≠ 6 → ar_11 c = ar c := fun c h5 h6 => (wf1 c h5 h6).trans (hga c h5 h6)
        refine lv_istore (lv' := [(5, .int r_11), (4, .int x4_1), (3, .int x3_2), (2, .int x2_3), (0, .ref (ad 0)), (1, .int a)]) hx hb dX11_nextDrone_40 hl (by decide) rfl (fun ls hl => ?_)
        refine lv_iload_n hx hb dX11_nextDrone_42 rfl (lv_at hl 5 rfl) ?_
        refine lv_iload hx hb dX11_nextDrone_43 (lv_at hl 1 rfl) ?_
        refine lv_ishr hx hb dX11_nextDrone_45 ?_
        refine lv_topi (fun v_12 ev_12 => ?_)
        have hsh : v_12 = a >>> (x4_1 &&& 31) := ev_12
        refine lv_iconst (v := 1) hx hb dX11_nextDrone_46 (by decide) ?_
        refine lv_iand hx hb dX11_nextDrone_47 ?_
        refine lv_topi (fun v_13 ev_13 => ?_)
        have hbt : v_13.toInt = bt a (x4_1.toInt).toNat := by rw [ev_13, hsh]; unfold bt; rw [of_i (by omega)]
        refine lv_if_ne (tgt := 63) hx hb dX11_nextDrone_48 (by decide) (fun c_14 => ?_) (fun c_14 => ?_)
        · skip
          have q_14 : v_13.toInt ≠ (0 : Int) := i_ne2 (rfl : v_13.toInt = v_13.toInt) (show (0 : Int32).toInt = (0 : Int) from rfl) c_14
          have hfd2 : ((x2_3.toInt) = -1 ∧ (x3_2.toInt) = -1 ∧ ∀ i : Nat, (i : Int) < ((x4_1.toInt) + 1) → bt a i ≠ 0) ∨ 0 ≤ (x2_3.toInt) ∧ (x2_3.toInt) < (ar 1 111).toInt ∧ bt a (x2_3.toInt).toNat = 0 := by
            have zm := i_m1
            first
            | exact Or.inr ⟨by omega, by omega, by omega⟩
            | exact hfd.elim (fun z => Or.inl ⟨z.1, z.2.1, fun i hi => (Classical.em ((i : Int) = (x4_1.toInt))).elim (fun e => by
              have e2 : i = (x4_1.toInt).toNat := by omega
              have z1 := z.1
              have z2 := z.2.1
              rw [e2]
              omega) (fun e => z.2.2 i (by omega))⟩) (fun z => Or.inr ⟨z.1, by have := z.2.1; omega, z.2.2⟩)
          obtain ⟨x4_15, ex4_15⟩ : ∃ y : Int32, y = x4_1 + 1 := ⟨_, rfl⟩
          have tx4_15 : x4_15.toInt = x4_1.toInt + (1 : Int) := i_add (rfl : x4_1.toInt = x4_1.toInt) (show (1 : Int32).toInt = (1 : Int) from rfl) (by omega) (by omega) ex4_15
          refine lv_iinc (v := x4_15) (lv' := [(4, .int x4_15), (5, .int r_11), (3, .int x3_2), (2, .int x2_3), (0, .ref (ad 0)), (1, .int a)]) hx hb dX11_nextDrone_63 hl (k := 1) rfl (by rw [ex4_15]; rfl) (by decide) rfl (fun ls hl => ?_)
          refine lv_goto (tgt := 7) hx hb dX11_nextDrone_66 (by decide) ?_
          exact ih5 x4_15 x3_2 x2_3 ar_11 _ _ _ (by omega) (by omega) hga2 wk1 (by have h9 := hg0; rw [show (x4_15.toInt) = (x4_1.toInt) + 1 from by omega]; exact hfd2) hP hS (lv_sub hl [0, 2, 3, 4, 5] rfl)
        · skip
          have q_14 : v_13.toInt = (0 : Int) := i_eq2 (rfl : v_13.toInt = v_13.toInt) (show (0 : Int32).toInt = (0 : Int) from rfl) c_14
          refine lv_iload hx hb dX11_nextDrone_51 (lv_at hl 0 rfl) ?_
          refine lv_iload_n hx hb dX11_nextDrone_53 rfl (lv_at hl 2 rfl) ?_
          refine lv_icmp_le (tgt := 63) hx hb dX11_nextDrone_54 (by decide) (fun c_16 => ?_) (fun c_16 => ?_)
          · skip
            have q_16 : r_11.toInt ≤ x3_2.toInt := i_le2 (rfl : r_11.toInt = r_11.toInt) (rfl : x3_2.toInt = x3_2.toInt) c_16
            have hfd2 : ((x2_3.toInt) = -1 ∧ (x3_2.toInt) = -1 ∧ ∀ i : Nat, (i : Int) < ((x4_1.toInt) + 1) → bt a i ≠ 0) ∨ 0 ≤ (x2_3.toInt) ∧ (x2_3.toInt) < (ar 1 111).toInt ∧ bt a (x2_3.toInt).toNat = 0 := by
              have zm := i_m1
              first
              | exact Or.inr ⟨by omega, by omega, by omega⟩
              | exact hfd.elim (fun z => Or.inl ⟨z.1, z.2.1, fun i hi => (Classical.em ((i : Int) = (x4_1.toInt))).elim (fun e => by
                have e2 : i = (x4_1.toInt).toNat := by omega
                have z1 := z.1
                have z2 := z.2.1
                rw [e2]
                omega) (fun e => z.2.2 i (by omega))⟩) (fun z => Or.inr ⟨z.1, by have := z.2.1; omega, z.2.2⟩)
            obtain ⟨x4_17, ex4_17⟩ : ∃ y : Int32, y = x4_1 + 1 := ⟨_, rfl⟩
            have tx4_17 : x4_17.toInt = x4_1.toInt + (1 : Int) := i_add (rfl : x4_1.toInt = x4_1.toInt) (show (1 : Int32).toInt = (1 : Int) from rfl) (by omega) (by omega) ex4_17
            refine lv_iinc (v := x4_17) (lv' := [(4, .int x4_17), (5, .int r_11), (3, .int x3_2), (2, .int x2_3), (0, .ref (ad 0)), (1, .int a)]) hx hb dX11_nextDrone_63 hl (k := 1) rfl (by rw [ex4_17]; rfl) (by decide) rfl (fun ls hl => ?_)
            refine lv_goto (tgt := 7) hx hb dX11_nextDrone_66 (by decide) ?_
            exact ih5 x4_17 x3_2 x2_3 ar_11 _ _ _ (by omega) (by omega) hga2 wk1 (by have h9 := hg0; rw [show (x4_17.toInt) = (x4_1.toInt) + 1 from by omega]; exact hfd2) hP hS (lv_sub hl [0, 2, 3, 4, 5] rfl)
          · skip
            have q_16 : x3_2.toInt < r_11.toInt := i_nle2 (rfl : r_11.toInt = r_11.toInt) (rfl : x3_2.toInt = x3_2.toInt) c_16
            refine lv_iload hx hb dX11_nextDrone_57 (lv_at hl 1 rfl) ?_
            refine lv_istore_n (lv' := [(2, .int x4_1), (5, .int r_11), (4, .int x4_1), (3, .int x3_2), (0, .ref (ad 0)), (1, .int a)]) hx hb dX11_nextDrone_59 rfl hl (by decide) rfl (fun ls hl => ?_)
            refine lv_iload hx hb dX11_nextDrone_60 (lv_at hl 1 rfl) ?_
            refine lv_istore_n (lv' := [(3, .int r_11), (2, .int x4_1), (5, .int r_11), (4, .int x4_1), (0, .ref (ad 0)), (1, .int a)]) hx hb dX11_nextDrone_62 rfl hl (by decide) rfl (fun ls hl => ?_)
            have hfd2 : ((x4_1.toInt) = -1 ∧ (r_11.toInt) = -1 ∧ ∀ i : Nat, (i : Int) < ((x4_1.toInt) + 1) → bt a i ≠ 0) ∨ 0 ≤ (x4_1.toInt) ∧ (x4_1.toInt) < (ar 1 111).toInt ∧ bt a (x4_1.toInt).toNat = 0 := by
              have zm := i_m1
              first
              | exact Or.inr ⟨by omega, by omega, by omega⟩
              | exact hfd.elim (fun z => Or.inl ⟨z.1, z.2.1, fun i hi => (Classical.em ((i : Int) = (x4_1.toInt))).elim (fun e => by
                have e2 : i = (x4_1.toInt).toNat := by omega
                have z1 := z.1
                have z2 := z.2.1
                rw [e2]
                omega) (fun e => z.2.2 i (by omega))⟩) (fun z => Or.inr ⟨z.1, by have := z.2.1; omega, z.2.2⟩)
            obtain ⟨x4_18, ex4_18⟩ : ∃ y : Int32, y = x4_1 + 1 := ⟨_, rfl⟩
            have tx4_18 : x4_18.toInt = x4_1.toInt + (1 : Int) := i_add (rfl : x4_1.toInt = x4_1.toInt) (show (1 : Int32).toInt = (1 : Int) from rfl) (by omega) (by omega) ex4_18
            refine lv_iinc (v := x4_18) (lv' := [(4, .int x4_18), (3, .int r_11), (2, .int x4_1), (5, .int r_11), (0, .ref (ad 0)), (1, .int a)]) hx hb dX11_nextDrone_63 hl (k := 3) rfl (by rw [ex4_18]; rfl) (by decide) rfl (fun ls hl => ?_)
            refine lv_goto (tgt := 7) hx hb dX11_nextDrone_66 (by decide) ?_
            exact ih5 x4_18 r_11 x4_1 ar_11 _ _ _ (by omega) (by omega) hga2 wk1 (by have h9 := hg0; rw [show (x4_18.toInt) = (x4_1.toInt) + 1 from by omega]; exact hfd2) hP hS (lv_sub hl [0, 1, 2, 4, 5] rfl)
  have zl_19 : (0 : Int32).toInt = (0 : Int) := rfl
  have zl_20 : ((-1) : Int32).toInt = (-1 : Int) := rfl
  have zl_21 : ((-1) : Int32).toInt = (-1 : Int) := rfl
  exact loop5 (((6 - ((0 : Int))).toNat) + 1) 0 (-1) (-1) ar _ _ _ (by omega) (by omega) (fun _ _ _ => rfl) hka (Or.inl ⟨rfl, rfl, fun i hi => by exfalso; omega⟩) hP hS (lv_sub hl [0, 1, 2, 3, 4] rfl)
set_option maxHeartbeats 4000000 in
set_option maxRecDepth 100000 in
theorem c_X11_earliest (l : Launch) (D : va_G) (cy : Nat → ClassId) (ad : Nat → Nat) (hI : mInj ad) (sz : Nat) (iv : gIv) (ar : gAr) (a : Int32) (hd : 0 ≤ a.toInt ∧ a.toInt < (ar 1 111).toInt) (hsi : SI (ar 1)) (hg1 : 0 ≤ (ar 14 a.toInt.toNat).toInt ∧ (ar 14 a.toInt.toNat).toInt < 108) : Met l yX11_earliest wsX11_earliest ({ frames := 3, cells := 0, slots := 0, locals := 73 } : Room) (va_Pc [.ref (ad 0), .int a] (mPre D cy ad sz iv ar)) (va_Qi (fun (r : Int32) (u : gIv × gAr) => u.1 = iv ∧ (∀ c, c ≠ 16 → u.2 c = ar c) ∧ RCH (ar 1) (ar 15) (u.2 16) ((ar 1 (112 + a.toInt.toNat)).toInt.toNat) ∧ (r.toInt = -1 ∨ 0 ≤ r.toInt ∧ r.toInt ≤ 60 ∧ (u.2 16 (108 * r.toInt.toNat + (ar 14 a.toInt.toNat).toInt.toNat)).toInt ≠ 0)) (mPost D cy ad) (mA ad sz)) 0 0 (mA ad sz) := by
  refine Met.ofW (cc := cX11_earliest) (maxL := 5) (ret := (some .int)) (by decide) rfl ?_
  intro p e s m args below meth c s₁ B hml hv
  obtain ⟨rfl, rfl, hP, hK, hSt, hNw⟩ := hv
  have hx := B.exec
  have hb := B.bytes
  have hr := B.returns
  have hts := atoms_spec (ws := wsX11_earliest) B.pre
  have hown : s.vm.findClass RX11 = some m.cls := findClass_of_methodNamed B.named
  have hlocks := B.notSynchronized
  have hS : va_S (mA ad s.heap.size) s.heap s.heap [] := va_S.rf
  have inX11 : ∀ w ∈ u_ws RX11 TX11 30, w ∈ wsX11_earliest := by decide +kernel
  have lk0 := hts (.fieldLink RX11 60 "FormationPlannerModel" "isReached" "[Z") (by decide +kernel)
  have lk1 := hts (.fieldLink RX11 9 "FormationPlannerModel" "s" "[I") (by decide +kernel)
  have lk2 := hts (.fieldLink RX11 54 "FormationPlannerModel" "goal" "[I") (by decide +kernel)
  have hl := lv_entry ([.ref (ad 0), .int a]) (n := 5) (Nat.le_of_ble_eq_true rfl)
  rw [lg_entry_eq]
  generalize (lg_sl ([.ref (ad 0), .int a]) ++ List.replicate (5 - (lg_sl ([.ref (ad 0), .int a])).length) Slot.unset).toArray = ls at hl ⊢
  have hl : lv_has ls 5 [(0, .ref (ad 0)), (1, .int a)] := hl
  obtain ⟨Q, hQ⟩ : ∃ Q, Q = MQ below (va_Qi (fun (r : Int32) (u : gIv × gAr) => u.1 = iv ∧ (∀ c, c ≠ 16 → u.2 c = ar c) ∧ RCH (ar 1) (ar 15) (u.2 16) ((ar 1 (112 + a.toInt.toNat)).toInt.toNat) ∧ (r.toInt = -1 ∨ 0 ≤ r.toInt ∧ r.toInt ≤ 60 ∧ (u.2 16 (108 * r.toInt.toNat + (ar 14 a.toInt.toNat).toInt.toNat)).toInt ≠ 0)) (mPost D cy ad) (mA ad s.heap.size)) (([.ref (ad 0), .int a] : List Value).toArray) s 0 0 (mA ad s.heap.size) := ⟨_, rfl⟩
  rw [← hQ]
  obtain ⟨⟨hs1, hs2, hs3, hs4, hs5⟩, hs6⟩ := id hsi
  have hst := hs5 a.toInt.toNat (by omega)
  have hsn := hs6 a.toInt.toNat (by omega) (by omega)
  refine lv_iconst (v := 0) hx hb dX11_earliest_0 (by decide) ?_
  refine lv_istore_n (lv' := [(2, .int 0), (0, .ref (ad 0)), (1, .int a)]) hx hb dX11_earliest_1 rfl hl (by decide) rfl (fun ls hl => ?_)
  have loop3 : ∀ (n : Nat) (x2_1 : Int32) (ar_2 : gAr) (H : Heap) (locs : List Loc) (ls : Array Slot), ((6588 - (x2_1.toInt)).toNat) < n → (0 ≤ (x2_1.toInt) ∧ (x2_1.toInt) ≤ 6588) → (∀ c, c ≠ 16 → ar_2 c = ar c) → (∀ i : Nat, (i : Int) < (x2_1.toInt) → (ar_2 16 i).toInt = 0) → va_P D vwCl (MW cy ad iv ar_2) H → va_S (mA ad s.heap.size) s.heap H locs → lv_has ls 5 [(2, .int x2_1), (0, .ref (ad 0)), (1, .int a)] → W p l e (headSpec wsX11_earliest (({ frames := 3, cells := 0, slots := 0, locals := 73 } : Room))).room s m (([.ref (ad 0), .int a] : List Value).toArray) below meth c H locs 0 0 Q (F0 m 2 ls []) := by
    intro n
    induction n with
    | zero => intro x2_1 ar_2 H locs ls hm; omega
    | succ n ih3 =>
      intro x2_1 ar_2 H locs ls hm hz0 hza hzz hP hS hl
      refine lv_iload_n hx hb dX11_earliest_2 rfl (lv_at hl 0 rfl) ?_
      refine lv_sipush (v := 6588) hx hb dX11_earliest_3 (by decide) ?_
      refine lv_icmp_ge (tgt := 22) hx hb dX11_earliest_6 (by decide) (fun c_4 => ?_) (fun c_4 => ?_)
      · skip
        have q_4 : (6588 : Int) ≤ x2_1.toInt := i_le2 (show (6588 : Int32).toInt = (6588 : Int) from rfl) (rfl : x2_1.toInt = x2_1.toInt) c_4
        refine lv_aload_n hx hb dX11_earliest_22 rfl (lv_at hl 1 rfl) ?_
        refine va_get (D := D) (ci := 11) (v := .ref (ad 16)) (C := RX11) (T := TX11) (N := 30) hx hb hts inX11 hown hK hP 0 (m_at11 (Nat.le_of_ble_eq_true rfl) rfl) rfl 27 (by decide) lk0 (fun _ h9 => h9) rfl dX11_earliest_23 ?_
        refine lv_aload_n hx hb dX11_earliest_26 rfl (lv_at hl 1 rfl) ?_
        refine va_get (D := D) (ci := 11) (v := .ref (ad 1)) (C := RX11) (T := TX11) (N := 30) hx hb hts inX11 hown hK hP 0 (m_at11 (Nat.le_of_ble_eq_true rfl) rfl) rfl 0 (by decide) lk1 (fun _ h9 => h9) rfl dX11_earliest_27 ?_
        refine lv_bipush (v := 112) hx hb dX11_earliest_30 (by decide) ?_
        refine lv_iload_n hx hb dX11_earliest_32 rfl (lv_at hl 2 rfl) ?_
        refine lv_iadd hx hb dX11_earliest_33 ?_
        refine lv_topi (fun v_5 ev_5 => ?_)
        have tv_5 : v_5.toInt = (112 : Int) + a.toInt := i_add (show (112 : Int32).toInt = (112 : Int) from rfl) (rfl : a.toInt = a.toInt) (by omega) (by omega) ev_5
        refine va_iald hx hb hK hP 1 0 (m_at12 (Nat.le_of_ble_eq_true rfl) rfl) rfl (g_in (N := 126) (rfl : v_5.toInt = v_5.toInt) rfl (by omega) (by omega)) dX11_earliest_34 ?_
        refine lv_topi (fun v_6 ev_6 => ?_)
        have hv1 : v_6.toInt = (ar 1 (112 + a.toInt.toNat)).toInt := by rw [ev_6, g_cN (rfl : v_5.toInt = _), hza 1 (by omega), show (v_5.toInt).toNat = 112 + a.toInt.toNat from by omega]
        refine lv_iconst (v := 1) hx hb dX11_earliest_35 (by decide) ?_
        refine va_zast hx hb hK hP (mD hI) hS 16 1 (m_at13 (Nat.le_of_ble_eq_true rfl) rfl) rfl (g_in (N := 6588) (rfl : v_6.toInt = v_6.toInt) rfl (by omega) (by omega)) dX11_earliest_36 (fun H locs hP _ hS => ?_)
        rw [m_pt13 (Nat.le_of_ble_eq_true rfl) rfl] at hP
        obtain ⟨ar_7, ear_7⟩ : ∃ z : gAr, z = va_up ar_2 16 (upd (ar_2 16) v_6.toNatClampNeg 1) := ⟨_, rfl⟩
        have hP : va_P D vwCl (MW cy ad iv ar_7) H := by rw [ear_7]; exact hP
        have hga0 : ∀ c, c ≠ 16 → ar_7 c = ar c := fun c h => by rw [ear_7, ua_o h]; exact hza c h
        have hgr0 : RCH (ar 1) (ar 15) (ar_7 16) ((ar 1 (112 + a.toInt.toNat)).toInt.toNat) := by
          rw [ear_7, ua_s, g_cN (rfl : v_6.toInt = _), show (v_6.toInt) = (ar 1 (112 + a.toInt.toNat)).toInt from by omega]
          exact RCH.init (fun i hi => hzz i (by omega)) (by omega) hsn
        refine lv_iconst (v := 0) hx hb dX11_earliest_37 (by decide) ?_
        refine lv_istore_n (lv' := [(2, .int 0), (0, .ref (ad 0)), (1, .int a)]) hx hb dX11_earliest_38 rfl hl (by decide) rfl (fun ls hl => ?_)
        have loop10 : ∀ (n : Nat) (x2_8 : Int32) (ar_9 : gAr) (H : Heap) (locs : List Loc) (ls : Array Slot), ((61 - (x2_8.toInt)).toNat) < n → (0 ≤ (x2_8.toInt) ∧ (x2_8.toInt) ≤ 61) → (∀ c, c ≠ 16 → ar_9 c = ar c) → (RCH (ar 1) (ar 15) (ar_9 16) ((ar 1 (112 + a.toInt.toNat)).toInt.toNat)) → va_P D vwCl (MW cy ad iv ar_9) H → va_S (mA ad s.heap.size) s.heap H locs → lv_has ls 5 [(2, .int x2_8), (0, .ref (ad 0)), (1, .int a)] → W p l e (headSpec wsX11_earliest (({ frames := 3, cells := 0, slots := 0, locals := 73 } : Room))).room s m (([.ref (ad 0), .int a] : List Value).toArray) below meth c H locs 0 0 Q (F0 m 39 ls []) := by
          intro n
          induction n with
          | zero => intro x2_8 ar_9 H locs ls hm; omega
          | succ n ih10 =>
            intro x2_8 ar_9 H locs ls hm hg0 hga hgr hP hS hl
            refine lv_iload_n hx hb dX11_earliest_39 rfl (lv_at hl 0 rfl) ?_
            refine lv_bipush (v := 60) hx hb dX11_earliest_40 (by decide) ?_
            refine lv_icmp_gt (tgt := 173) hx hb dX11_earliest_42 (by decide) (fun c_11 => ?_) (fun c_11 => ?_)
            · skip
              have q_11 : (60 : Int) < x2_8.toInt := i_lt2 (show (60 : Int32).toInt = (60 : Int) from rfl) (rfl : x2_8.toInt = x2_8.toInt) c_11
              refine lv_iconst (v := (-1)) hx hb dX11_earliest_173 (by decide) ?_
              rw [hQ]
              exact W.iret (v := (-1)) hx hb hr (fun t ht hW => ⟨⟨(-1), (iv, ar_9), rfl, ⟨rfl, hga, hgr, Or.inl rfl⟩, by show va_P _ _ _ _; rw [ht]; exact hP⟩, hS.F ht⟩) hS.2.2 dX11_earliest_174
            · skip
              have q_11 : x2_8.toInt ≤ (60 : Int) := i_nlt2 (show (60 : Int32).toInt = (60 : Int) from rfl) (rfl : x2_8.toInt = x2_8.toInt) c_11
              have join12 : ∀  (ls : Array Slot), lv_has ls 5 [(2, .int x2_8), (0, .ref (ad 0)), (1, .int a)] → W p l e (headSpec wsX11_earliest (({ frames := 3, cells := 0, slots := 0, locals := 73 } : Room))).room s m (([.ref (ad 0), .int a] : List Value).toArray) below meth c H locs 0 0 Q (F0 m 80 ls []) := by
                intro  ls  hl
                refine lv_iconst (v := 0) hx hb dX11_earliest_80 (by decide) ?_
                refine lv_istore_n (lv' := [(3, .int 0), (2, .int x2_8), (0, .ref (ad 0)), (1, .int a)]) hx hb dX11_earliest_81 rfl hl (by decide) rfl (fun ls hl => ?_)
                have loop15 : ∀ (n : Nat) (x3_13 : Int32) (ar_14 : gAr) (H : Heap) (locs : List Loc) (ls : Array Slot), ((108 - (x3_13.toInt)).toNat) < n → (0 ≤ (x3_13.toInt) ∧ (x3_13.toInt) ≤ 108) → (∀ c, c ≠ 16 → ar_14 c = ar c) → (RCH (ar 1) (ar 15) (ar_14 16) ((ar 1 (112 + a.toInt.toNat)).toInt.toNat)) → va_P D vwCl (MW cy ad iv ar_14) H → va_S (mA ad s.heap.size) s.heap H locs → lv_has ls 5 [(3, .int x3_13), (2, .int x2_8), (0, .ref (ad 0)), (1, .int a)] → W p l e (headSpec wsX11_earliest (({ frames := 3, cells := 0, slots := 0, locals := 73 } : Room))).room s m (([.ref (ad 0), .int a] : List Value).toArray) below meth c H locs 0 0 Q (F0 m 82 ls []) := by
                  intro n
                  induction n with
                  | zero => intro x3_13 ar_14 H locs ls hm; omega
                  | succ n ih15 =>
                    intro x3_13 ar_14 H locs ls hm hm0 hma hmr hP hS hl
                    refine lv_iload_n hx hb dX11_earliest_82 rfl (lv_at hl 0 rfl) ?_
                    refine lv_bipush (v := 108) hx hb dX11_earliest_83 (by decide) ?_
                    refine lv_icmp_ge (tgt := 167) hx hb dX11_earliest_85 (by decide) (fun c_16 => ?_) (fun c_16 => ?_)
                    · skip
                      have q_16 : (108 : Int) ≤ x3_13.toInt := i_le2 (show (108 : Int32).toInt = (108 : Int) from rfl) (rfl : x3_13.toInt = x3_13.toInt) c_16
                      obtain ⟨x2_17, ex2_17⟩ : ∃ y : Int32, y = x2_8 + 1 := ⟨_, rfl⟩
                      have tx2_17 : x2_17.toInt = x2_8.toInt + (1 : Int) := i_add (rfl : x2_8.toInt = x2_8.toInt) (show (1 : Int32).toInt = (1 : Int) from rfl) (by omega) (by omega) ex2_17
                      refine lv_iinc (v := x2_17) (lv' := [(2, .int x2_17), (3, .int x3_13), (0, .ref (ad 0)), (1, .int a)]) hx hb dX11_earliest_167 hl (k := 1) rfl (by rw [ex2_17]; rfl) (by decide) rfl (fun ls hl => ?_)
                      refine lv_goto (tgt := 39) hx hb dX11_earliest_170 (by decide) ?_
                      exact ih10 x2_17 ar_14 _ _ _ (by omega) (by omega) hma hmr hP hS (lv_sub hl [0, 2, 3] rfl)
                    · skip
                      have q_16 : x3_13.toInt < (108 : Int) := i_nle2 (show (108 : Int32).toInt = (108 : Int) from rfl) (rfl : x3_13.toInt = x3_13.toInt) c_16
                      refine lv_iconst (v := 0) hx hb dX11_earliest_88 (by decide) ?_
                      refine lv_istore (lv' := [(4, .int 0), (3, .int x3_13), (2, .int x2_8), (0, .ref (ad 0)), (1, .int a)]) hx hb dX11_earliest_89 hl (by decide) rfl (fun ls hl => ?_)
                      have loop20 : ∀ (n : Nat) (x4_18 : Int32) (ar_19 : gAr) (H : Heap) (locs : List Loc) (ls : Array Slot), ((7 - (x4_18.toInt)).toNat) < n → (0 ≤ (x4_18.toInt) ∧ (x4_18.toInt) ≤ 7) → (∀ c, c ≠ 16 → ar_19 c = ar c) → (RCH (ar 1) (ar 15) (ar_19 16) ((ar 1 (112 + a.toInt.toNat)).toInt.toNat)) → va_P D vwCl (MW cy ad iv ar_19) H → va_S (mA ad s.heap.size) s.heap H locs → lv_has ls 5 [(4, .int x4_18), (3, .int x3_13), (2, .int x2_8), (0, .ref (ad 0)), (1, .int a)] → W p l e (headSpec wsX11_earliest (({ frames := 3, cells := 0, slots := 0, locals := 73 } : Room))).room s m (([.ref (ad 0), .int a] : List Value).toArray) below meth c H locs 0 0 Q (F0 m 91 ls []) := by
                        intro n
                        induction n with
                        | zero => intro x4_18 ar_19 H locs ls hm; omega
                        | succ n ih20 =>
                          intro x4_18 ar_19 H locs ls hm hn0 hna hnr hP hS hl
                          refine lv_iload hx hb dX11_earliest_91 (lv_at hl 0 rfl) ?_
                          refine lv_bipush (v := 7) hx hb dX11_earliest_93 (by decide) ?_
                          refine lv_icmp_ge (tgt := 161) hx hb dX11_earliest_95 (by decide) (fun c_21 => ?_) (fun c_21 => ?_)
                          · skip
                            have q_21 : (7 : Int) ≤ x4_18.toInt := i_le2 (show (7 : Int32).toInt = (7 : Int) from rfl) (rfl : x4_18.toInt = x4_18.toInt) c_21
                            obtain ⟨x3_22, ex3_22⟩ : ∃ y : Int32, y = x3_13 + 1 := ⟨_, rfl⟩
                            have tx3_22 : x3_22.toInt = x3_13.toInt + (1 : Int) := i_add (rfl : x3_13.toInt = x3_13.toInt) (show (1 : Int32).toInt = (1 : Int) from rfl) (by omega) (by omega) ex3_22
                            refine lv_iinc (v := x3_22) (lv' := [(3, .int x3_22), (4, .int x4_18), (2, .int x2_8), (0, .ref (ad 0)), (1, .int a)]) hx hb dX11_earliest_161 hl (k := 1) rfl (by rw [ex3_22]; rfl) (by decide) rfl (fun ls hl => ?_)
                            refine lv_goto (tgt := 82) hx hb dX11_earliest_164 (by decide) ?_
                            exact ih15 x3_22 ar_19 _ _ _ (by omega) (by omega) hna hnr hP hS (lv_sub hl [0, 2, 3, 4] rfl)
                          · skip
                            have q_21 : x4_18.toInt < (7 : Int) := i_nle2 (show (7 : Int32).toInt = (7 : Int) from rfl) (rfl : x4_18.toInt = x4_18.toInt) c_21
                            refine lv_aload_n hx hb dX11_earliest_98 rfl (lv_at hl 3 rfl) ?_
                            refine va_get (D := D) (ci := 11) (v := .ref (ad 16)) (C := RX11) (T := TX11) (N := 30) hx hb hts inX11 hown hK hP 0 (m_at11 (Nat.le_of_ble_eq_true rfl) rfl) rfl 27 (by decide) lk0 (fun _ h9 => h9) rfl dX11_earliest_99 ?_
                            refine lv_bipush (v := 108) hx hb dX11_earliest_102 (by decide) ?_
                            refine lv_iload_n hx hb dX11_earliest_104 rfl (lv_at hl 2 rfl) ?_
                            refine lv_imul hx hb dX11_earliest_105 ?_
                            refine lv_topi (fun v_23 ev_23 => ?_)
                            have tv_23 : v_23.toInt = (108 : Int) * x2_8.toInt := i_mul (show (108 : Int32).toInt = (108 : Int) from rfl) (rfl : x2_8.toInt = x2_8.toInt) (by omega) (by omega) ev_23
                            refine lv_iload_n hx hb dX11_earliest_106 rfl (lv_at hl 1 rfl) ?_
                            refine lv_iadd hx hb dX11_earliest_107 ?_
                            refine lv_topi (fun v_24 ev_24 => ?_)
                            have tv_24 : v_24.toInt = v_23.toInt + x3_13.toInt := i_add (rfl : v_23.toInt = v_23.toInt) (rfl : x3_13.toInt = x3_13.toInt) (by omega) (by omega) ev_24
                            refine va_zald hx hb hK hP 16 1 (m_at13 (Nat.le_of_ble_eq_true rfl) rfl) rfl (g_in (N := 6588) (rfl : v_24.toInt = v_24.toInt) rfl (by omega) (by omega)) dX11_earliest_108 ?_
                            refine lv_topi (fun v_25 ev_25 => ?_)
                            have hv5 : v_25.toInt = (ar_19 16 (108 * (x2_8.toInt).toNat + (x3_13.toInt).toNat)).toInt := by rw [ev_25, g_cN (rfl : v_24.toInt = _), show (v_24.toInt).toNat = (108 * (x2_8.toInt).toNat + (x3_13.toInt).toNat) from by omega]
                            refine lv_if_eq (tgt := 161) hx hb dX11_earliest_109 (by decide) (fun c_26 => ?_) (fun c_26 => ?_)
                            · skip
                              have q_26 : v_25.toInt = (0 : Int) := i_eq2 (rfl : v_25.toInt = v_25.toInt) (show (0 : Int32).toInt = (0 : Int) from rfl) c_26
                              obtain ⟨x3_27, ex3_27⟩ : ∃ y : Int32, y = x3_13 + 1 := ⟨_, rfl⟩
                              have tx3_27 : x3_27.toInt = x3_13.toInt + (1 : Int) := i_add (rfl : x3_13.toInt = x3_13.toInt) (show (1 : Int32).toInt = (1 : Int) from rfl) (by omega) (by omega) ex3_27
                              refine lv_iinc (v := x3_27) (lv' := [(3, .int x3_27), (4, .int x4_18), (2, .int x2_8), (0, .ref (ad 0)), (1, .int a)]) hx hb dX11_earliest_161 hl (k := 1) rfl (by rw [ex3_27]; rfl) (by decide) rfl (fun ls hl => ?_)
                              refine lv_goto (tgt := 82) hx hb dX11_earliest_164 (by decide) ?_
                              exact ih15 x3_27 ar_19 _ _ _ (by omega) (by omega) hna hnr hP hS (lv_sub hl [0, 2, 3, 4] rfl)
                            · skip
                              have q_26 : v_25.toInt ≠ (0 : Int) := i_ne2 (rfl : v_25.toInt = v_25.toInt) (show (0 : Int32).toInt = (0 : Int) from rfl) c_26
                              refine lv_aload_n hx hb dX11_earliest_112 rfl (lv_at hl 3 rfl) ?_
                              refine lv_iload_n hx hb dX11_earliest_113 rfl (lv_at hl 1 rfl) ?_
                              refine lv_iload hx hb dX11_earliest_114 (lv_at hl 0 rfl) ?_
                              refine lv_iload_n hx hb dX11_earliest_116 rfl (lv_at hl 2 rfl) ?_
                              refine g_callSi (va_runV (As := [.int x3_13, .int x4_18, .int x2_8]) (rest := []) ⟨hx, hb, hml, hown, hts⟩ (c_X11_mayDo l D cy ad hI _ iv ar_19 x3_13 x4_18 x2_8 (by omega) (by omega) (by omega)) (cwV 3 hts gX11_earliest_X11_mayDo rfl rfl rfl (by decide +kernel) ⟨Nat.le_of_ble_eq_true rfl, Nat.le_of_ble_eq_true rfl⟩) (m_preV hP hK hSt hNw hS (m_at11 (Nat.le_of_ble_eq_true rfl) rfl) rfl) rfl rfl hl.1 rfl (lv_room (Nat.le_of_ble_eq_true rfl)) dX11_earliest_117 ⟨Nat.zero_le _, Nat.zero_le _⟩) (fun r_28 w_28 => ?_)
                              try dsimp only at w_28
                              have hmd0 := w_28
                              rw [hna 1 (by omega), hna 15 (by omega)] at hmd0
                              refine lv_if_eq (tgt := 155) hx hb dX11_earliest_120 (by decide) (fun c_29 => ?_) (fun c_29 => ?_)
                              · skip
                                have q_29 : r_28.toInt = (0 : Int) := i_eq2 (rfl : r_28.toInt = r_28.toInt) (show (0 : Int32).toInt = (0 : Int) from rfl) c_29
                                have hna3 : ∀ c, c ≠ 16 → ar_19 c = ar c := by first | exact hpa2 | exact hna
                                have hnr3 : RCH (ar 1) (ar 15) (ar_19 16) ((ar 1 (112 + a.toInt.toNat)).toInt.toNat) := by first | exact hpr2 | exact hnr
                                obtain ⟨x4_30, ex4_30⟩ : ∃ y : Int32, y = x4_18 + 1 := ⟨_, rfl⟩
                                have tx4_30 : x4_30.toInt = x4_18.toInt + (1 : Int) := i_add (rfl : x4_18.toInt = x4_18.toInt) (show (1 : Int32).toInt = (1 : Int) from rfl) (by omega) (by omega) ex4_30
                                refine lv_iinc (v := x4_30) (lv' := [(4, .int x4_30), (3, .int x3_13), (2, .int x2_8), (0, .ref (ad 0)), (1, .int a)]) hx hb dX11_earliest_155 hl (k := 0) rfl (by rw [ex4_30]; rfl) (by decide) rfl (fun ls hl => ?_)
                                refine lv_goto (tgt := 91) hx hb dX11_earliest_158 (by decide) ?_
                                exact ih20 x4_30 ar_19 _ _ _ (by omega) (by omega) hna3 hnr3 hP hS (lv_sub hl [0, 1, 2, 3, 4] rfl)
                              · skip
                                have q_29 : r_28.toInt ≠ (0 : Int) := i_ne2 (rfl : r_28.toInt = r_28.toInt) (show (0 : Int32).toInt = (0 : Int) from rfl) c_29
                                have hmd : MD (ar 1) (ar 15) (x3_13.toInt).toNat (x4_18.toInt).toNat ((x2_8.toInt).toNat : Int) := by
                                  rw [show (((x2_8.toInt).toNat : Nat) : Int) = (x2_8.toInt) from by omega]
                                  rcases hmd0 with ⟨-, z⟩ | ⟨z, -⟩
                                  · exact z
                                  · exfalso; omega
                                have hmb := hmd.b (by omega) (by omega)
                                refine lv_aload_n hx hb dX11_earliest_123 rfl (lv_at hl 3 rfl) ?_
                                refine va_get (D := D) (ci := 11) (v := .ref (ad 16)) (C := RX11) (T := TX11) (N := 30) hx hb hts inX11 hown hK hP 0 (m_at11 (Nat.le_of_ble_eq_true rfl) rfl) rfl 27 (by decide) lk0 (fun _ h9 => h9) rfl dX11_earliest_124 ?_
                                refine lv_bipush (v := 108) hx hb dX11_earliest_127 (by decide) ?_
                                refine lv_iload_n hx hb dX11_earliest_129 rfl (lv_at hl 2 rfl) ?_
                                refine lv_aload_n hx hb dX11_earliest_130 rfl (lv_at hl 3 rfl) ?_
                                refine lv_iload_n hx hb dX11_earliest_131 rfl (lv_at hl 1 rfl) ?_
                                refine lv_iload hx hb dX11_earliest_132 (lv_at hl 0 rfl) ?_
                                refine g_callSi (va_runV (As := [.int x3_13, .int x4_18]) (rest := [.int x2_8, .int 108, .ref (ad 16)]) ⟨hx, hb, hml, hown, hts⟩ (c_X11_ticks l D cy ad hI _ iv ar_19 x3_13 x4_18 (by omega) (by omega)) (cwV 2 hts gX11_earliest_X11_ticks rfl rfl rfl (by decide +kernel) ⟨Nat.le_of_ble_eq_true rfl, Nat.le_of_ble_eq_true rfl⟩) (m_preV hP hK hSt hNw hS (m_at11 (Nat.le_of_ble_eq_true rfl) rfl) rfl) rfl rfl hl.1 rfl (lv_room (Nat.le_of_ble_eq_true rfl)) dX11_earliest_134 ⟨Nat.zero_le _, Nat.zero_le _⟩) (fun r_31 w_31 => ?_)
                                try dsimp only at w_31
                                have htk := w_31
                                rw [hna 1 (by omega)] at htk
                                have htb := TK_b (f := ar 1) (c := (x3_13.toInt).toNat) (q := (x4_18.toInt).toNat)
                                refine lv_iadd hx hb dX11_earliest_137 ?_
                                refine lv_topi (fun v_32 ev_32 => ?_)
                                have tv_32 : v_32.toInt = x2_8.toInt + r_31.toInt := i_add (rfl : x2_8.toInt = x2_8.toInt) (rfl : r_31.toInt = r_31.toInt) (by omega) (by omega) ev_32
                                refine lv_imul hx hb dX11_earliest_138 ?_
                                refine lv_topi (fun v_33 ev_33 => ?_)
                                have tv_33 : v_33.toInt = (108 : Int) * v_32.toInt := i_mul (show (108 : Int32).toInt = (108 : Int) from rfl) (rfl : v_32.toInt = v_32.toInt) (by omega) (by omega) ev_33
                                refine lv_iload_n hx hb dX11_earliest_139 rfl (lv_at hl 1 rfl) ?_
                                refine lv_iload hx hb dX11_earliest_140 (lv_at hl 0 rfl) ?_
                                refine lv_aload_n hx hb dX11_earliest_142 rfl (lv_at hl 3 rfl) ?_
                                refine lv_iload_n hx hb dX11_earliest_143 rfl (lv_at hl 1 rfl) ?_
                                refine lv_iload hx hb dX11_earliest_144 (lv_at hl 0 rfl) ?_
                                refine g_callSi (va_runV (As := [.int x3_13, .int x4_18]) (rest := [.int x4_18, .int x3_13, .int v_33, .ref (ad 16)]) ⟨hx, hb, hml, hown, hts⟩ (c_X11_next l D cy ad hI _ iv ar_19 x3_13 x4_18 (by omega) (by omega)) (cwV 2 hts gX11_earliest_X11_next rfl rfl rfl (by decide +kernel) ⟨Nat.le_of_ble_eq_true rfl, Nat.le_of_ble_eq_true rfl⟩) (m_preV hP hK hSt hNw hS (m_at11 (Nat.le_of_ble_eq_true rfl) rfl) rfl) rfl rfl hl.1 rfl (lv_room (Nat.le_of_ble_eq_true rfl)) dX11_earliest_146 ⟨Nat.zero_le _, Nat.zero_le _⟩) (fun r_34 w_34 => ?_)
                                try dsimp only at w_34
                                have hnx := w_34
                                rw [hna 1 (by omega)] at hnx
                                refine g_callSi (va_runS (As := [.int x3_13, .int x4_18, .int r_34]) (rest := [.int v_33, .ref (ad 16)]) ⟨hx, hb, hml, hown, hts⟩ (c_X11_where l x3_13 x4_18 r_34) (va_cwS 3 hts gX11_earliest_X11_where rfl rfl rfl (by decide +kernel) ⟨Nat.le_of_ble_eq_true rfl, Nat.le_of_ble_eq_true rfl⟩) (g_preT) rfl rfl hl.1 rfl (lv_room (Nat.le_of_ble_eq_true rfl)) dX11_earliest_149 ⟨Nat.zero_le _, Nat.zero_le _⟩) (fun r_35 w_35 => ?_)
                                try dsimp only at w_35
                                have hwh : r_35.toInt.toNat = WH (ar 1) (x3_13.toInt).toNat (x4_18.toInt).toNat := by
                                  unfold WH
                                  rw [w_35]
                                  by_cases e : (x4_18.toInt) = 0
                                  · rw [if_pos e, if_pos (by omega)]
                                  · rw [if_neg e, if_neg (by omega), hnx]
                                have hwb : 0 ≤ r_35.toInt := by
                                  rw [w_35]
                                  rcases hmd with ⟨e, -⟩ | ⟨e, e2, -⟩
                                  · rw [if_pos (by omega)]; omega
                                  · rw [if_neg (by omega), hnx]; exact e2
                                refine lv_iadd hx hb dX11_earliest_152 ?_
                                refine lv_topi (fun v_36 ev_36 => ?_)
                                have rg_37 := i_rng r_35
                                have tv_36 : v_36.toInt = v_33.toInt + r_35.toInt := i_add (rfl : v_33.toInt = v_33.toInt) (rfl : r_35.toInt = r_35.toInt) (by omega) (by omega) ev_36
                                refine lv_iconst (v := 1) hx hb dX11_earliest_153 (by decide) ?_
                                refine va_zast hx hb hK hP (mD hI) hS 16 1 (m_at13 (Nat.le_of_ble_eq_true rfl) rfl) rfl (g_in (N := 6588) (rfl : v_36.toInt = v_36.toInt) rfl (by omega) (by omega)) dX11_earliest_154 (fun H locs hP _ hS => ?_)
                                rw [m_pt13 (Nat.le_of_ble_eq_true rfl) rfl] at hP
                                obtain ⟨ar_38, ear_38⟩ : ∃ z : gAr, z = va_up ar_19 16 (upd (ar_19 16) v_36.toNatClampNeg 1) := ⟨_, rfl⟩
                                have hP : va_P D vwCl (MW cy ad iv ar_38) H := by rw [ear_38]; exact hP
                                have hix : v_36.toNatClampNeg = 108 * ((x2_8.toInt).toNat + (TK (ar 1) (x3_13.toInt).toNat (x4_18.toInt).toNat).toNat) + WH (ar 1) (x3_13.toInt).toNat (x4_18.toInt).toNat := by rw [g_cN (rfl : v_36.toInt = _), ← hwh]; omega
                                have hpa2 : ∀ c, c ≠ 16 → ar_38 c = ar c := fun c h => by rw [ear_38, ua_o h]; exact hna c h
                                have hpr2 : RCH (ar 1) (ar 15) (ar_38 16) ((ar 1 (112 + a.toInt.toNat)).toInt.toNat) := by
                                  rw [ear_38, ua_s, hix]
                                  exact hnr.set (by omega) (by omega) (by omega) (by omega) hmd (by decide)
                                have hna3 : ∀ c, c ≠ 16 → ar_38 c = ar c := by first | exact hpa2 | exact hna
                                have hnr3 : RCH (ar 1) (ar 15) (ar_38 16) ((ar 1 (112 + a.toInt.toNat)).toInt.toNat) := by first | exact hpr2 | exact hnr
                                obtain ⟨x4_39, ex4_39⟩ : ∃ y : Int32, y = x4_18 + 1 := ⟨_, rfl⟩
                                have tx4_39 : x4_39.toInt = x4_18.toInt + (1 : Int) := i_add (rfl : x4_18.toInt = x4_18.toInt) (show (1 : Int32).toInt = (1 : Int) from rfl) (by omega) (by omega) ex4_39
                                refine lv_iinc (v := x4_39) (lv' := [(4, .int x4_39), (3, .int x3_13), (2, .int x2_8), (0, .ref (ad 0)), (1, .int a)]) hx hb dX11_earliest_155 hl (k := 0) rfl (by rw [ex4_39]; rfl) (by decide) rfl (fun ls hl => ?_)
                                refine lv_goto (tgt := 91) hx hb dX11_earliest_158 (by decide) ?_
                                exact ih20 x4_39 ar_38 _ _ _ (by omega) (by omega) hna3 hnr3 hP hS (lv_sub hl [0, 1, 2, 3, 4] rfl)
                      have zl_40 : (0 : Int32).toInt = (0 : Int) := rfl
                      exact loop20 (((7 - ((0 : Int))).toNat) + 1) 0 ar_14 _ _ _ (by omega) (by omega) hma hmr hP hS (lv_sub hl [0, 1, 2, 3, 4] rfl)
                have zl_41 : (0 : Int32).toInt = (0 : Int) := rfl
                exact loop15 (((108 - ((0 : Int))).toNat) + 1) 0 ar_9 _ _ _ (by omega) (by omega) hga hgr hP hS (lv_sub hl [0, 1, 2, 3] rfl)
              refine lv_aload_n hx hb dX11_earliest_45 rfl (lv_at hl 1 rfl) ?_
              refine va_get (D := D) (ci := 11) (v := .ref (ad 16)) (C := RX11) (T := TX11) (N := 30) hx hb hts inX11 hown hK hP 0 (m_at11 (Nat.le_of_ble_eq_true rfl) rfl) rfl 27 (by decide) lk0 (fun _ h9 => h9) rfl dX11_earliest_46 ?_
              refine lv_bipush (v := 108) hx hb dX11_earliest_49 (by decide) ?_
              refine lv_iload_n hx hb dX11_earliest_51 rfl (lv_at hl 0 rfl) ?_
              refine lv_imul hx hb dX11_earliest_52 ?_
              refine lv_topi (fun v_42 ev_42 => ?_)
              have tv_42 : v_42.toInt = (108 : Int) * x2_8.toInt := i_mul (show (108 : Int32).toInt = (108 : Int) from rfl) (rfl : x2_8.toInt = x2_8.toInt) (by omega) (by omega) ev_42
              refine lv_aload_n hx hb dX11_earliest_53 rfl (lv_at hl 1 rfl) ?_
              refine va_get (D := D) (ci := 11) (v := .ref (ad 14)) (C := RX11) (T := TX11) (N := 30) hx hb hts inX11 hown hK hP 0 (m_at11 (Nat.le_of_ble_eq_true rfl) rfl) rfl 24 (by decide) lk2 (fun _ h9 => h9) rfl dX11_earliest_54 ?_
              refine lv_iload_n hx hb dX11_earliest_57 rfl (lv_at hl 2 rfl) ?_
              refine va_iald hx hb hK hP 14 0 (m_at12 (Nat.le_of_ble_eq_true rfl) rfl) rfl (g_in (N := 6) (rfl : a.toInt = a.toInt) rfl (by omega) (by omega)) dX11_earliest_58 ?_
              refine lv_topi (fun v_43 ev_43 => ?_)
              have hv2 : v_43.toInt = (ar 14 a.toInt.toNat).toInt := by rw [ev_43, g_cN (rfl : a.toInt = _), hga 14 (by omega)]
              refine lv_iadd hx hb dX11_earliest_59 ?_
              refine lv_topi (fun v_44 ev_44 => ?_)
              have tv_44 : v_44.toInt = v_42.toInt + v_43.toInt := i_add (rfl : v_42.toInt = v_42.toInt) (rfl : v_43.toInt = v_43.toInt) (by omega) (by omega) ev_44
              refine va_zald hx hb hK hP 16 1 (m_at13 (Nat.le_of_ble_eq_true rfl) rfl) rfl (g_in (N := 6588) (rfl : v_44.toInt = v_44.toInt) rfl (by omega) (by omega)) dX11_earliest_60 ?_
              refine lv_topi (fun v_45 ev_45 => ?_)
              have hv3 : v_45.toInt = (ar_9 16 (108 * (x2_8.toInt).toNat + (ar 14 a.toInt.toNat).toInt.toNat)).toInt := by rw [ev_45, g_cN (rfl : v_44.toInt = _), show (v_44.toInt).toNat = 108 * (x2_8.toInt).toNat + (ar 14 a.toInt.toNat).toInt.toNat from by omega]
              refine lv_if_eq (tgt := 80) hx hb dX11_earliest_61 (by decide) (fun c_46 => ?_) (fun c_46 => ?_)
              · skip
                have q_46 : v_45.toInt = (0 : Int) := i_eq2 (rfl : v_45.toInt = v_45.toInt) (show (0 : Int32).toInt = (0 : Int) from rfl) c_46
                exact join12 _ (lv_sub hl [0, 1, 2] rfl)
              · skip
                have q_46 : v_45.toInt ≠ (0 : Int) := i_ne2 (rfl : v_45.toInt = v_45.toInt) (show (0 : Int32).toInt = (0 : Int) from rfl) c_46
                refine lv_aload_n hx hb dX11_earliest_64 rfl (lv_at hl 1 rfl) ?_
                refine lv_aload_n hx hb dX11_earliest_65 rfl (lv_at hl 1 rfl) ?_
                refine va_get (D := D) (ci := 11) (v := .ref (ad 14)) (C := RX11) (T := TX11) (N := 30) hx hb hts inX11 hown hK hP 0 (m_at11 (Nat.le_of_ble_eq_true rfl) rfl) rfl 24 (by decide) lk2 (fun _ h9 => h9) rfl dX11_earliest_66 ?_
                refine lv_iload_n hx hb dX11_earliest_69 rfl (lv_at hl 2 rfl) ?_
                refine va_iald hx hb hK hP 14 0 (m_at12 (Nat.le_of_ble_eq_true rfl) rfl) rfl (g_in (N := 6) (rfl : a.toInt = a.toInt) rfl (by omega) (by omega)) dX11_earliest_70 ?_
                refine lv_topi (fun v_47 ev_47 => ?_)
                have hv4 : v_47.toInt = (ar 14 a.toInt.toNat).toInt := by rw [ev_47, g_cN (rfl : a.toInt = _), hga 14 (by omega)]
                refine lv_iload_n hx hb dX11_earliest_71 rfl (lv_at hl 0 rfl) ?_
                refine g_callSi (va_runV (As := [.int v_47, .int x2_8]) (rest := []) ⟨hx, hb, hml, hown, hts⟩ (c_X11_mayStay l D cy ad hI _ iv ar_9 v_47 x2_8 (by omega) (by omega)) (cwV 2 hts gX11_earliest_X11_mayStay rfl rfl rfl (by decide +kernel) ⟨Nat.le_of_ble_eq_true rfl, Nat.le_of_ble_eq_true rfl⟩) (m_preV hP hK hSt hNw hS (m_at11 (Nat.le_of_ble_eq_true rfl) rfl) rfl) rfl rfl hl.1 rfl (lv_room (Nat.le_of_ble_eq_true rfl)) dX11_earliest_72 ⟨Nat.zero_le _, Nat.zero_le _⟩) (fun r_48 w_48 => ?_)
                try dsimp only at w_48
                refine lv_if_eq (tgt := 80) hx hb dX11_earliest_75 (by decide) (fun c_49 => ?_) (fun c_49 => ?_)
                · skip
                  have q_49 : r_48.toInt = (0 : Int) := i_eq2 (rfl : r_48.toInt = r_48.toInt) (show (0 : Int32).toInt = (0 : Int) from rfl) c_49
                  exact join12 _ (lv_sub hl [0, 1, 2] rfl)
                · skip
                  have q_49 : r_48.toInt ≠ (0 : Int) := i_ne2 (rfl : r_48.toInt = r_48.toInt) (show (0 : Int32).toInt = (0 : Int) from rfl) c_49
                  refine lv_iload_n hx hb dX11_earliest_78 rfl (lv_at hl 0 rfl) ?_
                  rw [hQ]
                  exact W.iret (v := x2_8) hx hb hr (fun t ht hW => ⟨⟨x2_8, (iv, ar_9), rfl, ⟨rfl, hga, hgr, Or.inr ⟨by omega, by omega, by show (ar_9 16 _).toInt ≠ 0; omega⟩⟩, by show va_P _ _ _ _; rw [ht]; exact hP⟩, hS.F ht⟩) hS.2.2 dX11_earliest_79
        have zl_50 : (0 : Int32).toInt = (0 : Int) := rfl
        exact loop10 (((61 - ((0 : Int))).toNat) + 1) 0 ar_7 _ _ _ (by omega) (by omega) hga0 hgr0 hP hS (lv_sub hl [0, 1, 2] rfl)
      · skip
        have q_4 : x2_1.toInt < (6588 : Int) := i_nle2 (show (6588 : Int32).toInt = (6588 : Int) from rfl) (rfl : x2_1.toInt = x2_1.toInt) c_4
        refine lv_aload_n hx hb dX11_earliest_9 rfl (lv_at hl 1 rfl) ?_
        refine va_get (D := D) (ci := 11) (v := .ref (ad 16)) (C := RX11) (T := TX11) (N := 30) hx hb hts inX11 hown hK hP 0 (m_at11 (Nat.le_of_ble_eq_true rfl) rfl) rfl 27 (by decide) lk0 (fun _ h9 => h9) rfl dX11_earliest_10 ?_
        refine lv_iload_n hx hb dX11_earliest_13 rfl (lv_at hl 0 rfl) ?_
        refine lv_iconst (v := 0) hx hb dX11_earliest_14 (by decide) ?_
        refine va_zast hx hb hK hP (mD hI) hS 16 1 (m_at13 (Nat.le_of_ble_eq_true rfl) rfl) rfl (g_in (N := 6588) (rfl : x2_1.toInt = x2_1.toInt) rfl (by omega) (by omega)) dX11_earliest_15 (fun H locs hP _ hS => ?_)
        rw [m_pt13 (Nat.le_of_ble_eq_true rfl) rfl] at hP
        obtain ⟨ar_51, ear_51⟩ : ∃ z : gAr, z = va_up ar_2 16 (upd (ar_2 16) x2_1.toNatClampNeg 0) := ⟨_, rfl⟩
        have hP : va_P D vwCl (MW cy ad iv ar_51) H := by rw [ear_51]; exact hP
        have hza2 : ∀ c, c ≠ 16 → ar_51 c = ar c := fun c h => by rw [ear_51, ua_o h]; exact hza c h
        have hzz2 : ∀ i : Nat, (i : Int) < (x2_1.toInt) + 1 → (ar_51 16 i).toInt = 0 := fun i hi => by
          rw [ear_51, ua_s, g_cN (rfl : x2_1.toInt = _)]
          by_cases e : i = (x2_1.toInt).toNat
          · rw [e, pk_us]; rfl
          · rw [pk_un e]; exact hzz i (by omega)
        obtain ⟨x2_52, ex2_52⟩ : ∃ y : Int32, y = x2_1 + 1 := ⟨_, rfl⟩
        have tx2_52 : x2_52.toInt = x2_1.toInt + (1 : Int) := i_add (rfl : x2_1.toInt = x2_1.toInt) (show (1 : Int32).toInt = (1 : Int) from rfl) (by omega) (by omega) ex2_52
        refine lv_iinc (v := x2_52) (lv' := [(2, .int x2_52), (0, .ref (ad 0)), (1, .int a)]) hx hb dX11_earliest_16 hl (k := 0) rfl (by rw [ex2_52]; rfl) (by decide) rfl (fun ls hl => ?_)
        refine lv_goto (tgt := 2) hx hb dX11_earliest_19 (by decide) ?_
        exact ih3 x2_52 ar_51 _ _ _ (by omega) (by omega) hza2 (fun i hi => hzz2 i (by omega)) hP hS (lv_sub hl [0, 1, 2] rfl)
  have zl_53 : (0 : Int32).toInt = (0 : Int) := rfl
  exact loop3 (((6588 - ((0 : Int))).toNat) + 1) 0 ar _ _ _ (by omega) (by omega) (fun _ _ => rfl) (fun i hi => by exfalso; omega) hP hS (lv_sub hl [0, 1, 2] rfl)
