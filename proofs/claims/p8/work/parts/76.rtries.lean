set_option maxHeartbeats 4000000 in
set_option maxRecDepth 100000 in
theorem c_tries_0 (l : Launch) (D : va_G) (cy : Nat → ClassId) (ad : Nat → Nat) (hI : mInj ad) (sz : Nat) (iv : gIv) (ar : gAr) (a : Int32) (b : Int32) (d : Int32) (f : Int32) (hsb : SB (ar 1)) (hka : KA ar) (htr : TR ar) (ha : a.toInt = (ar 1 111).toInt - 0) : Met l yX11_tries wsX11_tries ({ frames := 0, cells := 0, slots := 0, locals := 0 } : Room) (va_Pc [.ref (ad 0), .int a, .int b, .int d, .int f] (mPre D cy ad sz iv ar)) (va_Qv (fun (u : gIv × gAr) => (∀ x y, ¬ (x = 0 ∧ (y = 11 ∨ y = 12 ∨ y = 13 ∨ y = 14)) → u.1 x y = iv x y) ∧ (∀ c, c ≠ 5 → c ≠ 6 → c ≠ 7 → c ≠ 8 → u.2 c = ar c) ∧ KA u.2 ∧ TR u.2) (mPost D cy ad) (mA ad sz)) 0 0 (mA ad sz) := by
  refine Met.ofW (cc := cX11_tries) (maxL := 7) (ret := none) (by decide) rfl ?_
  intro p e s m args below meth c s₁ B hml hv
  obtain ⟨rfl, rfl, hP, hK, hSt, hNw⟩ := hv
  have hx := B.exec
  have hb := B.bytes
  have hr := B.returns
  have hts := atoms_spec (ws := wsX11_tries) B.pre
  have hown : s.vm.findClass RX11 = some m.cls := findClass_of_methodNamed B.named
  have hlocks := B.notSynchronized
  have hS : va_S (mA ad s.heap.size) s.heap s.heap [] := va_S.rf
  have inX11 : ∀ w ∈ u_ws RX11 TX11 30, w ∈ wsX11_tries := by decide +kernel
  have lk0 := hts (.fieldLink RX11 9 "FormationPlannerModel" "s" "[I") (by decide +kernel)
  have lk1 := hts (.fieldLink RX11 139 "FormationPlannerModel" "assignments" "I") (by decide +kernel)
  have lk2 := hts (.fieldLink RX11 148 "FormationPlannerModel" "withGreatest" "I") (by decide +kernel)
  have lk3 := hts (.fieldLink RX11 142 "FormationPlannerModel" "greatest" "I") (by decide +kernel)
  have lk4 := hts (.fieldLink RX11 145 "FormationPlannerModel" "sum" "I") (by decide +kernel)
  have lk5 := hts (.fieldLink RX11 32 "FormationPlannerModel" "best" "[I") (by decide +kernel)
  have lk6 := hts (.fieldLink RX11 29 "FormationPlannerModel" "tried" "[I") (by decide +kernel)
  have hl := lv_entry ([.ref (ad 0), .int a, .int b, .int d, .int f]) (n := 7) (Nat.le_of_ble_eq_true rfl)
  rw [lg_entry_eq]
  generalize (lg_sl ([.ref (ad 0), .int a, .int b, .int d, .int f]) ++ List.replicate (7 - (lg_sl ([.ref (ad 0), .int a, .int b, .int d, .int f])).length) Slot.unset).toArray = ls at hl ⊢
  have hl : lv_has ls 7 [(0, .ref (ad 0)), (1, .int a), (2, .int b), (3, .int d), (4, .int f)] := hl
  obtain ⟨Q, hQ⟩ : ∃ Q, Q = MQ below (va_Qv (fun (u : gIv × gAr) => (∀ x y, ¬ (x = 0 ∧ (y = 11 ∨ y = 12 ∨ y = 13 ∨ y = 14)) → u.1 x y = iv x y) ∧ (∀ c, c ≠ 5 → c ≠ 6 → c ≠ 7 → c ≠ 8 → u.2 c = ar c) ∧ KA u.2 ∧ TR u.2) (mPost D cy ad) (mA ad s.heap.size)) (([.ref (ad 0), .int a, .int b, .int d, .int f] : List Value).toArray) s 0 0 (mA ad s.heap.size) := ⟨_, rfl⟩
  rw [← hQ]
  obtain ⟨hs1, hs2, hs3, hs4, hs5⟩ := id hsb
  refine lv_iload_n hx hb dX11_tries_0 rfl (lv_at hl 1 rfl) ?_
  refine lv_aload_n hx hb dX11_tries_1 rfl (lv_at hl 0 rfl) ?_
  refine va_get (D := D) (ci := 11) (v := .ref (ad 1)) (C := RX11) (T := TX11) (N := 30) hx hb hts inX11 hown hK hP 0 (m_at11 (Nat.le_of_ble_eq_true rfl) rfl) rfl 0 (by decide) lk0 (fun _ h9 => h9) rfl dX11_tries_2 ?_
  refine lv_bipush (v := 111) hx hb dX11_tries_5 (by decide) ?_
  refine va_iald hx hb hK hP 1 0 (m_at12 (Nat.le_of_ble_eq_true rfl) rfl) rfl (g_in (N := 126) (show (111 : Int32).toInt = (111 : Int) from rfl) rfl (by omega) (by omega)) dX11_tries_7 ?_
  refine lv_topi (fun v_1 ev_1 => ?_)
  have hv0 : v_1.toInt = (ar 1 111).toInt := by rw [ev_1]; rfl
  refine lv_icmp_ne (tgt := 158) hx hb dX11_tries_8 (by decide) (fun c_2 => ?_) (fun c_2 => ?_)
  · skip
    have q_2 : a.toInt ≠ v_1.toInt := i_ne2 (rfl : a.toInt = a.toInt) (rfl : v_1.toInt = v_1.toInt) c_2
    exfalso; omega
  · skip
    have q_2 : a.toInt = v_1.toInt := i_eq2 (rfl : a.toInt = a.toInt) (rfl : v_1.toInt = v_1.toInt) c_2
    refine lv_aload_n hx hb dX11_tries_11 rfl (lv_at hl 0 rfl) ?_
    refine lv_dup hx hb dX11_tries_12 rfl ?_
    refine va_get (D := D) (ci := 11) (v := .int (iv 0 14)) (C := RX11) (T := TX11) (N := 30) hx hb hts inX11 hown hK hP 0 (m_at11 (Nat.le_of_ble_eq_true rfl) rfl) rfl 14 (by decide) lk1 (fun _ h9 => h9) rfl dX11_tries_13 ?_
    refine lv_iconst (v := 1) hx hb dX11_tries_16 (by decide) ?_
    refine lv_iadd hx hb dX11_tries_17 ?_
    refine lv_topi (fun v_3 ev_3 => ?_)
    refine va_put (D := D) (ci := 11) (v := .int v_3) (ty := .int) (C := RX11) (T := TX11) (N := 30) hx hb hts inX11 tyX11 tyX11_ok nmX11 hown hK hP (mD hI) hS 0 (m_at11 (Nat.le_of_ble_eq_true rfl) rfl) rfl 14 (by decide) lk1 (fun _ h9 => h9) rfl (by decide +kernel) rfl rfl (Nat.le_of_ble_eq_true rfl) dX11_tries_18 (fun H locs hP _ hS => ?_)
    have hP : va_P D vwCl (MW cy ad (u2 iv 0 14 v_3) ar) H := by rw [← m_pt11_14 (Nat.le_of_ble_eq_true rfl) rfl]; exact hP
    obtain ⟨iv_4, eiv_4⟩ : ∃ z : gIv, z = u2 iv 0 14 v_3 := ⟨_, rfl⟩
    rw [← eiv_4] at hP
    refine lv_aload_n hx hb dX11_tries_21 rfl (lv_at hl 0 rfl) ?_
    refine va_get (D := D) (ci := 11) (v := .int (iv_4 0 14)) (C := RX11) (T := TX11) (N := 30) hx hb hts inX11 hown hK hP 0 (m_at11 (Nat.le_of_ble_eq_true rfl) rfl) rfl 14 (by decide) lk1 (fun _ h9 => h9) rfl dX11_tries_22 ?_
    have f_5 : iv_4 0 14 = v_3 := by rw [eiv_4]; exact u2_s _ _ _ _
    refine lv_iconst (v := 1) hx hb dX11_tries_25 (by decide) ?_
    refine lv_icmp_eq (tgt := 54) hx hb dX11_tries_26 (by decide) (fun c_6 => ?_) (fun c_6 => ?_)
    · skip
      have q_6 : v_3.toInt = (1 : Int) := i_eq2 ((congrArg Int32.toInt f_5).trans (rfl : v_3.toInt = v_3.toInt)) (show (1 : Int32).toInt = (1 : Int) from rfl) c_6
      refine lv_iconst (v := 1) hx hb dX11_tries_54 (by decide) ?_
      refine lv_goto (tgt := 59) hx hb dX11_tries_55 (by decide) ?_
      refine lv_istore (lv' := [(5, .int 1), (0, .ref (ad 0)), (1, .int a), (2, .int b), (3, .int d), (4, .int f)]) hx hb dX11_tries_59 hl (by decide) rfl (fun ls hl => ?_)
      refine lv_aload_n hx hb dX11_tries_61 rfl (lv_at hl 1 rfl) ?_
      refine lv_aload_n hx hb dX11_tries_62 rfl (lv_at hl 1 rfl) ?_
      refine va_get (D := D) (ci := 11) (v := .int (iv_4 0 14)) (C := RX11) (T := TX11) (N := 30) hx hb hts inX11 hown hK hP 0 (m_at11 (Nat.le_of_ble_eq_true rfl) rfl) rfl 14 (by decide) lk1 (fun _ h9 => h9) rfl dX11_tries_63 ?_
      have f_7 : iv_4 0 14 = v_3 := by rw [eiv_4]; exact u2_s _ _ _ _
      refine lv_iconst (v := 1) hx hb dX11_tries_66 (by decide) ?_
      refine lv_icmp_eq (tgt := 78) hx hb dX11_tries_67 (by decide) (fun c_8 => ?_) (fun c_8 => ?_)
      · skip
        have q_8 : v_3.toInt = (1 : Int) := i_eq2 ((congrArg Int32.toInt f_7).trans (rfl : v_3.toInt = v_3.toInt)) (show (1 : Int32).toInt = (1 : Int) from rfl) c_8
        refine lv_iconst (v := 1) hx hb dX11_tries_78 (by decide) ?_
        refine lv_goto (tgt := 103) hx hb dX11_tries_79 (by decide) ?_
        refine va_put (D := D) (ci := 11) (v := .int 1) (ty := .int) (C := RX11) (T := TX11) (N := 30) hx hb hts inX11 tyX11 tyX11_ok nmX11 hown hK hP (mD hI) hS 0 (m_at11 (Nat.le_of_ble_eq_true rfl) rfl) rfl 13 (by decide) lk2 (fun _ h9 => h9) rfl (by decide +kernel) rfl rfl (Nat.le_of_ble_eq_true rfl) dX11_tries_103 (fun H locs hP _ hS => ?_)
        have hP : va_P D vwCl (MW cy ad (u2 iv_4 0 13 1) ar) H := by rw [← m_pt11_13 (Nat.le_of_ble_eq_true rfl) rfl]; exact hP
        obtain ⟨iv_9, eiv_9⟩ : ∃ z : gIv, z = u2 iv_4 0 13 1 := ⟨_, rfl⟩
        rw [← eiv_9] at hP
        refine lv_iload hx hb dX11_tries_106 (lv_at hl 0 rfl) ?_
        refine lv_if_eq (tgt := 157) hx hb dX11_tries_108 (by decide) (fun c_10 => ?_) (fun c_10 => ?_)
        · skip
          have q_10 : (1 : Int) = (0 : Int) := i_eq2 (show (1 : Int32).toInt = (1 : Int) from rfl) (show (0 : Int32).toInt = (0 : Int) from rfl) c_10
          exfalso; omega
        · skip
          have q_10 : (1 : Int) ≠ (0 : Int) := i_ne2 (show (1 : Int32).toInt = (1 : Int) from rfl) (show (0 : Int32).toInt = (0 : Int) from rfl) c_10
          refine lv_aload_n hx hb dX11_tries_111 rfl (lv_at hl 1 rfl) ?_
          refine lv_iload_n hx hb dX11_tries_112 rfl (lv_at hl 4 rfl) ?_
          refine va_put (D := D) (ci := 11) (v := .int d) (ty := .int) (C := RX11) (T := TX11) (N := 30) hx hb hts inX11 tyX11 tyX11_ok nmX11 hown hK hP (mD hI) hS 0 (m_at11 (Nat.le_of_ble_eq_true rfl) rfl) rfl 11 (by decide) lk3 (fun _ h9 => h9) rfl (by decide +kernel) rfl rfl (Nat.le_of_ble_eq_true rfl) dX11_tries_113 (fun H locs hP _ hS => ?_)
          have hP : va_P D vwCl (MW cy ad (u2 iv_9 0 11 d) ar) H := by rw [← m_pt11_11 (Nat.le_of_ble_eq_true rfl) rfl]; exact hP
          obtain ⟨iv_11, eiv_11⟩ : ∃ z : gIv, z = u2 iv_9 0 11 d := ⟨_, rfl⟩
          rw [← eiv_11] at hP
          refine lv_aload_n hx hb dX11_tries_116 rfl (lv_at hl 1 rfl) ?_
          refine lv_iload hx hb dX11_tries_117 (lv_at hl 5 rfl) ?_
          refine va_put (D := D) (ci := 11) (v := .int f) (ty := .int) (C := RX11) (T := TX11) (N := 30) hx hb hts inX11 tyX11 tyX11_ok nmX11 hown hK hP (mD hI) hS 0 (m_at11 (Nat.le_of_ble_eq_true rfl) rfl) rfl 12 (by decide) lk4 (fun _ h9 => h9) rfl (by decide +kernel) rfl rfl (Nat.le_of_ble_eq_true rfl) dX11_tries_119 (fun H locs hP _ hS => ?_)
          have hP : va_P D vwCl (MW cy ad (u2 iv_11 0 12 f) ar) H := by rw [← m_pt11_12 (Nat.le_of_ble_eq_true rfl) rfl]; exact hP
          obtain ⟨iv_12, eiv_12⟩ : ∃ z : gIv, z = u2 iv_11 0 12 f := ⟨_, rfl⟩
          rw [← eiv_12] at hP
          refine lv_iconst (v := 0) hx hb dX11_tries_122 (by decide) ?_
          refine lv_istore (lv' := [(6, .int 0), (5, .int 1), (0, .ref (ad 0)), (1, .int a), (2, .int b), (3, .int d), (4, .int f)]) hx hb dX11_tries_123 hl (by decide) rfl (fun ls hl => ?_)
          have loop15 : ∀ (n : Nat) (x6_13 : Int32) (ar_14 : gAr) (H : Heap) (locs : List Loc) (ls : Array Slot), ((6 - (x6_13.toInt)).toNat) < n → (0 ≤ (x6_13.toInt) ∧ (x6_13.toInt) ≤ 6) → (∀ c, c ≠ 8 → ar_14 c = ar c) → (∀ i, i < 6 → 0 ≤ (ar_14 8 i).toInt ∧ (ar_14 8 i).toInt ≤ 5) → va_P D vwCl (MW cy ad iv_12 ar_14) H → va_S (mA ad s.heap.size) s.heap H locs → lv_has ls 7 [(6, .int x6_13), (5, .int 1), (0, .ref (ad 0)), (1, .int a), (2, .int b), (3, .int d), (4, .int f)] → W p l e (headSpec wsX11_tries (({ frames := 0, cells := 0, slots := 0, locals := 0 } : Room))).room s m (([.ref (ad 0), .int a, .int b, .int d, .int f] : List Value).toArray) below meth c H locs 0 0 Q (F0 m 125 ls []) := by
            intro n
            induction n with
            | zero => intro x6_13 ar_14 H locs ls hm; omega
            | succ n ih15 =>
              intro x6_13 ar_14 H locs ls hm hg0 hga hgt hP hS hl
              refine lv_iload hx hb dX11_tries_125 (lv_at hl 0 rfl) ?_
              refine lv_aload_n hx hb dX11_tries_127 rfl (lv_at hl 2 rfl) ?_
              refine va_get (D := D) (ci := 11) (v := .ref (ad 1)) (C := RX11) (T := TX11) (N := 30) hx hb hts inX11 hown hK hP 0 (m_at11 (Nat.le_of_ble_eq_true rfl) rfl) rfl 0 (by decide) lk0 (fun _ h9 => h9) rfl dX11_tries_128 ?_
              refine lv_bipush (v := 111) hx hb dX11_tries_131 (by decide) ?_
              refine va_iald hx hb hK hP 1 0 (m_at12 (Nat.le_of_ble_eq_true rfl) rfl) rfl (g_in (N := 126) (show (111 : Int32).toInt = (111 : Int) from rfl) rfl (by omega) (by omega)) dX11_tries_133 ?_
              refine lv_topi (fun v_16 ev_16 => ?_)
              have hv1 : v_16.toInt = (ar 1 111).toInt := by rw [ev_16, hga 1 (by omega)]; rfl
              refine lv_icmp_ge (tgt := 157) hx hb dX11_tries_134 (by decide) (fun c_17 => ?_) (fun c_17 => ?_)
              · skip
                have q_17 : v_16.toInt ≤ x6_13.toInt := i_le2 (rfl : v_16.toInt = v_16.toInt) (rfl : x6_13.toInt = x6_13.toInt) c_17
                have ht9 : TR ar_14 := fun i hi => ⟨by rw [hga 7 (by omega)]; exact (htr i hi).1, by rw [hga 7 (by omega)]; exact (htr i hi).2.1, (hgt i hi).1, (hgt i hi).2⟩
                rw [hQ]
                exact W.vret hx hb hr (fun t ht hW => ⟨⟨(iv_12, ar_14), rfl, ⟨fun a b h => by show iv_12 a b = iv a b; rw [eiv_12, u2_o (by omega)]; rw [eiv_11, u2_o (by omega)]; rw [eiv_9, u2_o (by omega)]; rw [eiv_4, u2_o (by omega)], fun c h5 h6 h7 h8 => hga c h8, hka.fr (hga 1 (by omega)) (hga 5 (by omega)) (hga 6 (by omega)), ht9⟩, by show va_P _ _ _ _; rw [ht]; exact hP⟩, hS.F ht⟩) hS.2.2 dX11_tries_157
              · skip
                have q_17 : x6_13.toInt < v_16.toInt := i_nle2 (rfl : v_16.toInt = v_16.toInt) (rfl : x6_13.toInt = x6_13.toInt) c_17
                refine lv_aload_n hx hb dX11_tries_137 rfl (lv_at hl 2 rfl) ?_
                refine va_get (D := D) (ci := 11) (v := .ref (ad 8)) (C := RX11) (T := TX11) (N := 30) hx hb hts inX11 hown hK hP 0 (m_at11 (Nat.le_of_ble_eq_true rfl) rfl) rfl 10 (by decide) lk5 (fun _ h9 => h9) rfl dX11_tries_138 ?_
                refine lv_iload hx hb dX11_tries_141 (lv_at hl 0 rfl) ?_
                refine lv_aload_n hx hb dX11_tries_143 rfl (lv_at hl 2 rfl) ?_
                refine va_get (D := D) (ci := 11) (v := .ref (ad 7)) (C := RX11) (T := TX11) (N := 30) hx hb hts inX11 hown hK hP 0 (m_at11 (Nat.le_of_ble_eq_true rfl) rfl) rfl 9 (by decide) lk6 (fun _ h9 => h9) rfl dX11_tries_144 ?_
                refine lv_iload hx hb dX11_tries_147 (lv_at hl 0 rfl) ?_
                refine va_iald hx hb hK hP 7 0 (m_at12 (Nat.le_of_ble_eq_true rfl) rfl) rfl (g_in (N := 6) (rfl : x6_13.toInt = x6_13.toInt) rfl (by omega) (by omega)) dX11_tries_149 ?_
                refine lv_topi (fun v_18 ev_18 => ?_)
                have hv2 : 0 ≤ v_18.toInt ∧ v_18.toInt ≤ 5 := by
                  rw [ev_18, g_cN (rfl : x6_13.toInt = _), hga 7 (by omega)]
                  exact ⟨(htr (x6_13.toInt).toNat (by omega)).1, (htr (x6_13.toInt).toNat (by omega)).2.1⟩
                refine va_iast hx hb hK hP (mD hI) hS 8 0 (m_at12 (Nat.le_of_ble_eq_true rfl) rfl) rfl (g_in (N := 6) (rfl : x6_13.toInt = x6_13.toInt) rfl (by omega) (by omega)) dX11_tries_150 (fun H locs hP _ hS => ?_)
                rw [m_pt12 (Nat.le_of_ble_eq_true rfl) rfl] at hP
                obtain ⟨ar_19, ear_19⟩ : ∃ z : gAr, z = va_up ar_14 8 (upd (ar_14 8) x6_13.toNatClampNeg v_18) := ⟨_, rfl⟩
                rw [← ear_19] at hP
                have hga2 : ∀ c, c ≠ 8 → ar_19 c = ar c := fun c h => by rw [ear_19, ua_o h]; exact hga c h
                have hgt2 : ∀ i, i < 6 → 0 ≤ (ar_19 8 i).toInt ∧ (ar_19 8 i).toInt ≤ 5 := fun i hi => by
                  rw [ear_19, ua_s, g_cN (rfl : x6_13.toInt = _)]
                  by_cases e : i = (x6_13.toInt).toNat
                  · rw [e, pk_us]; exact hv2
                  · rw [pk_un e]; exact hgt i hi
                obtain ⟨x6_20, ex6_20⟩ : ∃ y : Int32, y = x6_13 + 1 := ⟨_, rfl⟩
                have tx6_20 : x6_20.toInt = x6_13.toInt + (1 : Int) := i_add (rfl : x6_13.toInt = x6_13.toInt) (show (1 : Int32).toInt = (1 : Int) from rfl) (by omega) (by omega) ex6_20
                refine lv_iinc (v := x6_20) (lv' := [(6, .int x6_20), (5, .int 1), (0, .ref (ad 0)), (1, .int a), (2, .int b), (3, .int d), (4, .int f)]) hx hb dX11_tries_151 hl (k := 0) rfl (by rw [ex6_20]; rfl) (by decide) rfl (fun ls hl => ?_)
                refine lv_goto (tgt := 125) hx hb dX11_tries_154 (by decide) ?_
                exact ih15 x6_20 ar_19 _ _ _ (by omega) (by omega) hga2 hgt2 hP hS (lv_sub hl [0, 1, 2, 3, 4, 5, 6] rfl)
          have zl_21 : (0 : Int32).toInt = (0 : Int) := rfl
          exact loop15 (((6 - ((0 : Int))).toNat) + 1) 0 ar _ _ _ (by omega) (by omega) (fun _ _ => rfl) (fun i hi => ⟨(htr i hi).2.2.1, (htr i hi).2.2.2⟩) hP hS (lv_sub hl [0, 1, 2, 3, 4, 5, 6] rfl)
      · skip
        have q_8 : v_3.toInt ≠ (1 : Int) := i_ne2 ((congrArg Int32.toInt f_7).trans (rfl : v_3.toInt = v_3.toInt)) (show (1 : Int32).toInt = (1 : Int) from rfl) c_8
        refine lv_iload_n hx hb dX11_tries_70 rfl (lv_at hl 4 rfl) ?_
        refine lv_aload_n hx hb dX11_tries_71 rfl (lv_at hl 1 rfl) ?_
        refine va_get (D := D) (ci := 11) (v := .int (iv_4 0 11)) (C := RX11) (T := TX11) (N := 30) hx hb hts inX11 hown hK hP 0 (m_at11 (Nat.le_of_ble_eq_true rfl) rfl) rfl 11 (by decide) lk3 (fun _ h9 => h9) rfl dX11_tries_72 ?_
        have f_22 : iv_4 0 11 = iv 0 11 := by rw [eiv_4, u2_o (by omega)]
        refine lv_icmp_ge (tgt := 82) hx hb dX11_tries_75 (by decide) (fun c_23 => ?_) (fun c_23 => ?_)
        · skip
          have q_23 : (iv 0 11).toInt ≤ d.toInt := i_le2 ((congrArg Int32.toInt f_22).trans (rfl : (iv 0 11).toInt = (iv 0 11).toInt)) (rfl : d.toInt = d.toInt) c_23
          refine lv_iload_n hx hb dX11_tries_82 rfl (lv_at hl 4 rfl) ?_
          refine lv_aload_n hx hb dX11_tries_83 rfl (lv_at hl 1 rfl) ?_
          refine va_get (D := D) (ci := 11) (v := .int (iv_4 0 11)) (C := RX11) (T := TX11) (N := 30) hx hb hts inX11 hown hK hP 0 (m_at11 (Nat.le_of_ble_eq_true rfl) rfl) rfl 11 (by decide) lk3 (fun _ h9 => h9) rfl dX11_tries_84 ?_
          have f_24 : iv_4 0 11 = iv 0 11 := by rw [eiv_4, u2_o (by omega)]
          refine lv_icmp_ne (tgt := 99) hx hb dX11_tries_87 (by decide) (fun c_25 => ?_) (fun c_25 => ?_)
          · skip
            have q_25 : d.toInt ≠ (iv 0 11).toInt := i_ne2 (rfl : d.toInt = d.toInt) ((congrArg Int32.toInt f_24).trans (rfl : (iv 0 11).toInt = (iv 0 11).toInt)) c_25
            refine lv_aload_n hx hb dX11_tries_99 rfl (lv_at hl 1 rfl) ?_
            refine va_get (D := D) (ci := 11) (v := .int (iv_4 0 13)) (C := RX11) (T := TX11) (N := 30) hx hb hts inX11 hown hK hP 0 (m_at11 (Nat.le_of_ble_eq_true rfl) rfl) rfl 13 (by decide) lk2 (fun _ h9 => h9) rfl dX11_tries_100 ?_
            have f_26 : iv_4 0 13 = iv 0 13 := by rw [eiv_4, u2_o (by omega)]
            refine va_put (D := D) (ci := 11) (v := .int (iv_4 0 13)) (ty := .int) (C := RX11) (T := TX11) (N := 30) hx hb hts inX11 tyX11 tyX11_ok nmX11 hown hK hP (mD hI) hS 0 (m_at11 (Nat.le_of_ble_eq_true rfl) rfl) rfl 13 (by decide) lk2 (fun _ h9 => h9) rfl (by decide +kernel) rfl rfl (Nat.le_of_ble_eq_true rfl) dX11_tries_103 (fun H locs hP _ hS => ?_)
            have hP : va_P D vwCl (MW cy ad (u2 iv_4 0 13 (iv_4 0 13)) ar) H := by rw [← m_pt11_13 (Nat.le_of_ble_eq_true rfl) rfl]; exact hP
            obtain ⟨iv_27, eiv_27⟩ : ∃ z : gIv, z = u2 iv_4 0 13 (iv_4 0 13) := ⟨_, rfl⟩
            rw [← eiv_27] at hP
            refine lv_iload hx hb dX11_tries_106 (lv_at hl 0 rfl) ?_
            refine lv_if_eq (tgt := 157) hx hb dX11_tries_108 (by decide) (fun c_28 => ?_) (fun c_28 => ?_)
            · skip
              have q_28 : (1 : Int) = (0 : Int) := i_eq2 (show (1 : Int32).toInt = (1 : Int) from rfl) (show (0 : Int32).toInt = (0 : Int) from rfl) c_28
              exfalso; omega
            · skip
              have q_28 : (1 : Int) ≠ (0 : Int) := i_ne2 (show (1 : Int32).toInt = (1 : Int) from rfl) (show (0 : Int32).toInt = (0 : Int) from rfl) c_28
              refine lv_aload_n hx hb dX11_tries_111 rfl (lv_at hl 1 rfl) ?_
              refine lv_iload_n hx hb dX11_tries_112 rfl (lv_at hl 4 rfl) ?_
              refine va_put (D := D) (ci := 11) (v := .int d) (ty := .int) (C := RX11) (T := TX11) (N := 30) hx hb hts inX11 tyX11 tyX11_ok nmX11 hown hK hP (mD hI) hS 0 (m_at11 (Nat.le_of_ble_eq_true rfl) rfl) rfl 11 (by decide) lk3 (fun _ h9 => h9) rfl (by decide +kernel) rfl rfl (Nat.le_of_ble_eq_true rfl) dX11_tries_113 (fun H locs hP _ hS => ?_)
              have hP : va_P D vwCl (MW cy ad (u2 iv_27 0 11 d) ar) H := by rw [← m_pt11_11 (Nat.le_of_ble_eq_true rfl) rfl]; exact hP
              obtain ⟨iv_29, eiv_29⟩ : ∃ z : gIv, z = u2 iv_27 0 11 d := ⟨_, rfl⟩
              rw [← eiv_29] at hP
              refine lv_aload_n hx hb dX11_tries_116 rfl (lv_at hl 1 rfl) ?_
              refine lv_iload hx hb dX11_tries_117 (lv_at hl 5 rfl) ?_
              refine va_put (D := D) (ci := 11) (v := .int f) (ty := .int) (C := RX11) (T := TX11) (N := 30) hx hb hts inX11 tyX11 tyX11_ok nmX11 hown hK hP (mD hI) hS 0 (m_at11 (Nat.le_of_ble_eq_true rfl) rfl) rfl 12 (by decide) lk4 (fun _ h9 => h9) rfl (by decide +kernel) rfl rfl (Nat.le_of_ble_eq_true rfl) dX11_tries_119 (fun H locs hP _ hS => ?_)
              have hP : va_P D vwCl (MW cy ad (u2 iv_29 0 12 f) ar) H := by rw [← m_pt11_12 (Nat.le_of_ble_eq_true rfl) rfl]; exact hP
              obtain ⟨iv_30, eiv_30⟩ : ∃ z : gIv, z = u2 iv_29 0 12 f := ⟨_, rfl⟩
              rw [← eiv_30] at hP
              refine lv_iconst (v := 0) hx hb dX11_tries_122 (by decide) ?_
              refine lv_istore (lv' := [(6, .int 0), (5, .int 1), (0, .ref (ad 0)), (1, .int a), (2, .int b), (3, .int d), (4, .int f)]) hx hb dX11_tries_123 hl (by decide) rfl (fun ls hl => ?_)
              have loop33 : ∀ (n : Nat) (x6_31 : Int32) (ar_32 : gAr) (H : Heap) (locs : List Loc) (ls : Array Slot), ((6 - (x6_31.toInt)).toNat) < n → (0 ≤ (x6_31.toInt) ∧ (x6_31.toInt) ≤ 6) → (∀ c, c ≠ 8 → ar_32 c = ar c) → (∀ i, i < 6 → 0 ≤ (ar_32 8 i).toInt ∧ (ar_32 8 i).toInt ≤ 5) → va_P D vwCl (MW cy ad iv_30 ar_32) H → va_S (mA ad s.heap.size) s.heap H locs → lv_has ls 7 [(6, .int x6_31), (5, .int 1), (0, .ref (ad 0)), (1, .int a), (2, .int b), (3, .int d), (4, .int f)] → W p l e (headSpec wsX11_tries (({ frames := 0, cells := 0, slots := 0, locals := 0 } : Room))).room s m (([.ref (ad 0), .int a, .int b, .int d, .int f] : List Value).toArray) below meth c H locs 0 0 Q (F0 m 125 ls []) := by
                intro n
                induction n with
                | zero => intro x6_31 ar_32 H locs ls hm; omega
                | succ n ih33 =>
                  intro x6_31 ar_32 H locs ls hm hg0 hga hgt hP hS hl
                  refine lv_iload hx hb dX11_tries_125 (lv_at hl 0 rfl) ?_
                  refine lv_aload_n hx hb dX11_tries_127 rfl (lv_at hl 2 rfl) ?_
                  refine va_get (D := D) (ci := 11) (v := .ref (ad 1)) (C := RX11) (T := TX11) (N := 30) hx hb hts inX11 hown hK hP 0 (m_at11 (Nat.le_of_ble_eq_true rfl) rfl) rfl 0 (by decide) lk0 (fun _ h9 => h9) rfl dX11_tries_128 ?_
                  refine lv_bipush (v := 111) hx hb dX11_tries_131 (by decide) ?_
                  refine va_iald hx hb hK hP 1 0 (m_at12 (Nat.le_of_ble_eq_true rfl) rfl) rfl (g_in (N := 126) (show (111 : Int32).toInt = (111 : Int) from rfl) rfl (by omega) (by omega)) dX11_tries_133 ?_
                  refine lv_topi (fun v_34 ev_34 => ?_)
                  have hv1 : v_34.toInt = (ar 1 111).toInt := by rw [ev_34, hga 1 (by omega)]; rfl
                  refine lv_icmp_ge (tgt := 157) hx hb dX11_tries_134 (by decide) (fun c_35 => ?_) (fun c_35 => ?_)
                  · skip
                    have q_35 : v_34.toInt ≤ x6_31.toInt := i_le2 (rfl : v_34.toInt = v_34.toInt) (rfl : x6_31.toInt = x6_31.toInt) c_35
                    have ht9 : TR ar_32 := fun i hi => ⟨by rw [hga 7 (by omega)]; exact (htr i hi).1, by rw [hga 7 (by omega)]; exact (htr i hi).2.1, (hgt i hi).1, (hgt i hi).2⟩
                    rw [hQ]
                    exact W.vret hx hb hr (fun t ht hW => ⟨⟨(iv_30, ar_32), rfl, ⟨fun a b h => by show iv_30 a b = iv a b; rw [eiv_30, u2_o (by omega)]; rw [eiv_29, u2_o (by omega)]; rw [eiv_27, u2_o (by omega)]; rw [eiv_4, u2_o (by omega)], fun c h5 h6 h7 h8 => hga c h8, hka.fr (hga 1 (by omega)) (hga 5 (by omega)) (hga 6 (by omega)), ht9⟩, by show va_P _ _ _ _; rw [ht]; exact hP⟩, hS.F ht⟩) hS.2.2 dX11_tries_157
                  · skip
                    have q_35 : x6_31.toInt < v_34.toInt := i_nle2 (rfl : v_34.toInt = v_34.toInt) (rfl : x6_31.toInt = x6_31.toInt) c_35
                    refine lv_aload_n hx hb dX11_tries_137 rfl (lv_at hl 2 rfl) ?_
                    refine va_get (D := D) (ci := 11) (v := .ref (ad 8)) (C := RX11) (T := TX11) (N := 30) hx hb hts inX11 hown hK hP 0 (m_at11 (Nat.le_of_ble_eq_true rfl) rfl) rfl 10 (by decide) lk5 (fun _ h9 => h9) rfl dX11_tries_138 ?_
                    refine lv_iload hx hb dX11_tries_141 (lv_at hl 0 rfl) ?_
                    refine lv_aload_n hx hb dX11_tries_143 rfl (lv_at hl 2 rfl) ?_
                    refine va_get (D := D) (ci := 11) (v := .ref (ad 7)) (C := RX11) (T := TX11) (N := 30) hx hb hts inX11 hown hK hP 0 (m_at11 (Nat.le_of_ble_eq_true rfl) rfl) rfl 9 (by decide) lk6 (fun _ h9 => h9) rfl dX11_tries_144 ?_
                    refine lv_iload hx hb dX11_tries_147 (lv_at hl 0 rfl) ?_
                    refine va_iald hx hb hK hP 7 0 (m_at12 (Nat.le_of_ble_eq_true rfl) rfl) rfl (g_in (N := 6) (rfl : x6_31.toInt = x6_31.toInt) rfl (by omega) (by omega)) dX11_tries_149 ?_
                    refine lv_topi (fun v_36 ev_36 => ?_)
                    have hv2 : 0 ≤ v_36.toInt ∧ v_36.toInt ≤ 5 := by
                      rw [ev_36, g_cN (rfl : x6_31.toInt = _), hga 7 (by omega)]
                      exact ⟨(htr (x6_31.toInt).toNat (by omega)).1, (htr (x6_31.toInt).toNat (by omega)).2.1⟩
                    refine va_iast hx hb hK hP (mD hI) hS 8 0 (m_at12 (Nat.le_of_ble_eq_true rfl) rfl) rfl (g_in (N := 6) (rfl : x6_31.toInt = x6_31.toInt) rfl (by omega) (by omega)) dX11_tries_150 (fun H locs hP _ hS => ?_)
                    rw [m_pt12 (Nat.le_of_ble_eq_true rfl) rfl] at hP
                    obtain ⟨ar_37, ear_37⟩ : ∃ z : gAr, z = va_up ar_32 8 (upd (ar_32 8) x6_31.toNatClampNeg v_36) := ⟨_, rfl⟩
                    rw [← ear_37] at hP
                    have hga2 : ∀ c, c ≠ 8 → ar_37 c = ar c := fun c h => by rw [ear_37, ua_o h]; exact hga c h
                    have hgt2 : ∀ i, i < 6 → 0 ≤ (ar_37 8 i).toInt ∧ (ar_37 8 i).toInt ≤ 5 := fun i hi => by
                      rw [ear_37, ua_s, g_cN (rfl : x6_31.toInt = _)]
                      by_cases e : i = (x6_31.toInt).toNat
                      · rw [e, pk_us]; exact hv2
                      · rw [pk_un e]; exact hgt i hi
                    obtain ⟨x6_38, ex6_38⟩ : ∃ y : Int32, y = x6_31 + 1 := ⟨_, rfl⟩
                    have tx6_38 : x6_38.toInt = x6_31.toInt + (1 : Int) := i_add (rfl : x6_31.toInt = x6_31.toInt) (show (1 : Int32).toInt = (1 : Int) from rfl) (by omega) (by omega) ex6_38
                    refine lv_iinc (v := x6_38) (lv' := [(6, .int x6_38), (5, .int 1), (0, .ref (ad 0)), (1, .int a), (2, .int b), (3, .int d), (4, .int f)]) hx hb dX11_tries_151 hl (k := 0) rfl (by rw [ex6_38]; rfl) (by decide) rfl (fun ls hl => ?_)
                    refine lv_goto (tgt := 125) hx hb dX11_tries_154 (by decide) ?_
                    exact ih33 x6_38 ar_37 _ _ _ (by omega) (by omega) hga2 hgt2 hP hS (lv_sub hl [0, 1, 2, 3, 4, 5, 6] rfl)
              have zl_39 : (0 : Int32).toInt = (0 : Int) := rfl
              exact loop33 (((6 - ((0 : Int))).toNat) + 1) 0 ar _ _ _ (by omega) (by omega) (fun _ _ => rfl) (fun i hi => ⟨(htr i hi).2.2.1, (htr i hi).2.2.2⟩) hP hS (lv_sub hl [0, 1, 2, 3, 4, 5, 6] rfl)
          · skip
            have q_25 : d.toInt = (iv 0 11).toInt := i_eq2 (rfl : d.toInt = d.toInt) ((congrArg Int32.toInt f_24).trans (rfl : (iv 0 11).toInt = (iv 0 11).toInt)) c_25
            refine lv_aload_n hx hb dX11_tries_90 rfl (lv_at hl 1 rfl) ?_
            refine va_get (D := D) (ci := 11) (v := .int (iv_4 0 13)) (C := RX11) (T := TX11) (N := 30) hx hb hts inX11 hown hK hP 0 (m_at11 (Nat.le_of_ble_eq_true rfl) rfl) rfl 13 (by decide) lk2 (fun _ h9 => h9) rfl dX11_tries_91 ?_
            have f_40 : iv_4 0 13 = iv 0 13 := by rw [eiv_4, u2_o (by omega)]
            refine lv_iconst (v := 1) hx hb dX11_tries_94 (by decide) ?_
            refine lv_iadd hx hb dX11_tries_95 ?_
            refine lv_topi (fun v_41 ev_41 => ?_)
            refine lv_goto (tgt := 103) hx hb dX11_tries_96 (by decide) ?_
            refine va_put (D := D) (ci := 11) (v := .int v_41) (ty := .int) (C := RX11) (T := TX11) (N := 30) hx hb hts inX11 tyX11 tyX11_ok nmX11 hown hK hP (mD hI) hS 0 (m_at11 (Nat.le_of_ble_eq_true rfl) rfl) rfl 13 (by decide) lk2 (fun _ h9 => h9) rfl (by decide +kernel) rfl rfl (Nat.le_of_ble_eq_true rfl) dX11_tries_103 (fun H locs hP _ hS => ?_)
            have hP : va_P D vwCl (MW cy ad (u2 iv_4 0 13 v_41) ar) H := by rw [← m_pt11_13 (Nat.le_of_ble_eq_true rfl) rfl]; exact hP
            obtain ⟨iv_42, eiv_42⟩ : ∃ z : gIv, z = u2 iv_4 0 13 v_41 := ⟨_, rfl⟩
            rw [← eiv_42] at hP
            refine lv_iload hx hb dX11_tries_106 (lv_at hl 0 rfl) ?_
            refine lv_if_eq (tgt := 157) hx hb dX11_tries_108 (by decide) (fun c_43 => ?_) (fun c_43 => ?_)
            · skip
              have q_43 : (1 : Int) = (0 : Int) := i_eq2 (show (1 : Int32).toInt = (1 : Int) from rfl) (show (0 : Int32).toInt = (0 : Int) from rfl) c_43
              exfalso; omega
            · skip
              have q_43 : (1 : Int) ≠ (0 : Int) := i_ne2 (show (1 : Int32).toInt = (1 : Int) from rfl) (show (0 : Int32).toInt = (0 : Int) from rfl) c_43
              refine lv_aload_n hx hb dX11_tries_111 rfl (lv_at hl 1 rfl) ?_
              refine lv_iload_n hx hb dX11_tries_112 rfl (lv_at hl 4 rfl) ?_
              refine va_put (D := D) (ci := 11) (v := .int d) (ty := .int) (C := RX11) (T := TX11) (N := 30) hx hb hts inX11 tyX11 tyX11_ok nmX11 hown hK hP (mD hI) hS 0 (m_at11 (Nat.le_of_ble_eq_true rfl) rfl) rfl 11 (by decide) lk3 (fun _ h9 => h9) rfl (by decide +kernel) rfl rfl (Nat.le_of_ble_eq_true rfl) dX11_tries_113 (fun H locs hP _ hS => ?_)
              have hP : va_P D vwCl (MW cy ad (u2 iv_42 0 11 d) ar) H := by rw [← m_pt11_11 (Nat.le_of_ble_eq_true rfl) rfl]; exact hP
              obtain ⟨iv_44, eiv_44⟩ : ∃ z : gIv, z = u2 iv_42 0 11 d := ⟨_, rfl⟩
              rw [← eiv_44] at hP
              refine lv_aload_n hx hb dX11_tries_116 rfl (lv_at hl 1 rfl) ?_
              refine lv_iload hx hb dX11_tries_117 (lv_at hl 5 rfl) ?_
              refine va_put (D := D) (ci := 11) (v := .int f) (ty := .int) (C := RX11) (T := TX11) (N := 30) hx hb hts inX11 tyX11 tyX11_ok nmX11 hown hK hP (mD hI) hS 0 (m_at11 (Nat.le_of_ble_eq_true rfl) rfl) rfl 12 (by decide) lk4 (fun _ h9 => h9) rfl (by decide +kernel) rfl rfl (Nat.le_of_ble_eq_true rfl) dX11_tries_119 (fun H locs hP _ hS => ?_)
              have hP : va_P D vwCl (MW cy ad (u2 iv_44 0 12 f) ar) H := by rw [← m_pt11_12 (Nat.le_of_ble_eq_true rfl) rfl]; exact hP
              obtain ⟨iv_45, eiv_45⟩ : ∃ z : gIv, z = u2 iv_44 0 12 f := ⟨_, rfl⟩
              rw [← eiv_45] at hP
              refine lv_iconst (v := 0) hx hb dX11_tries_122 (by decide) ?_
              refine lv_istore (lv' := [(6, .int 0), (5, .int 1), (0, .ref (ad 0)), (1, .int a), (2, .int b), (3, .int d), (4, .int f)]) hx hb dX11_tries_123 hl (by decide) rfl (fun ls hl => ?_)
              have loop48 : ∀ (n : Nat) (x6_46 : Int32) (ar_47 : gAr) (H : Heap) (locs : List Loc) (ls : Array Slot), ((6 - (x6_46.toInt)).toNat) < n → (0 ≤ (x6_46.toInt) ∧ (x6_46.toInt) ≤ 6) → (∀ c, c ≠ 8 → ar_47 c = ar c) → (∀ i, i < 6 → 0 ≤ (ar_47 8 i).toInt ∧ (ar_47 8 i).toInt ≤ 5) → va_P D vwCl (MW cy ad iv_45 ar_47) H → va_S (mA ad s.heap.size) s.heap H locs → lv_has ls 7 [(6, .int x6_46), (5, .int 1), (0, .ref (ad 0)), (1, .int a), (2, .int b), (3, .int d), (4, .int f)] → W p l e (headSpec wsX11_tries (({ frames := 0, cells := 0, slots := 0, locals := 0 } : Room))).room s m (([.ref (ad 0), .int a, .int b, .int d, .int f] : List Value).toArray) below meth c H locs 0 0 Q (F0 m 125 ls []) := by
                intro n
                induction n with
                | zero => intro x6_46 ar_47 H locs ls hm; omega
                | succ n ih48 =>
                  intro x6_46 ar_47 H locs ls hm hg0 hga hgt hP hS hl
                  refine lv_iload hx hb dX11_tries_125 (lv_at hl 0 rfl) ?_
                  refine lv_aload_n hx hb dX11_tries_127 rfl (lv_at hl 2 rfl) ?_
                  refine va_get (D := D) (ci := 11) (v := .ref (ad 1)) (C := RX11) (T := TX11) (N := 30) hx hb hts inX11 hown hK hP 0 (m_at11 (Nat.le_of_ble_eq_true rfl) rfl) rfl 0 (by decide) lk0 (fun _ h9 => h9) rfl dX11_tries_128 ?_
                  refine lv_bipush (v := 111) hx hb dX11_tries_131 (by decide) ?_
                  refine va_iald hx hb hK hP 1 0 (m_at12 (Nat.le_of_ble_eq_true rfl) rfl) rfl (g_in (N := 126) (show (111 : Int32).toInt = (111 : Int) from rfl) rfl (by omega) (by omega)) dX11_tries_133 ?_
                  refine lv_topi (fun v_49 ev_49 => ?_)
                  have hv1 : v_49.toInt = (ar 1 111).toInt := by rw [ev_49, hga 1 (by omega)]; rfl
                  refine lv_icmp_ge (tgt := 157) hx hb dX11_tries_134 (by decide) (fun c_50 => ?_) (fun c_50 => ?_)
                  · skip
                    have q_50 : v_49.toInt ≤ x6_46.toInt := i_le2 (rfl : v_49.toInt = v_49.toInt) (rfl : x6_46.toInt = x6_46.toInt) c_50
                    have ht9 : TR ar_47 := fun i hi => ⟨by rw [hga 7 (by omega)]; exact (htr i hi).1, by rw [hga 7 (by omega)]; exact (htr i hi).2.1, (hgt i hi).1, (hgt i hi).2⟩
                    rw [hQ]
                    exact W.vret hx hb hr (fun t ht hW => ⟨⟨(iv_45, ar_47), rfl, ⟨fun a b h => by show iv_45 a b = iv a b; rw [eiv_45, u2_o (by omega)]; rw [eiv_44, u2_o (by omega)]; rw [eiv_42, u2_o (by omega)]; rw [eiv_4, u2_o (by omega)], fun c h5 h6 h7 h8 => hga c h8, hka.fr (hga 1 (by omega)) (hga 5 (by omega)) (hga 6 (by omega)), ht9⟩, by show va_P _ _ _ _; rw [ht]; exact hP⟩, hS.F ht⟩) hS.2.2 dX11_tries_157
                  · skip
                    have q_50 : x6_46.toInt < v_49.toInt := i_nle2 (rfl : v_49.toInt = v_49.toInt) (rfl : x6_46.toInt = x6_46.toInt) c_50
                    refine lv_aload_n hx hb dX11_tries_137 rfl (lv_at hl 2 rfl) ?_
                    refine va_get (D := D) (ci := 11) (v := .ref (ad 8)) (C := RX11) (T := TX11) (N := 30) hx hb hts inX11 hown hK hP 0 (m_at11 (Nat.le_of_ble_eq_true rfl) rfl) rfl 10 (by decide) lk5 (fun _ h9 => h9) rfl dX11_tries_138 ?_
                    refine lv_iload hx hb dX11_tries_141 (lv_at hl 0 rfl) ?_
                    refine lv_aload_n hx hb dX11_tries_143 rfl (lv_at hl 2 rfl) ?_
                    refine va_get (D := D) (ci := 11) (v := .ref (ad 7)) (C := RX11) (T := TX11) (N := 30) hx hb hts inX11 hown hK hP 0 (m_at11 (Nat.le_of_ble_eq_true rfl) rfl) rfl 9 (by decide) lk6 (fun _ h9 => h9) rfl dX11_tries_144 ?_
                    refine lv_iload hx hb dX11_tries_147 (lv_at hl 0 rfl) ?_
                    refine va_iald hx hb hK hP 7 0 (m_at12 (Nat.le_of_ble_eq_true rfl) rfl) rfl (g_in (N := 6) (rfl : x6_46.toInt = x6_46.toInt) rfl (by omega) (by omega)) dX11_tries_149 ?_
                    refine lv_topi (fun v_51 ev_51 => ?_)
                    have hv2 : 0 ≤ v_51.toInt ∧ v_51.toInt ≤ 5 := by
                      rw [ev_51, g_cN (rfl : x6_46.toInt = _), hga 7 (by omega)]
                      exact ⟨(htr (x6_46.toInt).toNat (by omega)).1, (htr (x6_46.toInt).toNat (by omega)).2.1⟩
                    refine va_iast hx hb hK hP (mD hI) hS 8 0 (m_at12 (Nat.le_of_ble_eq_true rfl) rfl) rfl (g_in (N := 6) (rfl : x6_46.toInt = x6_46.toInt) rfl (by omega) (by omega)) dX11_tries_150 (fun H locs hP _ hS => ?_)
                    rw [m_pt12 (Nat.le_of_ble_eq_true rfl) rfl] at hP
                    obtain ⟨ar_52, ear_52⟩ : ∃ z : gAr, z = va_up ar_47 8 (upd (ar_47 8) x6_46.toNatClampNeg v_51) := ⟨_, rfl⟩
                    rw [← ear_52] at hP
                    have hga2 : ∀ c, c ≠ 8 → ar_52 c = ar c := fun c h => by rw [ear_52, ua_o h]; exact hga c h
                    have hgt2 : ∀ i, i < 6 → 0 ≤ (ar_52 8 i).toInt ∧ (ar_52 8 i).toInt ≤ 5 := fun i hi => by
                      rw [ear_52, ua_s, g_cN (rfl : x6_46.toInt = _)]
                      by_cases e : i = (x6_46.toInt).toNat
                      · rw [e, pk_us]; exact hv2
                      · rw [pk_un e]; exact hgt i hi
                    obtain ⟨x6_53, ex6_53⟩ : ∃ y : Int32, y = x6_46 + 1 := ⟨_, rfl⟩
                    have tx6_53 : x6_53.toInt = x6_46.toInt + (1 : Int) := i_add (rfl : x6_46.toInt = x6_46.toInt) (show (1 : Int32).toInt = (1 : Int) from rfl) (by omega) (by omega) ex6_53
                    refine lv_iinc (v := x6_53) (lv' := [(6, .int x6_53), (5, .int 1), (0, .ref (ad 0)), (1, .int a), (2, .int b), (3, .int d), (4, .int f)]) hx hb dX11_tries_151 hl (k := 0) rfl (by rw [ex6_53]; rfl) (by decide) rfl (fun ls hl => ?_)
                    refine lv_goto (tgt := 125) hx hb dX11_tries_154 (by decide) ?_
                    exact ih48 x6_53 ar_52 _ _ _ (by omega) (by omega) hga2 hgt2 hP hS (lv_sub hl [0, 1, 2, 3, 4, 5, 6] rfl)
              have zl_54 : (0 : Int32).toInt = (0 : Int) := rfl
              exact loop48 (((6 - ((0 : Int))).toNat) + 1) 0 ar _ _ _ (by omega) (by omega) (fun _ _ => rfl) (fun i hi => ⟨(htr i hi).2.2.1, (htr i hi).2.2.2⟩) hP hS (lv_sub hl [0, 1, 2, 3, 4, 5, 6] rfl)
        · skip
          have q_23 : d.toInt < (iv 0 11).toInt := i_nle2 ((congrArg Int32.toInt f_22).trans (rfl : (iv 0 11).toInt = (iv 0 11).toInt)) (rfl : d.toInt = d.toInt) c_23
          refine lv_iconst (v := 1) hx hb dX11_tries_78 (by decide) ?_
          refine lv_goto (tgt := 103) hx hb dX11_tries_79 (by decide) ?_
          refine va_put (D := D) (ci := 11) (v := .int 1) (ty := .int) (C := RX11) (T := TX11) (N := 30) hx hb hts inX11 tyX11 tyX11_ok nmX11 hown hK hP (mD hI) hS 0 (m_at11 (Nat.le_of_ble_eq_true rfl) rfl) rfl 13 (by decide) lk2 (fun _ h9 => h9) rfl (by decide +kernel) rfl rfl (Nat.le_of_ble_eq_true rfl) dX11_tries_103 (fun H locs hP _ hS => ?_)
          have hP : va_P D vwCl (MW cy ad (u2 iv_4 0 13 1) ar) H := by rw [← m_pt11_13 (Nat.le_of_ble_eq_true rfl) rfl]; exact hP
          obtain ⟨iv_55, eiv_55⟩ : ∃ z : gIv, z = u2 iv_4 0 13 1 := ⟨_, rfl⟩
          rw [← eiv_55] at hP
          refine lv_iload hx hb dX11_tries_106 (lv_at hl 0 rfl) ?_
          refine lv_if_eq (tgt := 157) hx hb dX11_tries_108 (by decide) (fun c_56 => ?_) (fun c_56 => ?_)
          · skip
            have q_56 : (1 : Int) = (0 : Int) := i_eq2 (show (1 : Int32).toInt = (1 : Int) from rfl) (show (0 : Int32).toInt = (0 : Int) from rfl) c_56
            exfalso; omega
          · skip
            have q_56 : (1 : Int) ≠ (0 : Int) := i_ne2 (show (1 : Int32).toInt = (1 : Int) from rfl) (show (0 : Int32).toInt = (0 : Int) from rfl) c_56
            refine lv_aload_n hx hb dX11_tries_111 rfl (lv_at hl 1 rfl) ?_
            refine lv_iload_n hx hb dX11_tries_112 rfl (lv_at hl 4 rfl) ?_
            refine va_put (D := D) (ci := 11) (v := .int d) (ty := .int) (C := RX11) (T := TX11) (N := 30) hx hb hts inX11 tyX11 tyX11_ok nmX11 hown hK hP (mD hI) hS 0 (m_at11 (Nat.le_of_ble_eq_true rfl) rfl) rfl 11 (by decide) lk3 (fun _ h9 => h9) rfl (by decide +kernel) rfl rfl (Nat.le_of_ble_eq_true rfl) dX11_tries_113 (fun H locs hP _ hS => ?_)
            have hP : va_P D vwCl (MW cy ad (u2 iv_55 0 11 d) ar) H := by rw [← m_pt11_11 (Nat.le_of_ble_eq_true rfl) rfl]; exact hP
            obtain ⟨iv_57, eiv_57⟩ : ∃ z : gIv, z = u2 iv_55 0 11 d := ⟨_, rfl⟩
            rw [← eiv_57] at hP
            refine lv_aload_n hx hb dX11_tries_116 rfl (lv_at hl 1 rfl) ?_
            refine lv_iload hx hb dX11_tries_117 (lv_at hl 5 rfl) ?_
            refine va_put (D := D) (ci := 11) (v := .int f) (ty := .int) (C := RX11) (T := TX11) (N := 30) hx hb hts inX11 tyX11 tyX11_ok nmX11 hown hK hP (mD hI) hS 0 (m_at11 (Nat.le_of_ble_eq_true rfl) rfl) rfl 12 (by decide) lk4 (fun _ h9 => h9) rfl (by decide +kernel) rfl rfl (Nat.le_of_ble_eq_true rfl) dX11_tries_119 (fun H locs hP _ hS => ?_)
            have hP : va_P D vwCl (MW cy ad (u2 iv_57 0 12 f) ar) H := by rw [← m_pt11_12 (Nat.le_of_ble_eq_true rfl) rfl]; exact hP
            obtain ⟨iv_58, eiv_58⟩ : ∃ z : gIv, z = u2 iv_57 0 12 f := ⟨_, rfl⟩
            rw [← eiv_58] at hP
            refine lv_iconst (v := 0) hx hb dX11_tries_122 (by decide) ?_
            refine lv_istore (lv' := [(6, .int 0), (5, .int 1), (0, .ref (ad 0)), (1, .int a), (2, .int b), (3, .int d), (4, .int f)]) hx hb dX11_tries_123 hl (by decide) rfl (fun ls hl => ?_)
            have loop61 : ∀ (n : Nat) (x6_59 : Int32) (ar_60 : gAr) (H : Heap) (locs : List Loc) (ls : Array Slot), ((6 - (x6_59.toInt)).toNat) < n → (0 ≤ (x6_59.toInt) ∧ (x6_59.toInt) ≤ 6) → (∀ c, c ≠ 8 → ar_60 c = ar c) → (∀ i, i < 6 → 0 ≤ (ar_60 8 i).toInt ∧ (ar_60 8 i).toInt ≤ 5) → va_P D vwCl (MW cy ad iv_58 ar_60) H → va_S (mA ad s.heap.size) s.heap H locs → lv_has ls 7 [(6, .int x6_59), (5, .int 1), (0, .ref (ad 0)), (1, .int a), (2, .int b), (3, .int d), (4, .int f)] → W p l e (headSpec wsX11_tries (({ frames := 0, cells := 0, slots := 0, locals := 0 } : Room))).room s m (([.ref (ad 0), .int a, .int b, .int d, .int f] : List Value).toArray) below meth c H locs 0 0 Q (F0 m 125 ls []) := by
              intro n
              induction n with
              | zero => intro x6_59 ar_60 H locs ls hm; omega
              | succ n ih61 =>
                intro x6_59 ar_60 H locs ls hm hg0 hga hgt hP hS hl
                refine lv_iload hx hb dX11_tries_125 (lv_at hl 0 rfl) ?_
                refine lv_aload_n hx hb dX11_tries_127 rfl (lv_at hl 2 rfl) ?_
                refine va_get (D := D) (ci := 11) (v := .ref (ad 1)) (C := RX11) (T := TX11) (N := 30) hx hb hts inX11 hown hK hP 0 (m_at11 (Nat.le_of_ble_eq_true rfl) rfl) rfl 0 (by decide) lk0 (fun _ h9 => h9) rfl dX11_tries_128 ?_
                refine lv_bipush (v := 111) hx hb dX11_tries_131 (by decide) ?_
                refine va_iald hx hb hK hP 1 0 (m_at12 (Nat.le_of_ble_eq_true rfl) rfl) rfl (g_in (N := 126) (show (111 : Int32).toInt = (111 : Int) from rfl) rfl (by omega) (by omega)) dX11_tries_133 ?_
                refine lv_topi (fun v_62 ev_62 => ?_)
                have hv1 : v_62.toInt = (ar 1 111).toInt := by rw [ev_62, hga 1 (by omega)]; rfl
                refine lv_icmp_ge (tgt := 157) hx hb dX11_tries_134 (by decide) (fun c_63 => ?_) (fun c_63 => ?_)
                · skip
                  have q_63 : v_62.toInt ≤ x6_59.toInt := i_le2 (rfl : v_62.toInt = v_62.toInt) (rfl : x6_59.toInt = x6_59.toInt) c_63
                  have ht9 : TR ar_60 := fun i hi => ⟨by rw [hga 7 (by omega)]; exact (htr i hi).1, by rw [hga 7 (by omega)]; exact (htr i hi).2.1, (hgt i hi).1, (hgt i hi).2⟩
                  rw [hQ]
                  exact W.vret hx hb hr (fun t ht hW => ⟨⟨(iv_58, ar_60), rfl, ⟨fun a b h => by show iv_58 a b = iv a b; rw [eiv_58, u2_o (by omega)]; rw [eiv_57, u2_o (by omega)]; rw [eiv_55, u2_o (by omega)]; rw [eiv_4, u2_o (by omega)], fun c h5 h6 h7 h8 => hga c h8, hka.fr (hga 1 (by omega)) (hga 5 (by omega)) (hga 6 (by omega)), ht9⟩, by show va_P _ _ _ _; rw [ht]; exact hP⟩, hS.F ht⟩) hS.2.2 dX11_tries_157
                · skip
                  have q_63 : x6_59.toInt < v_62.toInt := i_nle2 (rfl : v_62.toInt = v_62.toInt) (rfl : x6_59.toInt = x6_59.toInt) c_63
                  refine lv_aload_n hx hb dX11_tries_137 rfl (lv_at hl 2 rfl) ?_
                  refine va_get (D := D) (ci := 11) (v := .ref (ad 8)) (C := RX11) (T := TX11) (N := 30) hx hb hts inX11 hown hK hP 0 (m_at11 (Nat.le_of_ble_eq_true rfl) rfl) rfl 10 (by decide) lk5 (fun _ h9 => h9) rfl dX11_tries_138 ?_
                  refine lv_iload hx hb dX11_tries_141 (lv_at hl 0 rfl) ?_
                  refine lv_aload_n hx hb dX11_tries_143 rfl (lv_at hl 2 rfl) ?_
                  refine va_get (D := D) (ci := 11) (v := .ref (ad 7)) (C := RX11) (T := TX11) (N := 30) hx hb hts inX11 hown hK hP 0 (m_at11 (Nat.le_of_ble_eq_true rfl) rfl) rfl 9 (by decide) lk6 (fun _ h9 => h9) rfl dX11_tries_144 ?_
                  refine lv_iload hx hb dX11_tries_147 (lv_at hl 0 rfl) ?_
                  refine va_iald hx hb hK hP 7 0 (m_at12 (Nat.le_of_ble_eq_true rfl) rfl) rfl (g_in (N := 6) (rfl : x6_59.toInt = x6_59.toInt) rfl (by omega) (by omega)) dX11_tries_149 ?_
                  refine lv_topi (fun v_64 ev_64 => ?_)
                  have hv2 : 0 ≤ v_64.toInt ∧ v_64.toInt ≤ 5 := by
                    rw [ev_64, g_cN (rfl : x6_59.toInt = _), hga 7 (by omega)]
                    exact ⟨(htr (x6_59.toInt).toNat (by omega)).1, (htr (x6_59.toInt).toNat (by omega)).2.1⟩
                  refine va_iast hx hb hK hP (mD hI) hS 8 0 (m_at12 (Nat.le_of_ble_eq_true rfl) rfl) rfl (g_in (N := 6) (rfl : x6_59.toInt = x6_59.toInt) rfl (by omega) (by omega)) dX11_tries_150 (fun H locs hP _ hS => ?_)
                  rw [m_pt12 (Nat.le_of_ble_eq_true rfl) rfl] at hP
                  obtain ⟨ar_65, ear_65⟩ : ∃ z : gAr, z = va_up ar_60 8 (upd (ar_60 8) x6_59.toNatClampNeg v_64) := ⟨_, rfl⟩
                  rw [← ear_65] at hP
                  have hga2 : ∀ c, c ≠ 8 → ar_65 c = ar c := fun c h => by rw [ear_65, ua_o h]; exact hga c h
                  have hgt2 : ∀ i, i < 6 → 0 ≤ (ar_65 8 i).toInt ∧ (ar_65 8 i).toInt ≤ 5 := fun i hi => by
                    rw [ear_65, ua_s, g_cN (rfl : x6_59.toInt = _)]
                    by_cases e : i = (x6_59.toInt).toNat
                    · rw [e, pk_us]; exact hv2
                    · rw [pk_un e]; exact hgt i hi
                  obtain ⟨x6_66, ex6_66⟩ : ∃ y : Int32, y = x6_59 + 1 := ⟨_, rfl⟩
                  have tx6_66 : x6_66.toInt = x6_59.toInt + (1 : Int) := i_add (rfl : x6_59.toInt = x6_59.toInt) (show (1 : Int32).toInt = (1 : Int) from rfl) (by omega) (by omega) ex6_66
                  refine lv_iinc (v := x6_66) (lv' := [(6, .int x6_66), (5, .int 1), (0, .ref (ad 0)), (1, .int a), (2, .int b), (3, .int d), (4, .int f)]) hx hb dX11_tries_151 hl (k := 0) rfl (by rw [ex6_66]; rfl) (by decide) rfl (fun ls hl => ?_)
                  refine lv_goto (tgt := 125) hx hb dX11_tries_154 (by decide) ?_
                  exact ih61 x6_66 ar_65 _ _ _ (by omega) (by omega) hga2 hgt2 hP hS (lv_sub hl [0, 1, 2, 3, 4, 5, 6] rfl)
            have zl_67 : (0 : Int32).toInt = (0 : Int) := rfl
            exact loop61 (((6 - ((0 : Int))).toNat) + 1) 0 ar _ _ _ (by omega) (by omega) (fun _ _ => rfl) (fun i hi => ⟨(htr i hi).2.2.1, (htr i hi).2.2.2⟩) hP hS (lv_sub hl [0, 1, 2, 3, 4, 5, 6] rfl)
    · skip
      have q_6 : v_3.toInt ≠ (1 : Int) := i_ne2 ((congrArg Int32.toInt f_5).trans (rfl : v_3.toInt = v_3.toInt)) (show (1 : Int32).toInt = (1 : Int) from rfl) c_6
      refine lv_iload_n hx hb dX11_tries_29 rfl (lv_at hl 3 rfl) ?_
      refine lv_aload_n hx hb dX11_tries_30 rfl (lv_at hl 0 rfl) ?_
      refine va_get (D := D) (ci := 11) (v := .int (iv_4 0 11)) (C := RX11) (T := TX11) (N := 30) hx hb hts inX11 hown hK hP 0 (m_at11 (Nat.le_of_ble_eq_true rfl) rfl) rfl 11 (by decide) lk3 (fun _ h9 => h9) rfl dX11_tries_31 ?_
      have f_68 : iv_4 0 11 = iv 0 11 := by rw [eiv_4, u2_o (by omega)]
      refine lv_icmp_lt (tgt := 54) hx hb dX11_tries_34 (by decide) (fun c_69 => ?_) (fun c_69 => ?_)
      · skip
        have q_69 : d.toInt < (iv 0 11).toInt := i_lt2 (rfl : d.toInt = d.toInt) ((congrArg Int32.toInt f_68).trans (rfl : (iv 0 11).toInt = (iv 0 11).toInt)) c_69
        refine lv_iconst (v := 1) hx hb dX11_tries_54 (by decide) ?_
        refine lv_goto (tgt := 59) hx hb dX11_tries_55 (by decide) ?_
        refine lv_istore (lv' := [(5, .int 1), (0, .ref (ad 0)), (1, .int a), (2, .int b), (3, .int d), (4, .int f)]) hx hb dX11_tries_59 hl (by decide) rfl (fun ls hl => ?_)
        refine lv_aload_n hx hb dX11_tries_61 rfl (lv_at hl 1 rfl) ?_
        refine lv_aload_n hx hb dX11_tries_62 rfl (lv_at hl 1 rfl) ?_
        refine va_get (D := D) (ci := 11) (v := .int (iv_4 0 14)) (C := RX11) (T := TX11) (N := 30) hx hb hts inX11 hown hK hP 0 (m_at11 (Nat.le_of_ble_eq_true rfl) rfl) rfl 14 (by decide) lk1 (fun _ h9 => h9) rfl dX11_tries_63 ?_
        have f_70 : iv_4 0 14 = v_3 := by rw [eiv_4]; exact u2_s _ _ _ _
        refine lv_iconst (v := 1) hx hb dX11_tries_66 (by decide) ?_
        refine lv_icmp_eq (tgt := 78) hx hb dX11_tries_67 (by decide) (fun c_71 => ?_) (fun c_71 => ?_)
        · skip
          have q_71 : v_3.toInt = (1 : Int) := i_eq2 ((congrArg Int32.toInt f_70).trans (rfl : v_3.toInt = v_3.toInt)) (show (1 : Int32).toInt = (1 : Int) from rfl) c_71
          refine lv_iconst (v := 1) hx hb dX11_tries_78 (by decide) ?_
          refine lv_goto (tgt := 103) hx hb dX11_tries_79 (by decide) ?_
          refine va_put (D := D) (ci := 11) (v := .int 1) (ty := .int) (C := RX11) (T := TX11) (N := 30) hx hb hts inX11 tyX11 tyX11_ok nmX11 hown hK hP (mD hI) hS 0 (m_at11 (Nat.le_of_ble_eq_true rfl) rfl) rfl 13 (by decide) lk2 (fun _ h9 => h9) rfl (by decide +kernel) rfl rfl (Nat.le_of_ble_eq_true rfl) dX11_tries_103 (fun H locs hP _ hS => ?_)
          have hP : va_P D vwCl (MW cy ad (u2 iv_4 0 13 1) ar) H := by rw [← m_pt11_13 (Nat.le_of_ble_eq_true rfl) rfl]; exact hP
          obtain ⟨iv_72, eiv_72⟩ : ∃ z : gIv, z = u2 iv_4 0 13 1 := ⟨_, rfl⟩
          rw [← eiv_72] at hP
          refine lv_iload hx hb dX11_tries_106 (lv_at hl 0 rfl) ?_
          refine lv_if_eq (tgt := 157) hx hb dX11_tries_108 (by decide) (fun c_73 => ?_) (fun c_73 => ?_)
          · skip
            have q_73 : (1 : Int) = (0 : Int) := i_eq2 (show (1 : Int32).toInt = (1 : Int) from rfl) (show (0 : Int32).toInt = (0 : Int) from rfl) c_73
            exfalso; omega
          · skip
            have q_73 : (1 : Int) ≠ (0 : Int) := i_ne2 (show (1 : Int32).toInt = (1 : Int) from rfl) (show (0 : Int32).toInt = (0 : Int) from rfl) c_73
            refine lv_aload_n hx hb dX11_tries_111 rfl (lv_at hl 1 rfl) ?_
            refine lv_iload_n hx hb dX11_tries_112 rfl (lv_at hl 4 rfl) ?_
            refine va_put (D := D) (ci := 11) (v := .int d) (ty := .int) (C := RX11) (T := TX11) (N := 30) hx hb hts inX11 tyX11 tyX11_ok nmX11 hown hK hP (mD hI) hS 0 (m_at11 (Nat.le_of_ble_eq_true rfl) rfl) rfl 11 (by decide) lk3 (fun _ h9 => h9) rfl (by decide +kernel) rfl rfl (Nat.le_of_ble_eq_true rfl) dX11_tries_113 (fun H locs hP _ hS => ?_)
            have hP : va_P D vwCl (MW cy ad (u2 iv_72 0 11 d) ar) H := by rw [← m_pt11_11 (Nat.le_of_ble_eq_true rfl) rfl]; exact hP
            obtain ⟨iv_74, eiv_74⟩ : ∃ z : gIv, z = u2 iv_72 0 11 d := ⟨_, rfl⟩
            rw [← eiv_74] at hP
            refine lv_aload_n hx hb dX11_tries_116 rfl (lv_at hl 1 rfl) ?_
            refine lv_iload hx hb dX11_tries_117 (lv_at hl 5 rfl) ?_
            refine va_put (D := D) (ci := 11) (v := .int f) (ty := .int) (C := RX11) (T := TX11) (N := 30) hx hb hts inX11 tyX11 tyX11_ok nmX11 hown hK hP (mD hI) hS 0 (m_at11 (Nat.le_of_ble_eq_true rfl) rfl) rfl 12 (by decide) lk4 (fun _ h9 => h9) rfl (by decide +kernel) rfl rfl (Nat.le_of_ble_eq_true rfl) dX11_tries_119 (fun H locs hP _ hS => ?_)
            have hP : va_P D vwCl (MW cy ad (u2 iv_74 0 12 f) ar) H := by rw [← m_pt11_12 (Nat.le_of_ble_eq_true rfl) rfl]; exact hP
            obtain ⟨iv_75, eiv_75⟩ : ∃ z : gIv, z = u2 iv_74 0 12 f := ⟨_, rfl⟩
            rw [← eiv_75] at hP
            refine lv_iconst (v := 0) hx hb dX11_tries_122 (by decide) ?_
            refine lv_istore (lv' := [(6, .int 0), (5, .int 1), (0, .ref (ad 0)), (1, .int a), (2, .int b), (3, .int d), (4, .int f)]) hx hb dX11_tries_123 hl (by decide) rfl (fun ls hl => ?_)
            have loop78 : ∀ (n : Nat) (x6_76 : Int32) (ar_77 : gAr) (H : Heap) (locs : List Loc) (ls : Array Slot), ((6 - (x6_76.toInt)).toNat) < n → (0 ≤ (x6_76.toInt) ∧ (x6_76.toInt) ≤ 6) → (∀ c, c ≠ 8 → ar_77 c = ar c) → (∀ i, i < 6 → 0 ≤ (ar_77 8 i).toInt ∧ (ar_77 8 i).toInt ≤ 5) → va_P D vwCl (MW cy ad iv_75 ar_77) H → va_S (mA ad s.heap.size) s.heap H locs → lv_has ls 7 [(6, .int x6_76), (5, .int 1), (0, .ref (ad 0)), (1, .int a), (2, .int b), (3, .int d), (4, .int f)] → W p l e (headSpec wsX11_tries (({ frames := 0, cells := 0, slots := 0, locals := 0 } : Room))).room s m (([.ref (ad 0), .int a, .int b, .int d, .int f] : List Value).toArray) below meth c H locs 0 0 Q (F0 m 125 ls []) := by
              intro n
              induction n with
              | zero => intro x6_76 ar_77 H locs ls hm; omega
              | succ n ih78 =>
                intro x6_76 ar_77 H locs ls hm hg0 hga hgt hP hS hl
                refine lv_iload hx hb dX11_tries_125 (lv_at hl 0 rfl) ?_
                refine lv_aload_n hx hb dX11_tries_127 rfl (lv_at hl 2 rfl) ?_
                refine va_get (D := D) (ci := 11) (v := .ref (ad 1)) (C := RX11) (T := TX11) (N := 30) hx hb hts inX11 hown hK hP 0 (m_at11 (Nat.le_of_ble_eq_true rfl) rfl) rfl 0 (by decide) lk0 (fun _ h9 => h9) rfl dX11_tries_128 ?_
                refine lv_bipush (v := 111) hx hb dX11_tries_131 (by decide) ?_
                refine va_iald hx hb hK hP 1 0 (m_at12 (Nat.le_of_ble_eq_true rfl) rfl) rfl (g_in (N := 126) (show (111 : Int32).toInt = (111 : Int) from rfl) rfl (by omega) (by omega)) dX11_tries_133 ?_
                refine lv_topi (fun v_79 ev_79 => ?_)
                have hv1 : v_79.toInt = (ar 1 111).toInt := by rw [ev_79, hga 1 (by omega)]; rfl
                refine lv_icmp_ge (tgt := 157) hx hb dX11_tries_134 (by decide) (fun c_80 => ?_) (fun c_80 => ?_)
                · skip
                  have q_80 : v_79.toInt ≤ x6_76.toInt := i_le2 (rfl : v_79.toInt = v_79.toInt) (rfl : x6_76.toInt = x6_76.toInt) c_80
                  have ht9 : TR ar_77 := fun i hi => ⟨by rw [hga 7 (by omega)]; exact (htr i hi).1, by rw [hga 7 (by omega)]; exact (htr i hi).2.1, (hgt i hi).1, (hgt i hi).2⟩
                  rw [hQ]
                  exact W.vret hx hb hr (fun t ht hW => ⟨⟨(iv_75, ar_77), rfl, ⟨fun a b h => by show iv_75 a b = iv a b; rw [eiv_75, u2_o (by omega)]; rw [eiv_74, u2_o (by omega)]; rw [eiv_72, u2_o (by omega)]; rw [eiv_4, u2_o (by omega)], fun c h5 h6 h7 h8 => hga c h8, hka.fr (hga 1 (by omega)) (hga 5 (by omega)) (hga 6 (by omega)), ht9⟩, by show va_P _ _ _ _; rw [ht]; exact hP⟩, hS.F ht⟩) hS.2.2 dX11_tries_157
                · skip
                  have q_80 : x6_76.toInt < v_79.toInt := i_nle2 (rfl : v_79.toInt = v_79.toInt) (rfl : x6_76.toInt = x6_76.toInt) c_80
                  refine lv_aload_n hx hb dX11_tries_137 rfl (lv_at hl 2 rfl) ?_
                  refine va_get (D := D) (ci := 11) (v := .ref (ad 8)) (C := RX11) (T := TX11) (N := 30) hx hb hts inX11 hown hK hP 0 (m_at11 (Nat.le_of_ble_eq_true rfl) rfl) rfl 10 (by decide) lk5 (fun _ h9 => h9) rfl dX11_tries_138 ?_
                  refine lv_iload hx hb dX11_tries_141 (lv_at hl 0 rfl) ?_
                  refine lv_aload_n hx hb dX11_tries_143 rfl (lv_at hl 2 rfl) ?_
                  refine va_get (D := D) (ci := 11) (v := .ref (ad 7)) (C := RX11) (T := TX11) (N := 30) hx hb hts inX11 hown hK hP 0 (m_at11 (Nat.le_of_ble_eq_true rfl) rfl) rfl 9 (by decide) lk6 (fun _ h9 => h9) rfl dX11_tries_144 ?_
                  refine lv_iload hx hb dX11_tries_147 (lv_at hl 0 rfl) ?_
                  refine va_iald hx hb hK hP 7 0 (m_at12 (Nat.le_of_ble_eq_true rfl) rfl) rfl (g_in (N := 6) (rfl : x6_76.toInt = x6_76.toInt) rfl (by omega) (by omega)) dX11_tries_149 ?_
                  refine lv_topi (fun v_81 ev_81 => ?_)
                  have hv2 : 0 ≤ v_81.toInt ∧ v_81.toInt ≤ 5 := by
                    rw [ev_81, g_cN (rfl : x6_76.toInt = _), hga 7 (by omega)]
                    exact ⟨(htr (x6_76.toInt).toNat (by omega)).1, (htr (x6_76.toInt).toNat (by omega)).2.1⟩
                  refine va_iast hx hb hK hP (mD hI) hS 8 0 (m_at12 (Nat.le_of_ble_eq_true rfl) rfl) rfl (g_in (N := 6) (rfl : x6_76.toInt = x6_76.toInt) rfl (by omega) (by omega)) dX11_tries_150 (fun H locs hP _ hS => ?_)
                  rw [m_pt12 (Nat.le_of_ble_eq_true rfl) rfl] at hP
                  obtain ⟨ar_82, ear_82⟩ : ∃ z : gAr, z = va_up ar_77 8 (upd (ar_77 8) x6_76.toNatClampNeg v_81) := ⟨_, rfl⟩
                  rw [← ear_82] at hP
                  have hga2 : ∀ c, c ≠ 8 → ar_82 c = ar c := fun c h => by rw [ear_82, ua_o h]; exact hga c h
                  have hgt2 : ∀ i, i < 6 → 0 ≤ (ar_82 8 i).toInt ∧ (ar_82 8 i).toInt ≤ 5 := fun i hi => by
                    rw [ear_82, ua_s, g_cN (rfl : x6_76.toInt = _)]
                    by_cases e : i = (x6_76.toInt).toNat
                    · rw [e, pk_us]; exact hv2
                    · rw [pk_un e]; exact hgt i hi
                  obtain ⟨x6_83, ex6_83⟩ : ∃ y : Int32, y = x6_76 + 1 := ⟨_, rfl⟩
                  have tx6_83 : x6_83.toInt = x6_76.toInt + (1 : Int) := i_add (rfl : x6_76.toInt = x6_76.toInt) (show (1 : Int32).toInt = (1 : Int) from rfl) (by omega) (by omega) ex6_83
                  refine lv_iinc (v := x6_83) (lv' := [(6, .int x6_83), (5, .int 1), (0, .ref (ad 0)), (1, .int a), (2, .int b), (3, .int d), (4, .int f)]) hx hb dX11_tries_151 hl (k := 0) rfl (by rw [ex6_83]; rfl) (by decide) rfl (fun ls hl => ?_)
                  refine lv_goto (tgt := 125) hx hb dX11_tries_154 (by decide) ?_
                  exact ih78 x6_83 ar_82 _ _ _ (by omega) (by omega) hga2 hgt2 hP hS (lv_sub hl [0, 1, 2, 3, 4, 5, 6] rfl)
            have zl_84 : (0 : Int32).toInt = (0 : Int) := rfl
            exact loop78 (((6 - ((0 : Int))).toNat) + 1) 0 ar _ _ _ (by omega) (by omega) (fun _ _ => rfl) (fun i hi => ⟨(htr i hi).2.2.1, (htr i hi).2.2.2⟩) hP hS (lv_sub hl [0, 1, 2, 3, 4, 5, 6] rfl)
        · skip
          have q_71 : v_3.toInt ≠ (1 : Int) := i_ne2 ((congrArg Int32.toInt f_70).trans (rfl : v_3.toInt = v_3.toInt)) (show (1 : Int32).toInt = (1 : Int) from rfl) c_71
          refine lv_iload_n hx hb dX11_tries_70 rfl (lv_at hl 4 rfl) ?_
          refine lv_aload_n hx hb dX11_tries_71 rfl (lv_at hl 1 rfl) ?_
          refine va_get (D := D) (ci := 11) (v := .int (iv_4 0 11)) (C := RX11) (T := TX11) (N := 30) hx hb hts inX11 hown hK hP 0 (m_at11 (Nat.le_of_ble_eq_true rfl) rfl) rfl 11 (by decide) lk3 (fun _ h9 => h9) rfl dX11_tries_72 ?_
          have f_85 : iv_4 0 11 = iv 0 11 := by rw [eiv_4, u2_o (by omega)]
          refine lv_icmp_ge (tgt := 82) hx hb dX11_tries_75 (by decide) (fun c_86 => ?_) (fun c_86 => ?_)
          · skip
            have q_86 : (iv 0 11).toInt ≤ d.toInt := i_le2 ((congrArg Int32.toInt f_85).trans (rfl : (iv 0 11).toInt = (iv 0 11).toInt)) (rfl : d.toInt = d.toInt) c_86
            refine lv_iload_n hx hb dX11_tries_82 rfl (lv_at hl 4 rfl) ?_
            refine lv_aload_n hx hb dX11_tries_83 rfl (lv_at hl 1 rfl) ?_
            refine va_get (D := D) (ci := 11) (v := .int (iv_4 0 11)) (C := RX11) (T := TX11) (N := 30) hx hb hts inX11 hown hK hP 0 (m_at11 (Nat.le_of_ble_eq_true rfl) rfl) rfl 11 (by decide) lk3 (fun _ h9 => h9) rfl dX11_tries_84 ?_
            have f_87 : iv_4 0 11 = iv 0 11 := by rw [eiv_4, u2_o (by omega)]
            refine lv_icmp_ne (tgt := 99) hx hb dX11_tries_87 (by decide) (fun c_88 => ?_) (fun c_88 => ?_)
            · skip
              have q_88 : d.toInt ≠ (iv 0 11).toInt := i_ne2 (rfl : d.toInt = d.toInt) ((congrArg Int32.toInt f_87).trans (rfl : (iv 0 11).toInt = (iv 0 11).toInt)) c_88
              refine lv_aload_n hx hb dX11_tries_99 rfl (lv_at hl 1 rfl) ?_
              refine va_get (D := D) (ci := 11) (v := .int (iv_4 0 13)) (C := RX11) (T := TX11) (N := 30) hx hb hts inX11 hown hK hP 0 (m_at11 (Nat.le_of_ble_eq_true rfl) rfl) rfl 13 (by decide) lk2 (fun _ h9 => h9) rfl dX11_tries_100 ?_
              have f_89 : iv_4 0 13 = iv 0 13 := by rw [eiv_4, u2_o (by omega)]
              refine va_put (D := D) (ci := 11) (v := .int (iv_4 0 13)) (ty := .int) (C := RX11) (T := TX11) (N := 30) hx hb hts inX11 tyX11 tyX11_ok nmX11 hown hK hP (mD hI) hS 0 (m_at11 (Nat.le_of_ble_eq_true rfl) rfl) rfl 13 (by decide) lk2 (fun _ h9 => h9) rfl (by decide +kernel) rfl rfl (Nat.le_of_ble_eq_true rfl) dX11_tries_103 (fun H locs hP _ hS => ?_)
              have hP : va_P D vwCl (MW cy ad (u2 iv_4 0 13 (iv_4 0 13)) ar) H := by rw [← m_pt11_13 (Nat.le_of_ble_eq_true rfl) rfl]; exact hP
              obtain ⟨iv_90, eiv_90⟩ : ∃ z : gIv, z = u2 iv_4 0 13 (iv_4 0 13) := ⟨_, rfl⟩
              rw [← eiv_90] at hP
              refine lv_iload hx hb dX11_tries_106 (lv_at hl 0 rfl) ?_
              refine lv_if_eq (tgt := 157) hx hb dX11_tries_108 (by decide) (fun c_91 => ?_) (fun c_91 => ?_)
              · skip
                have q_91 : (1 : Int) = (0 : Int) := i_eq2 (show (1 : Int32).toInt = (1 : Int) from rfl) (show (0 : Int32).toInt = (0 : Int) from rfl) c_91
                exfalso; omega
              · skip
                have q_91 : (1 : Int) ≠ (0 : Int) := i_ne2 (show (1 : Int32).toInt = (1 : Int) from rfl) (show (0 : Int32).toInt = (0 : Int) from rfl) c_91
                refine lv_aload_n hx hb dX11_tries_111 rfl (lv_at hl 1 rfl) ?_
                refine lv_iload_n hx hb dX11_tries_112 rfl (lv_at hl 4 rfl) ?_
                refine va_put (D := D) (ci := 11) (v := .int d) (ty := .int) (C := RX11) (T := TX11) (N := 30) hx hb hts inX11 tyX11 tyX11_ok nmX11 hown hK hP (mD hI) hS 0 (m_at11 (Nat.le_of_ble_eq_true rfl) rfl) rfl 11 (by decide) lk3 (fun _ h9 => h9) rfl (by decide +kernel) rfl rfl (Nat.le_of_ble_eq_true rfl) dX11_tries_113 (fun H locs hP _ hS => ?_)
                have hP : va_P D vwCl (MW cy ad (u2 iv_90 0 11 d) ar) H := by rw [← m_pt11_11 (Nat.le_of_ble_eq_true rfl) rfl]; exact hP
                obtain ⟨iv_92, eiv_92⟩ : ∃ z : gIv, z = u2 iv_90 0 11 d := ⟨_, rfl⟩
                rw [← eiv_92] at hP
                refine lv_aload_n hx hb dX11_tries_116 rfl (lv_at hl 1 rfl) ?_
                refine lv_iload hx hb dX11_tries_117 (lv_at hl 5 rfl) ?_
                refine va_put (D := D) (ci := 11) (v := .int f) (ty := .int) (C := RX11) (T := TX11) (N := 30) hx hb hts inX11 tyX11 tyX11_ok nmX11 hown hK hP (mD hI) hS 0 (m_at11 (Nat.le_of_ble_eq_true rfl) rfl) rfl 12 (by decide) lk4 (fun _ h9 => h9) rfl (by decide +kernel) rfl rfl (Nat.le_of_ble_eq_true rfl) dX11_tries_119 (fun H locs hP _ hS => ?_)
                have hP : va_P D vwCl (MW cy ad (u2 iv_92 0 12 f) ar) H := by rw [← m_pt11_12 (Nat.le_of_ble_eq_true rfl) rfl]; exact hP
                obtain ⟨iv_93, eiv_93⟩ : ∃ z : gIv, z = u2 iv_92 0 12 f := ⟨_, rfl⟩
                rw [← eiv_93] at hP
                refine lv_iconst (v := 0) hx hb dX11_tries_122 (by decide) ?_
                refine lv_istore (lv' := [(6, .int 0), (5, .int 1), (0, .ref (ad 0)), (1, .int a), (2, .int b), (3, .int d), (4, .int f)]) hx hb dX11_tries_123 hl (by decide) rfl (fun ls hl => ?_)
                have loop96 : ∀ (n : Nat) (x6_94 : Int32) (ar_95 : gAr) (H : Heap) (locs : List Loc) (ls : Array Slot), ((6 - (x6_94.toInt)).toNat) < n → (0 ≤ (x6_94.toInt) ∧ (x6_94.toInt) ≤ 6) → (∀ c, c ≠ 8 → ar_95 c = ar c) → (∀ i, i < 6 → 0 ≤ (ar_95 8 i).toInt ∧ (ar_95 8 i).toInt ≤ 5) → va_P D vwCl (MW cy ad iv_93 ar_95) H → va_S (mA ad s.heap.size) s.heap H locs → lv_has ls 7 [(6, .int x6_94), (5, .int 1), (0, .ref (ad 0)), (1, .int a), (2, .int b), (3, .int d), (4, .int f)] → W p l e (headSpec wsX11_tries (({ frames := 0, cells := 0, slots := 0, locals := 0 } : Room))).room s m (([.ref (ad 0), .int a, .int b, .int d, .int f] : List Value).toArray) below meth c H locs 0 0 Q (F0 m 125 ls []) := by
                  intro n
                  induction n with
                  | zero => intro x6_94 ar_95 H locs ls hm; omega
                  | succ n ih96 =>
                    intro x6_94 ar_95 H locs ls hm hg0 hga hgt hP hS hl
                    refine lv_iload hx hb dX11_tries_125 (lv_at hl 0 rfl) ?_
                    refine lv_aload_n hx hb dX11_tries_127 rfl (lv_at hl 2 rfl) ?_
                    refine va_get (D := D) (ci := 11) (v := .ref (ad 1)) (C := RX11) (T := TX11) (N := 30) hx hb hts inX11 hown hK hP 0 (m_at11 (Nat.le_of_ble_eq_true rfl) rfl) rfl 0 (by decide) lk0 (fun _ h9 => h9) rfl dX11_tries_128 ?_
                    refine lv_bipush (v := 111) hx hb dX11_tries_131 (by decide) ?_
                    refine va_iald hx hb hK hP 1 0 (m_at12 (Nat.le_of_ble_eq_true rfl) rfl) rfl (g_in (N := 126) (show (111 : Int32).toInt = (111 : Int) from rfl) rfl (by omega) (by omega)) dX11_tries_133 ?_
                    refine lv_topi (fun v_97 ev_97 => ?_)
                    have hv1 : v_97.toInt = (ar 1 111).toInt := by rw [ev_97, hga 1 (by omega)]; rfl
                    refine lv_icmp_ge (tgt := 157) hx hb dX11_tries_134 (by decide) (fun c_98 => ?_) (fun c_98 => ?_)
                    · skip
                      have q_98 : v_97.toInt ≤ x6_94.toInt := i_le2 (rfl : v_97.toInt = v_97.toInt) (rfl : x6_94.toInt = x6_94.toInt) c_98
                      have ht9 : TR ar_95 := fun i hi => ⟨by rw [hga 7 (by omega)]; exact (htr i hi).1, by rw [hga 7 (by omega)]; exact (htr i hi).2.1, (hgt i hi).1, (hgt i hi).2⟩
                      rw [hQ]
                      exact W.vret hx hb hr (fun t ht hW => ⟨⟨(iv_93, ar_95), rfl, ⟨fun a b h => by show iv_93 a b = iv a b; rw [eiv_93, u2_o (by omega)]; rw [eiv_92, u2_o (by omega)]; rw [eiv_90, u2_o (by omega)]; rw [eiv_4, u2_o (by omega)], fun c h5 h6 h7 h8 => hga c h8, hka.fr (hga 1 (by omega)) (hga 5 (by omega)) (hga 6 (by omega)), ht9⟩, by show va_P _ _ _ _; rw [ht]; exact hP⟩, hS.F ht⟩) hS.2.2 dX11_tries_157
                    · skip
                      have q_98 : x6_94.toInt < v_97.toInt := i_nle2 (rfl : v_97.toInt = v_97.toInt) (rfl : x6_94.toInt = x6_94.toInt) c_98
                      refine lv_aload_n hx hb dX11_tries_137 rfl (lv_at hl 2 rfl) ?_
                      refine va_get (D := D) (ci := 11) (v := .ref (ad 8)) (C := RX11) (T := TX11) (N := 30) hx hb hts inX11 hown hK hP 0 (m_at11 (Nat.le_of_ble_eq_true rfl) rfl) rfl 10 (by decide) lk5 (fun _ h9 => h9) rfl dX11_tries_138 ?_
                      refine lv_iload hx hb dX11_tries_141 (lv_at hl 0 rfl) ?_
                      refine lv_aload_n hx hb dX11_tries_143 rfl (lv_at hl 2 rfl) ?_
                      refine va_get (D := D) (ci := 11) (v := .ref (ad 7)) (C := RX11) (T := TX11) (N := 30) hx hb hts inX11 hown hK hP 0 (m_at11 (Nat.le_of_ble_eq_true rfl) rfl) rfl 9 (by decide) lk6 (fun _ h9 => h9) rfl dX11_tries_144 ?_
                      refine lv_iload hx hb dX11_tries_147 (lv_at hl 0 rfl) ?_
                      refine va_iald hx hb hK hP 7 0 (m_at12 (Nat.le_of_ble_eq_true rfl) rfl) rfl (g_in (N := 6) (rfl : x6_94.toInt = x6_94.toInt) rfl (by omega) (by omega)) dX11_tries_149 ?_
                      refine lv_topi (fun v_99 ev_99 => ?_)
                      have hv2 : 0 ≤ v_99.toInt ∧ v_99.toInt ≤ 5 := by
                        rw [ev_99, g_cN (rfl : x6_94.toInt = _), hga 7 (by omega)]
                        exact ⟨(htr (x6_94.toInt).toNat (by omega)).1, (htr (x6_94.toInt).toNat (by omega)).2.1⟩
                      refine va_iast hx hb hK hP (mD hI) hS 8 0 (m_at12 (Nat.le_of_ble_eq_true rfl) rfl) rfl (g_in (N := 6) (rfl : x6_94.toInt = x6_94.toInt) rfl (by omega) (by omega)) dX11_tries_150 (fun H locs hP _ hS => ?_)
                      rw [m_pt12 (Nat.le_of_ble_eq_true rfl) rfl] at hP
                      obtain ⟨ar_100, ear_100⟩ : ∃ z : gAr, z = va_up ar_95 8 (upd (ar_95 8) x6_94.toNatClampNeg v_99) := ⟨_, rfl⟩
                      rw [← ear_100] at hP
                      have hga2 : ∀ c, c ≠ 8 → ar_100 c = ar c := fun c h => by rw [ear_100, ua_o h]; exact hga c h
                      have hgt2 : ∀ i, i < 6 → 0 ≤ (ar_100 8 i).toInt ∧ (ar_100 8 i).toInt ≤ 5 := fun i hi => by
                        rw [ear_100, ua_s, g_cN (rfl : x6_94.toInt = _)]
                        by_cases e : i = (x6_94.toInt).toNat
                        · rw [e, pk_us]; exact hv2
                        · rw [pk_un e]; exact hgt i hi
                      obtain ⟨x6_101, ex6_101⟩ : ∃ y : Int32, y = x6_94 + 1 := ⟨_, rfl⟩
                      have tx6_101 : x6_101.toInt = x6_94.toInt + (1 : Int) := i_add (rfl : x6_94.toInt = x6_94.toInt) (show (1 : Int32).toInt = (1 : Int) from rfl) (by omega) (by omega) ex6_101
                      refine lv_iinc (v := x6_101) (lv' := [(6, .int x6_101), (5, .int 1), (0, .ref (ad 0)), (1, .int a), (2, .int b), (3, .int d), (4, .int f)]) hx hb dX11_tries_151 hl (k := 0) rfl (by rw [ex6_101]; rfl) (by decide) rfl (fun ls hl => ?_)
                      refine lv_goto (tgt := 125) hx hb dX11_tries_154 (by decide) ?_
                      exact ih96 x6_101 ar_100 _ _ _ (by omega) (by omega) hga2 hgt2 hP hS (lv_sub hl [0, 1, 2, 3, 4, 5, 6] rfl)
                have zl_102 : (0 : Int32).toInt = (0 : Int) := rfl
                exact loop96 (((6 - ((0 : Int))).toNat) + 1) 0 ar _ _ _ (by omega) (by omega) (fun _ _ => rfl) (fun i hi => ⟨(htr i hi).2.2.1, (htr i hi).2.2.2⟩) hP hS (lv_sub hl [0, 1, 2, 3, 4, 5, 6] rfl)
            · skip
              have q_88 : d.toInt = (iv 0 11).toInt := i_eq2 (rfl : d.toInt = d.toInt) ((congrArg Int32.toInt f_87).trans (rfl : (iv 0 11).toInt = (iv 0 11).toInt)) c_88
              refine lv_aload_n hx hb dX11_tries_90 rfl (lv_at hl 1 rfl) ?_
              refine va_get (D := D) (ci := 11) (v := .int (iv_4 0 13)) (C := RX11) (T := TX11) (N := 30) hx hb hts inX11 hown hK hP 0 (m_at11 (Nat.le_of_ble_eq_true rfl) rfl) rfl 13 (by decide) lk2 (fun _ h9 => h9) rfl dX11_tries_91 ?_
              have f_103 : iv_4 0 13 = iv 0 13 := by rw [eiv_4, u2_o (by omega)]
              refine lv_iconst (v := 1) hx hb dX11_tries_94 (by decide) ?_
              refine lv_iadd hx hb dX11_tries_95 ?_
              refine lv_topi (fun v_104 ev_104 => ?_)
              refine lv_goto (tgt := 103) hx hb dX11_tries_96 (by decide) ?_
              refine va_put (D := D) (ci := 11) (v := .int v_104) (ty := .int) (C := RX11) (T := TX11) (N := 30) hx hb hts inX11 tyX11 tyX11_ok nmX11 hown hK hP (mD hI) hS 0 (m_at11 (Nat.le_of_ble_eq_true rfl) rfl) rfl 13 (by decide) lk2 (fun _ h9 => h9) rfl (by decide +kernel) rfl rfl (Nat.le_of_ble_eq_true rfl) dX11_tries_103 (fun H locs hP _ hS => ?_)
              have hP : va_P D vwCl (MW cy ad (u2 iv_4 0 13 v_104) ar) H := by rw [← m_pt11_13 (Nat.le_of_ble_eq_true rfl) rfl]; exact hP
              obtain ⟨iv_105, eiv_105⟩ : ∃ z : gIv, z = u2 iv_4 0 13 v_104 := ⟨_, rfl⟩
              rw [← eiv_105] at hP
              refine lv_iload hx hb dX11_tries_106 (lv_at hl 0 rfl) ?_
              refine lv_if_eq (tgt := 157) hx hb dX11_tries_108 (by decide) (fun c_106 => ?_) (fun c_106 => ?_)
              · skip
                have q_106 : (1 : Int) = (0 : Int) := i_eq2 (show (1 : Int32).toInt = (1 : Int) from rfl) (show (0 : Int32).toInt = (0 : Int) from rfl) c_106
                exfalso; omega
              · skip
                have q_106 : (1 : Int) ≠ (0 : Int) := i_ne2 (show (1 : Int32).toInt = (1 : Int) from rfl) (show (0 : Int32).toInt = (0 : Int) from rfl) c_106
                refine lv_aload_n hx hb dX11_tries_111 rfl (lv_at hl 1 rfl) ?_
                refine lv_iload_n hx hb dX11_tries_112 rfl (lv_at hl 4 rfl) ?_
                refine va_put (D := D) (ci := 11) (v := .int d) (ty := .int) (C := RX11) (T := TX11) (N := 30) hx hb hts inX11 tyX11 tyX11_ok nmX11 hown hK hP (mD hI) hS 0 (m_at11 (Nat.le_of_ble_eq_true rfl) rfl) rfl 11 (by decide) lk3 (fun _ h9 => h9) rfl (by decide +kernel) rfl rfl (Nat.le_of_ble_eq_true rfl) dX11_tries_113 (fun H locs hP _ hS => ?_)
                have hP : va_P D vwCl (MW cy ad (u2 iv_105 0 11 d) ar) H := by rw [← m_pt11_11 (Nat.le_of_ble_eq_true rfl) rfl]; exact hP
                obtain ⟨iv_107, eiv_107⟩ : ∃ z : gIv, z = u2 iv_105 0 11 d := ⟨_, rfl⟩
                rw [← eiv_107] at hP
                refine lv_aload_n hx hb dX11_tries_116 rfl (lv_at hl 1 rfl) ?_
                refine lv_iload hx hb dX11_tries_117 (lv_at hl 5 rfl) ?_
                refine va_put (D := D) (ci := 11) (v := .int f) (ty := .int) (C := RX11) (T := TX11) (N := 30) hx hb hts inX11 tyX11 tyX11_ok nmX11 hown hK hP (mD hI) hS 0 (m_at11 (Nat.le_of_ble_eq_true rfl) rfl) rfl 12 (by decide) lk4 (fun _ h9 => h9) rfl (by decide +kernel) rfl rfl (Nat.le_of_ble_eq_true rfl) dX11_tries_119 (fun H locs hP _ hS => ?_)
                have hP : va_P D vwCl (MW cy ad (u2 iv_107 0 12 f) ar) H := by rw [← m_pt11_12 (Nat.le_of_ble_eq_true rfl) rfl]; exact hP
                obtain ⟨iv_108, eiv_108⟩ : ∃ z : gIv, z = u2 iv_107 0 12 f := ⟨_, rfl⟩
                rw [← eiv_108] at hP
                refine lv_iconst (v := 0) hx hb dX11_tries_122 (by decide) ?_
                refine lv_istore (lv' := [(6, .int 0), (5, .int 1), (0, .ref (ad 0)), (1, .int a), (2, .int b), (3, .int d), (4, .int f)]) hx hb dX11_tries_123 hl (by decide) rfl (fun ls hl => ?_)
                have loop111 : ∀ (n : Nat) (x6_109 : Int32) (ar_110 : gAr) (H : Heap) (locs : List Loc) (ls : Array Slot), ((6 - (x6_109.toInt)).toNat) < n → (0 ≤ (x6_109.toInt) ∧ (x6_109.toInt) ≤ 6) → (∀ c, c ≠ 8 → ar_110 c = ar c) → (∀ i, i < 6 → 0 ≤ (ar_110 8 i).toInt ∧ (ar_110 8 i).toInt ≤ 5) → va_P D vwCl (MW cy ad iv_108 ar_110) H → va_S (mA ad s.heap.size) s.heap H locs → lv_has ls 7 [(6, .int x6_109), (5, .int 1), (0, .ref (ad 0)), (1, .int a), (2, .int b), (3, .int d), (4, .int f)] → W p l e (headSpec wsX11_tries (({ frames := 0, cells := 0, slots := 0, locals := 0 } : Room))).room s m (([.ref (ad 0), .int a, .int b, .int d, .int f] : List Value).toArray) below meth c H locs 0 0 Q (F0 m 125 ls []) := by
                  intro n
                  induction n with
                  | zero => intro x6_109 ar_110 H locs ls hm; omega
                  | succ n ih111 =>
                    intro x6_109 ar_110 H locs ls hm hg0 hga hgt hP hS hl
                    refine lv_iload hx hb dX11_tries_125 (lv_at hl 0 rfl) ?_
                    refine lv_aload_n hx hb dX11_tries_127 rfl (lv_at hl 2 rfl) ?_
                    refine va_get (D := D) (ci := 11) (v := .ref (ad 1)) (C := RX11) (T := TX11) (N := 30) hx hb hts inX11 hown hK hP 0 (m_at11 (Nat.le_of_ble_eq_true rfl) rfl) rfl 0 (by decide) lk0 (fun _ h9 => h9) rfl dX11_tries_128 ?_
                    refine lv_bipush (v := 111) hx hb dX11_tries_131 (by decide) ?_
                    refine va_iald hx hb hK hP 1 0 (m_at12 (Nat.le_of_ble_eq_true rfl) rfl) rfl (g_in (N := 126) (show (111 : Int32).toInt = (111 : Int) from rfl) rfl (by omega) (by omega)) dX11_tries_133 ?_
                    refine lv_topi (fun v_112 ev_112 => ?_)
                    have hv1 : v_112.toInt = (ar 1 111).toInt := by rw [ev_112, hga 1 (by omega)]; rfl
                    refine lv_icmp_ge (tgt := 157) hx hb dX11_tries_134 (by decide) (fun c_113 => ?_) (fun c_113 => ?_)
                    · skip
                      have q_113 : v_112.toInt ≤ x6_109.toInt := i_le2 (rfl : v_112.toInt = v_112.toInt) (rfl : x6_109.toInt = x6_109.toInt) c_113
                      have ht9 : TR ar_110 := fun i hi => ⟨by rw [hga 7 (by omega)]; exact (htr i hi).1, by rw [hga 7 (by omega)]; exact (htr i hi).2.1, (hgt i hi).1, (hgt i hi).2⟩
                      rw [hQ]
                      exact W.vret hx hb hr (fun t ht hW => ⟨⟨(iv_108, ar_110), rfl, ⟨fun a b h => by show iv_108 a b = iv a b; rw [eiv_108, u2_o (by omega)]; rw [eiv_107, u2_o (by omega)]; rw [eiv_105, u2_o (by omega)]; rw [eiv_4, u2_o (by omega)], fun c h5 h6 h7 h8 => hga c h8, hka.fr (hga 1 (by omega)) (hga 5 (by omega)) (hga 6 (by omega)), ht9⟩, by show va_P _ _ _ _; rw [ht]; exact hP⟩, hS.F ht⟩) hS.2.2 dX11_tries_157
                    · skip
                      have q_113 : x6_109.toInt < v_112.toInt := i_nle2 (rfl : v_112.toInt = v_112.toInt) (rfl : x6_109.toInt = x6_109.toInt) c_113
                      refine lv_aload_n hx hb dX11_tries_137 rfl (lv_at hl 2 rfl) ?_
                      refine va_get (D := D) (ci := 11) (v := .ref (ad 8)) (C := RX11) (T := TX11) (N := 30) hx hb hts inX11 hown hK hP 0 (m_at11 (Nat.le_of_ble_eq_true rfl) rfl) rfl 10 (by decide) lk5 (fun _ h9 => h9) rfl dX11_tries_138 ?_
                      refine lv_iload hx hb dX11_tries_141 (lv_at hl 0 rfl) ?_
                      refine lv_aload_n hx hb dX11_tries_143 rfl (lv_at hl 2 rfl) ?_
                      refine va_get (D := D) (ci := 11) (v := .ref (ad 7)) (C := RX11) (T := TX11) (N := 30) hx hb hts inX11 hown hK hP 0 (m_at11 (Nat.le_of_ble_eq_true rfl) rfl) rfl 9 (by decide) lk6 (fun _ h9 => h9) rfl dX11_tries_144 ?_
                      refine lv_iload hx hb dX11_tries_147 (lv_at hl 0 rfl) ?_
                      refine va_iald hx hb hK hP 7 0 (m_at12 (Nat.le_of_ble_eq_true rfl) rfl) rfl (g_in (N := 6) (rfl : x6_109.toInt = x6_109.toInt) rfl (by omega) (by omega)) dX11_tries_149 ?_
                      refine lv_topi (fun v_114 ev_114 => ?_)
                      have hv2 : 0 ≤ v_114.toInt ∧ v_114.toInt ≤ 5 := by
                        rw [ev_114, g_cN (rfl : x6_109.toInt = _), hga 7 (by omega)]
                        exact ⟨(htr (x6_109.toInt).toNat (by omega)).1, (htr (x6_109.toInt).toNat (by omega)).2.1⟩
                      refine va_iast hx hb hK hP (mD hI) hS 8 0 (m_at12 (Nat.le_of_ble_eq_true rfl) rfl) rfl (g_in (N := 6) (rfl : x6_109.toInt = x6_109.toInt) rfl (by omega) (by omega)) dX11_tries_150 (fun H locs hP _ hS => ?_)
                      rw [m_pt12 (Nat.le_of_ble_eq_true rfl) rfl] at hP
                      obtain ⟨ar_115, ear_115⟩ : ∃ z : gAr, z = va_up ar_110 8 (upd (ar_110 8) x6_109.toNatClampNeg v_114) := ⟨_, rfl⟩
                      rw [← ear_115] at hP
                      have hga2 : ∀ c, c ≠ 8 → ar_115 c = ar c := fun c h => by rw [ear_115, ua_o h]; exact hga c h
                      have hgt2 : ∀ i, i < 6 → 0 ≤ (ar_115 8 i).toInt ∧ (ar_115 8 i).toInt ≤ 5 := fun i hi => by
                        rw [ear_115, ua_s, g_cN (rfl : x6_109.toInt = _)]
                        by_cases e : i = (x6_109.toInt).toNat
                        · rw [e, pk_us]; exact hv2
                        · rw [pk_un e]; exact hgt i hi
                      obtain ⟨x6_116, ex6_116⟩ : ∃ y : Int32, y = x6_109 + 1 := ⟨_, rfl⟩
                      have tx6_116 : x6_116.toInt = x6_109.toInt + (1 : Int) := i_add (rfl : x6_109.toInt = x6_109.toInt) (show (1 : Int32).toInt = (1 : Int) from rfl) (by omega) (by omega) ex6_116
                      refine lv_iinc (v := x6_116) (lv' := [(6, .int x6_116), (5, .int 1), (0, .ref (ad 0)), (1, .int a), (2, .int b), (3, .int d), (4, .int f)]) hx hb dX11_tries_151 hl (k := 0) rfl (by rw [ex6_116]; rfl) (by decide) rfl (fun ls hl => ?_)
                      refine lv_goto (tgt := 125) hx hb dX11_tries_154 (by decide) ?_
                      exact ih111 x6_116 ar_115 _ _ _ (by omega) (by omega) hga2 hgt2 hP hS (lv_sub hl [0, 1, 2, 3, 4, 5, 6] rfl)
                have zl_117 : (0 : Int32).toInt = (0 : Int) := rfl
                exact loop111 (((6 - ((0 : Int))).toNat) + 1) 0 ar _ _ _ (by omega) (by omega) (fun _ _ => rfl) (fun i hi => ⟨(htr i hi).2.2.1, (htr i hi).2.2.2⟩) hP hS (lv_sub hl [0, 1, 2, 3, 4, 5, 6] rfl)
          · skip
            have q_86 : d.toInt < (iv 0 11).toInt := i_nle2 ((congrArg Int32.toInt f_85).trans (rfl : (iv 0 11).toInt = (iv 0 11).toInt)) (rfl : d.toInt = d.toInt) c_86
            refine lv_iconst (v := 1) hx hb dX11_tries_78 (by decide) ?_
            refine lv_goto (tgt := 103) hx hb dX11_tries_79 (by decide) ?_
            refine va_put (D := D) (ci := 11) (v := .int 1) (ty := .int) (C := RX11) (T := TX11) (N := 30) hx hb hts inX11 tyX11 tyX11_ok nmX11 hown hK hP (mD hI) hS 0 (m_at11 (Nat.le_of_ble_eq_true rfl) rfl) rfl 13 (by decide) lk2 (fun _ h9 => h9) rfl (by decide +kernel) rfl rfl (Nat.le_of_ble_eq_true rfl) dX11_tries_103 (fun H locs hP _ hS => ?_)
            have hP : va_P D vwCl (MW cy ad (u2 iv_4 0 13 1) ar) H := by rw [← m_pt11_13 (Nat.le_of_ble_eq_true rfl) rfl]; exact hP
            obtain ⟨iv_118, eiv_118⟩ : ∃ z : gIv, z = u2 iv_4 0 13 1 := ⟨_, rfl⟩
            rw [← eiv_118] at hP
            refine lv_iload hx hb dX11_tries_106 (lv_at hl 0 rfl) ?_
            refine lv_if_eq (tgt := 157) hx hb dX11_tries_108 (by decide) (fun c_119 => ?_) (fun c_119 => ?_)
            · skip
              have q_119 : (1 : Int) = (0 : Int) := i_eq2 (show (1 : Int32).toInt = (1 : Int) from rfl) (show (0 : Int32).toInt = (0 : Int) from rfl) c_119
              exfalso; omega
            · skip
              have q_119 : (1 : Int) ≠ (0 : Int) := i_ne2 (show (1 : Int32).toInt = (1 : Int) from rfl) (show (0 : Int32).toInt = (0 : Int) from rfl) c_119
              refine lv_aload_n hx hb dX11_tries_111 rfl (lv_at hl 1 rfl) ?_
              refine lv_iload_n hx hb dX11_tries_112 rfl (lv_at hl 4 rfl) ?_
              refine va_put (D := D) (ci := 11) (v := .int d) (ty := .int) (C := RX11) (T := TX11) (N := 30) hx hb hts inX11 tyX11 tyX11_ok nmX11 hown hK hP (mD hI) hS 0 (m_at11 (Nat.le_of_ble_eq_true rfl) rfl) rfl 11 (by decide) lk3 (fun _ h9 => h9) rfl (by decide +kernel) rfl rfl (Nat.le_of_ble_eq_true rfl) dX11_tries_113 (fun H locs hP _ hS => ?_)
              have hP : va_P D vwCl (MW cy ad (u2 iv_118 0 11 d) ar) H := by rw [← m_pt11_11 (Nat.le_of_ble_eq_true rfl) rfl]; exact hP
              obtain ⟨iv_120, eiv_120⟩ : ∃ z : gIv, z = u2 iv_118 0 11 d := ⟨_, rfl⟩
              rw [← eiv_120] at hP
              refine lv_aload_n hx hb dX11_tries_116 rfl (lv_at hl 1 rfl) ?_
              refine lv_iload hx hb dX11_tries_117 (lv_at hl 5 rfl) ?_
              refine va_put (D := D) (ci := 11) (v := .int f) (ty := .int) (C := RX11) (T := TX11) (N := 30) hx hb hts inX11 tyX11 tyX11_ok nmX11 hown hK hP (mD hI) hS 0 (m_at11 (Nat.le_of_ble_eq_true rfl) rfl) rfl 12 (by decide) lk4 (fun _ h9 => h9) rfl (by decide +kernel) rfl rfl (Nat.le_of_ble_eq_true rfl) dX11_tries_119 (fun H locs hP _ hS => ?_)
              have hP : va_P D vwCl (MW cy ad (u2 iv_120 0 12 f) ar) H := by rw [← m_pt11_12 (Nat.le_of_ble_eq_true rfl) rfl]; exact hP
              obtain ⟨iv_121, eiv_121⟩ : ∃ z : gIv, z = u2 iv_120 0 12 f := ⟨_, rfl⟩
              rw [← eiv_121] at hP
              refine lv_iconst (v := 0) hx hb dX11_tries_122 (by decide) ?_
              refine lv_istore (lv' := [(6, .int 0), (5, .int 1), (0, .ref (ad 0)), (1, .int a), (2, .int b), (3, .int d), (4, .int f)]) hx hb dX11_tries_123 hl (by decide) rfl (fun ls hl => ?_)
              have loop124 : ∀ (n : Nat) (x6_122 : Int32) (ar_123 : gAr) (H : Heap) (locs : List Loc) (ls : Array Slot), ((6 - (x6_122.toInt)).toNat) < n → (0 ≤ (x6_122.toInt) ∧ (x6_122.toInt) ≤ 6) → (∀ c, c ≠ 8 → ar_123 c = ar c) → (∀ i, i < 6 → 0 ≤ (ar_123 8 i).toInt ∧ (ar_123 8 i).toInt ≤ 5) → va_P D vwCl (MW cy ad iv_121 ar_123) H → va_S (mA ad s.heap.size) s.heap H locs → lv_has ls 7 [(6, .int x6_122), (5, .int 1), (0, .ref (ad 0)), (1, .int a), (2, .int b), (3, .int d), (4, .int f)] → W p l e (headSpec wsX11_tries (({ frames := 0, cells := 0, slots := 0, locals := 0 } : Room))).room s m (([.ref (ad 0), .int a, .int b, .int d, .int f] : List Value).toArray) below meth c H locs 0 0 Q (F0 m 125 ls []) := by
                intro n
                induction n with
                | zero => intro x6_122 ar_123 H locs ls hm; omega
                | succ n ih124 =>
                  intro x6_122 ar_123 H locs ls hm hg0 hga hgt hP hS hl
                  refine lv_iload hx hb dX11_tries_125 (lv_at hl 0 rfl) ?_
                  refine lv_aload_n hx hb dX11_tries_127 rfl (lv_at hl 2 rfl) ?_
                  refine va_get (D := D) (ci := 11) (v := .ref (ad 1)) (C := RX11) (T := TX11) (N := 30) hx hb hts inX11 hown hK hP 0 (m_at11 (Nat.le_of_ble_eq_true rfl) rfl) rfl 0 (by decide) lk0 (fun _ h9 => h9) rfl dX11_tries_128 ?_
                  refine lv_bipush (v := 111) hx hb dX11_tries_131 (by decide) ?_
                  refine va_iald hx hb hK hP 1 0 (m_at12 (Nat.le_of_ble_eq_true rfl) rfl) rfl (g_in (N := 126) (show (111 : Int32).toInt = (111 : Int) from rfl) rfl (by omega) (by omega)) dX11_tries_133 ?_
                  refine lv_topi (fun v_125 ev_125 => ?_)
                  have hv1 : v_125.toInt = (ar 1 111).toInt := by rw [ev_125, hga 1 (by omega)]; rfl
                  refine lv_icmp_ge (tgt := 157) hx hb dX11_tries_134 (by decide) (fun c_126 => ?_) (fun c_126 => ?_)
                  · skip
                    have q_126 : v_125.toInt ≤ x6_122.toInt := i_le2 (rfl : v_125.toInt = v_125.toInt) (rfl : x6_122.toInt = x6_122.toInt) c_126
                    have ht9 : TR ar_123 := fun i hi => ⟨by rw [hga 7 (by omega)]; exact (htr i hi).1, by rw [hga 7 (by omega)]; exact (htr i hi).2.1, (hgt i hi).1, (hgt i hi).2⟩
                    rw [hQ]
                    exact W.vret hx hb hr (fun t ht hW => ⟨⟨(iv_121, ar_123), rfl, ⟨fun a b h => by show iv_121 a b = iv a b; rw [eiv_121, u2_o (by omega)]; rw [eiv_120, u2_o (by omega)]; rw [eiv_118, u2_o (by omega)]; rw [eiv_4, u2_o (by omega)], fun c h5 h6 h7 h8 => hga c h8, hka.fr (hga 1 (by omega)) (hga 5 (by omega)) (hga 6 (by omega)), ht9⟩, by show va_P _ _ _ _; rw [ht]; exact hP⟩, hS.F ht⟩) hS.2.2 dX11_tries_157
                  · skip
                    have q_126 : x6_122.toInt < v_125.toInt := i_nle2 (rfl : v_125.toInt = v_125.toInt) (rfl : x6_122.toInt = x6_122.toInt) c_126
                    refine lv_aload_n hx hb dX11_tries_137 rfl (lv_at hl 2 rfl) ?_
                    refine va_get (D := D) (ci := 11) (v := .ref (ad 8)) (C := RX11) (T := TX11) (N := 30) hx hb hts inX11 hown hK hP 0 (m_at11 (Nat.le_of_ble_eq_true rfl) rfl) rfl 10 (by decide) lk5 (fun _ h9 => h9) rfl dX11_tries_138 ?_
                    refine lv_iload hx hb dX11_tries_141 (lv_at hl 0 rfl) ?_
                    refine lv_aload_n hx hb dX11_tries_143 rfl (lv_at hl 2 rfl) ?_
                    refine va_get (D := D) (ci := 11) (v := .ref (ad 7)) (C := RX11) (T := TX11) (N := 30) hx hb hts inX11 hown hK hP 0 (m_at11 (Nat.le_of_ble_eq_true rfl) rfl) rfl 9 (by decide) lk6 (fun _ h9 => h9) rfl dX11_tries_144 ?_
                    refine lv_iload hx hb dX11_tries_147 (lv_at hl 0 rfl) ?_
                    refine va_iald hx hb hK hP 7 0 (m_at12 (Nat.le_of_ble_eq_true rfl) rfl) rfl (g_in (N := 6) (rfl : x6_122.toInt = x6_122.toInt) rfl (by omega) (by omega)) dX11_tries_149 ?_
                    refine lv_topi (fun v_127 ev_127 => ?_)
                    have hv2 : 0 ≤ v_127.toInt ∧ v_127.toInt ≤ 5 := by
                      rw [ev_127, g_cN (rfl : x6_122.toInt = _), hga 7 (by omega)]
                      exact ⟨(htr (x6_122.toInt).toNat (by omega)).1, (htr (x6_122.toInt).toNat (by omega)).2.1⟩
                    refine va_iast hx hb hK hP (mD hI) hS 8 0 (m_at12 (Nat.le_of_ble_eq_true rfl) rfl) rfl (g_in (N := 6) (rfl : x6_122.toInt = x6_122.toInt) rfl (by omega) (by omega)) dX11_tries_150 (fun H locs hP _ hS => ?_)
                    rw [m_pt12 (Nat.le_of_ble_eq_true rfl) rfl] at hP
                    obtain ⟨ar_128, ear_128⟩ : ∃ z : gAr, z = va_up ar_123 8 (upd (ar_123 8) x6_122.toNatClampNeg v_127) := ⟨_, rfl⟩
                    rw [← ear_128] at hP
                    have hga2 : ∀ c, c ≠ 8 → ar_128 c = ar c := fun c h => by rw [ear_128, ua_o h]; exact hga c h
                    have hgt2 : ∀ i, i < 6 → 0 ≤ (ar_128 8 i).toInt ∧ (ar_128 8 i).toInt ≤ 5 := fun i hi => by
                      rw [ear_128, ua_s, g_cN (rfl : x6_122.toInt = _)]
                      by_cases e : i = (x6_122.toInt).toNat
                      · rw [e, pk_us]; exact hv2
                      · rw [pk_un e]; exact hgt i hi
                    obtain ⟨x6_129, ex6_129⟩ : ∃ y : Int32, y = x6_122 + 1 := ⟨_, rfl⟩
                    have tx6_129 : x6_129.toInt = x6_122.toInt + (1 : Int) := i_add (rfl : x6_122.toInt = x6_122.toInt) (show (1 : Int32).toInt = (1 : Int) from rfl) (by omega) (by omega) ex6_129
                    refine lv_iinc (v := x6_129) (lv' := [(6, .int x6_129), (5, .int 1), (0, .ref (ad 0)), (1, .int a), (2, .int b), (3, .int d), (4, .int f)]) hx hb dX11_tries_151 hl (k := 0) rfl (by rw [ex6_129]; rfl) (by decide) rfl (fun ls hl => ?_)
                    refine lv_goto (tgt := 125) hx hb dX11_tries_154 (by decide) ?_
                    exact ih124 x6_129 ar_128 _ _ _ (by omega) (by omega) hga2 hgt2 hP hS (lv_sub hl [0, 1, 2, 3, 4, 5, 6] rfl)
              have zl_130 : (0 : Int32).toInt = (0 : Int) := rfl
              exact loop124 (((6 - ((0 : Int))).toNat) + 1) 0 ar _ _ _ (by omega) (by omega) (fun _ _ => rfl) (fun i hi => ⟨(htr i hi).2.2.1, (htr i hi).2.2.2⟩) hP hS (lv_sub hl [0, 1, 2, 3, 4, 5, 6] rfl)
      · skip
        have q_69 : (iv 0 11).toInt ≤ d.toInt := i_nlt2 (rfl : d.toInt = d.toInt) ((congrArg Int32.toInt f_68).trans (rfl : (iv 0 11).toInt = (iv 0 11).toInt)) c_69
        refine lv_iload_n hx hb dX11_tries_37 rfl (lv_at hl 3 rfl) ?_
        refine lv_aload_n hx hb dX11_tries_38 rfl (lv_at hl 0 rfl) ?_
        refine va_get (D := D) (ci := 11) (v := .int (iv_4 0 11)) (C := RX11) (T := TX11) (N := 30) hx hb hts inX11 hown hK hP 0 (m_at11 (Nat.le_of_ble_eq_true rfl) rfl) rfl 11 (by decide) lk3 (fun _ h9 => h9) rfl dX11_tries_39 ?_
        have f_131 : iv_4 0 11 = iv 0 11 := by rw [eiv_4, u2_o (by omega)]
        refine lv_icmp_ne (tgt := 58) hx hb dX11_tries_42 (by decide) (fun c_132 => ?_) (fun c_132 => ?_)
        · skip
          have q_132 : d.toInt ≠ (iv 0 11).toInt := i_ne2 (rfl : d.toInt = d.toInt) ((congrArg Int32.toInt f_131).trans (rfl : (iv 0 11).toInt = (iv 0 11).toInt)) c_132
          refine lv_iconst (v := 0) hx hb dX11_tries_58 (by decide) ?_
          refine lv_istore (lv' := [(5, .int 0), (0, .ref (ad 0)), (1, .int a), (2, .int b), (3, .int d), (4, .int f)]) hx hb dX11_tries_59 hl (by decide) rfl (fun ls hl => ?_)
          refine lv_aload_n hx hb dX11_tries_61 rfl (lv_at hl 1 rfl) ?_
          refine lv_aload_n hx hb dX11_tries_62 rfl (lv_at hl 1 rfl) ?_
          refine va_get (D := D) (ci := 11) (v := .int (iv_4 0 14)) (C := RX11) (T := TX11) (N := 30) hx hb hts inX11 hown hK hP 0 (m_at11 (Nat.le_of_ble_eq_true rfl) rfl) rfl 14 (by decide) lk1 (fun _ h9 => h9) rfl dX11_tries_63 ?_
          have f_133 : iv_4 0 14 = v_3 := by rw [eiv_4]; exact u2_s _ _ _ _
          refine lv_iconst (v := 1) hx hb dX11_tries_66 (by decide) ?_
          refine lv_icmp_eq (tgt := 78) hx hb dX11_tries_67 (by decide) (fun c_134 => ?_) (fun c_134 => ?_)
          · skip
            have q_134 : v_3.toInt = (1 : Int) := i_eq2 ((congrArg Int32.toInt f_133).trans (rfl : v_3.toInt = v_3.toInt)) (show (1 : Int32).toInt = (1 : Int) from rfl) c_134
            refine lv_iconst (v := 1) hx hb dX11_tries_78 (by decide) ?_
            refine lv_goto (tgt := 103) hx hb dX11_tries_79 (by decide) ?_
            refine va_put (D := D) (ci := 11) (v := .int 1) (ty := .int) (C := RX11) (T := TX11) (N := 30) hx hb hts inX11 tyX11 tyX11_ok nmX11 hown hK hP (mD hI) hS 0 (m_at11 (Nat.le_of_ble_eq_true rfl) rfl) rfl 13 (by decide) lk2 (fun _ h9 => h9) rfl (by decide +kernel) rfl rfl (Nat.le_of_ble_eq_true rfl) dX11_tries_103 (fun H locs hP _ hS => ?_)
            have hP : va_P D vwCl (MW cy ad (u2 iv_4 0 13 1) ar) H := by rw [← m_pt11_13 (Nat.le_of_ble_eq_true rfl) rfl]; exact hP
            obtain ⟨iv_135, eiv_135⟩ : ∃ z : gIv, z = u2 iv_4 0 13 1 := ⟨_, rfl⟩
            rw [← eiv_135] at hP
            refine lv_iload hx hb dX11_tries_106 (lv_at hl 0 rfl) ?_
            refine lv_if_eq (tgt := 157) hx hb dX11_tries_108 (by decide) (fun c_136 => ?_) (fun c_136 => ?_)
            · skip
              have q_136 : (0 : Int) = (0 : Int) := i_eq2 (show (0 : Int32).toInt = (0 : Int) from rfl) (show (0 : Int32).toInt = (0 : Int) from rfl) c_136
              rw [hQ]
              exact W.vret hx hb hr (fun t ht hW => ⟨⟨(iv_135, ar), rfl, ⟨fun a b h => by show iv_135 a b = iv a b; rw [eiv_135, u2_o (by omega)]; rw [eiv_4, u2_o (by omega)], fun _ _ _ _ _ => rfl, hka, htr⟩, by show va_P _ _ _ _; rw [ht]; exact hP⟩, hS.F ht⟩) hS.2.2 dX11_tries_157
            · skip
              have q_136 : (0 : Int) ≠ (0 : Int) := i_ne2 (show (0 : Int32).toInt = (0 : Int) from rfl) (show (0 : Int32).toInt = (0 : Int) from rfl) c_136
              exfalso; omega
          · skip
            have q_134 : v_3.toInt ≠ (1 : Int) := i_ne2 ((congrArg Int32.toInt f_133).trans (rfl : v_3.toInt = v_3.toInt)) (show (1 : Int32).toInt = (1 : Int) from rfl) c_134
            refine lv_iload_n hx hb dX11_tries_70 rfl (lv_at hl 4 rfl) ?_
            refine lv_aload_n hx hb dX11_tries_71 rfl (lv_at hl 1 rfl) ?_
            refine va_get (D := D) (ci := 11) (v := .int (iv_4 0 11)) (C := RX11) (T := TX11) (N := 30) hx hb hts inX11 hown hK hP 0 (m_at11 (Nat.le_of_ble_eq_true rfl) rfl) rfl 11 (by decide) lk3 (fun _ h9 => h9) rfl dX11_tries_72 ?_
            have f_137 : iv_4 0 11 = iv 0 11 := by rw [eiv_4, u2_o (by omega)]
            refine lv_icmp_ge (tgt := 82) hx hb dX11_tries_75 (by decide) (fun c_138 => ?_) (fun c_138 => ?_)
            · skip
              have q_138 : (iv 0 11).toInt ≤ d.toInt := i_le2 ((congrArg Int32.toInt f_137).trans (rfl : (iv 0 11).toInt = (iv 0 11).toInt)) (rfl : d.toInt = d.toInt) c_138
              refine lv_iload_n hx hb dX11_tries_82 rfl (lv_at hl 4 rfl) ?_
              refine lv_aload_n hx hb dX11_tries_83 rfl (lv_at hl 1 rfl) ?_
              refine va_get (D := D) (ci := 11) (v := .int (iv_4 0 11)) (C := RX11) (T := TX11) (N := 30) hx hb hts inX11 hown hK hP 0 (m_at11 (Nat.le_of_ble_eq_true rfl) rfl) rfl 11 (by decide) lk3 (fun _ h9 => h9) rfl dX11_tries_84 ?_
              have f_139 : iv_4 0 11 = iv 0 11 := by rw [eiv_4, u2_o (by omega)]
              refine lv_icmp_ne (tgt := 99) hx hb dX11_tries_87 (by decide) (fun c_140 => ?_) (fun c_140 => ?_)
              · skip
                have q_140 : d.toInt ≠ (iv 0 11).toInt := i_ne2 (rfl : d.toInt = d.toInt) ((congrArg Int32.toInt f_139).trans (rfl : (iv 0 11).toInt = (iv 0 11).toInt)) c_140
                refine lv_aload_n hx hb dX11_tries_99 rfl (lv_at hl 1 rfl) ?_
                refine va_get (D := D) (ci := 11) (v := .int (iv_4 0 13)) (C := RX11) (T := TX11) (N := 30) hx hb hts inX11 hown hK hP 0 (m_at11 (Nat.le_of_ble_eq_true rfl) rfl) rfl 13 (by decide) lk2 (fun _ h9 => h9) rfl dX11_tries_100 ?_
                have f_141 : iv_4 0 13 = iv 0 13 := by rw [eiv_4, u2_o (by omega)]
                refine va_put (D := D) (ci := 11) (v := .int (iv_4 0 13)) (ty := .int) (C := RX11) (T := TX11) (N := 30) hx hb hts inX11 tyX11 tyX11_ok nmX11 hown hK hP (mD hI) hS 0 (m_at11 (Nat.le_of_ble_eq_true rfl) rfl) rfl 13 (by decide) lk2 (fun _ h9 => h9) rfl (by decide +kernel) rfl rfl (Nat.le_of_ble_eq_true rfl) dX11_tries_103 (fun H locs hP _ hS => ?_)
                have hP : va_P D vwCl (MW cy ad (u2 iv_4 0 13 (iv_4 0 13)) ar) H := by rw [← m_pt11_13 (Nat.le_of_ble_eq_true rfl) rfl]; exact hP
                obtain ⟨iv_142, eiv_142⟩ : ∃ z : gIv, z = u2 iv_4 0 13 (iv_4 0 13) := ⟨_, rfl⟩
                rw [← eiv_142] at hP
                refine lv_iload hx hb dX11_tries_106 (lv_at hl 0 rfl) ?_
                refine lv_if_eq (tgt := 157) hx hb dX11_tries_108 (by decide) (fun c_143 => ?_) (fun c_143 => ?_)
                · skip
                  have q_143 : (0 : Int) = (0 : Int) := i_eq2 (show (0 : Int32).toInt = (0 : Int) from rfl) (show (0 : Int32).toInt = (0 : Int) from rfl) c_143
                  rw [hQ]
                  exact W.vret hx hb hr (fun t ht hW => ⟨⟨(iv_142, ar), rfl, ⟨fun a b h => by show iv_142 a b = iv a b; rw [eiv_142, u2_o (by omega)]; rw [eiv_4, u2_o (by omega)], fun _ _ _ _ _ => rfl, hka, htr⟩, by show va_P _ _ _ _; rw [ht]; exact hP⟩, hS.F ht⟩) hS.2.2 dX11_tries_157
                · skip
                  have q_143 : (0 : Int) ≠ (0 : Int) := i_ne2 (show (0 : Int32).toInt = (0 : Int) from rfl) (show (0 : Int32).toInt = (0 : Int) from rfl) c_143
                  exfalso; omega
              · skip
                have q_140 : d.toInt = (iv 0 11).toInt := i_eq2 (rfl : d.toInt = d.toInt) ((congrArg Int32.toInt f_139).trans (rfl : (iv 0 11).toInt = (iv 0 11).toInt)) c_140
                refine lv_aload_n hx hb dX11_tries_90 rfl (lv_at hl 1 rfl) ?_
                refine va_get (D := D) (ci := 11) (v := .int (iv_4 0 13)) (C := RX11) (T := TX11) (N := 30) hx hb hts inX11 hown hK hP 0 (m_at11 (Nat.le_of_ble_eq_true rfl) rfl) rfl 13 (by decide) lk2 (fun _ h9 => h9) rfl dX11_tries_91 ?_
                have f_144 : iv_4 0 13 = iv 0 13 := by rw [eiv_4, u2_o (by omega)]
                refine lv_iconst (v := 1) hx hb dX11_tries_94 (by decide) ?_
                refine lv_iadd hx hb dX11_tries_95 ?_
                refine lv_topi (fun v_145 ev_145 => ?_)
                refine lv_goto (tgt := 103) hx hb dX11_tries_96 (by decide) ?_
                refine va_put (D := D) (ci := 11) (v := .int v_145) (ty := .int) (C := RX11) (T := TX11) (N := 30) hx hb hts inX11 tyX11 tyX11_ok nmX11 hown hK hP (mD hI) hS 0 (m_at11 (Nat.le_of_ble_eq_true rfl) rfl) rfl 13 (by decide) lk2 (fun _ h9 => h9) rfl (by decide +kernel) rfl rfl (Nat.le_of_ble_eq_true rfl) dX11_tries_103 (fun H locs hP _ hS => ?_)
                have hP : va_P D vwCl (MW cy ad (u2 iv_4 0 13 v_145) ar) H := by rw [← m_pt11_13 (Nat.le_of_ble_eq_true rfl) rfl]; exact hP
                obtain ⟨iv_146, eiv_146⟩ : ∃ z : gIv, z = u2 iv_4 0 13 v_145 := ⟨_, rfl⟩
                rw [← eiv_146] at hP
                refine lv_iload hx hb dX11_tries_106 (lv_at hl 0 rfl) ?_
                refine lv_if_eq (tgt := 157) hx hb dX11_tries_108 (by decide) (fun c_147 => ?_) (fun c_147 => ?_)
                · skip
                  have q_147 : (0 : Int) = (0 : Int) := i_eq2 (show (0 : Int32).toInt = (0 : Int) from rfl) (show (0 : Int32).toInt = (0 : Int) from rfl) c_147
                  rw [hQ]
                  exact W.vret hx hb hr (fun t ht hW => ⟨⟨(iv_146, ar), rfl, ⟨fun a b h => by show iv_146 a b = iv a b; rw [eiv_146, u2_o (by omega)]; rw [eiv_4, u2_o (by omega)], fun _ _ _ _ _ => rfl, hka, htr⟩, by show va_P _ _ _ _; rw [ht]; exact hP⟩, hS.F ht⟩) hS.2.2 dX11_tries_157
                · skip
                  have q_147 : (0 : Int) ≠ (0 : Int) := i_ne2 (show (0 : Int32).toInt = (0 : Int) from rfl) (show (0 : Int32).toInt = (0 : Int) from rfl) c_147
                  exfalso; omega
            · skip
              have q_138 : d.toInt < (iv 0 11).toInt := i_nle2 ((congrArg Int32.toInt f_137).trans (rfl : (iv 0 11).toInt = (iv 0 11).toInt)) (rfl : d.toInt = d.toInt) c_138
              refine lv_iconst (v := 1) hx hb dX11_tries_78 (by decide) ?_
              refine lv_goto (tgt := 103) hx hb dX11_tries_79 (by decide) ?_
              refine va_put (D := D) (ci := 11) (v := .int 1) (ty := .int) (C := RX11) (T := TX11) (N := 30) hx hb hts inX11 tyX11 tyX11_ok nmX11 hown hK hP (mD hI) hS 0 (m_at11 (Nat.le_of_ble_eq_true rfl) rfl) rfl 13 (by decide) lk2 (fun _ h9 => h9) rfl (by decide +kernel) rfl rfl (Nat.le_of_ble_eq_true rfl) dX11_tries_103 (fun H locs hP _ hS => ?_)
              have hP : va_P D vwCl (MW cy ad (u2 iv_4 0 13 1) ar) H := by rw [← m_pt11_13 (Nat.le_of_ble_eq_true rfl) rfl]; exact hP
              obtain ⟨iv_148, eiv_148⟩ : ∃ z : gIv, z = u2 iv_4 0 13 1 := ⟨_, rfl⟩
              rw [← eiv_148] at hP
              refine lv_iload hx hb dX11_tries_106 (lv_at hl 0 rfl) ?_
              refine lv_if_eq (tgt := 157) hx hb dX11_tries_108 (by decide) (fun c_149 => ?_) (fun c_149 => ?_)
              · skip
                have q_149 : (0 : Int) = (0 : Int) := i_eq2 (show (0 : Int32).toInt = (0 : Int) from rfl) (show (0 : Int32).toInt = (0 : Int) from rfl) c_149
                rw [hQ]
                exact W.vret hx hb hr (fun t ht hW => ⟨⟨(iv_148, ar), rfl, ⟨fun a b h => by show iv_148 a b = iv a b; rw [eiv_148, u2_o (by omega)]; rw [eiv_4, u2_o (by omega)], fun _ _ _ _ _ => rfl, hka, htr⟩, by show va_P _ _ _ _; rw [ht]; exact hP⟩, hS.F ht⟩) hS.2.2 dX11_tries_157
              · skip
                have q_149 : (0 : Int) ≠ (0 : Int) := i_ne2 (show (0 : Int32).toInt = (0 : Int) from rfl) (show (0 : Int32).toInt = (0 : Int) from rfl) c_149
                exfalso; omega
        · skip
          have q_132 : d.toInt = (iv 0 11).toInt := i_eq2 (rfl : d.toInt = d.toInt) ((congrArg Int32.toInt f_131).trans (rfl : (iv 0 11).toInt = (iv 0 11).toInt)) c_132
          refine lv_iload hx hb dX11_tries_45 (lv_at hl 4 rfl) ?_
          refine lv_aload_n hx hb dX11_tries_47 rfl (lv_at hl 0 rfl) ?_
          refine va_get (D := D) (ci := 11) (v := .int (iv_4 0 12)) (C := RX11) (T := TX11) (N := 30) hx hb hts inX11 hown hK hP 0 (m_at11 (Nat.le_of_ble_eq_true rfl) rfl) rfl 12 (by decide) lk4 (fun _ h9 => h9) rfl dX11_tries_48 ?_
          have f_150 : iv_4 0 12 = iv 0 12 := by rw [eiv_4, u2_o (by omega)]
          refine lv_icmp_ge (tgt := 58) hx hb dX11_tries_51 (by decide) (fun c_151 => ?_) (fun c_151 => ?_)
          · skip
            have q_151 : (iv 0 12).toInt ≤ f.toInt := i_le2 ((congrArg Int32.toInt f_150).trans (rfl : (iv 0 12).toInt = (iv 0 12).toInt)) (rfl : f.toInt = f.toInt) c_151
            refine lv_iconst (v := 0) hx hb dX11_tries_58 (by decide) ?_
            refine lv_istore (lv' := [(5, .int 0), (0, .ref (ad 0)), (1, .int a), (2, .int b), (3, .int d), (4, .int f)]) hx hb dX11_tries_59 hl (by decide) rfl (fun ls hl => ?_)
            refine lv_aload_n hx hb dX11_tries_61 rfl (lv_at hl 1 rfl) ?_
            refine lv_aload_n hx hb dX11_tries_62 rfl (lv_at hl 1 rfl) ?_
            refine va_get (D := D) (ci := 11) (v := .int (iv_4 0 14)) (C := RX11) (T := TX11) (N := 30) hx hb hts inX11 hown hK hP 0 (m_at11 (Nat.le_of_ble_eq_true rfl) rfl) rfl 14 (by decide) lk1 (fun _ h9 => h9) rfl dX11_tries_63 ?_
            have f_152 : iv_4 0 14 = v_3 := by rw [eiv_4]; exact u2_s _ _ _ _
            refine lv_iconst (v := 1) hx hb dX11_tries_66 (by decide) ?_
            refine lv_icmp_eq (tgt := 78) hx hb dX11_tries_67 (by decide) (fun c_153 => ?_) (fun c_153 => ?_)
            · skip
              have q_153 : v_3.toInt = (1 : Int) := i_eq2 ((congrArg Int32.toInt f_152).trans (rfl : v_3.toInt = v_3.toInt)) (show (1 : Int32).toInt = (1 : Int) from rfl) c_153
              refine lv_iconst (v := 1) hx hb dX11_tries_78 (by decide) ?_
              refine lv_goto (tgt := 103) hx hb dX11_tries_79 (by decide) ?_
              refine va_put (D := D) (ci := 11) (v := .int 1) (ty := .int) (C := RX11) (T := TX11) (N := 30) hx hb hts inX11 tyX11 tyX11_ok nmX11 hown hK hP (mD hI) hS 0 (m_at11 (Nat.le_of_ble_eq_true rfl) rfl) rfl 13 (by decide) lk2 (fun _ h9 => h9) rfl (by decide +kernel) rfl rfl (Nat.le_of_ble_eq_true rfl) dX11_tries_103 (fun H locs hP _ hS => ?_)
              have hP : va_P D vwCl (MW cy ad (u2 iv_4 0 13 1) ar) H := by rw [← m_pt11_13 (Nat.le_of_ble_eq_true rfl) rfl]; exact hP
              obtain ⟨iv_154, eiv_154⟩ : ∃ z : gIv, z = u2 iv_4 0 13 1 := ⟨_, rfl⟩
              rw [← eiv_154] at hP
              refine lv_iload hx hb dX11_tries_106 (lv_at hl 0 rfl) ?_
              refine lv_if_eq (tgt := 157) hx hb dX11_tries_108 (by decide) (fun c_155 => ?_) (fun c_155 => ?_)
              · skip
                have q_155 : (0 : Int) = (0 : Int) := i_eq2 (show (0 : Int32).toInt = (0 : Int) from rfl) (show (0 : Int32).toInt = (0 : Int) from rfl) c_155
                rw [hQ]
                exact W.vret hx hb hr (fun t ht hW => ⟨⟨(iv_154, ar), rfl, ⟨fun a b h => by show iv_154 a b = iv a b; rw [eiv_154, u2_o (by omega)]; rw [eiv_4, u2_o (by omega)], fun _ _ _ _ _ => rfl, hka, htr⟩, by show va_P _ _ _ _; rw [ht]; exact hP⟩, hS.F ht⟩) hS.2.2 dX11_tries_157
              · skip
                have q_155 : (0 : Int) ≠ (0 : Int) := i_ne2 (show (0 : Int32).toInt = (0 : Int) from rfl) (show (0 : Int32).toInt = (0 : Int) from rfl) c_155
                exfalso; omega
            · skip
              have q_153 : v_3.toInt ≠ (1 : Int) := i_ne2 ((congrArg Int32.toInt f_152).trans (rfl : v_3.toInt = v_3.toInt)) (show (1 : Int32).toInt = (1 : Int) from rfl) c_153
              refine lv_iload_n hx hb dX11_tries_70 rfl (lv_at hl 4 rfl) ?_
              refine lv_aload_n hx hb dX11_tries_71 rfl (lv_at hl 1 rfl) ?_
              refine va_get (D := D) (ci := 11) (v := .int (iv_4 0 11)) (C := RX11) (T := TX11) (N := 30) hx hb hts inX11 hown hK hP 0 (m_at11 (Nat.le_of_ble_eq_true rfl) rfl) rfl 11 (by decide) lk3 (fun _ h9 => h9) rfl dX11_tries_72 ?_
              have f_156 : iv_4 0 11 = iv 0 11 := by rw [eiv_4, u2_o (by omega)]
              refine lv_icmp_ge (tgt := 82) hx hb dX11_tries_75 (by decide) (fun c_157 => ?_) (fun c_157 => ?_)
              · skip
                have q_157 : (iv 0 11).toInt ≤ d.toInt := i_le2 ((congrArg Int32.toInt f_156).trans (rfl : (iv 0 11).toInt = (iv 0 11).toInt)) (rfl : d.toInt = d.toInt) c_157
                refine lv_iload_n hx hb dX11_tries_82 rfl (lv_at hl 4 rfl) ?_
                refine lv_aload_n hx hb dX11_tries_83 rfl (lv_at hl 1 rfl) ?_
                refine va_get (D := D) (ci := 11) (v := .int (iv_4 0 11)) (C := RX11) (T := TX11) (N := 30) hx hb hts inX11 hown hK hP 0 (m_at11 (Nat.le_of_ble_eq_true rfl) rfl) rfl 11 (by decide) lk3 (fun _ h9 => h9) rfl dX11_tries_84 ?_
                have f_158 : iv_4 0 11 = iv 0 11 := by rw [eiv_4, u2_o (by omega)]
                refine lv_icmp_ne (tgt := 99) hx hb dX11_tries_87 (by decide) (fun c_159 => ?_) (fun c_159 => ?_)
                · skip
                  have q_159 : d.toInt ≠ (iv 0 11).toInt := i_ne2 (rfl : d.toInt = d.toInt) ((congrArg Int32.toInt f_158).trans (rfl : (iv 0 11).toInt = (iv 0 11).toInt)) c_159
                  refine lv_aload_n hx hb dX11_tries_99 rfl (lv_at hl 1 rfl) ?_
                  refine va_get (D := D) (ci := 11) (v := .int (iv_4 0 13)) (C := RX11) (T := TX11) (N := 30) hx hb hts inX11 hown hK hP 0 (m_at11 (Nat.le_of_ble_eq_true rfl) rfl) rfl 13 (by decide) lk2 (fun _ h9 => h9) rfl dX11_tries_100 ?_
                  have f_160 : iv_4 0 13 = iv 0 13 := by rw [eiv_4, u2_o (by omega)]
                  refine va_put (D := D) (ci := 11) (v := .int (iv_4 0 13)) (ty := .int) (C := RX11) (T := TX11) (N := 30) hx hb hts inX11 tyX11 tyX11_ok nmX11 hown hK hP (mD hI) hS 0 (m_at11 (Nat.le_of_ble_eq_true rfl) rfl) rfl 13 (by decide) lk2 (fun _ h9 => h9) rfl (by decide +kernel) rfl rfl (Nat.le_of_ble_eq_true rfl) dX11_tries_103 (fun H locs hP _ hS => ?_)
                  have hP : va_P D vwCl (MW cy ad (u2 iv_4 0 13 (iv_4 0 13)) ar) H := by rw [← m_pt11_13 (Nat.le_of_ble_eq_true rfl) rfl]; exact hP
                  obtain ⟨iv_161, eiv_161⟩ : ∃ z : gIv, z = u2 iv_4 0 13 (iv_4 0 13) := ⟨_, rfl⟩
                  rw [← eiv_161] at hP
                  refine lv_iload hx hb dX11_tries_106 (lv_at hl 0 rfl) ?_
                  refine lv_if_eq (tgt := 157) hx hb dX11_tries_108 (by decide) (fun c_162 => ?_) (fun c_162 => ?_)
                  · skip
                    have q_162 : (0 : Int) = (0 : Int) := i_eq2 (show (0 : Int32).toInt = (0 : Int) from rfl) (show (0 : Int32).toInt = (0 : Int) from rfl) c_162
                    rw [hQ]
                    exact W.vret hx hb hr (fun t ht hW => ⟨⟨(iv_161, ar), rfl, ⟨fun a b h => by show iv_161 a b = iv a b; rw [eiv_161, u2_o (by omega)]; rw [eiv_4, u2_o (by omega)], fun _ _ _ _ _ => rfl, hka, htr⟩, by show va_P _ _ _ _; rw [ht]; exact hP⟩, hS.F ht⟩) hS.2.2 dX11_tries_157
                  · skip
                    have q_162 : (0 : Int) ≠ (0 : Int) := i_ne2 (show (0 : Int32).toInt = (0 : Int) from rfl) (show (0 : Int32).toInt = (0 : Int) from rfl) c_162
                    exfalso; omega
                · skip
                  have q_159 : d.toInt = (iv 0 11).toInt := i_eq2 (rfl : d.toInt = d.toInt) ((congrArg Int32.toInt f_158).trans (rfl : (iv 0 11).toInt = (iv 0 11).toInt)) c_159
                  refine lv_aload_n hx hb dX11_tries_90 rfl (lv_at hl 1 rfl) ?_
                  refine va_get (D := D) (ci := 11) (v := .int (iv_4 0 13)) (C := RX11) (T := TX11) (N := 30) hx hb hts inX11 hown hK hP 0 (m_at11 (Nat.le_of_ble_eq_true rfl) rfl) rfl 13 (by decide) lk2 (fun _ h9 => h9) rfl dX11_tries_91 ?_
                  have f_163 : iv_4 0 13 = iv 0 13 := by rw [eiv_4, u2_o (by omega)]
                  refine lv_iconst (v := 1) hx hb dX11_tries_94 (by decide) ?_
                  refine lv_iadd hx hb dX11_tries_95 ?_
                  refine lv_topi (fun v_164 ev_164 => ?_)
                  refine lv_goto (tgt := 103) hx hb dX11_tries_96 (by decide) ?_
                  refine va_put (D := D) (ci := 11) (v := .int v_164) (ty := .int) (C := RX11) (T := TX11) (N := 30) hx hb hts inX11 tyX11 tyX11_ok nmX11 hown hK hP (mD hI) hS 0 (m_at11 (Nat.le_of_ble_eq_true rfl) rfl) rfl 13 (by decide) lk2 (fun _ h9 => h9) rfl (by decide +kernel) rfl rfl (Nat.le_of_ble_eq_true rfl) dX11_tries_103 (fun H locs hP _ hS => ?_)
                  have hP : va_P D vwCl (MW cy ad (u2 iv_4 0 13 v_164) ar) H := by rw [← m_pt11_13 (Nat.le_of_ble_eq_true rfl) rfl]; exact hP
                  obtain ⟨iv_165, eiv_165⟩ : ∃ z : gIv, z = u2 iv_4 0 13 v_164 := ⟨_, rfl⟩
                  rw [← eiv_165] at hP
                  refine lv_iload hx hb dX11_tries_106 (lv_at hl 0 rfl) ?_
                  refine lv_if_eq (tgt := 157) hx hb dX11_tries_108 (by decide) (fun c_166 => ?_) (fun c_166 => ?_)
                  · skip
                    have q_166 : (0 : Int) = (0 : Int) := i_eq2 (show (0 : Int32).toInt = (0 : Int) from rfl) (show (0 : Int32).toInt = (0 : Int) from rfl) c_166
                    rw [hQ]
                    exact W.vret hx hb hr (fun t ht hW => ⟨⟨(iv_165, ar), rfl, ⟨fun a b h => by show iv_165 a b = iv a b; rw [eiv_165, u2_o (by omega)]; rw [eiv_4, u2_o (by omega)], fun _ _ _ _ _ => rfl, hka, htr⟩, by show va_P _ _ _ _; rw [ht]; exact hP⟩, hS.F ht⟩) hS.2.2 dX11_tries_157
                  · skip
                    have q_166 : (0 : Int) ≠ (0 : Int) := i_ne2 (show (0 : Int32).toInt = (0 : Int) from rfl) (show (0 : Int32).toInt = (0 : Int) from rfl) c_166
                    exfalso; omega
              · skip
                have q_157 : d.toInt < (iv 0 11).toInt := i_nle2 ((congrArg Int32.toInt f_156).trans (rfl : (iv 0 11).toInt = (iv 0 11).toInt)) (rfl : d.toInt = d.toInt) c_157
                refine lv_iconst (v := 1) hx hb dX11_tries_78 (by decide) ?_
                refine lv_goto (tgt := 103) hx hb dX11_tries_79 (by decide) ?_
                refine va_put (D := D) (ci := 11) (v := .int 1) (ty := .int) (C := RX11) (T := TX11) (N := 30) hx hb hts inX11 tyX11 tyX11_ok nmX11 hown hK hP (mD hI) hS 0 (m_at11 (Nat.le_of_ble_eq_true rfl) rfl) rfl 13 (by decide) lk2 (fun _ h9 => h9) rfl (by decide +kernel) rfl rfl (Nat.le_of_ble_eq_true rfl) dX11_tries_103 (fun H locs hP _ hS => ?_)
                have hP : va_P D vwCl (MW cy ad (u2 iv_4 0 13 1) ar) H := by rw [← m_pt11_13 (Nat.le_of_ble_eq_true rfl) rfl]; exact hP
                obtain ⟨iv_167, eiv_167⟩ : ∃ z : gIv, z = u2 iv_4 0 13 1 := ⟨_, rfl⟩
                rw [← eiv_167] at hP
                refine lv_iload hx hb dX11_tries_106 (lv_at hl 0 rfl) ?_
                refine lv_if_eq (tgt := 157) hx hb dX11_tries_108 (by decide) (fun c_168 => ?_) (fun c_168 => ?_)
                · skip
                  have q_168 : (0 : Int) = (0 : Int) := i_eq2 (show (0 : Int32).toInt = (0 : Int) from rfl) (show (0 : Int32).toInt = (0 : Int) from rfl) c_168
                  rw [hQ]
                  exact W.vret hx hb hr (fun t ht hW => ⟨⟨(iv_167, ar), rfl, ⟨fun a b h => by show iv_167 a b = iv a b; rw [eiv_167, u2_o (by omega)]; rw [eiv_4, u2_o (by omega)], fun _ _ _ _ _ => rfl, hka, htr⟩, by show va_P _ _ _ _; rw [ht]; exact hP⟩, hS.F ht⟩) hS.2.2 dX11_tries_157
                · skip
                  have q_168 : (0 : Int) ≠ (0 : Int) := i_ne2 (show (0 : Int32).toInt = (0 : Int) from rfl) (show (0 : Int32).toInt = (0 : Int) from rfl) c_168
                  exfalso; omega
          · skip
            have q_151 : f.toInt < (iv 0 12).toInt := i_nle2 ((congrArg Int32.toInt f_150).trans (rfl : (iv 0 12).toInt = (iv 0 12).toInt)) (rfl : f.toInt = f.toInt) c_151
            refine lv_iconst (v := 1) hx hb dX11_tries_54 (by decide) ?_
            refine lv_goto (tgt := 59) hx hb dX11_tries_55 (by decide) ?_
            refine lv_istore (lv' := [(5, .int 1), (0, .ref (ad 0)), (1, .int a), (2, .int b), (3, .int d), (4, .int f)]) hx hb dX11_tries_59 hl (by decide) rfl (fun ls hl => ?_)
            refine lv_aload_n hx hb dX11_tries_61 rfl (lv_at hl 1 rfl) ?_
            refine lv_aload_n hx hb dX11_tries_62 rfl (lv_at hl 1 rfl) ?_
            refine va_get (D := D) (ci := 11) (v := .int (iv_4 0 14)) (C := RX11) (T := TX11) (N := 30) hx hb hts inX11 hown hK hP 0 (m_at11 (Nat.le_of_ble_eq_true rfl) rfl) rfl 14 (by decide) lk1 (fun _ h9 => h9) rfl dX11_tries_63 ?_
            have f_169 : iv_4 0 14 = v_3 := by rw [eiv_4]; exact u2_s _ _ _ _
            refine lv_iconst (v := 1) hx hb dX11_tries_66 (by decide) ?_
            refine lv_icmp_eq (tgt := 78) hx hb dX11_tries_67 (by decide) (fun c_170 => ?_) (fun c_170 => ?_)
            · skip
              have q_170 : v_3.toInt = (1 : Int) := i_eq2 ((congrArg Int32.toInt f_169).trans (rfl : v_3.toInt = v_3.toInt)) (show (1 : Int32).toInt = (1 : Int) from rfl) c_170
              refine lv_iconst (v := 1) hx hb dX11_tries_78 (by decide) ?_
              refine lv_goto (tgt := 103) hx hb dX11_tries_79 (by decide) ?_
              refine va_put (D := D) (ci := 11) (v := .int 1) (ty := .int) (C := RX11) (T := TX11) (N := 30) hx hb hts inX11 tyX11 tyX11_ok nmX11 hown hK hP (mD hI) hS 0 (m_at11 (Nat.le_of_ble_eq_true rfl) rfl) rfl 13 (by decide) lk2 (fun _ h9 => h9) rfl (by decide +kernel) rfl rfl (Nat.le_of_ble_eq_true rfl) dX11_tries_103 (fun H locs hP _ hS => ?_)
              have hP : va_P D vwCl (MW cy ad (u2 iv_4 0 13 1) ar) H := by rw [← m_pt11_13 (Nat.le_of_ble_eq_true rfl) rfl]; exact hP
              obtain ⟨iv_171, eiv_171⟩ : ∃ z : gIv, z = u2 iv_4 0 13 1 := ⟨_, rfl⟩
              rw [← eiv_171] at hP
              refine lv_iload hx hb dX11_tries_106 (lv_at hl 0 rfl) ?_
              refine lv_if_eq (tgt := 157) hx hb dX11_tries_108 (by decide) (fun c_172 => ?_) (fun c_172 => ?_)
              · skip
                have q_172 : (1 : Int) = (0 : Int) := i_eq2 (show (1 : Int32).toInt = (1 : Int) from rfl) (show (0 : Int32).toInt = (0 : Int) from rfl) c_172
                exfalso; omega
              · skip
                have q_172 : (1 : Int) ≠ (0 : Int) := i_ne2 (show (1 : Int32).toInt = (1 : Int) from rfl) (show (0 : Int32).toInt = (0 : Int) from rfl) c_172
                refine lv_aload_n hx hb dX11_tries_111 rfl (lv_at hl 1 rfl) ?_
                refine lv_iload_n hx hb dX11_tries_112 rfl (lv_at hl 4 rfl) ?_
                refine va_put (D := D) (ci := 11) (v := .int d) (ty := .int) (C := RX11) (T := TX11) (N := 30) hx hb hts inX11 tyX11 tyX11_ok nmX11 hown hK hP (mD hI) hS 0 (m_at11 (Nat.le_of_ble_eq_true rfl) rfl) rfl 11 (by decide) lk3 (fun _ h9 => h9) rfl (by decide +kernel) rfl rfl (Nat.le_of_ble_eq_true rfl) dX11_tries_113 (fun H locs hP _ hS => ?_)
                have hP : va_P D vwCl (MW cy ad (u2 iv_171 0 11 d) ar) H := by rw [← m_pt11_11 (Nat.le_of_ble_eq_true rfl) rfl]; exact hP
                obtain ⟨iv_173, eiv_173⟩ : ∃ z : gIv, z = u2 iv_171 0 11 d := ⟨_, rfl⟩
                rw [← eiv_173] at hP
                refine lv_aload_n hx hb dX11_tries_116 rfl (lv_at hl 1 rfl) ?_
                refine lv_iload hx hb dX11_tries_117 (lv_at hl 5 rfl) ?_
                refine va_put (D := D) (ci := 11) (v := .int f) (ty := .int) (C := RX11) (T := TX11) (N := 30) hx hb hts inX11 tyX11 tyX11_ok nmX11 hown hK hP (mD hI) hS 0 (m_at11 (Nat.le_of_ble_eq_true rfl) rfl) rfl 12 (by decide) lk4 (fun _ h9 => h9) rfl (by decide +kernel) rfl rfl (Nat.le_of_ble_eq_true rfl) dX11_tries_119 (fun H locs hP _ hS => ?_)
                have hP : va_P D vwCl (MW cy ad (u2 iv_173 0 12 f) ar) H := by rw [← m_pt11_12 (Nat.le_of_ble_eq_true rfl) rfl]; exact hP
                obtain ⟨iv_174, eiv_174⟩ : ∃ z : gIv, z = u2 iv_173 0 12 f := ⟨_, rfl⟩
                rw [← eiv_174] at hP
                refine lv_iconst (v := 0) hx hb dX11_tries_122 (by decide) ?_
                refine lv_istore (lv' := [(6, .int 0), (5, .int 1), (0, .ref (ad 0)), (1, .int a), (2, .int b), (3, .int d), (4, .int f)]) hx hb dX11_tries_123 hl (by decide) rfl (fun ls hl => ?_)
                have loop177 : ∀ (n : Nat) (x6_175 : Int32) (ar_176 : gAr) (H : Heap) (locs : List Loc) (ls : Array Slot), ((6 - (x6_175.toInt)).toNat) < n → (0 ≤ (x6_175.toInt) ∧ (x6_175.toInt) ≤ 6) → (∀ c, c ≠ 8 → ar_176 c = ar c) → (∀ i, i < 6 → 0 ≤ (ar_176 8 i).toInt ∧ (ar_176 8 i).toInt ≤ 5) → va_P D vwCl (MW cy ad iv_174 ar_176) H → va_S (mA ad s.heap.size) s.heap H locs → lv_has ls 7 [(6, .int x6_175), (5, .int 1), (0, .ref (ad 0)), (1, .int a), (2, .int b), (3, .int d), (4, .int f)] → W p l e (headSpec wsX11_tries (({ frames := 0, cells := 0, slots := 0, locals := 0 } : Room))).room s m (([.ref (ad 0), .int a, .int b, .int d, .int f] : List Value).toArray) below meth c H locs 0 0 Q (F0 m 125 ls []) := by
                  intro n
                  induction n with
                  | zero => intro x6_175 ar_176 H locs ls hm; omega
                  | succ n ih177 =>
                    intro x6_175 ar_176 H locs ls hm hg0 hga hgt hP hS hl
                    refine lv_iload hx hb dX11_tries_125 (lv_at hl 0 rfl) ?_
                    refine lv_aload_n hx hb dX11_tries_127 rfl (lv_at hl 2 rfl) ?_
                    refine va_get (D := D) (ci := 11) (v := .ref (ad 1)) (C := RX11) (T := TX11) (N := 30) hx hb hts inX11 hown hK hP 0 (m_at11 (Nat.le_of_ble_eq_true rfl) rfl) rfl 0 (by decide) lk0 (fun _ h9 => h9) rfl dX11_tries_128 ?_
                    refine lv_bipush (v := 111) hx hb dX11_tries_131 (by decide) ?_
                    refine va_iald hx hb hK hP 1 0 (m_at12 (Nat.le_of_ble_eq_true rfl) rfl) rfl (g_in (N := 126) (show (111 : Int32).toInt = (111 : Int) from rfl) rfl (by omega) (by omega)) dX11_tries_133 ?_
                    refine lv_topi (fun v_178 ev_178 => ?_)
                    have hv1 : v_178.toInt = (ar 1 111).toInt := by rw [ev_178, hga 1 (by omega)]; rfl
                    refine lv_icmp_ge (tgt := 157) hx hb dX11_tries_134 (by decide) (fun c_179 => ?_) (fun c_179 => ?_)
                    · skip
                      have q_179 : v_178.toInt ≤ x6_175.toInt := i_le2 (rfl : v_178.toInt = v_178.toInt) (rfl : x6_175.toInt = x6_175.toInt) c_179
                      have ht9 : TR ar_176 := fun i hi => ⟨by rw [hga 7 (by omega)]; exact (htr i hi).1, by rw [hga 7 (by omega)]; exact (htr i hi).2.1, (hgt i hi).1, (hgt i hi).2⟩
                      rw [hQ]
                      exact W.vret hx hb hr (fun t ht hW => ⟨⟨(iv_174, ar_176), rfl, ⟨fun a b h => by show iv_174 a b = iv a b; rw [eiv_174, u2_o (by omega)]; rw [eiv_173, u2_o (by omega)]; rw [eiv_171, u2_o (by omega)]; rw [eiv_4, u2_o (by omega)], fun c h5 h6 h7 h8 => hga c h8, hka.fr (hga 1 (by omega)) (hga 5 (by omega)) (hga 6 (by omega)), ht9⟩, by show va_P _ _ _ _; rw [ht]; exact hP⟩, hS.F ht⟩) hS.2.2 dX11_tries_157
                    · skip
                      have q_179 : x6_175.toInt < v_178.toInt := i_nle2 (rfl : v_178.toInt = v_178.toInt) (rfl : x6_175.toInt = x6_175.toInt) c_179
                      refine lv_aload_n hx hb dX11_tries_137 rfl (lv_at hl 2 rfl) ?_
                      refine va_get (D := D) (ci := 11) (v := .ref (ad 8)) (C := RX11) (T := TX11) (N := 30) hx hb hts inX11 hown hK hP 0 (m_at11 (Nat.le_of_ble_eq_true rfl) rfl) rfl 10 (by decide) lk5 (fun _ h9 => h9) rfl dX11_tries_138 ?_
                      refine lv_iload hx hb dX11_tries_141 (lv_at hl 0 rfl) ?_
                      refine lv_aload_n hx hb dX11_tries_143 rfl (lv_at hl 2 rfl) ?_
                      refine va_get (D := D) (ci := 11) (v := .ref (ad 7)) (C := RX11) (T := TX11) (N := 30) hx hb hts inX11 hown hK hP 0 (m_at11 (Nat.le_of_ble_eq_true rfl) rfl) rfl 9 (by decide) lk6 (fun _ h9 => h9) rfl dX11_tries_144 ?_
                      refine lv_iload hx hb dX11_tries_147 (lv_at hl 0 rfl) ?_
                      refine va_iald hx hb hK hP 7 0 (m_at12 (Nat.le_of_ble_eq_true rfl) rfl) rfl (g_in (N := 6) (rfl : x6_175.toInt = x6_175.toInt) rfl (by omega) (by omega)) dX11_tries_149 ?_
                      refine lv_topi (fun v_180 ev_180 => ?_)
                      have hv2 : 0 ≤ v_180.toInt ∧ v_180.toInt ≤ 5 := by
                        rw [ev_180, g_cN (rfl : x6_175.toInt = _), hga 7 (by omega)]
                        exact ⟨(htr (x6_175.toInt).toNat (by omega)).1, (htr (x6_175.toInt).toNat (by omega)).2.1⟩
                      refine va_iast hx hb hK hP (mD hI) hS 8 0 (m_at12 (Nat.le_of_ble_eq_true rfl) rfl) rfl (g_in (N := 6) (rfl : x6_175.toInt = x6_175.toInt) rfl (by omega) (by omega)) dX11_tries_150 (fun H locs hP _ hS => ?_)
                      rw [m_pt12 (Nat.le_of_ble_eq_true rfl) rfl] at hP
                      obtain ⟨ar_181, ear_181⟩ : ∃ z : gAr, z = va_up ar_176 8 (upd (ar_176 8) x6_175.toNatClampNeg v_180) := ⟨_, rfl⟩
                      rw [← ear_181] at hP
                      have hga2 : ∀ c, c ≠ 8 → ar_181 c = ar c := fun c h => by rw [ear_181, ua_o h]; exact hga c h
                      have hgt2 : ∀ i, i < 6 → 0 ≤ (ar_181 8 i).toInt ∧ (ar_181 8 i).toInt ≤ 5 := fun i hi => by
                        rw [ear_181, ua_s, g_cN (rfl : x6_175.toInt = _)]
                        by_cases e : i = (x6_175.toInt).toNat
                        · rw [e, pk_us]; exact hv2
                        · rw [pk_un e]; exact hgt i hi
                      obtain ⟨x6_182, ex6_182⟩ : ∃ y : Int32, y = x6_175 + 1 := ⟨_, rfl⟩
                      have tx6_182 : x6_182.toInt = x6_175.toInt + (1 : Int) := i_add (rfl : x6_175.toInt = x6_175.toInt) (show (1 : Int32).toInt = (1 : Int) from rfl) (by omega) (by omega) ex6_182
                      refine lv_iinc (v := x6_182) (lv' := [(6, .int x6_182), (5, .int 1), (0, .ref (ad 0)), (1, .int a), (2, .int b), (3, .int d), (4, .int f)]) hx hb dX11_tries_151 hl (k := 0) rfl (by rw [ex6_182]; rfl) (by decide) rfl (fun ls hl => ?_)
                      refine lv_goto (tgt := 125) hx hb dX11_tries_154 (by decide) ?_
                      exact ih177 x6_182 ar_181 _ _ _ (by omega) (by omega) hga2 hgt2 hP hS (lv_sub hl [0, 1, 2, 3, 4, 5, 6] rfl)
                have zl_183 : (0 : Int32).toInt = (0 : Int) := rfl
                exact loop177 (((6 - ((0 : Int))).toNat) + 1) 0 ar _ _ _ (by omega) (by omega) (fun _ _ => rfl) (fun i hi => ⟨(htr i hi).2.2.1, (htr i hi).2.2.2⟩) hP hS (lv_sub hl [0, 1, 2, 3, 4, 5, 6] rfl)
            · skip
              have q_170 : v_3.toInt ≠ (1 : Int) := i_ne2 ((congrArg Int32.toInt f_169).trans (rfl : v_3.toInt = v_3.toInt)) (show (1 : Int32).toInt = (1 : Int) from rfl) c_170
              refine lv_iload_n hx hb dX11_tries_70 rfl (lv_at hl 4 rfl) ?_
              refine lv_aload_n hx hb dX11_tries_71 rfl (lv_at hl 1 rfl) ?_
              refine va_get (D := D) (ci := 11) (v := .int (iv_4 0 11)) (C := RX11) (T := TX11) (N := 30) hx hb hts inX11 hown hK hP 0 (m_at11 (Nat.le_of_ble_eq_true rfl) rfl) rfl 11 (by decide) lk3 (fun _ h9 => h9) rfl dX11_tries_72 ?_
              have f_184 : iv_4 0 11 = iv 0 11 := by rw [eiv_4, u2_o (by omega)]
              refine lv_icmp_ge (tgt := 82) hx hb dX11_tries_75 (by decide) (fun c_185 => ?_) (fun c_185 => ?_)
              · skip
                have q_185 : (iv 0 11).toInt ≤ d.toInt := i_le2 ((congrArg Int32.toInt f_184).trans (rfl : (iv 0 11).toInt = (iv 0 11).toInt)) (rfl : d.toInt = d.toInt) c_185
                refine lv_iload_n hx hb dX11_tries_82 rfl (lv_at hl 4 rfl) ?_
                refine lv_aload_n hx hb dX11_tries_83 rfl (lv_at hl 1 rfl) ?_
                refine va_get (D := D) (ci := 11) (v := .int (iv_4 0 11)) (C := RX11) (T := TX11) (N := 30) hx hb hts inX11 hown hK hP 0 (m_at11 (Nat.le_of_ble_eq_true rfl) rfl) rfl 11 (by decide) lk3 (fun _ h9 => h9) rfl dX11_tries_84 ?_
                have f_186 : iv_4 0 11 = iv 0 11 := by rw [eiv_4, u2_o (by omega)]
                refine lv_icmp_ne (tgt := 99) hx hb dX11_tries_87 (by decide) (fun c_187 => ?_) (fun c_187 => ?_)
                · skip
                  have q_187 : d.toInt ≠ (iv 0 11).toInt := i_ne2 (rfl : d.toInt = d.toInt) ((congrArg Int32.toInt f_186).trans (rfl : (iv 0 11).toInt = (iv 0 11).toInt)) c_187
                  refine lv_aload_n hx hb dX11_tries_99 rfl (lv_at hl 1 rfl) ?_
                  refine va_get (D := D) (ci := 11) (v := .int (iv_4 0 13)) (C := RX11) (T := TX11) (N := 30) hx hb hts inX11 hown hK hP 0 (m_at11 (Nat.le_of_ble_eq_true rfl) rfl) rfl 13 (by decide) lk2 (fun _ h9 => h9) rfl dX11_tries_100 ?_
                  have f_188 : iv_4 0 13 = iv 0 13 := by rw [eiv_4, u2_o (by omega)]
                  refine va_put (D := D) (ci := 11) (v := .int (iv_4 0 13)) (ty := .int) (C := RX11) (T := TX11) (N := 30) hx hb hts inX11 tyX11 tyX11_ok nmX11 hown hK hP (mD hI) hS 0 (m_at11 (Nat.le_of_ble_eq_true rfl) rfl) rfl 13 (by decide) lk2 (fun _ h9 => h9) rfl (by decide +kernel) rfl rfl (Nat.le_of_ble_eq_true rfl) dX11_tries_103 (fun H locs hP _ hS => ?_)
                  have hP : va_P D vwCl (MW cy ad (u2 iv_4 0 13 (iv_4 0 13)) ar) H := by rw [← m_pt11_13 (Nat.le_of_ble_eq_true rfl) rfl]; exact hP
                  obtain ⟨iv_189, eiv_189⟩ : ∃ z : gIv, z = u2 iv_4 0 13 (iv_4 0 13) := ⟨_, rfl⟩
                  rw [← eiv_189] at hP
                  refine lv_iload hx hb dX11_tries_106 (lv_at hl 0 rfl) ?_
                  refine lv_if_eq (tgt := 157) hx hb dX11_tries_108 (by decide) (fun c_190 => ?_) (fun c_190 => ?_)
                  · skip
                    have q_190 : (1 : Int) = (0 : Int) := i_eq2 (show (1 : Int32).toInt = (1 : Int) from rfl) (show (0 : Int32).toInt = (0 : Int) from rfl) c_190
                    exfalso; omega
                  · skip
                    have q_190 : (1 : Int) ≠ (0 : Int) := i_ne2 (show (1 : Int32).toInt = (1 : Int) from rfl) (show (0 : Int32).toInt = (0 : Int) from rfl) c_190
                    refine lv_aload_n hx hb dX11_tries_111 rfl (lv_at hl 1 rfl) ?_
                    refine lv_iload_n hx hb dX11_tries_112 rfl (lv_at hl 4 rfl) ?_
                    refine va_put (D := D) (ci := 11) (v := .int d) (ty := .int) (C := RX11) (T := TX11) (N := 30) hx hb hts inX11 tyX11 tyX11_ok nmX11 hown hK hP (mD hI) hS 0 (m_at11 (Nat.le_of_ble_eq_true rfl) rfl) rfl 11 (by decide) lk3 (fun _ h9 => h9) rfl (by decide +kernel) rfl rfl (Nat.le_of_ble_eq_true rfl) dX11_tries_113 (fun H locs hP _ hS => ?_)
                    have hP : va_P D vwCl (MW cy ad (u2 iv_189 0 11 d) ar) H := by rw [← m_pt11_11 (Nat.le_of_ble_eq_true rfl) rfl]; exact hP
                    obtain ⟨iv_191, eiv_191⟩ : ∃ z : gIv, z = u2 iv_189 0 11 d := ⟨_, rfl⟩
                    rw [← eiv_191] at hP
                    refine lv_aload_n hx hb dX11_tries_116 rfl (lv_at hl 1 rfl) ?_
                    refine lv_iload hx hb dX11_tries_117 (lv_at hl 5 rfl) ?_
                    refine va_put (D := D) (ci := 11) (v := .int f) (ty := .int) (C := RX11) (T := TX11) (N := 30) hx hb hts inX11 tyX11 tyX11_ok nmX11 hown hK hP (mD hI) hS 0 (m_at11 (Nat.le_of_ble_eq_true rfl) rfl) rfl 12 (by decide) lk4 (fun _ h9 => h9) rfl (by decide +kernel) rfl rfl (Nat.le_of_ble_eq_true rfl) dX11_tries_119 (fun H locs hP _ hS => ?_)
                    have hP : va_P D vwCl (MW cy ad (u2 iv_191 0 12 f) ar) H := by rw [← m_pt11_12 (Nat.le_of_ble_eq_true rfl) rfl]; exact hP
                    obtain ⟨iv_192, eiv_192⟩ : ∃ z : gIv, z = u2 iv_191 0 12 f := ⟨_, rfl⟩
                    rw [← eiv_192] at hP
                    refine lv_iconst (v := 0) hx hb dX11_tries_122 (by decide) ?_
                    refine lv_istore (lv' := [(6, .int 0), (5, .int 1), (0, .ref (ad 0)), (1, .int a), (2, .int b), (3, .int d), (4, .int f)]) hx hb dX11_tries_123 hl (by decide) rfl (fun ls hl => ?_)
                    have loop195 : ∀ (n : Nat) (x6_193 : Int32) (ar_194 : gAr) (H : Heap) (locs : List Loc) (ls : Array Slot), ((6 - (x6_193.toInt)).toNat) < n → (0 ≤ (x6_193.toInt) ∧ (x6_193.toInt) ≤ 6) → (∀ c, c ≠ 8 → ar_194 c = ar c) → (∀ i, i < 6 → 0 ≤ (ar_194 8 i).toInt ∧ (ar_194 8 i).toInt ≤ 5) → va_P D vwCl (MW cy ad iv_192 ar_194) H → va_S (mA ad s.heap.size) s.heap H locs → lv_has ls 7 [(6, .int x6_193), (5, .int 1), (0, .ref (ad 0)), (1, .int a), (2, .int b), (3, .int d), (4, .int f)] → W p l e (headSpec wsX11_tries (({ frames := 0, cells := 0, slots := 0, locals := 0 } : Room))).room s m (([.ref (ad 0), .int a, .int b, .int d, .int f] : List Value).toArray) below meth c H locs 0 0 Q (F0 m 125 ls []) := by
                      intro n
                      induction n with
                      | zero => intro x6_193 ar_194 H locs ls hm; omega
                      | succ n ih195 =>
                        intro x6_193 ar_194 H locs ls hm hg0 hga hgt hP hS hl
                        refine lv_iload hx hb dX11_tries_125 (lv_at hl 0 rfl) ?_
                        refine lv_aload_n hx hb dX11_tries_127 rfl (lv_at hl 2 rfl) ?_
                        refine va_get (D := D) (ci := 11) (v := .ref (ad 1)) (C := RX11) (T := TX11) (N := 30) hx hb hts inX11 hown hK hP 0 (m_at11 (Nat.le_of_ble_eq_true rfl) rfl) rfl 0 (by decide) lk0 (fun _ h9 => h9) rfl dX11_tries_128 ?_
                        refine lv_bipush (v := 111) hx hb dX11_tries_131 (by decide) ?_
                        refine va_iald hx hb hK hP 1 0 (m_at12 (Nat.le_of_ble_eq_true rfl) rfl) rfl (g_in (N := 126) (show (111 : Int32).toInt = (111 : Int) from rfl) rfl (by omega) (by omega)) dX11_tries_133 ?_
                        refine lv_topi (fun v_196 ev_196 => ?_)
                        have hv1 : v_196.toInt = (ar 1 111).toInt := by rw [ev_196, hga 1 (by omega)]; rfl
                        refine lv_icmp_ge (tgt := 157) hx hb dX11_tries_134 (by decide) (fun c_197 => ?_) (fun c_197 => ?_)
                        · skip
                          have q_197 : v_196.toInt ≤ x6_193.toInt := i_le2 (rfl : v_196.toInt = v_196.toInt) (rfl : x6_193.toInt = x6_193.toInt) c_197
                          have ht9 : TR ar_194 := fun i hi => ⟨by rw [hga 7 (by omega)]; exact (htr i hi).1, by rw [hga 7 (by omega)]; exact (htr i hi).2.1, (hgt i hi).1, (hgt i hi).2⟩
                          rw [hQ]
                          exact W.vret hx hb hr (fun t ht hW => ⟨⟨(iv_192, ar_194), rfl, ⟨fun a b h => by show iv_192 a b = iv a b; rw [eiv_192, u2_o (by omega)]; rw [eiv_191, u2_o (by omega)]; rw [eiv_189, u2_o (by omega)]; rw [eiv_4, u2_o (by omega)], fun c h5 h6 h7 h8 => hga c h8, hka.fr (hga 1 (by omega)) (hga 5 (by omega)) (hga 6 (by omega)), ht9⟩, by show va_P _ _ _ _; rw [ht]; exact hP⟩, hS.F ht⟩) hS.2.2 dX11_tries_157
                        · skip
                          have q_197 : x6_193.toInt < v_196.toInt := i_nle2 (rfl : v_196.toInt = v_196.toInt) (rfl : x6_193.toInt = x6_193.toInt) c_197
                          refine lv_aload_n hx hb dX11_tries_137 rfl (lv_at hl 2 rfl) ?_
                          refine va_get (D := D) (ci := 11) (v := .ref (ad 8)) (C := RX11) (T := TX11) (N := 30) hx hb hts inX11 hown hK hP 0 (m_at11 (Nat.le_of_ble_eq_true rfl) rfl) rfl 10 (by decide) lk5 (fun _ h9 => h9) rfl dX11_tries_138 ?_
                          refine lv_iload hx hb dX11_tries_141 (lv_at hl 0 rfl) ?_
                          refine lv_aload_n hx hb dX11_tries_143 rfl (lv_at hl 2 rfl) ?_
                          refine va_get (D := D) (ci := 11) (v := .ref (ad 7)) (C := RX11) (T := TX11) (N := 30) hx hb hts inX11 hown hK hP 0 (m_at11 (Nat.le_of_ble_eq_true rfl) rfl) rfl 9 (by decide) lk6 (fun _ h9 => h9) rfl dX11_tries_144 ?_
                          refine lv_iload hx hb dX11_tries_147 (lv_at hl 0 rfl) ?_
                          refine va_iald hx hb hK hP 7 0 (m_at12 (Nat.le_of_ble_eq_true rfl) rfl) rfl (g_in (N := 6) (rfl : x6_193.toInt = x6_193.toInt) rfl (by omega) (by omega)) dX11_tries_149 ?_
                          refine lv_topi (fun v_198 ev_198 => ?_)
                          have hv2 : 0 ≤ v_198.toInt ∧ v_198.toInt ≤ 5 := by
                            rw [ev_198, g_cN (rfl : x6_193.toInt = _), hga 7 (by omega)]
                            exact ⟨(htr (x6_193.toInt).toNat (by omega)).1, (htr (x6_193.toInt).toNat (by omega)).2.1⟩
                          refine va_iast hx hb hK hP (mD hI) hS 8 0 (m_at12 (Nat.le_of_ble_eq_true rfl) rfl) rfl (g_in (N := 6) (rfl : x6_193.toInt = x6_193.toInt) rfl (by omega) (by omega)) dX11_tries_150 (fun H locs hP _ hS => ?_)
                          rw [m_pt12 (Nat.le_of_ble_eq_true rfl) rfl] at hP
                          obtain ⟨ar_199, ear_199⟩ : ∃ z : gAr, z = va_up ar_194 8 (upd (ar_194 8) x6_193.toNatClampNeg v_198) := ⟨_, rfl⟩
                          rw [← ear_199] at hP
                          have hga2 : ∀ c, c ≠ 8 → ar_199 c = ar c := fun c h => by rw [ear_199, ua_o h]; exact hga c h
                          have hgt2 : ∀ i, i < 6 → 0 ≤ (ar_199 8 i).toInt ∧ (ar_199 8 i).toInt ≤ 5 := fun i hi => by
                            rw [ear_199, ua_s, g_cN (rfl : x6_193.toInt = _)]
                            by_cases e : i = (x6_193.toInt).toNat
                            · rw [e, pk_us]; exact hv2
                            · rw [pk_un e]; exact hgt i hi
                          obtain ⟨x6_200, ex6_200⟩ : ∃ y : Int32, y = x6_193 + 1 := ⟨_, rfl⟩
                          have tx6_200 : x6_200.toInt = x6_193.toInt + (1 : Int) := i_add (rfl : x6_193.toInt = x6_193.toInt) (show (1 : Int32).toInt = (1 : Int) from rfl) (by omega) (by omega) ex6_200
                          refine lv_iinc (v := x6_200) (lv' := [(6, .int x6_200), (5, .int 1), (0, .ref (ad 0)), (1, .int a), (2, .int b), (3, .int d), (4, .int f)]) hx hb dX11_tries_151 hl (k := 0) rfl (by rw [ex6_200]; rfl) (by decide) rfl (fun ls hl => ?_)
                          refine lv_goto (tgt := 125) hx hb dX11_tries_154 (by decide) ?_
                          exact ih195 x6_200 ar_199 _ _ _ (by omega) (by omega) hga2 hgt2 hP hS (lv_sub hl [0, 1, 2, 3, 4, 5, 6] rfl)
                    have zl_201 : (0 : Int32).toInt = (0 : Int) := rfl
                    exact loop195 (((6 - ((0 : Int))).toNat) + 1) 0 ar _ _ _ (by omega) (by omega) (fun _ _ => rfl) (fun i hi => ⟨(htr i hi).2.2.1, (htr i hi).2.2.2⟩) hP hS (lv_sub hl [0, 1, 2, 3, 4, 5, 6] rfl)
                · skip
                  have q_187 : d.toInt = (iv 0 11).toInt := i_eq2 (rfl : d.toInt = d.toInt) ((congrArg Int32.toInt f_186).trans (rfl : (iv 0 11).toInt = (iv 0 11).toInt)) c_187
                  refine lv_aload_n hx hb dX11_tries_90 rfl (lv_at hl 1 rfl) ?_
                  refine va_get (D := D) (ci := 11) (v := .int (iv_4 0 13)) (C := RX11) (T := TX11) (N := 30) hx hb hts inX11 hown hK hP 0 (m_at11 (Nat.le_of_ble_eq_true rfl) rfl) rfl 13 (by decide) lk2 (fun _ h9 => h9) rfl dX11_tries_91 ?_
                  have f_202 : iv_4 0 13 = iv 0 13 := by rw [eiv_4, u2_o (by omega)]
                  refine lv_iconst (v := 1) hx hb dX11_tries_94 (by decide) ?_
                  refine lv_iadd hx hb dX11_tries_95 ?_
                  refine lv_topi (fun v_203 ev_203 => ?_)
                  refine lv_goto (tgt := 103) hx hb dX11_tries_96 (by decide) ?_
                  refine va_put (D := D) (ci := 11) (v := .int v_203) (ty := .int) (C := RX11) (T := TX11) (N := 30) hx hb hts inX11 tyX11 tyX11_ok nmX11 hown hK hP (mD hI) hS 0 (m_at11 (Nat.le_of_ble_eq_true rfl) rfl) rfl 13 (by decide) lk2 (fun _ h9 => h9) rfl (by decide +kernel) rfl rfl (Nat.le_of_ble_eq_true rfl) dX11_tries_103 (fun H locs hP _ hS => ?_)
                  have hP : va_P D vwCl (MW cy ad (u2 iv_4 0 13 v_203) ar) H := by rw [← m_pt11_13 (Nat.le_of_ble_eq_true rfl) rfl]; exact hP
                  obtain ⟨iv_204, eiv_204⟩ : ∃ z : gIv, z = u2 iv_4 0 13 v_203 := ⟨_, rfl⟩
                  rw [← eiv_204] at hP
                  refine lv_iload hx hb dX11_tries_106 (lv_at hl 0 rfl) ?_
                  refine lv_if_eq (tgt := 157) hx hb dX11_tries_108 (by decide) (fun c_205 => ?_) (fun c_205 => ?_)
                  · skip
                    have q_205 : (1 : Int) = (0 : Int) := i_eq2 (show (1 : Int32).toInt = (1 : Int) from rfl) (show (0 : Int32).toInt = (0 : Int) from rfl) c_205
                    exfalso; omega
                  · skip
                    have q_205 : (1 : Int) ≠ (0 : Int) := i_ne2 (show (1 : Int32).toInt = (1 : Int) from rfl) (show (0 : Int32).toInt = (0 : Int) from rfl) c_205
                    refine lv_aload_n hx hb dX11_tries_111 rfl (lv_at hl 1 rfl) ?_
                    refine lv_iload_n hx hb dX11_tries_112 rfl (lv_at hl 4 rfl) ?_
                    refine va_put (D := D) (ci := 11) (v := .int d) (ty := .int) (C := RX11) (T := TX11) (N := 30) hx hb hts inX11 tyX11 tyX11_ok nmX11 hown hK hP (mD hI) hS 0 (m_at11 (Nat.le_of_ble_eq_true rfl) rfl) rfl 11 (by decide) lk3 (fun _ h9 => h9) rfl (by decide +kernel) rfl rfl (Nat.le_of_ble_eq_true rfl) dX11_tries_113 (fun H locs hP _ hS => ?_)
                    have hP : va_P D vwCl (MW cy ad (u2 iv_204 0 11 d) ar) H := by rw [← m_pt11_11 (Nat.le_of_ble_eq_true rfl) rfl]; exact hP
                    obtain ⟨iv_206, eiv_206⟩ : ∃ z : gIv, z = u2 iv_204 0 11 d := ⟨_, rfl⟩
                    rw [← eiv_206] at hP
                    refine lv_aload_n hx hb dX11_tries_116 rfl (lv_at hl 1 rfl) ?_
                    refine lv_iload hx hb dX11_tries_117 (lv_at hl 5 rfl) ?_
                    refine va_put (D := D) (ci := 11) (v := .int f) (ty := .int) (C := RX11) (T := TX11) (N := 30) hx hb hts inX11 tyX11 tyX11_ok nmX11 hown hK hP (mD hI) hS 0 (m_at11 (Nat.le_of_ble_eq_true rfl) rfl) rfl 12 (by decide) lk4 (fun _ h9 => h9) rfl (by decide +kernel) rfl rfl (Nat.le_of_ble_eq_true rfl) dX11_tries_119 (fun H locs hP _ hS => ?_)
                    have hP : va_P D vwCl (MW cy ad (u2 iv_206 0 12 f) ar) H := by rw [← m_pt11_12 (Nat.le_of_ble_eq_true rfl) rfl]; exact hP
                    obtain ⟨iv_207, eiv_207⟩ : ∃ z : gIv, z = u2 iv_206 0 12 f := ⟨_, rfl⟩
                    rw [← eiv_207] at hP
                    refine lv_iconst (v := 0) hx hb dX11_tries_122 (by decide) ?_
                    refine lv_istore (lv' := [(6, .int 0), (5, .int 1), (0, .ref (ad 0)), (1, .int a), (2, .int b), (3, .int d), (4, .int f)]) hx hb dX11_tries_123 hl (by decide) rfl (fun ls hl => ?_)
                    have loop210 : ∀ (n : Nat) (x6_208 : Int32) (ar_209 : gAr) (H : Heap) (locs : List Loc) (ls : Array Slot), ((6 - (x6_208.toInt)).toNat) < n → (0 ≤ (x6_208.toInt) ∧ (x6_208.toInt) ≤ 6) → (∀ c, c ≠ 8 → ar_209 c = ar c) → (∀ i, i < 6 → 0 ≤ (ar_209 8 i).toInt ∧ (ar_209 8 i).toInt ≤ 5) → va_P D vwCl (MW cy ad iv_207 ar_209) H → va_S (mA ad s.heap.size) s.heap H locs → lv_has ls 7 [(6, .int x6_208), (5, .int 1), (0, .ref (ad 0)), (1, .int a), (2, .int b), (3, .int d), (4, .int f)] → W p l e (headSpec wsX11_tries (({ frames := 0, cells := 0, slots := 0, locals := 0 } : Room))).room s m (([.ref (ad 0), .int a, .int b, .int d, .int f] : List Value).toArray) below meth c H locs 0 0 Q (F0 m 125 ls []) := by
                      intro n
                      induction n with
                      | zero => intro x6_208 ar_209 H locs ls hm; omega
                      | succ n ih210 =>
                        intro x6_208 ar_209 H locs ls hm hg0 hga hgt hP hS hl
                        refine lv_iload hx hb dX11_tries_125 (lv_at hl 0 rfl) ?_
                        refine lv_aload_n hx hb dX11_tries_127 rfl (lv_at hl 2 rfl) ?_
                        refine va_get (D := D) (ci := 11) (v := .ref (ad 1)) (C := RX11) (T := TX11) (N := 30) hx hb hts inX11 hown hK hP 0 (m_at11 (Nat.le_of_ble_eq_true rfl) rfl) rfl 0 (by decide) lk0 (fun _ h9 => h9) rfl dX11_tries_128 ?_
                        refine lv_bipush (v := 111) hx hb dX11_tries_131 (by decide) ?_
                        refine va_iald hx hb hK hP 1 0 (m_at12 (Nat.le_of_ble_eq_true rfl) rfl) rfl (g_in (N := 126) (show (111 : Int32).toInt = (111 : Int) from rfl) rfl (by omega) (by omega)) dX11_tries_133 ?_
                        refine lv_topi (fun v_211 ev_211 => ?_)
                        have hv1 : v_211.toInt = (ar 1 111).toInt := by rw [ev_211, hga 1 (by omega)]; rfl
                        refine lv_icmp_ge (tgt := 157) hx hb dX11_tries_134 (by decide) (fun c_212 => ?_) (fun c_212 => ?_)
                        · skip
                          have q_212 : v_211.toInt ≤ x6_208.toInt := i_le2 (rfl : v_211.toInt = v_211.toInt) (rfl : x6_208.toInt = x6_208.toInt) c_212
                          have ht9 : TR ar_209 := fun i hi => ⟨by rw [hga 7 (by omega)]; exact (htr i hi).1, by rw [hga 7 (by omega)]; exact (htr i hi).2.1, (hgt i hi).1, (hgt i hi).2⟩
                          rw [hQ]
                          exact W.vret hx hb hr (fun t ht hW => ⟨⟨(iv_207, ar_209), rfl, ⟨fun a b h => by show iv_207 a b = iv a b; rw [eiv_207, u2_o (by omega)]; rw [eiv_206, u2_o (by omega)]; rw [eiv_204, u2_o (by omega)]; rw [eiv_4, u2_o (by omega)], fun c h5 h6 h7 h8 => hga c h8, hka.fr (hga 1 (by omega)) (hga 5 (by omega)) (hga 6 (by omega)), ht9⟩, by show va_P _ _ _ _; rw [ht]; exact hP⟩, hS.F ht⟩) hS.2.2 dX11_tries_157
                        · skip
                          have q_212 : x6_208.toInt < v_211.toInt := i_nle2 (rfl : v_211.toInt = v_211.toInt) (rfl : x6_208.toInt = x6_208.toInt) c_212
                          refine lv_aload_n hx hb dX11_tries_137 rfl (lv_at hl 2 rfl) ?_
                          refine va_get (D := D) (ci := 11) (v := .ref (ad 8)) (C := RX11) (T := TX11) (N := 30) hx hb hts inX11 hown hK hP 0 (m_at11 (Nat.le_of_ble_eq_true rfl) rfl) rfl 10 (by decide) lk5 (fun _ h9 => h9) rfl dX11_tries_138 ?_
                          refine lv_iload hx hb dX11_tries_141 (lv_at hl 0 rfl) ?_
                          refine lv_aload_n hx hb dX11_tries_143 rfl (lv_at hl 2 rfl) ?_
                          refine va_get (D := D) (ci := 11) (v := .ref (ad 7)) (C := RX11) (T := TX11) (N := 30) hx hb hts inX11 hown hK hP 0 (m_at11 (Nat.le_of_ble_eq_true rfl) rfl) rfl 9 (by decide) lk6 (fun _ h9 => h9) rfl dX11_tries_144 ?_
                          refine lv_iload hx hb dX11_tries_147 (lv_at hl 0 rfl) ?_
                          refine va_iald hx hb hK hP 7 0 (m_at12 (Nat.le_of_ble_eq_true rfl) rfl) rfl (g_in (N := 6) (rfl : x6_208.toInt = x6_208.toInt) rfl (by omega) (by omega)) dX11_tries_149 ?_
                          refine lv_topi (fun v_213 ev_213 => ?_)
                          have hv2 : 0 ≤ v_213.toInt ∧ v_213.toInt ≤ 5 := by
                            rw [ev_213, g_cN (rfl : x6_208.toInt = _), hga 7 (by omega)]
                            exact ⟨(htr (x6_208.toInt).toNat (by omega)).1, (htr (x6_208.toInt).toNat (by omega)).2.1⟩
                          refine va_iast hx hb hK hP (mD hI) hS 8 0 (m_at12 (Nat.le_of_ble_eq_true rfl) rfl) rfl (g_in (N := 6) (rfl : x6_208.toInt = x6_208.toInt) rfl (by omega) (by omega)) dX11_tries_150 (fun H locs hP _ hS => ?_)
                          rw [m_pt12 (Nat.le_of_ble_eq_true rfl) rfl] at hP
                          obtain ⟨ar_214, ear_214⟩ : ∃ z : gAr, z = va_up ar_209 8 (upd (ar_209 8) x6_208.toNatClampNeg v_213) := ⟨_, rfl⟩
                          rw [← ear_214] at hP
                          have hga2 : ∀ c, c ≠ 8 → ar_214 c = ar c := fun c h => by rw [ear_214, ua_o h]; exact hga c h
                          have hgt2 : ∀ i, i < 6 → 0 ≤ (ar_214 8 i).toInt ∧ (ar_214 8 i).toInt ≤ 5 := fun i hi => by
                            rw [ear_214, ua_s, g_cN (rfl : x6_208.toInt = _)]
                            by_cases e : i = (x6_208.toInt).toNat
                            · rw [e, pk_us]; exact hv2
                            · rw [pk_un e]; exact hgt i hi
                          obtain ⟨x6_215, ex6_215⟩ : ∃ y : Int32, y = x6_208 + 1 := ⟨_, rfl⟩
                          have tx6_215 : x6_215.toInt = x6_208.toInt + (1 : Int) := i_add (rfl : x6_208.toInt = x6_208.toInt) (show (1 : Int32).toInt = (1 : Int) from rfl) (by omega) (by omega) ex6_215
                          refine lv_iinc (v := x6_215) (lv' := [(6, .int x6_215), (5, .int 1), (0, .ref (ad 0)), (1, .int a), (2, .int b), (3, .int d), (4, .int f)]) hx hb dX11_tries_151 hl (k := 0) rfl (by rw [ex6_215]; rfl) (by decide) rfl (fun ls hl => ?_)
                          refine lv_goto (tgt := 125) hx hb dX11_tries_154 (by decide) ?_
                          exact ih210 x6_215 ar_214 _ _ _ (by omega) (by omega) hga2 hgt2 hP hS (lv_sub hl [0, 1, 2, 3, 4, 5, 6] rfl)
                    have zl_216 : (0 : Int32).toInt = (0 : Int) := rfl
                    exact loop210 (((6 - ((0 : Int))).toNat) + 1) 0 ar _ _ _ (by omega) (by omega) (fun _ _ => rfl) (fun i hi => ⟨(htr i hi).2.2.1, (htr i hi).2.2.2⟩) hP hS (lv_sub hl [0, 1, 2, 3, 4, 5, 6] rfl)
              · skip
                have q_185 : d.toInt < (iv 0 11).toInt := i_nle2 ((congrArg Int32.toInt f_184).trans (rfl : (iv 0 11).toInt = (iv 0 11).toInt)) (rfl : d.toInt = d.toInt) c_185
                refine lv_iconst (v := 1) hx hb dX11_tries_78 (by decide) ?_
                refine lv_goto (tgt := 103) hx hb dX11_tries_79 (by decide) ?_
                refine va_put (D := D) (ci := 11) (v := .int 1) (ty := .int) (C := RX11) (T := TX11) (N := 30) hx hb hts inX11 tyX11 tyX11_ok nmX11 hown hK hP (mD hI) hS 0 (m_at11 (Nat.le_of_ble_eq_true rfl) rfl) rfl 13 (by decide) lk2 (fun _ h9 => h9) rfl (by decide +kernel) rfl rfl (Nat.le_of_ble_eq_true rfl) dX11_tries_103 (fun H locs hP _ hS => ?_)
                have hP : va_P D vwCl (MW cy ad (u2 iv_4 0 13 1) ar) H := by rw [← m_pt11_13 (Nat.le_of_ble_eq_true rfl) rfl]; exact hP
                obtain ⟨iv_217, eiv_217⟩ : ∃ z : gIv, z = u2 iv_4 0 13 1 := ⟨_, rfl⟩
                rw [← eiv_217] at hP
                refine lv_iload hx hb dX11_tries_106 (lv_at hl 0 rfl) ?_
                refine lv_if_eq (tgt := 157) hx hb dX11_tries_108 (by decide) (fun c_218 => ?_) (fun c_218 => ?_)
                · skip
                  have q_218 : (1 : Int) = (0 : Int) := i_eq2 (show (1 : Int32).toInt = (1 : Int) from rfl) (show (0 : Int32).toInt = (0 : Int) from rfl) c_218
                  exfalso; omega
                · skip
                  have q_218 : (1 : Int) ≠ (0 : Int) := i_ne2 (show (1 : Int32).toInt = (1 : Int) from rfl) (show (0 : Int32).toInt = (0 : Int) from rfl) c_218
                  refine lv_aload_n hx hb dX11_tries_111 rfl (lv_at hl 1 rfl) ?_
                  refine lv_iload_n hx hb dX11_tries_112 rfl (lv_at hl 4 rfl) ?_
                  refine va_put (D := D) (ci := 11) (v := .int d) (ty := .int) (C := RX11) (T := TX11) (N := 30) hx hb hts inX11 tyX11 tyX11_ok nmX11 hown hK hP (mD hI) hS 0 (m_at11 (Nat.le_of_ble_eq_true rfl) rfl) rfl 11 (by decide) lk3 (fun _ h9 => h9) rfl (by decide +kernel) rfl rfl (Nat.le_of_ble_eq_true rfl) dX11_tries_113 (fun H locs hP _ hS => ?_)
                  have hP : va_P D vwCl (MW cy ad (u2 iv_217 0 11 d) ar) H := by rw [← m_pt11_11 (Nat.le_of_ble_eq_true rfl) rfl]; exact hP
                  obtain ⟨iv_219, eiv_219⟩ : ∃ z : gIv, z = u2 iv_217 0 11 d := ⟨_, rfl⟩
                  rw [← eiv_219] at hP
                  refine lv_aload_n hx hb dX11_tries_116 rfl (lv_at hl 1 rfl) ?_
                  refine lv_iload hx hb dX11_tries_117 (lv_at hl 5 rfl) ?_
                  refine va_put (D := D) (ci := 11) (v := .int f) (ty := .int) (C := RX11) (T := TX11) (N := 30) hx hb hts inX11 tyX11 tyX11_ok nmX11 hown hK hP (mD hI) hS 0 (m_at11 (Nat.le_of_ble_eq_true rfl) rfl) rfl 12 (by decide) lk4 (fun _ h9 => h9) rfl (by decide +kernel) rfl rfl (Nat.le_of_ble_eq_true rfl) dX11_tries_119 (fun H locs hP _ hS => ?_)
                  have hP : va_P D vwCl (MW cy ad (u2 iv_219 0 12 f) ar) H := by rw [← m_pt11_12 (Nat.le_of_ble_eq_true rfl) rfl]; exact hP
                  obtain ⟨iv_220, eiv_220⟩ : ∃ z : gIv, z = u2 iv_219 0 12 f := ⟨_, rfl⟩
                  rw [← eiv_220] at hP
                  refine lv_iconst (v := 0) hx hb dX11_tries_122 (by decide) ?_
                  refine lv_istore (lv' := [(6, .int 0), (5, .int 1), (0, .ref (ad 0)), (1, .int a), (2, .int b), (3, .int d), (4, .int f)]) hx hb dX11_tries_123 hl (by decide) rfl (fun ls hl => ?_)
                  have loop223 : ∀ (n : Nat) (x6_221 : Int32) (ar_222 : gAr) (H : Heap) (locs : List Loc) (ls : Array Slot), ((6 - (x6_221.toInt)).toNat) < n → (0 ≤ (x6_221.toInt) ∧ (x6_221.toInt) ≤ 6) → (∀ c, c ≠ 8 → ar_222 c = ar c) → (∀ i, i < 6 → 0 ≤ (ar_222 8 i).toInt ∧ (ar_222 8 i).toInt ≤ 5) → va_P D vwCl (MW cy ad iv_220 ar_222) H → va_S (mA ad s.heap.size) s.heap H locs → lv_has ls 7 [(6, .int x6_221), (5, .int 1), (0, .ref (ad 0)), (1, .int a), (2, .int b), (3, .int d), (4, .int f)] → W p l e (headSpec wsX11_tries (({ frames := 0, cells := 0, slots := 0, locals := 0 } : Room))).room s m (([.ref (ad 0), .int a, .int b, .int d, .int f] : List Value).toArray) below meth c H locs 0 0 Q (F0 m 125 ls []) := by
                    intro n
                    induction n with
                    | zero => intro x6_221 ar_222 H locs ls hm; omega
                    | succ n ih223 =>
                      intro x6_221 ar_222 H locs ls hm hg0 hga hgt hP hS hl
                      refine lv_iload hx hb dX11_tries_125 (lv_at hl 0 rfl) ?_
                      refine lv_aload_n hx hb dX11_tries_127 rfl (lv_at hl 2 rfl) ?_
                      refine va_get (D := D) (ci := 11) (v := .ref (ad 1)) (C := RX11) (T := TX11) (N := 30) hx hb hts inX11 hown hK hP 0 (m_at11 (Nat.le_of_ble_eq_true rfl) rfl) rfl 0 (by decide) lk0 (fun _ h9 => h9) rfl dX11_tries_128 ?_
                      refine lv_bipush (v := 111) hx hb dX11_tries_131 (by decide) ?_
                      refine va_iald hx hb hK hP 1 0 (m_at12 (Nat.le_of_ble_eq_true rfl) rfl) rfl (g_in (N := 126) (show (111 : Int32).toInt = (111 : Int) from rfl) rfl (by omega) (by omega)) dX11_tries_133 ?_
                      refine lv_topi (fun v_224 ev_224 => ?_)
                      have hv1 : v_224.toInt = (ar 1 111).toInt := by rw [ev_224, hga 1 (by omega)]; rfl
                      refine lv_icmp_ge (tgt := 157) hx hb dX11_tries_134 (by decide) (fun c_225 => ?_) (fun c_225 => ?_)
                      · skip
                        have q_225 : v_224.toInt ≤ x6_221.toInt := i_le2 (rfl : v_224.toInt = v_224.toInt) (rfl : x6_221.toInt = x6_221.toInt) c_225
                        have ht9 : TR ar_222 := fun i hi => ⟨by rw [hga 7 (by omega)]; exact (htr i hi).1, by rw [hga 7 (by omega)]; exact (htr i hi).2.1, (hgt i hi).1, (hgt i hi).2⟩
                        rw [hQ]
                        exact W.vret hx hb hr (fun t ht hW => ⟨⟨(iv_220, ar_222), rfl, ⟨fun a b h => by show iv_220 a b = iv a b; rw [eiv_220, u2_o (by omega)]; rw [eiv_219, u2_o (by omega)]; rw [eiv_217, u2_o (by omega)]; rw [eiv_4, u2_o (by omega)], fun c h5 h6 h7 h8 => hga c h8, hka.fr (hga 1 (by omega)) (hga 5 (by omega)) (hga 6 (by omega)), ht9⟩, by show va_P _ _ _ _; rw [ht]; exact hP⟩, hS.F ht⟩) hS.2.2 dX11_tries_157
                      · skip
                        have q_225 : x6_221.toInt < v_224.toInt := i_nle2 (rfl : v_224.toInt = v_224.toInt) (rfl : x6_221.toInt = x6_221.toInt) c_225
                        refine lv_aload_n hx hb dX11_tries_137 rfl (lv_at hl 2 rfl) ?_
                        refine va_get (D := D) (ci := 11) (v := .ref (ad 8)) (C := RX11) (T := TX11) (N := 30) hx hb hts inX11 hown hK hP 0 (m_at11 (Nat.le_of_ble_eq_true rfl) rfl) rfl 10 (by decide) lk5 (fun _ h9 => h9) rfl dX11_tries_138 ?_
                        refine lv_iload hx hb dX11_tries_141 (lv_at hl 0 rfl) ?_
                        refine lv_aload_n hx hb dX11_tries_143 rfl (lv_at hl 2 rfl) ?_
                        refine va_get (D := D) (ci := 11) (v := .ref (ad 7)) (C := RX11) (T := TX11) (N := 30) hx hb hts inX11 hown hK hP 0 (m_at11 (Nat.le_of_ble_eq_true rfl) rfl) rfl 9 (by decide) lk6 (fun _ h9 => h9) rfl dX11_tries_144 ?_
                        refine lv_iload hx hb dX11_tries_147 (lv_at hl 0 rfl) ?_
                        refine va_iald hx hb hK hP 7 0 (m_at12 (Nat.le_of_ble_eq_true rfl) rfl) rfl (g_in (N := 6) (rfl : x6_221.toInt = x6_221.toInt) rfl (by omega) (by omega)) dX11_tries_149 ?_
                        refine lv_topi (fun v_226 ev_226 => ?_)
                        have hv2 : 0 ≤ v_226.toInt ∧ v_226.toInt ≤ 5 := by
                          rw [ev_226, g_cN (rfl : x6_221.toInt = _), hga 7 (by omega)]
                          exact ⟨(htr (x6_221.toInt).toNat (by omega)).1, (htr (x6_221.toInt).toNat (by omega)).2.1⟩
                        refine va_iast hx hb hK hP (mD hI) hS 8 0 (m_at12 (Nat.le_of_ble_eq_true rfl) rfl) rfl (g_in (N := 6) (rfl : x6_221.toInt = x6_221.toInt) rfl (by omega) (by omega)) dX11_tries_150 (fun H locs hP _ hS => ?_)
                        rw [m_pt12 (Nat.le_of_ble_eq_true rfl) rfl] at hP
                        obtain ⟨ar_227, ear_227⟩ : ∃ z : gAr, z = va_up ar_222 8 (upd (ar_222 8) x6_221.toNatClampNeg v_226) := ⟨_, rfl⟩
                        rw [← ear_227] at hP
                        have hga2 : ∀ c, c ≠ 8 → ar_227 c = ar c := fun c h => by rw [ear_227, ua_o h]; exact hga c h
                        have hgt2 : ∀ i, i < 6 → 0 ≤ (ar_227 8 i).toInt ∧ (ar_227 8 i).toInt ≤ 5 := fun i hi => by
                          rw [ear_227, ua_s, g_cN (rfl : x6_221.toInt = _)]
                          by_cases e : i = (x6_221.toInt).toNat
                          · rw [e, pk_us]; exact hv2
                          · rw [pk_un e]; exact hgt i hi
                        obtain ⟨x6_228, ex6_228⟩ : ∃ y : Int32, y = x6_221 + 1 := ⟨_, rfl⟩
                        have tx6_228 : x6_228.toInt = x6_221.toInt + (1 : Int) := i_add (rfl : x6_221.toInt = x6_221.toInt) (show (1 : Int32).toInt = (1 : Int) from rfl) (by omega) (by omega) ex6_228
                        refine lv_iinc (v := x6_228) (lv' := [(6, .int x6_228), (5, .int 1), (0, .ref (ad 0)), (1, .int a), (2, .int b), (3, .int d), (4, .int f)]) hx hb dX11_tries_151 hl (k := 0) rfl (by rw [ex6_228]; rfl) (by decide) rfl (fun ls hl => ?_)
                        refine lv_goto (tgt := 125) hx hb dX11_tries_154 (by decide) ?_
                        exact ih223 x6_228 ar_227 _ _ _ (by omega) (by omega) hga2 hgt2 hP hS (lv_sub hl [0, 1, 2, 3, 4, 5, 6] rfl)
                  have zl_229 : (0 : Int32).toInt = (0 : Int) := rfl
                  exact loop223 (((6 - ((0 : Int))).toNat) + 1) 0 ar _ _ _ (by omega) (by omega) (fun _ _ => rfl) (fun i hi => ⟨(htr i hi).2.2.1, (htr i hi).2.2.2⟩) hP hS (lv_sub hl [0, 1, 2, 3, 4, 5, 6] rfl)
set_option maxHeartbeats 4000000 in
set_option maxRecDepth 100000 in
theorem c_tries_1 (l : Launch) (D : va_G) (cy : Nat → ClassId) (ad : Nat → Nat) (hI : mInj ad) (sz : Nat) (iv : gIv) (ar : gAr) (a : Int32) (b : Int32) (d : Int32) (f : Int32) (hsb : SB (ar 1)) (hka : KA ar) (htr : TR ar) (ha : a.toInt = (ar 1 111).toInt - 1) (ha0 : 0 ≤ a.toInt) : Met l yX11_tries wsX11_tries ({ frames := 4, cells := 0, slots := 0, locals := 96 } : Room) (va_Pc [.ref (ad 0), .int a, .int b, .int d, .int f] (mPre D cy ad sz iv ar)) (va_Qv (fun (u : gIv × gAr) => (∀ x y, ¬ (x = 0 ∧ (y = 11 ∨ y = 12 ∨ y = 13 ∨ y = 14)) → u.1 x y = iv x y) ∧ (∀ c, c ≠ 5 → c ≠ 6 → c ≠ 7 → c ≠ 8 → u.2 c = ar c) ∧ KA u.2 ∧ TR u.2) (mPost D cy ad) (mA ad sz)) 0 0 (mA ad sz) := by
  refine Met.ofW (cc := cX11_tries) (maxL := 7) (ret := none) (by decide) rfl ?_
  intro p e s m args below meth c s₁ B hml hv
  obtain ⟨rfl, rfl, hP, hK, hSt, hNw⟩ := hv
  have hx := B.exec
  have hb := B.bytes
  have hr := B.returns
  have hts := atoms_spec (ws := wsX11_tries) B.pre
  have hown : s.vm.findClass RX11 = some m.cls := findClass_of_methodNamed B.named
  have hlocks := B.notSynchronized
  have hS : va_S (mA ad s.heap.size) s.heap s.heap [] := va_S.rf
  have inX11 : ∀ w ∈ u_ws RX11 TX11 30, w ∈ wsX11_tries := by decide +kernel
  have lk0 := hts (.fieldLink RX11 9 "FormationPlannerModel" "s" "[I") (by decide +kernel)
  have lk1 := hts (.constant RX11 124 100000) (by decide +kernel)
  have lk2 := hts (.fieldLink RX11 29 "FormationPlannerModel" "tried" "[I") (by decide +kernel)
  have lk3 := hts (.methodLink RX11 151 Lib.Math.max.name) (by decide +kernel)
  have lk4 := hts (.static Lib.Math.max.name) (by decide +kernel)
  have lk5 := hts (.initialized "java/lang/Math") (by decide +kernel)
  have lk6 := hts (.code Lib.Math.max.name Lib.Math.max.code 2 (some .int)) (by decide +kernel)
  have hl := lv_entry ([.ref (ad 0), .int a, .int b, .int d, .int f]) (n := 7) (Nat.le_of_ble_eq_true rfl)
  rw [lg_entry_eq]
  generalize (lg_sl ([.ref (ad 0), .int a, .int b, .int d, .int f]) ++ List.replicate (7 - (lg_sl ([.ref (ad 0), .int a, .int b, .int d, .int f])).length) Slot.unset).toArray = ls at hl ⊢
  have hl : lv_has ls 7 [(0, .ref (ad 0)), (1, .int a), (2, .int b), (3, .int d), (4, .int f)] := hl
  obtain ⟨Q, hQ⟩ : ∃ Q, Q = MQ below (va_Qv (fun (u : gIv × gAr) => (∀ x y, ¬ (x = 0 ∧ (y = 11 ∨ y = 12 ∨ y = 13 ∨ y = 14)) → u.1 x y = iv x y) ∧ (∀ c, c ≠ 5 → c ≠ 6 → c ≠ 7 → c ≠ 8 → u.2 c = ar c) ∧ KA u.2 ∧ TR u.2) (mPost D cy ad) (mA ad s.heap.size)) (([.ref (ad 0), .int a, .int b, .int d, .int f] : List Value).toArray) s 0 0 (mA ad s.heap.size) := ⟨_, rfl⟩
  rw [← hQ]
  obtain ⟨hs1, hs2, hs3, hs4, hs5⟩ := id hsb
  refine lv_iload_n hx hb dX11_tries_0 rfl (lv_at hl 1 rfl) ?_
  refine lv_aload_n hx hb dX11_tries_1 rfl (lv_at hl 0 rfl) ?_
  refine va_get (D := D) (ci := 11) (v := .ref (ad 1)) (C := RX11) (T := TX11) (N := 30) hx hb hts inX11 hown hK hP 0 (m_at11 (Nat.le_of_ble_eq_true rfl) rfl) rfl 0 (by decide) lk0 (fun _ h9 => h9) rfl dX11_tries_2 ?_
  refine lv_bipush (v := 111) hx hb dX11_tries_5 (by decide) ?_
  refine va_iald hx hb hK hP 1 0 (m_at12 (Nat.le_of_ble_eq_true rfl) rfl) rfl (g_in (N := 126) (show (111 : Int32).toInt = (111 : Int) from rfl) rfl (by omega) (by omega)) dX11_tries_7 ?_
  refine lv_topi (fun v_1 ev_1 => ?_)
  have hv0 : v_1.toInt = (ar 1 111).toInt := by rw [ev_1]; rfl
  refine lv_icmp_ne (tgt := 158) hx hb dX11_tries_8 (by decide) (fun c_2 => ?_) (fun c_2 => ?_)
  · skip
    have q_2 : a.toInt ≠ v_1.toInt := i_ne2 (rfl : a.toInt = a.toInt) (rfl : v_1.toInt = v_1.toInt) c_2
    refine lv_iconst (v := 0) hx hb dX11_tries_158 (by decide) ?_
    refine lv_istore (lv' := [(5, .int 0), (0, .ref (ad 0)), (1, .int a), (2, .int b), (3, .int d), (4, .int f)]) hx hb dX11_tries_159 hl (by decide) rfl (fun ls hl => ?_)
    have loop5 : ∀ (n : Nat) (x5_3 : Int32) (iv_4 : gIv) (ar_4 : gAr) (H : Heap) (locs : List Loc) (ls : Array Slot), ((6 - (x5_3.toInt)).toNat) < n → (0 ≤ (x5_3.toInt) ∧ (x5_3.toInt) ≤ 6) → (∀ x y, ¬ (x = 0 ∧ (y = 11 ∨ y = 12 ∨ y = 13 ∨ y = 14)) → iv_4 x y = iv x y) → (∀ c, c ≠ 5 → c ≠ 6 → c ≠ 7 → c ≠ 8 → ar_4 c = ar c) → (KA ar_4) → (TR ar_4) → va_P D vwCl (MW cy ad iv_4 ar_4) H → va_S (mA ad s.heap.size) s.heap H locs → lv_has ls 7 [(5, .int x5_3), (0, .ref (ad 0)), (1, .int a), (2, .int b), (3, .int d), (4, .int f)] → W p l e (headSpec wsX11_tries (({ frames := 4, cells := 0, slots := 0, locals := 96 } : Room))).room s m (([.ref (ad 0), .int a, .int b, .int d, .int f] : List Value).toArray) below meth c H locs 0 0 Q (F0 m 161 ls []) := by
      intro n
      induction n with
      | zero => intro x5_3 iv_4 ar_4 H locs ls hm; omega
      | succ n ih5 =>
        intro x5_3 iv_4 ar_4 H locs ls hm hg0 hgi hga hgk hgt hP hS hl
        refine lv_iload hx hb dX11_tries_161 (lv_at hl 0 rfl) ?_
        refine lv_aload_n hx hb dX11_tries_163 rfl (lv_at hl 1 rfl) ?_
        refine va_get (D := D) (ci := 11) (v := .ref (ad 1)) (C := RX11) (T := TX11) (N := 30) hx hb hts inX11 hown hK hP 0 (m_at11 (Nat.le_of_ble_eq_true rfl) rfl) rfl 0 (by decide) lk0 (fun _ h9 => h9) rfl dX11_tries_164 ?_
        refine lv_bipush (v := 118) hx hb dX11_tries_167 (by decide) ?_
        refine va_iald hx hb hK hP 1 0 (m_at12 (Nat.le_of_ble_eq_true rfl) rfl) rfl (g_in (N := 126) (show (118 : Int32).toInt = (118 : Int) from rfl) rfl (by omega) (by omega)) dX11_tries_169 ?_
        refine lv_topi (fun v_6 ev_6 => ?_)
        have hv1 : v_6.toInt = (ar 1 118).toInt := by rw [ev_6, hga 1 (by omega) (by omega) (by omega) (by omega)]; rfl
        refine lv_icmp_ge (tgt := 252) hx hb dX11_tries_170 (by decide) (fun c_7 => ?_) (fun c_7 => ?_)
        · skip
          have q_7 : v_6.toInt ≤ x5_3.toInt := i_le2 (rfl : v_6.toInt = v_6.toInt) (rfl : x5_3.toInt = x5_3.toInt) c_7
          rw [hQ]
          exact W.vret hx hb hr (fun t ht hW => ⟨⟨(iv_4, ar_4), rfl, ⟨hgi, hga, hgk, hgt⟩, by show va_P _ _ _ _; rw [ht]; exact hP⟩, hS.F ht⟩) hS.2.2 dX11_tries_252
        · skip
          have q_7 : x5_3.toInt < v_6.toInt := i_nle2 (rfl : v_6.toInt = v_6.toInt) (rfl : x5_3.toInt = x5_3.toInt) c_7
          refine lv_aload_n hx hb dX11_tries_173 rfl (lv_at hl 1 rfl) ?_
          refine lv_aload_n hx hb dX11_tries_174 rfl (lv_at hl 1 rfl) ?_
          refine va_get (D := D) (ci := 11) (v := .ref (ad 1)) (C := RX11) (T := TX11) (N := 30) hx hb hts inX11 hown hK hP 0 (m_at11 (Nat.le_of_ble_eq_true rfl) rfl) rfl 0 (by decide) lk0 (fun _ h9 => h9) rfl dX11_tries_175 ?_
          refine lv_bipush (v := 112) hx hb dX11_tries_178 (by decide) ?_
          refine lv_iload_n hx hb dX11_tries_180 rfl (lv_at hl 2 rfl) ?_
          refine lv_iadd hx hb dX11_tries_181 ?_
          refine lv_topi (fun v_8 ev_8 => ?_)
          have tv_8 : v_8.toInt = (112 : Int) + a.toInt := i_add (show (112 : Int32).toInt = (112 : Int) from rfl) (rfl : a.toInt = a.toInt) (by omega) (by omega) ev_8
          refine va_iald hx hb hK hP 1 0 (m_at12 (Nat.le_of_ble_eq_true rfl) rfl) rfl (g_in (N := 126) (rfl : v_8.toInt = v_8.toInt) rfl (by omega) (by omega)) dX11_tries_182 ?_
          refine lv_topi (fun v_9 ev_9 => ?_)
          have hv2 : 0 ≤ v_9.toInt ∧ v_9.toInt < 108 := by
            rw [ev_9, g_cN (rfl : v_8.toInt = _), hga 1 (by omega) (by omega) (by omega) (by omega), show (v_8.toInt).toNat = 112 + a.toInt.toNat from by omega]
            exact ⟨(hs5 a.toInt.toNat (by omega)).1, (hs5 a.toInt.toNat (by omega)).2.1⟩
          refine lv_aload_n hx hb dX11_tries_183 rfl (lv_at hl 1 rfl) ?_
          refine va_get (D := D) (ci := 11) (v := .ref (ad 1)) (C := RX11) (T := TX11) (N := 30) hx hb hts inX11 hown hK hP 0 (m_at11 (Nat.le_of_ble_eq_true rfl) rfl) rfl 0 (by decide) lk0 (fun _ h9 => h9) rfl dX11_tries_184 ?_
          refine lv_bipush (v := 119) hx hb dX11_tries_187 (by decide) ?_
          refine lv_iload hx hb dX11_tries_189 (lv_at hl 0 rfl) ?_
          refine lv_iadd hx hb dX11_tries_191 ?_
          refine lv_topi (fun v_10 ev_10 => ?_)
          have tv_10 : v_10.toInt = (119 : Int) + x5_3.toInt := i_add (show (119 : Int32).toInt = (119 : Int) from rfl) (rfl : x5_3.toInt = x5_3.toInt) (by omega) (by omega) ev_10
          refine va_iald hx hb hK hP 1 0 (m_at12 (Nat.le_of_ble_eq_true rfl) rfl) rfl (g_in (N := 126) (rfl : v_10.toInt = v_10.toInt) rfl (by omega) (by omega)) dX11_tries_192 ?_
          refine lv_topi (fun v_11 ev_11 => ?_)
          have hv3 : 0 ≤ v_11.toInt ∧ v_11.toInt < 108 := by
            rw [ev_11, g_cN (rfl : v_10.toInt = _), hga 1 (by omega) (by omega) (by omega) (by omega), show (v_10.toInt).toNat = 119 + (x5_3.toInt).toNat from by omega]
            exact ⟨(hs5 (x5_3.toInt).toNat (by omega)).2.2.1, (hs5 (x5_3.toInt).toNat (by omega)).2.2.2⟩
          refine m_calli (va_runV (As := [.int v_9, .int v_11]) (rest := []) ⟨hx, hb, hml, hown, hts⟩ (c_X11_time l D cy ad hI _ iv_4 ar_4 v_9 v_11 (by omega) (by omega) hgk) (cwV 2 hts gX11_tries_X11_time rfl rfl rfl (by decide +kernel) ⟨Nat.le_of_ble_eq_true rfl, Nat.le_of_ble_eq_true rfl⟩) (m_preV hP hK hSt hNw hS (m_at11 (Nat.le_of_ble_eq_true rfl) rfl) rfl) rfl rfl hl.1 rfl (lv_room (Nat.le_of_ble_eq_true rfl)) dX11_tries_193 ⟨Nat.zero_le _, Nat.zero_le _⟩) hS (fun r_12 iv_12 ar_12 H locs w_12 hP hS => ?_)
          try dsimp only at w_12
          have wi_12 := (w_12.2.1).symm
          subst wi_12
          obtain ⟨-, -, wf, wk, -, -⟩ := w_12
          have hi2 := hgi
          have ha2 : ∀ c, c ≠ 5 → c ≠ 6 → c ≠ 7 → c ≠ 8 → ar_12 c = ar c := fun c h5 h6 h7 h8 => (wf c h5 h6).trans (hga c h5 h6 h7 h8)
          have hk2 := wk
          have ht2 : TR ar_12 := hgt.fr (wf 7 (by omega) (by omega)) (wf 8 (by omega) (by omega))
          refine lv_istore (lv' := [(6, .int r_12), (5, .int x5_3), (0, .ref (ad 0)), (1, .int a), (2, .int b), (3, .int d), (4, .int f)]) hx hb dX11_tries_196 hl (by decide) rfl (fun ls hl => ?_)
          refine lv_iload_n hx hb dX11_tries_198 rfl (lv_at hl 4 rfl) ?_
          refine lv_iload hx hb dX11_tries_199 (lv_at hl 1 rfl) ?_
          refine lv_ishr hx hb dX11_tries_201 ?_
          refine lv_topi (fun v_13 ev_13 => ?_)
          refine lv_iconst (v := 1) hx hb dX11_tries_202 (by decide) ?_
          refine lv_iand hx hb dX11_tries_203 ?_
          refine lv_topi (fun v_14 ev_14 => ?_)
          refine lv_if_ne (tgt := 246) hx hb dX11_tries_204 (by decide) (fun c_15 => ?_) (fun c_15 => ?_)
          · skip
            have q_15 : v_14.toInt ≠ (0 : Int) := i_ne2 (rfl : v_14.toInt = v_14.toInt) (show (0 : Int32).toInt = (0 : Int) from rfl) c_15
            obtain ⟨x5_16, ex5_16⟩ : ∃ y : Int32, y = x5_3 + 1 := ⟨_, rfl⟩
            have tx5_16 : x5_16.toInt = x5_3.toInt + (1 : Int) := i_add (rfl : x5_3.toInt = x5_3.toInt) (show (1 : Int32).toInt = (1 : Int) from rfl) (by omega) (by omega) ex5_16
            refine lv_iinc (v := x5_16) (lv' := [(5, .int x5_16), (6, .int r_12), (0, .ref (ad 0)), (1, .int a), (2, .int b), (3, .int d), (4, .int f)]) hx hb dX11_tries_246 hl (k := 1) rfl (by rw [ex5_16]; rfl) (by decide) rfl (fun ls hl => ?_)
            refine lv_goto (tgt := 161) hx hb dX11_tries_249 (by decide) ?_
            exact ih5 x5_16 iv_4 ar_12 _ _ _ (by omega) (by omega) hi2 ha2 hk2 ht2 hP hS (lv_sub hl [0, 2, 3, 4, 5, 6] rfl)
          · skip
            have q_15 : v_14.toInt = (0 : Int) := i_eq2 (rfl : v_14.toInt = v_14.toInt) (show (0 : Int32).toInt = (0 : Int) from rfl) c_15
            refine lv_iload hx hb dX11_tries_207 (lv_at hl 0 rfl) ?_
            refine lv_ldc (v := 100000) hx hb hown lk1 dX11_tries_209 ?_
            refine lv_icmp_ge (tgt := 246) hx hb dX11_tries_211 (by decide) (fun c_17 => ?_) (fun c_17 => ?_)
            · skip
              have q_17 : (100000 : Int) ≤ r_12.toInt := i_le2 (show (100000 : Int32).toInt = (100000 : Int) from rfl) (rfl : r_12.toInt = r_12.toInt) c_17
              obtain ⟨x5_18, ex5_18⟩ : ∃ y : Int32, y = x5_3 + 1 := ⟨_, rfl⟩
              have tx5_18 : x5_18.toInt = x5_3.toInt + (1 : Int) := i_add (rfl : x5_3.toInt = x5_3.toInt) (show (1 : Int32).toInt = (1 : Int) from rfl) (by omega) (by omega) ex5_18
              refine lv_iinc (v := x5_18) (lv' := [(5, .int x5_18), (6, .int r_12), (0, .ref (ad 0)), (1, .int a), (2, .int b), (3, .int d), (4, .int f)]) hx hb dX11_tries_246 hl (k := 1) rfl (by rw [ex5_18]; rfl) (by decide) rfl (fun ls hl => ?_)
              refine lv_goto (tgt := 161) hx hb dX11_tries_249 (by decide) ?_
              exact ih5 x5_18 iv_4 ar_12 _ _ _ (by omega) (by omega) hi2 ha2 hk2 ht2 hP hS (lv_sub hl [0, 2, 3, 4, 5, 6] rfl)
            · skip
              have q_17 : r_12.toInt < (100000 : Int) := i_nle2 (show (100000 : Int32).toInt = (100000 : Int) from rfl) (rfl : r_12.toInt = r_12.toInt) c_17
              refine lv_aload_n hx hb dX11_tries_214 rfl (lv_at hl 2 rfl) ?_
              refine va_get (D := D) (ci := 11) (v := .ref (ad 7)) (C := RX11) (T := TX11) (N := 30) hx hb hts inX11 hown hK hP 0 (m_at11 (Nat.le_of_ble_eq_true rfl) rfl) rfl 9 (by decide) lk2 (fun _ h9 => h9) rfl dX11_tries_215 ?_
              refine lv_iload_n hx hb dX11_tries_218 rfl (lv_at hl 3 rfl) ?_
              refine lv_iload hx hb dX11_tries_219 (lv_at hl 1 rfl) ?_
              refine va_iast hx hb hK hP (mD hI) hS 7 0 (m_at12 (Nat.le_of_ble_eq_true rfl) rfl) rfl (g_in (N := 6) (rfl : a.toInt = a.toInt) rfl (by omega) (by omega)) dX11_tries_221 (fun H locs hP _ hS => ?_)
              rw [m_pt12 (Nat.le_of_ble_eq_true rfl) rfl] at hP
              obtain ⟨ar_19, ear_19⟩ : ∃ z : gAr, z = va_up ar_12 7 (upd (ar_12 7) a.toNatClampNeg x5_3) := ⟨_, rfl⟩
              rw [← ear_19] at hP
              have ha3 : ∀ c, c ≠ 5 → c ≠ 6 → c ≠ 7 → c ≠ 8 → ar_19 c = ar c := fun c h5 h6 h7 h8 => by rw [ear_19, ua_o h7]; exact ha2 c h5 h6 h7 h8
              have hh1 := ha3 1 (by omega) (by omega) (by omega) (by omega)
              have hk3 : KA ar_19 := hk2.fr (by rw [ear_19, ua_o (by omega)]) (by rw [ear_19, ua_o (by omega)]) (by rw [ear_19, ua_o (by omega)])
              have ht3 : TR ar_19 := fun i hi => by
                have h9 := ht2 i hi
                rw [ear_19, ua_s, ua_o (by omega : (8 : Nat) ≠ 7), g_cN (rfl : a.toInt = _)]
                by_cases e : i = (a.toInt).toNat
                · rw [e, pk_us]; exact ⟨by omega, by omega, by rw [← e]; exact h9.2.2.1, by rw [← e]; exact h9.2.2.2⟩
                · rw [pk_un e]; exact h9
              refine lv_aload_n hx hb dX11_tries_222 rfl (lv_at hl 2 rfl) ?_
              refine lv_iload_n hx hb dX11_tries_223 rfl (lv_at hl 3 rfl) ?_
              refine lv_iconst (v := 1) hx hb dX11_tries_224 (by decide) ?_
              refine lv_iadd hx hb dX11_tries_225 ?_
              refine lv_topi (fun v_20 ev_20 => ?_)
              have tv_20 : v_20.toInt = a.toInt + (1 : Int) := i_add (rfl : a.toInt = a.toInt) (show (1 : Int32).toInt = (1 : Int) from rfl) (by omega) (by omega) ev_20
              refine lv_iload_n hx hb dX11_tries_226 rfl (lv_at hl 4 rfl) ?_
              refine lv_iconst (v := 1) hx hb dX11_tries_227 (by decide) ?_
              refine lv_iload hx hb dX11_tries_228 (lv_at hl 1 rfl) ?_
              refine lv_ishl hx hb dX11_tries_230 ?_
              refine lv_topi (fun v_21 ev_21 => ?_)
              refine lv_ior hx hb dX11_tries_231 ?_
              refine lv_topi (fun v_22 ev_22 => ?_)
              refine lv_iload_n hx hb dX11_tries_232 rfl (lv_at hl 5 rfl) ?_
              refine lv_iload hx hb dX11_tries_233 (lv_at hl 0 rfl) ?_
              refine va_mmax (rest := [.int v_22, .int v_20, .ref (ad 0)]) hx hb (hml.trans hl.1.symm) hown lk3 lk4 lk5 lk6 (Nat.le_of_ble_eq_true rfl) (Nat.le_of_ble_eq_true rfl) (Nat.zero_le _) (Nat.zero_le _) dX11_tries_235 ?_
              refine lv_topi (fun v_23 ev_23 => ?_)
              have tv_23 : v_23.toInt = max d.toInt r_12.toInt := i_max (rfl : d.toInt = d.toInt) (rfl : r_12.toInt = r_12.toInt) ev_23
              refine lv_iload hx hb dX11_tries_238 (lv_at hl 6 rfl) ?_
              refine lv_iload hx hb dX11_tries_240 (lv_at hl 0 rfl) ?_
              refine lv_iadd hx hb dX11_tries_242 ?_
              refine lv_topi (fun v_24 ev_24 => ?_)
              refine m_callv (va_runV (As := [.int v_20, .int v_22, .int v_23, .int v_24]) (rest := []) ⟨hx, hb, hml, hown, hts⟩ (c_tries_0 l D cy ad hI _ iv_4 ar_19 v_20 v_22 v_23 v_24 (by rw [hh1]; exact hsb) hk3 ht3 (by rw [hh1]; omega)) (cwV 4 hts gX11_tries_X11_tries rfl rfl rfl (by decide +kernel) ⟨Nat.le_of_ble_eq_true rfl, Nat.le_of_ble_eq_true rfl⟩) (m_preV hP hK hSt hNw hS (m_at11 (Nat.le_of_ble_eq_true rfl) rfl) rfl) rfl rfl hl.1 rfl (lv_room (Nat.le_of_ble_eq_true rfl)) dX11_tries_243 ⟨Nat.zero_le _, Nat.zero_le _⟩) hS (fun iv_25 ar_25 H locs w_25 hP hS => ?_)
              try dsimp only at w_25
              obtain ⟨wi, wa, wk4, wt4⟩ := w_25
              have hi4 : ∀ x y, ¬ (x = 0 ∧ (y = 11 ∨ y = 12 ∨ y = 13 ∨ y = 14)) → iv_25 x y = iv x y := fun x y h => (wi x y h).trans (hi2 x y h)
              have ha4 : ∀ c, c ≠ 5 → c ≠ 6 → c ≠ 7 → c ≠ 8 → ar_25 c = ar c := fun c h5 h6 h7 h8 => (wa c h5 h6 h7 h8).trans (ha3 c h5 h6 h7 h8)
              have hi2 := hi4
              have ha2 := ha4
              have hk2 := wk4
              have ht2 := wt4
              obtain ⟨x5_26, ex5_26⟩ : ∃ y : Int32, y = x5_3 + 1 := ⟨_, rfl⟩
              have tx5_26 : x5_26.toInt = x5_3.toInt + (1 : Int) := i_add (rfl : x5_3.toInt = x5_3.toInt) (show (1 : Int32).toInt = (1 : Int) from rfl) (by omega) (by omega) ex5_26
              refine lv_iinc (v := x5_26) (lv' := [(5, .int x5_26), (6, .int r_12), (0, .ref (ad 0)), (1, .int a), (2, .int b), (3, .int d), (4, .int f)]) hx hb dX11_tries_246 hl (k := 1) rfl (by rw [ex5_26]; rfl) (by decide) rfl (fun ls hl => ?_)
              refine lv_goto (tgt := 161) hx hb dX11_tries_249 (by decide) ?_
              exact ih5 x5_26 iv_25 ar_25 _ _ _ (by omega) (by omega) hi2 ha2 hk2 ht2 hP hS (lv_sub hl [0, 2, 3, 4, 5, 6] rfl)
    have zl_27 : (0 : Int32).toInt = (0 : Int) := rfl
    exact loop5 (((6 - ((0 : Int))).toNat) + 1) 0 iv ar _ _ _ (by omega) (by omega) (fun _ _ _ => rfl) (fun _ _ _ _ _ => rfl) hka htr hP hS (lv_sub hl [0, 1, 2, 3, 4, 5] rfl)
  · skip
    have q_2 : a.toInt = v_1.toInt := i_eq2 (rfl : a.toInt = a.toInt) (rfl : v_1.toInt = v_1.toInt) c_2
    exfalso; omega
set_option maxHeartbeats 4000000 in
set_option maxRecDepth 100000 in
theorem c_tries_2 (l : Launch) (D : va_G) (cy : Nat → ClassId) (ad : Nat → Nat) (hI : mInj ad) (sz : Nat) (iv : gIv) (ar : gAr) (a : Int32) (b : Int32) (d : Int32) (f : Int32) (hsb : SB (ar 1)) (hka : KA ar) (htr : TR ar) (ha : a.toInt = (ar 1 111).toInt - 2) (ha0 : 0 ≤ a.toInt) : Met l yX11_tries wsX11_tries ({ frames := 5, cells := 0, slots := 0, locals := 122 } : Room) (va_Pc [.ref (ad 0), .int a, .int b, .int d, .int f] (mPre D cy ad sz iv ar)) (va_Qv (fun (u : gIv × gAr) => (∀ x y, ¬ (x = 0 ∧ (y = 11 ∨ y = 12 ∨ y = 13 ∨ y = 14)) → u.1 x y = iv x y) ∧ (∀ c, c ≠ 5 → c ≠ 6 → c ≠ 7 → c ≠ 8 → u.2 c = ar c) ∧ KA u.2 ∧ TR u.2) (mPost D cy ad) (mA ad sz)) 0 0 (mA ad sz) := by
  refine Met.ofW (cc := cX11_tries) (maxL := 7) (ret := none) (by decide) rfl ?_
  intro p e s m args below meth c s₁ B hml hv
  obtain ⟨rfl, rfl, hP, hK, hSt, hNw⟩ := hv
  have hx := B.exec
  have hb := B.bytes
  have hr := B.returns
  have hts := atoms_spec (ws := wsX11_tries) B.pre
  have hown : s.vm.findClass RX11 = some m.cls := findClass_of_methodNamed B.named
  have hlocks := B.notSynchronized
  have hS : va_S (mA ad s.heap.size) s.heap s.heap [] := va_S.rf
  have inX11 : ∀ w ∈ u_ws RX11 TX11 30, w ∈ wsX11_tries := by decide +kernel
  have lk0 := hts (.fieldLink RX11 9 "FormationPlannerModel" "s" "[I") (by decide +kernel)
  have lk1 := hts (.constant RX11 124 100000) (by decide +kernel)
  have lk2 := hts (.fieldLink RX11 29 "FormationPlannerModel" "tried" "[I") (by decide +kernel)
  have lk3 := hts (.methodLink RX11 151 Lib.Math.max.name) (by decide +kernel)
  have lk4 := hts (.static Lib.Math.max.name) (by decide +kernel)
  have lk5 := hts (.initialized "java/lang/Math") (by decide +kernel)
  have lk6 := hts (.code Lib.Math.max.name Lib.Math.max.code 2 (some .int)) (by decide +kernel)
  have hl := lv_entry ([.ref (ad 0), .int a, .int b, .int d, .int f]) (n := 7) (Nat.le_of_ble_eq_true rfl)
  rw [lg_entry_eq]
  generalize (lg_sl ([.ref (ad 0), .int a, .int b, .int d, .int f]) ++ List.replicate (7 - (lg_sl ([.ref (ad 0), .int a, .int b, .int d, .int f])).length) Slot.unset).toArray = ls at hl ⊢
  have hl : lv_has ls 7 [(0, .ref (ad 0)), (1, .int a), (2, .int b), (3, .int d), (4, .int f)] := hl
  obtain ⟨Q, hQ⟩ : ∃ Q, Q = MQ below (va_Qv (fun (u : gIv × gAr) => (∀ x y, ¬ (x = 0 ∧ (y = 11 ∨ y = 12 ∨ y = 13 ∨ y = 14)) → u.1 x y = iv x y) ∧ (∀ c, c ≠ 5 → c ≠ 6 → c ≠ 7 → c ≠ 8 → u.2 c = ar c) ∧ KA u.2 ∧ TR u.2) (mPost D cy ad) (mA ad s.heap.size)) (([.ref (ad 0), .int a, .int b, .int d, .int f] : List Value).toArray) s 0 0 (mA ad s.heap.size) := ⟨_, rfl⟩
  rw [← hQ]
  obtain ⟨hs1, hs2, hs3, hs4, hs5⟩ := id hsb
  refine lv_iload_n hx hb dX11_tries_0 rfl (lv_at hl 1 rfl) ?_
  refine lv_aload_n hx hb dX11_tries_1 rfl (lv_at hl 0 rfl) ?_
  refine va_get (D := D) (ci := 11) (v := .ref (ad 1)) (C := RX11) (T := TX11) (N := 30) hx hb hts inX11 hown hK hP 0 (m_at11 (Nat.le_of_ble_eq_true rfl) rfl) rfl 0 (by decide) lk0 (fun _ h9 => h9) rfl dX11_tries_2 ?_
  refine lv_bipush (v := 111) hx hb dX11_tries_5 (by decide) ?_
  refine va_iald hx hb hK hP 1 0 (m_at12 (Nat.le_of_ble_eq_true rfl) rfl) rfl (g_in (N := 126) (show (111 : Int32).toInt = (111 : Int) from rfl) rfl (by omega) (by omega)) dX11_tries_7 ?_
  refine lv_topi (fun v_1 ev_1 => ?_)
  have hv0 : v_1.toInt = (ar 1 111).toInt := by rw [ev_1]; rfl
  refine lv_icmp_ne (tgt := 158) hx hb dX11_tries_8 (by decide) (fun c_2 => ?_) (fun c_2 => ?_)
  · skip
    have q_2 : a.toInt ≠ v_1.toInt := i_ne2 (rfl : a.toInt = a.toInt) (rfl : v_1.toInt = v_1.toInt) c_2
    refine lv_iconst (v := 0) hx hb dX11_tries_158 (by decide) ?_
    refine lv_istore (lv' := [(5, .int 0), (0, .ref (ad 0)), (1, .int a), (2, .int b), (3, .int d), (4, .int f)]) hx hb dX11_tries_159 hl (by decide) rfl (fun ls hl => ?_)
    have loop5 : ∀ (n : Nat) (x5_3 : Int32) (iv_4 : gIv) (ar_4 : gAr) (H : Heap) (locs : List Loc) (ls : Array Slot), ((6 - (x5_3.toInt)).toNat) < n → (0 ≤ (x5_3.toInt) ∧ (x5_3.toInt) ≤ 6) → (∀ x y, ¬ (x = 0 ∧ (y = 11 ∨ y = 12 ∨ y = 13 ∨ y = 14)) → iv_4 x y = iv x y) → (∀ c, c ≠ 5 → c ≠ 6 → c ≠ 7 → c ≠ 8 → ar_4 c = ar c) → (KA ar_4) → (TR ar_4) → va_P D vwCl (MW cy ad iv_4 ar_4) H → va_S (mA ad s.heap.size) s.heap H locs → lv_has ls 7 [(5, .int x5_3), (0, .ref (ad 0)), (1, .int a), (2, .int b), (3, .int d), (4, .int f)] → W p l e (headSpec wsX11_tries (({ frames := 5, cells := 0, slots := 0, locals := 122 } : Room))).room s m (([.ref (ad 0), .int a, .int b, .int d, .int f] : List Value).toArray) below meth c H locs 0 0 Q (F0 m 161 ls []) := by
      intro n
      induction n with
      | zero => intro x5_3 iv_4 ar_4 H locs ls hm; omega
      | succ n ih5 =>
        intro x5_3 iv_4 ar_4 H locs ls hm hg0 hgi hga hgk hgt hP hS hl
        refine lv_iload hx hb dX11_tries_161 (lv_at hl 0 rfl) ?_
        refine lv_aload_n hx hb dX11_tries_163 rfl (lv_at hl 1 rfl) ?_
        refine va_get (D := D) (ci := 11) (v := .ref (ad 1)) (C := RX11) (T := TX11) (N := 30) hx hb hts inX11 hown hK hP 0 (m_at11 (Nat.le_of_ble_eq_true rfl) rfl) rfl 0 (by decide) lk0 (fun _ h9 => h9) rfl dX11_tries_164 ?_
        refine lv_bipush (v := 118) hx hb dX11_tries_167 (by decide) ?_
        refine va_iald hx hb hK hP 1 0 (m_at12 (Nat.le_of_ble_eq_true rfl) rfl) rfl (g_in (N := 126) (show (118 : Int32).toInt = (118 : Int) from rfl) rfl (by omega) (by omega)) dX11_tries_169 ?_
        refine lv_topi (fun v_6 ev_6 => ?_)
        have hv1 : v_6.toInt = (ar 1 118).toInt := by rw [ev_6, hga 1 (by omega) (by omega) (by omega) (by omega)]; rfl
        refine lv_icmp_ge (tgt := 252) hx hb dX11_tries_170 (by decide) (fun c_7 => ?_) (fun c_7 => ?_)
        · skip
          have q_7 : v_6.toInt ≤ x5_3.toInt := i_le2 (rfl : v_6.toInt = v_6.toInt) (rfl : x5_3.toInt = x5_3.toInt) c_7
          rw [hQ]
          exact W.vret hx hb hr (fun t ht hW => ⟨⟨(iv_4, ar_4), rfl, ⟨hgi, hga, hgk, hgt⟩, by show va_P _ _ _ _; rw [ht]; exact hP⟩, hS.F ht⟩) hS.2.2 dX11_tries_252
        · skip
          have q_7 : x5_3.toInt < v_6.toInt := i_nle2 (rfl : v_6.toInt = v_6.toInt) (rfl : x5_3.toInt = x5_3.toInt) c_7
          refine lv_aload_n hx hb dX11_tries_173 rfl (lv_at hl 1 rfl) ?_
          refine lv_aload_n hx hb dX11_tries_174 rfl (lv_at hl 1 rfl) ?_
          refine va_get (D := D) (ci := 11) (v := .ref (ad 1)) (C := RX11) (T := TX11) (N := 30) hx hb hts inX11 hown hK hP 0 (m_at11 (Nat.le_of_ble_eq_true rfl) rfl) rfl 0 (by decide) lk0 (fun _ h9 => h9) rfl dX11_tries_175 ?_
          refine lv_bipush (v := 112) hx hb dX11_tries_178 (by decide) ?_
          refine lv_iload_n hx hb dX11_tries_180 rfl (lv_at hl 2 rfl) ?_
          refine lv_iadd hx hb dX11_tries_181 ?_
          refine lv_topi (fun v_8 ev_8 => ?_)
          have tv_8 : v_8.toInt = (112 : Int) + a.toInt := i_add (show (112 : Int32).toInt = (112 : Int) from rfl) (rfl : a.toInt = a.toInt) (by omega) (by omega) ev_8
          refine va_iald hx hb hK hP 1 0 (m_at12 (Nat.le_of_ble_eq_true rfl) rfl) rfl (g_in (N := 126) (rfl : v_8.toInt = v_8.toInt) rfl (by omega) (by omega)) dX11_tries_182 ?_
          refine lv_topi (fun v_9 ev_9 => ?_)
          have hv2 : 0 ≤ v_9.toInt ∧ v_9.toInt < 108 := by
            rw [ev_9, g_cN (rfl : v_8.toInt = _), hga 1 (by omega) (by omega) (by omega) (by omega), show (v_8.toInt).toNat = 112 + a.toInt.toNat from by omega]
            exact ⟨(hs5 a.toInt.toNat (by omega)).1, (hs5 a.toInt.toNat (by omega)).2.1⟩
          refine lv_aload_n hx hb dX11_tries_183 rfl (lv_at hl 1 rfl) ?_
          refine va_get (D := D) (ci := 11) (v := .ref (ad 1)) (C := RX11) (T := TX11) (N := 30) hx hb hts inX11 hown hK hP 0 (m_at11 (Nat.le_of_ble_eq_true rfl) rfl) rfl 0 (by decide) lk0 (fun _ h9 => h9) rfl dX11_tries_184 ?_
          refine lv_bipush (v := 119) hx hb dX11_tries_187 (by decide) ?_
          refine lv_iload hx hb dX11_tries_189 (lv_at hl 0 rfl) ?_
          refine lv_iadd hx hb dX11_tries_191 ?_
          refine lv_topi (fun v_10 ev_10 => ?_)
          have tv_10 : v_10.toInt = (119 : Int) + x5_3.toInt := i_add (show (119 : Int32).toInt = (119 : Int) from rfl) (rfl : x5_3.toInt = x5_3.toInt) (by omega) (by omega) ev_10
          refine va_iald hx hb hK hP 1 0 (m_at12 (Nat.le_of_ble_eq_true rfl) rfl) rfl (g_in (N := 126) (rfl : v_10.toInt = v_10.toInt) rfl (by omega) (by omega)) dX11_tries_192 ?_
          refine lv_topi (fun v_11 ev_11 => ?_)
          have hv3 : 0 ≤ v_11.toInt ∧ v_11.toInt < 108 := by
            rw [ev_11, g_cN (rfl : v_10.toInt = _), hga 1 (by omega) (by omega) (by omega) (by omega), show (v_10.toInt).toNat = 119 + (x5_3.toInt).toNat from by omega]
            exact ⟨(hs5 (x5_3.toInt).toNat (by omega)).2.2.1, (hs5 (x5_3.toInt).toNat (by omega)).2.2.2⟩
          refine m_calli (va_runV (As := [.int v_9, .int v_11]) (rest := []) ⟨hx, hb, hml, hown, hts⟩ (c_X11_time l D cy ad hI _ iv_4 ar_4 v_9 v_11 (by omega) (by omega) hgk) (cwV 2 hts gX11_tries_X11_time rfl rfl rfl (by decide +kernel) ⟨Nat.le_of_ble_eq_true rfl, Nat.le_of_ble_eq_true rfl⟩) (m_preV hP hK hSt hNw hS (m_at11 (Nat.le_of_ble_eq_true rfl) rfl) rfl) rfl rfl hl.1 rfl (lv_room (Nat.le_of_ble_eq_true rfl)) dX11_tries_193 ⟨Nat.zero_le _, Nat.zero_le _⟩) hS (fun r_12 iv_12 ar_12 H locs w_12 hP hS => ?_)
          try dsimp only at w_12
          have wi_12 := (w_12.2.1).symm
          subst wi_12
          obtain ⟨-, -, wf, wk, -, -⟩ := w_12
          have hi2 := hgi
          have ha2 : ∀ c, c ≠ 5 → c ≠ 6 → c ≠ 7 → c ≠ 8 → ar_12 c = ar c := fun c h5 h6 h7 h8 => (wf c h5 h6).trans (hga c h5 h6 h7 h8)
          have hk2 := wk
          have ht2 : TR ar_12 := hgt.fr (wf 7 (by omega) (by omega)) (wf 8 (by omega) (by omega))
          refine lv_istore (lv' := [(6, .int r_12), (5, .int x5_3), (0, .ref (ad 0)), (1, .int a), (2, .int b), (3, .int d), (4, .int f)]) hx hb dX11_tries_196 hl (by decide) rfl (fun ls hl => ?_)
          refine lv_iload_n hx hb dX11_tries_198 rfl (lv_at hl 4 rfl) ?_
          refine lv_iload hx hb dX11_tries_199 (lv_at hl 1 rfl) ?_
          refine lv_ishr hx hb dX11_tries_201 ?_
          refine lv_topi (fun v_13 ev_13 => ?_)
          refine lv_iconst (v := 1) hx hb dX11_tries_202 (by decide) ?_
          refine lv_iand hx hb dX11_tries_203 ?_
          refine lv_topi (fun v_14 ev_14 => ?_)
          refine lv_if_ne (tgt := 246) hx hb dX11_tries_204 (by decide) (fun c_15 => ?_) (fun c_15 => ?_)
          · skip
            have q_15 : v_14.toInt ≠ (0 : Int) := i_ne2 (rfl : v_14.toInt = v_14.toInt) (show (0 : Int32).toInt = (0 : Int) from rfl) c_15
            obtain ⟨x5_16, ex5_16⟩ : ∃ y : Int32, y = x5_3 + 1 := ⟨_, rfl⟩
            have tx5_16 : x5_16.toInt = x5_3.toInt + (1 : Int) := i_add (rfl : x5_3.toInt = x5_3.toInt) (show (1 : Int32).toInt = (1 : Int) from rfl) (by omega) (by omega) ex5_16
            refine lv_iinc (v := x5_16) (lv' := [(5, .int x5_16), (6, .int r_12), (0, .ref (ad 0)), (1, .int a), (2, .int b), (3, .int d), (4, .int f)]) hx hb dX11_tries_246 hl (k := 1) rfl (by rw [ex5_16]; rfl) (by decide) rfl (fun ls hl => ?_)
            refine lv_goto (tgt := 161) hx hb dX11_tries_249 (by decide) ?_
            exact ih5 x5_16 iv_4 ar_12 _ _ _ (by omega) (by omega) hi2 ha2 hk2 ht2 hP hS (lv_sub hl [0, 2, 3, 4, 5, 6] rfl)
          · skip
            have q_15 : v_14.toInt = (0 : Int) := i_eq2 (rfl : v_14.toInt = v_14.toInt) (show (0 : Int32).toInt = (0 : Int) from rfl) c_15
            refine lv_iload hx hb dX11_tries_207 (lv_at hl 0 rfl) ?_
            refine lv_ldc (v := 100000) hx hb hown lk1 dX11_tries_209 ?_
            refine lv_icmp_ge (tgt := 246) hx hb dX11_tries_211 (by decide) (fun c_17 => ?_) (fun c_17 => ?_)
            · skip
              have q_17 : (100000 : Int) ≤ r_12.toInt := i_le2 (show (100000 : Int32).toInt = (100000 : Int) from rfl) (rfl : r_12.toInt = r_12.toInt) c_17
              obtain ⟨x5_18, ex5_18⟩ : ∃ y : Int32, y = x5_3 + 1 := ⟨_, rfl⟩
              have tx5_18 : x5_18.toInt = x5_3.toInt + (1 : Int) := i_add (rfl : x5_3.toInt = x5_3.toInt) (show (1 : Int32).toInt = (1 : Int) from rfl) (by omega) (by omega) ex5_18
              refine lv_iinc (v := x5_18) (lv' := [(5, .int x5_18), (6, .int r_12), (0, .ref (ad 0)), (1, .int a), (2, .int b), (3, .int d), (4, .int f)]) hx hb dX11_tries_246 hl (k := 1) rfl (by rw [ex5_18]; rfl) (by decide) rfl (fun ls hl => ?_)
              refine lv_goto (tgt := 161) hx hb dX11_tries_249 (by decide) ?_
              exact ih5 x5_18 iv_4 ar_12 _ _ _ (by omega) (by omega) hi2 ha2 hk2 ht2 hP hS (lv_sub hl [0, 2, 3, 4, 5, 6] rfl)
            · skip
              have q_17 : r_12.toInt < (100000 : Int) := i_nle2 (show (100000 : Int32).toInt = (100000 : Int) from rfl) (rfl : r_12.toInt = r_12.toInt) c_17
              refine lv_aload_n hx hb dX11_tries_214 rfl (lv_at hl 2 rfl) ?_
              refine va_get (D := D) (ci := 11) (v := .ref (ad 7)) (C := RX11) (T := TX11) (N := 30) hx hb hts inX11 hown hK hP 0 (m_at11 (Nat.le_of_ble_eq_true rfl) rfl) rfl 9 (by decide) lk2 (fun _ h9 => h9) rfl dX11_tries_215 ?_
              refine lv_iload_n hx hb dX11_tries_218 rfl (lv_at hl 3 rfl) ?_
              refine lv_iload hx hb dX11_tries_219 (lv_at hl 1 rfl) ?_
              refine va_iast hx hb hK hP (mD hI) hS 7 0 (m_at12 (Nat.le_of_ble_eq_true rfl) rfl) rfl (g_in (N := 6) (rfl : a.toInt = a.toInt) rfl (by omega) (by omega)) dX11_tries_221 (fun H locs hP _ hS => ?_)
              rw [m_pt12 (Nat.le_of_ble_eq_true rfl) rfl] at hP
              obtain ⟨ar_19, ear_19⟩ : ∃ z : gAr, z = va_up ar_12 7 (upd (ar_12 7) a.toNatClampNeg x5_3) := ⟨_, rfl⟩
              rw [← ear_19] at hP
              have ha3 : ∀ c, c ≠ 5 → c ≠ 6 → c ≠ 7 → c ≠ 8 → ar_19 c = ar c := fun c h5 h6 h7 h8 => by rw [ear_19, ua_o h7]; exact ha2 c h5 h6 h7 h8
              have hh1 := ha3 1 (by omega) (by omega) (by omega) (by omega)
              have hk3 : KA ar_19 := hk2.fr (by rw [ear_19, ua_o (by omega)]) (by rw [ear_19, ua_o (by omega)]) (by rw [ear_19, ua_o (by omega)])
              have ht3 : TR ar_19 := fun i hi => by
                have h9 := ht2 i hi
                rw [ear_19, ua_s, ua_o (by omega : (8 : Nat) ≠ 7), g_cN (rfl : a.toInt = _)]
                by_cases e : i = (a.toInt).toNat
                · rw [e, pk_us]; exact ⟨by omega, by omega, by rw [← e]; exact h9.2.2.1, by rw [← e]; exact h9.2.2.2⟩
                · rw [pk_un e]; exact h9
              refine lv_aload_n hx hb dX11_tries_222 rfl (lv_at hl 2 rfl) ?_
              refine lv_iload_n hx hb dX11_tries_223 rfl (lv_at hl 3 rfl) ?_
              refine lv_iconst (v := 1) hx hb dX11_tries_224 (by decide) ?_
              refine lv_iadd hx hb dX11_tries_225 ?_
              refine lv_topi (fun v_20 ev_20 => ?_)
              have tv_20 : v_20.toInt = a.toInt + (1 : Int) := i_add (rfl : a.toInt = a.toInt) (show (1 : Int32).toInt = (1 : Int) from rfl) (by omega) (by omega) ev_20
              refine lv_iload_n hx hb dX11_tries_226 rfl (lv_at hl 4 rfl) ?_
              refine lv_iconst (v := 1) hx hb dX11_tries_227 (by decide) ?_
              refine lv_iload hx hb dX11_tries_228 (lv_at hl 1 rfl) ?_
              refine lv_ishl hx hb dX11_tries_230 ?_
              refine lv_topi (fun v_21 ev_21 => ?_)
              refine lv_ior hx hb dX11_tries_231 ?_
              refine lv_topi (fun v_22 ev_22 => ?_)
              refine lv_iload_n hx hb dX11_tries_232 rfl (lv_at hl 5 rfl) ?_
              refine lv_iload hx hb dX11_tries_233 (lv_at hl 0 rfl) ?_
              refine va_mmax (rest := [.int v_22, .int v_20, .ref (ad 0)]) hx hb (hml.trans hl.1.symm) hown lk3 lk4 lk5 lk6 (Nat.le_of_ble_eq_true rfl) (Nat.le_of_ble_eq_true rfl) (Nat.zero_le _) (Nat.zero_le _) dX11_tries_235 ?_
              refine lv_topi (fun v_23 ev_23 => ?_)
              have tv_23 : v_23.toInt = max d.toInt r_12.toInt := i_max (rfl : d.toInt = d.toInt) (rfl : r_12.toInt = r_12.toInt) ev_23
              refine lv_iload hx hb dX11_tries_238 (lv_at hl 6 rfl) ?_
              refine lv_iload hx hb dX11_tries_240 (lv_at hl 0 rfl) ?_
              refine lv_iadd hx hb dX11_tries_242 ?_
              refine lv_topi (fun v_24 ev_24 => ?_)
              refine m_callv (va_runV (As := [.int v_20, .int v_22, .int v_23, .int v_24]) (rest := []) ⟨hx, hb, hml, hown, hts⟩ (c_tries_1 l D cy ad hI _ iv_4 ar_19 v_20 v_22 v_23 v_24 (by rw [hh1]; exact hsb) hk3 ht3 (by rw [hh1]; omega) (by omega)) (cwV 4 hts gX11_tries_X11_tries rfl rfl rfl (by decide +kernel) ⟨Nat.le_of_ble_eq_true rfl, Nat.le_of_ble_eq_true rfl⟩) (m_preV hP hK hSt hNw hS (m_at11 (Nat.le_of_ble_eq_true rfl) rfl) rfl) rfl rfl hl.1 rfl (lv_room (Nat.le_of_ble_eq_true rfl)) dX11_tries_243 ⟨Nat.zero_le _, Nat.zero_le _⟩) hS (fun iv_25 ar_25 H locs w_25 hP hS => ?_)
              try dsimp only at w_25
              obtain ⟨wi, wa, wk4, wt4⟩ := w_25
              have hi4 : ∀ x y, ¬ (x = 0 ∧ (y = 11 ∨ y = 12 ∨ y = 13 ∨ y = 14)) → iv_25 x y = iv x y := fun x y h => (wi x y h).trans (hi2 x y h)
              have ha4 : ∀ c, c ≠ 5 → c ≠ 6 → c ≠ 7 → c ≠ 8 → ar_25 c = ar c := fun c h5 h6 h7 h8 => (wa c h5 h6 h7 h8).trans (ha3 c h5 h6 h7 h8)
              have hi2 := hi4
              have ha2 := ha4
              have hk2 := wk4
              have ht2 := wt4
              obtain ⟨x5_26, ex5_26⟩ : ∃ y : Int32, y = x5_3 + 1 := ⟨_, rfl⟩
              have tx5_26 : x5_26.toInt = x5_3.toInt + (1 : Int) := i_add (rfl : x5_3.toInt = x5_3.toInt) (show (1 : Int32).toInt = (1 : Int) from rfl) (by omega) (by omega) ex5_26
              refine lv_iinc (v := x5_26) (lv' := [(5, .int x5_26), (6, .int r_12), (0, .ref (ad 0)), (1, .int a), (2, .int b), (3, .int d), (4, .int f)]) hx hb dX11_tries_246 hl (k := 1) rfl (by rw [ex5_26]; rfl) (by decide) rfl (fun ls hl => ?_)
              refine lv_goto (tgt := 161) hx hb dX11_tries_249 (by decide) ?_
              exact ih5 x5_26 iv_25 ar_25 _ _ _ (by omega) (by omega) hi2 ha2 hk2 ht2 hP hS (lv_sub hl [0, 2, 3, 4, 5, 6] rfl)
    have zl_27 : (0 : Int32).toInt = (0 : Int) := rfl
    exact loop5 (((6 - ((0 : Int))).toNat) + 1) 0 iv ar _ _ _ (by omega) (by omega) (fun _ _ _ => rfl) (fun _ _ _ _ _ => rfl) hka htr hP hS (lv_sub hl [0, 1, 2, 3, 4, 5] rfl)
  · skip
    have q_2 : a.toInt = v_1.toInt := i_eq2 (rfl : a.toInt = a.toInt) (rfl : v_1.toInt = v_1.toInt) c_2
    exfalso; omega
set_option maxHeartbeats 4000000 in
set_option maxRecDepth 100000 in
theorem c_tries_3 (l : Launch) (D : va_G) (cy : Nat → ClassId) (ad : Nat → Nat) (hI : mInj ad) (sz : Nat) (iv : gIv) (ar : gAr) (a : Int32) (b : Int32) (d : Int32) (f : Int32) (hsb : SB (ar 1)) (hka : KA ar) (htr : TR ar) (ha : a.toInt = (ar 1 111).toInt - 3) (ha0 : 0 ≤ a.toInt) : Met l yX11_tries wsX11_tries ({ frames := 6, cells := 0, slots := 0, locals := 148 } : Room) (va_Pc [.ref (ad 0), .int a, .int b, .int d, .int f] (mPre D cy ad sz iv ar)) (va_Qv (fun (u : gIv × gAr) => (∀ x y, ¬ (x = 0 ∧ (y = 11 ∨ y = 12 ∨ y = 13 ∨ y = 14)) → u.1 x y = iv x y) ∧ (∀ c, c ≠ 5 → c ≠ 6 → c ≠ 7 → c ≠ 8 → u.2 c = ar c) ∧ KA u.2 ∧ TR u.2) (mPost D cy ad) (mA ad sz)) 0 0 (mA ad sz) := by
  refine Met.ofW (cc := cX11_tries) (maxL := 7) (ret := none) (by decide) rfl ?_
  intro p e s m args below meth c s₁ B hml hv
  obtain ⟨rfl, rfl, hP, hK, hSt, hNw⟩ := hv
  have hx := B.exec
  have hb := B.bytes
  have hr := B.returns
  have hts := atoms_spec (ws := wsX11_tries) B.pre
  have hown : s.vm.findClass RX11 = some m.cls := findClass_of_methodNamed B.named
  have hlocks := B.notSynchronized
  have hS : va_S (mA ad s.heap.size) s.heap s.heap [] := va_S.rf
  have inX11 : ∀ w ∈ u_ws RX11 TX11 30, w ∈ wsX11_tries := by decide +kernel
  have lk0 := hts (.fieldLink RX11 9 "FormationPlannerModel" "s" "[I") (by decide +kernel)
  have lk1 := hts (.constant RX11 124 100000) (by decide +kernel)
  have lk2 := hts (.fieldLink RX11 29 "FormationPlannerModel" "tried" "[I") (by decide +kernel)
  have lk3 := hts (.methodLink RX11 151 Lib.Math.max.name) (by decide +kernel)
  have lk4 := hts (.static Lib.Math.max.name) (by decide +kernel)
  have lk5 := hts (.initialized "java/lang/Math") (by decide +kernel)
  have lk6 := hts (.code Lib.Math.max.name Lib.Math.max.code 2 (some .int)) (by decide +kernel)
  have hl := lv_entry ([.ref (ad 0), .int a, .int b, .int d, .int f]) (n := 7) (Nat.le_of_ble_eq_true rfl)
  rw [lg_entry_eq]
  generalize (lg_sl ([.ref (ad 0), .int a, .int b, .int d, .int f]) ++ List.replicate (7 - (lg_sl ([.ref (ad 0), .int a, .int b, .int d, .int f])).length) Slot.unset).toArray = ls at hl ⊢
  have hl : lv_has ls 7 [(0, .ref (ad 0)), (1, .int a), (2, .int b), (3, .int d), (4, .int f)] := hl
  obtain ⟨Q, hQ⟩ : ∃ Q, Q = MQ below (va_Qv (fun (u : gIv × gAr) => (∀ x y, ¬ (x = 0 ∧ (y = 11 ∨ y = 12 ∨ y = 13 ∨ y = 14)) → u.1 x y = iv x y) ∧ (∀ c, c ≠ 5 → c ≠ 6 → c ≠ 7 → c ≠ 8 → u.2 c = ar c) ∧ KA u.2 ∧ TR u.2) (mPost D cy ad) (mA ad s.heap.size)) (([.ref (ad 0), .int a, .int b, .int d, .int f] : List Value).toArray) s 0 0 (mA ad s.heap.size) := ⟨_, rfl⟩
  rw [← hQ]
  obtain ⟨hs1, hs2, hs3, hs4, hs5⟩ := id hsb
  refine lv_iload_n hx hb dX11_tries_0 rfl (lv_at hl 1 rfl) ?_
  refine lv_aload_n hx hb dX11_tries_1 rfl (lv_at hl 0 rfl) ?_
  refine va_get (D := D) (ci := 11) (v := .ref (ad 1)) (C := RX11) (T := TX11) (N := 30) hx hb hts inX11 hown hK hP 0 (m_at11 (Nat.le_of_ble_eq_true rfl) rfl) rfl 0 (by decide) lk0 (fun _ h9 => h9) rfl dX11_tries_2 ?_
  refine lv_bipush (v := 111) hx hb dX11_tries_5 (by decide) ?_
  refine va_iald hx hb hK hP 1 0 (m_at12 (Nat.le_of_ble_eq_true rfl) rfl) rfl (g_in (N := 126) (show (111 : Int32).toInt = (111 : Int) from rfl) rfl (by omega) (by omega)) dX11_tries_7 ?_
  refine lv_topi (fun v_1 ev_1 => ?_)
  have hv0 : v_1.toInt = (ar 1 111).toInt := by rw [ev_1]; rfl
  refine lv_icmp_ne (tgt := 158) hx hb dX11_tries_8 (by decide) (fun c_2 => ?_) (fun c_2 => ?_)
  · skip
    have q_2 : a.toInt ≠ v_1.toInt := i_ne2 (rfl : a.toInt = a.toInt) (rfl : v_1.toInt = v_1.toInt) c_2
    refine lv_iconst (v := 0) hx hb dX11_tries_158 (by decide) ?_
    refine lv_istore (lv' := [(5, .int 0), (0, .ref (ad 0)), (1, .int a), (2, .int b), (3, .int d), (4, .int f)]) hx hb dX11_tries_159 hl (by decide) rfl (fun ls hl => ?_)
    have loop5 : ∀ (n : Nat) (x5_3 : Int32) (iv_4 : gIv) (ar_4 : gAr) (H : Heap) (locs : List Loc) (ls : Array Slot), ((6 - (x5_3.toInt)).toNat) < n → (0 ≤ (x5_3.toInt) ∧ (x5_3.toInt) ≤ 6) → (∀ x y, ¬ (x = 0 ∧ (y = 11 ∨ y = 12 ∨ y = 13 ∨ y = 14)) → iv_4 x y = iv x y) → (∀ c, c ≠ 5 → c ≠ 6 → c ≠ 7 → c ≠ 8 → ar_4 c = ar c) → (KA ar_4) → (TR ar_4) → va_P D vwCl (MW cy ad iv_4 ar_4) H → va_S (mA ad s.heap.size) s.heap H locs → lv_has ls 7 [(5, .int x5_3), (0, .ref (ad 0)), (1, .int a), (2, .int b), (3, .int d), (4, .int f)] → W p l e (headSpec wsX11_tries (({ frames := 6, cells := 0, slots := 0, locals := 148 } : Room))).room s m (([.ref (ad 0), .int a, .int b, .int d, .int f] : List Value).toArray) below meth c H locs 0 0 Q (F0 m 161 ls []) := by
      intro n
      induction n with
      | zero => intro x5_3 iv_4 ar_4 H locs ls hm; omega
      | succ n ih5 =>
        intro x5_3 iv_4 ar_4 H locs ls hm hg0 hgi hga hgk hgt hP hS hl
        refine lv_iload hx hb dX11_tries_161 (lv_at hl 0 rfl) ?_
        refine lv_aload_n hx hb dX11_tries_163 rfl (lv_at hl 1 rfl) ?_
        refine va_get (D := D) (ci := 11) (v := .ref (ad 1)) (C := RX11) (T := TX11) (N := 30) hx hb hts inX11 hown hK hP 0 (m_at11 (Nat.le_of_ble_eq_true rfl) rfl) rfl 0 (by decide) lk0 (fun _ h9 => h9) rfl dX11_tries_164 ?_
        refine lv_bipush (v := 118) hx hb dX11_tries_167 (by decide) ?_
        refine va_iald hx hb hK hP 1 0 (m_at12 (Nat.le_of_ble_eq_true rfl) rfl) rfl (g_in (N := 126) (show (118 : Int32).toInt = (118 : Int) from rfl) rfl (by omega) (by omega)) dX11_tries_169 ?_
        refine lv_topi (fun v_6 ev_6 => ?_)
        have hv1 : v_6.toInt = (ar 1 118).toInt := by rw [ev_6, hga 1 (by omega) (by omega) (by omega) (by omega)]; rfl
        refine lv_icmp_ge (tgt := 252) hx hb dX11_tries_170 (by decide) (fun c_7 => ?_) (fun c_7 => ?_)
        · skip
          have q_7 : v_6.toInt ≤ x5_3.toInt := i_le2 (rfl : v_6.toInt = v_6.toInt) (rfl : x5_3.toInt = x5_3.toInt) c_7
          rw [hQ]
          exact W.vret hx hb hr (fun t ht hW => ⟨⟨(iv_4, ar_4), rfl, ⟨hgi, hga, hgk, hgt⟩, by show va_P _ _ _ _; rw [ht]; exact hP⟩, hS.F ht⟩) hS.2.2 dX11_tries_252
        · skip
          have q_7 : x5_3.toInt < v_6.toInt := i_nle2 (rfl : v_6.toInt = v_6.toInt) (rfl : x5_3.toInt = x5_3.toInt) c_7
          refine lv_aload_n hx hb dX11_tries_173 rfl (lv_at hl 1 rfl) ?_
          refine lv_aload_n hx hb dX11_tries_174 rfl (lv_at hl 1 rfl) ?_
          refine va_get (D := D) (ci := 11) (v := .ref (ad 1)) (C := RX11) (T := TX11) (N := 30) hx hb hts inX11 hown hK hP 0 (m_at11 (Nat.le_of_ble_eq_true rfl) rfl) rfl 0 (by decide) lk0 (fun _ h9 => h9) rfl dX11_tries_175 ?_
          refine lv_bipush (v := 112) hx hb dX11_tries_178 (by decide) ?_
          refine lv_iload_n hx hb dX11_tries_180 rfl (lv_at hl 2 rfl) ?_
          refine lv_iadd hx hb dX11_tries_181 ?_
          refine lv_topi (fun v_8 ev_8 => ?_)
          have tv_8 : v_8.toInt = (112 : Int) + a.toInt := i_add (show (112 : Int32).toInt = (112 : Int) from rfl) (rfl : a.toInt = a.toInt) (by omega) (by omega) ev_8
          refine va_iald hx hb hK hP 1 0 (m_at12 (Nat.le_of_ble_eq_true rfl) rfl) rfl (g_in (N := 126) (rfl : v_8.toInt = v_8.toInt) rfl (by omega) (by omega)) dX11_tries_182 ?_
          refine lv_topi (fun v_9 ev_9 => ?_)
          have hv2 : 0 ≤ v_9.toInt ∧ v_9.toInt < 108 := by
            rw [ev_9, g_cN (rfl : v_8.toInt = _), hga 1 (by omega) (by omega) (by omega) (by omega), show (v_8.toInt).toNat = 112 + a.toInt.toNat from by omega]
            exact ⟨(hs5 a.toInt.toNat (by omega)).1, (hs5 a.toInt.toNat (by omega)).2.1⟩
          refine lv_aload_n hx hb dX11_tries_183 rfl (lv_at hl 1 rfl) ?_
          refine va_get (D := D) (ci := 11) (v := .ref (ad 1)) (C := RX11) (T := TX11) (N := 30) hx hb hts inX11 hown hK hP 0 (m_at11 (Nat.le_of_ble_eq_true rfl) rfl) rfl 0 (by decide) lk0 (fun _ h9 => h9) rfl dX11_tries_184 ?_
          refine lv_bipush (v := 119) hx hb dX11_tries_187 (by decide) ?_
          refine lv_iload hx hb dX11_tries_189 (lv_at hl 0 rfl) ?_
          refine lv_iadd hx hb dX11_tries_191 ?_
          refine lv_topi (fun v_10 ev_10 => ?_)
          have tv_10 : v_10.toInt = (119 : Int) + x5_3.toInt := i_add (show (119 : Int32).toInt = (119 : Int) from rfl) (rfl : x5_3.toInt = x5_3.toInt) (by omega) (by omega) ev_10
          refine va_iald hx hb hK hP 1 0 (m_at12 (Nat.le_of_ble_eq_true rfl) rfl) rfl (g_in (N := 126) (rfl : v_10.toInt = v_10.toInt) rfl (by omega) (by omega)) dX11_tries_192 ?_
          refine lv_topi (fun v_11 ev_11 => ?_)
          have hv3 : 0 ≤ v_11.toInt ∧ v_11.toInt < 108 := by
            rw [ev_11, g_cN (rfl : v_10.toInt = _), hga 1 (by omega) (by omega) (by omega) (by omega), show (v_10.toInt).toNat = 119 + (x5_3.toInt).toNat from by omega]
            exact ⟨(hs5 (x5_3.toInt).toNat (by omega)).2.2.1, (hs5 (x5_3.toInt).toNat (by omega)).2.2.2⟩
          refine m_calli (va_runV (As := [.int v_9, .int v_11]) (rest := []) ⟨hx, hb, hml, hown, hts⟩ (c_X11_time l D cy ad hI _ iv_4 ar_4 v_9 v_11 (by omega) (by omega) hgk) (cwV 2 hts gX11_tries_X11_time rfl rfl rfl (by decide +kernel) ⟨Nat.le_of_ble_eq_true rfl, Nat.le_of_ble_eq_true rfl⟩) (m_preV hP hK hSt hNw hS (m_at11 (Nat.le_of_ble_eq_true rfl) rfl) rfl) rfl rfl hl.1 rfl (lv_room (Nat.le_of_ble_eq_true rfl)) dX11_tries_193 ⟨Nat.zero_le _, Nat.zero_le _⟩) hS (fun r_12 iv_12 ar_12 H locs w_12 hP hS => ?_)
          try dsimp only at w_12
          have wi_12 := (w_12.2.1).symm
          subst wi_12
          obtain ⟨-, -, wf, wk, -, -⟩ := w_12
          have hi2 := hgi
          have ha2 : ∀ c, c ≠ 5 → c ≠ 6 → c ≠ 7 → c ≠ 8 → ar_12 c = ar c := fun c h5 h6 h7 h8 => (wf c h5 h6).trans (hga c h5 h6 h7 h8)
          have hk2 := wk
          have ht2 : TR ar_12 := hgt.fr (wf 7 (by omega) (by omega)) (wf 8 (by omega) (by omega))
          refine lv_istore (lv' := [(6, .int r_12), (5, .int x5_3), (0, .ref (ad 0)), (1, .int a), (2, .int b), (3, .int d), (4, .int f)]) hx hb dX11_tries_196 hl (by decide) rfl (fun ls hl => ?_)
          refine lv_iload_n hx hb dX11_tries_198 rfl (lv_at hl 4 rfl) ?_
          refine lv_iload hx hb dX11_tries_199 (lv_at hl 1 rfl) ?_
          refine lv_ishr hx hb dX11_tries_201 ?_
          refine lv_topi (fun v_13 ev_13 => ?_)
          refine lv_iconst (v := 1) hx hb dX11_tries_202 (by decide) ?_
          refine lv_iand hx hb dX11_tries_203 ?_
          refine lv_topi (fun v_14 ev_14 => ?_)
          refine lv_if_ne (tgt := 246) hx hb dX11_tries_204 (by decide) (fun c_15 => ?_) (fun c_15 => ?_)
          · skip
            have q_15 : v_14.toInt ≠ (0 : Int) := i_ne2 (rfl : v_14.toInt = v_14.toInt) (show (0 : Int32).toInt = (0 : Int) from rfl) c_15
            obtain ⟨x5_16, ex5_16⟩ : ∃ y : Int32, y = x5_3 + 1 := ⟨_, rfl⟩
            have tx5_16 : x5_16.toInt = x5_3.toInt + (1 : Int) := i_add (rfl : x5_3.toInt = x5_3.toInt) (show (1 : Int32).toInt = (1 : Int) from rfl) (by omega) (by omega) ex5_16
            refine lv_iinc (v := x5_16) (lv' := [(5, .int x5_16), (6, .int r_12), (0, .ref (ad 0)), (1, .int a), (2, .int b), (3, .int d), (4, .int f)]) hx hb dX11_tries_246 hl (k := 1) rfl (by rw [ex5_16]; rfl) (by decide) rfl (fun ls hl => ?_)
            refine lv_goto (tgt := 161) hx hb dX11_tries_249 (by decide) ?_
            exact ih5 x5_16 iv_4 ar_12 _ _ _ (by omega) (by omega) hi2 ha2 hk2 ht2 hP hS (lv_sub hl [0, 2, 3, 4, 5, 6] rfl)
          · skip
            have q_15 : v_14.toInt = (0 : Int) := i_eq2 (rfl : v_14.toInt = v_14.toInt) (show (0 : Int32).toInt = (0 : Int) from rfl) c_15
            refine lv_iload hx hb dX11_tries_207 (lv_at hl 0 rfl) ?_
            refine lv_ldc (v := 100000) hx hb hown lk1 dX11_tries_209 ?_
            refine lv_icmp_ge (tgt := 246) hx hb dX11_tries_211 (by decide) (fun c_17 => ?_) (fun c_17 => ?_)
            · skip
              have q_17 : (100000 : Int) ≤ r_12.toInt := i_le2 (show (100000 : Int32).toInt = (100000 : Int) from rfl) (rfl : r_12.toInt = r_12.toInt) c_17
              obtain ⟨x5_18, ex5_18⟩ : ∃ y : Int32, y = x5_3 + 1 := ⟨_, rfl⟩
              have tx5_18 : x5_18.toInt = x5_3.toInt + (1 : Int) := i_add (rfl : x5_3.toInt = x5_3.toInt) (show (1 : Int32).toInt = (1 : Int) from rfl) (by omega) (by omega) ex5_18
              refine lv_iinc (v := x5_18) (lv' := [(5, .int x5_18), (6, .int r_12), (0, .ref (ad 0)), (1, .int a), (2, .int b), (3, .int d), (4, .int f)]) hx hb dX11_tries_246 hl (k := 1) rfl (by rw [ex5_18]; rfl) (by decide) rfl (fun ls hl => ?_)
              refine lv_goto (tgt := 161) hx hb dX11_tries_249 (by decide) ?_
              exact ih5 x5_18 iv_4 ar_12 _ _ _ (by omega) (by omega) hi2 ha2 hk2 ht2 hP hS (lv_sub hl [0, 2, 3, 4, 5, 6] rfl)
            · skip
              have q_17 : r_12.toInt < (100000 : Int) := i_nle2 (show (100000 : Int32).toInt = (100000 : Int) from rfl) (rfl : r_12.toInt = r_12.toInt) c_17
              refine lv_aload_n hx hb dX11_tries_214 rfl (lv_at hl 2 rfl) ?_
              refine va_get (D := D) (ci := 11) (v := .ref (ad 7)) (C := RX11) (T := TX11) (N := 30) hx hb hts inX11 hown hK hP 0 (m_at11 (Nat.le_of_ble_eq_true rfl) rfl) rfl 9 (by decide) lk2 (fun _ h9 => h9) rfl dX11_tries_215 ?_
              refine lv_iload_n hx hb dX11_tries_218 rfl (lv_at hl 3 rfl) ?_
              refine lv_iload hx hb dX11_tries_219 (lv_at hl 1 rfl) ?_
              refine va_iast hx hb hK hP (mD hI) hS 7 0 (m_at12 (Nat.le_of_ble_eq_true rfl) rfl) rfl (g_in (N := 6) (rfl : a.toInt = a.toInt) rfl (by omega) (by omega)) dX11_tries_221 (fun H locs hP _ hS => ?_)
              rw [m_pt12 (Nat.le_of_ble_eq_true rfl) rfl] at hP
              obtain ⟨ar_19, ear_19⟩ : ∃ z : gAr, z = va_up ar_12 7 (upd (ar_12 7) a.toNatClampNeg x5_3) := ⟨_, rfl⟩
              rw [← ear_19] at hP
              have ha3 : ∀ c, c ≠ 5 → c ≠ 6 → c ≠ 7 → c ≠ 8 → ar_19 c = ar c := fun c h5 h6 h7 h8 => by rw [ear_19, ua_o h7]; exact ha2 c h5 h6 h7 h8
              have hh1 := ha3 1 (by omega) (by omega) (by omega) (by omega)
              have hk3 : KA ar_19 := hk2.fr (by rw [ear_19, ua_o (by omega)]) (by rw [ear_19, ua_o (by omega)]) (by rw [ear_19, ua_o (by omega)])
              have ht3 : TR ar_19 := fun i hi => by
                have h9 := ht2 i hi
                rw [ear_19, ua_s, ua_o (by omega : (8 : Nat) ≠ 7), g_cN (rfl : a.toInt = _)]
                by_cases e : i = (a.toInt).toNat
                · rw [e, pk_us]; exact ⟨by omega, by omega, by rw [← e]; exact h9.2.2.1, by rw [← e]; exact h9.2.2.2⟩
                · rw [pk_un e]; exact h9
              refine lv_aload_n hx hb dX11_tries_222 rfl (lv_at hl 2 rfl) ?_
              refine lv_iload_n hx hb dX11_tries_223 rfl (lv_at hl 3 rfl) ?_
              refine lv_iconst (v := 1) hx hb dX11_tries_224 (by decide) ?_
              refine lv_iadd hx hb dX11_tries_225 ?_
              refine lv_topi (fun v_20 ev_20 => ?_)
              have tv_20 : v_20.toInt = a.toInt + (1 : Int) := i_add (rfl : a.toInt = a.toInt) (show (1 : Int32).toInt = (1 : Int) from rfl) (by omega) (by omega) ev_20
              refine lv_iload_n hx hb dX11_tries_226 rfl (lv_at hl 4 rfl) ?_
              refine lv_iconst (v := 1) hx hb dX11_tries_227 (by decide) ?_
              refine lv_iload hx hb dX11_tries_228 (lv_at hl 1 rfl) ?_
              refine lv_ishl hx hb dX11_tries_230 ?_
              refine lv_topi (fun v_21 ev_21 => ?_)
              refine lv_ior hx hb dX11_tries_231 ?_
              refine lv_topi (fun v_22 ev_22 => ?_)
              refine lv_iload_n hx hb dX11_tries_232 rfl (lv_at hl 5 rfl) ?_
              refine lv_iload hx hb dX11_tries_233 (lv_at hl 0 rfl) ?_
              refine va_mmax (rest := [.int v_22, .int v_20, .ref (ad 0)]) hx hb (hml.trans hl.1.symm) hown lk3 lk4 lk5 lk6 (Nat.le_of_ble_eq_true rfl) (Nat.le_of_ble_eq_true rfl) (Nat.zero_le _) (Nat.zero_le _) dX11_tries_235 ?_
              refine lv_topi (fun v_23 ev_23 => ?_)
              have tv_23 : v_23.toInt = max d.toInt r_12.toInt := i_max (rfl : d.toInt = d.toInt) (rfl : r_12.toInt = r_12.toInt) ev_23
              refine lv_iload hx hb dX11_tries_238 (lv_at hl 6 rfl) ?_
              refine lv_iload hx hb dX11_tries_240 (lv_at hl 0 rfl) ?_
              refine lv_iadd hx hb dX11_tries_242 ?_
              refine lv_topi (fun v_24 ev_24 => ?_)
              refine m_callv (va_runV (As := [.int v_20, .int v_22, .int v_23, .int v_24]) (rest := []) ⟨hx, hb, hml, hown, hts⟩ (c_tries_2 l D cy ad hI _ iv_4 ar_19 v_20 v_22 v_23 v_24 (by rw [hh1]; exact hsb) hk3 ht3 (by rw [hh1]; omega) (by omega)) (cwV 4 hts gX11_tries_X11_tries rfl rfl rfl (by decide +kernel) ⟨Nat.le_of_ble_eq_true rfl, Nat.le_of_ble_eq_true rfl⟩) (m_preV hP hK hSt hNw hS (m_at11 (Nat.le_of_ble_eq_true rfl) rfl) rfl) rfl rfl hl.1 rfl (lv_room (Nat.le_of_ble_eq_true rfl)) dX11_tries_243 ⟨Nat.zero_le _, Nat.zero_le _⟩) hS (fun iv_25 ar_25 H locs w_25 hP hS => ?_)
              try dsimp only at w_25
              obtain ⟨wi, wa, wk4, wt4⟩ := w_25
              have hi4 : ∀ x y, ¬ (x = 0 ∧ (y = 11 ∨ y = 12 ∨ y = 13 ∨ y = 14)) → iv_25 x y = iv x y := fun x y h => (wi x y h).trans (hi2 x y h)
              have ha4 : ∀ c, c ≠ 5 → c ≠ 6 → c ≠ 7 → c ≠ 8 → ar_25 c = ar c := fun c h5 h6 h7 h8 => (wa c h5 h6 h7 h8).trans (ha3 c h5 h6 h7 h8)
              have hi2 := hi4
              have ha2 := ha4
              have hk2 := wk4
              have ht2 := wt4
              obtain ⟨x5_26, ex5_26⟩ : ∃ y : Int32, y = x5_3 + 1 := ⟨_, rfl⟩
              have tx5_26 : x5_26.toInt = x5_3.toInt + (1 : Int) := i_add (rfl : x5_3.toInt = x5_3.toInt) (show (1 : Int32).toInt = (1 : Int) from rfl) (by omega) (by omega) ex5_26
              refine lv_iinc (v := x5_26) (lv' := [(5, .int x5_26), (6, .int r_12), (0, .ref (ad 0)), (1, .int a), (2, .int b), (3, .int d), (4, .int f)]) hx hb dX11_tries_246 hl (k := 1) rfl (by rw [ex5_26]; rfl) (by decide) rfl (fun ls hl => ?_)
              refine lv_goto (tgt := 161) hx hb dX11_tries_249 (by decide) ?_
              exact ih5 x5_26 iv_25 ar_25 _ _ _ (by omega) (by omega) hi2 ha2 hk2 ht2 hP hS (lv_sub hl [0, 2, 3, 4, 5, 6] rfl)
    have zl_27 : (0 : Int32).toInt = (0 : Int) := rfl
    exact loop5 (((6 - ((0 : Int))).toNat) + 1) 0 iv ar _ _ _ (by omega) (by omega) (fun _ _ _ => rfl) (fun _ _ _ _ _ => rfl) hka htr hP hS (lv_sub hl [0, 1, 2, 3, 4, 5] rfl)
  · skip
    have q_2 : a.toInt = v_1.toInt := i_eq2 (rfl : a.toInt = a.toInt) (rfl : v_1.toInt = v_1.toInt) c_2
    exfalso; omega
set_option maxHeartbeats 4000000 in
set_option maxRecDepth 100000 in
theorem c_tries_4 (l : Launch) (D : va_G) (cy : Nat → ClassId) (ad : Nat → Nat) (hI : mInj ad) (sz : Nat) (iv : gIv) (ar : gAr) (a : Int32) (b : Int32) (d : Int32) (f : Int32) (hsb : SB (ar 1)) (hka : KA ar) (htr : TR ar) (ha : a.toInt = (ar 1 111).toInt - 4) (ha0 : 0 ≤ a.toInt) : Met l yX11_tries wsX11_tries ({ frames := 7, cells := 0, slots := 0, locals := 174 } : Room) (va_Pc [.ref (ad 0), .int a, .int b, .int d, .int f] (mPre D cy ad sz iv ar)) (va_Qv (fun (u : gIv × gAr) => (∀ x y, ¬ (x = 0 ∧ (y = 11 ∨ y = 12 ∨ y = 13 ∨ y = 14)) → u.1 x y = iv x y) ∧ (∀ c, c ≠ 5 → c ≠ 6 → c ≠ 7 → c ≠ 8 → u.2 c = ar c) ∧ KA u.2 ∧ TR u.2) (mPost D cy ad) (mA ad sz)) 0 0 (mA ad sz) := by
  refine Met.ofW (cc := cX11_tries) (maxL := 7) (ret := none) (by decide) rfl ?_
  intro p e s m args below meth c s₁ B hml hv
  obtain ⟨rfl, rfl, hP, hK, hSt, hNw⟩ := hv
  have hx := B.exec
  have hb := B.bytes
  have hr := B.returns
  have hts := atoms_spec (ws := wsX11_tries) B.pre
  have hown : s.vm.findClass RX11 = some m.cls := findClass_of_methodNamed B.named
  have hlocks := B.notSynchronized
  have hS : va_S (mA ad s.heap.size) s.heap s.heap [] := va_S.rf
  have inX11 : ∀ w ∈ u_ws RX11 TX11 30, w ∈ wsX11_tries := by decide +kernel
  have lk0 := hts (.fieldLink RX11 9 "FormationPlannerModel" "s" "[I") (by decide +kernel)
  have lk1 := hts (.constant RX11 124 100000) (by decide +kernel)
  have lk2 := hts (.fieldLink RX11 29 "FormationPlannerModel" "tried" "[I") (by decide +kernel)
  have lk3 := hts (.methodLink RX11 151 Lib.Math.max.name) (by decide +kernel)
  have lk4 := hts (.static Lib.Math.max.name) (by decide +kernel)
  have lk5 := hts (.initialized "java/lang/Math") (by decide +kernel)
  have lk6 := hts (.code Lib.Math.max.name Lib.Math.max.code 2 (some .int)) (by decide +kernel)
  have hl := lv_entry ([.ref (ad 0), .int a, .int b, .int d, .int f]) (n := 7) (Nat.le_of_ble_eq_true rfl)
  rw [lg_entry_eq]
  generalize (lg_sl ([.ref (ad 0), .int a, .int b, .int d, .int f]) ++ List.replicate (7 - (lg_sl ([.ref (ad 0), .int a, .int b, .int d, .int f])).length) Slot.unset).toArray = ls at hl ⊢
  have hl : lv_has ls 7 [(0, .ref (ad 0)), (1, .int a), (2, .int b), (3, .int d), (4, .int f)] := hl
  obtain ⟨Q, hQ⟩ : ∃ Q, Q = MQ below (va_Qv (fun (u : gIv × gAr) => (∀ x y, ¬ (x = 0 ∧ (y = 11 ∨ y = 12 ∨ y = 13 ∨ y = 14)) → u.1 x y = iv x y) ∧ (∀ c, c ≠ 5 → c ≠ 6 → c ≠ 7 → c ≠ 8 → u.2 c = ar c) ∧ KA u.2 ∧ TR u.2) (mPost D cy ad) (mA ad s.heap.size)) (([.ref (ad 0), .int a, .int b, .int d, .int f] : List Value).toArray) s 0 0 (mA ad s.heap.size) := ⟨_, rfl⟩
  rw [← hQ]
  obtain ⟨hs1, hs2, hs3, hs4, hs5⟩ := id hsb
  refine lv_iload_n hx hb dX11_tries_0 rfl (lv_at hl 1 rfl) ?_
  refine lv_aload_n hx hb dX11_tries_1 rfl (lv_at hl 0 rfl) ?_
  refine va_get (D := D) (ci := 11) (v := .ref (ad 1)) (C := RX11) (T := TX11) (N := 30) hx hb hts inX11 hown hK hP 0 (m_at11 (Nat.le_of_ble_eq_true rfl) rfl) rfl 0 (by decide) lk0 (fun _ h9 => h9) rfl dX11_tries_2 ?_
  refine lv_bipush (v := 111) hx hb dX11_tries_5 (by decide) ?_
  refine va_iald hx hb hK hP 1 0 (m_at12 (Nat.le_of_ble_eq_true rfl) rfl) rfl (g_in (N := 126) (show (111 : Int32).toInt = (111 : Int) from rfl) rfl (by omega) (by omega)) dX11_tries_7 ?_
  refine lv_topi (fun v_1 ev_1 => ?_)
  have hv0 : v_1.toInt = (ar 1 111).toInt := by rw [ev_1]; rfl
  refine lv_icmp_ne (tgt := 158) hx hb dX11_tries_8 (by decide) (fun c_2 => ?_) (fun c_2 => ?_)
  · skip
    have q_2 : a.toInt ≠ v_1.toInt := i_ne2 (rfl : a.toInt = a.toInt) (rfl : v_1.toInt = v_1.toInt) c_2
    refine lv_iconst (v := 0) hx hb dX11_tries_158 (by decide) ?_
    refine lv_istore (lv' := [(5, .int 0), (0, .ref (ad 0)), (1, .int a), (2, .int b), (3, .int d), (4, .int f)]) hx hb dX11_tries_159 hl (by decide) rfl (fun ls hl => ?_)
    have loop5 : ∀ (n : Nat) (x5_3 : Int32) (iv_4 : gIv) (ar_4 : gAr) (H : Heap) (locs : List Loc) (ls : Array Slot), ((6 - (x5_3.toInt)).toNat) < n → (0 ≤ (x5_3.toInt) ∧ (x5_3.toInt) ≤ 6) → (∀ x y, ¬ (x = 0 ∧ (y = 11 ∨ y = 12 ∨ y = 13 ∨ y = 14)) → iv_4 x y = iv x y) → (∀ c, c ≠ 5 → c ≠ 6 → c ≠ 7 → c ≠ 8 → ar_4 c = ar c) → (KA ar_4) → (TR ar_4) → va_P D vwCl (MW cy ad iv_4 ar_4) H → va_S (mA ad s.heap.size) s.heap H locs → lv_has ls 7 [(5, .int x5_3), (0, .ref (ad 0)), (1, .int a), (2, .int b), (3, .int d), (4, .int f)] → W p l e (headSpec wsX11_tries (({ frames := 7, cells := 0, slots := 0, locals := 174 } : Room))).room s m (([.ref (ad 0), .int a, .int b, .int d, .int f] : List Value).toArray) below meth c H locs 0 0 Q (F0 m 161 ls []) := by
      intro n
      induction n with
      | zero => intro x5_3 iv_4 ar_4 H locs ls hm; omega
      | succ n ih5 =>
        intro x5_3 iv_4 ar_4 H locs ls hm hg0 hgi hga hgk hgt hP hS hl
        refine lv_iload hx hb dX11_tries_161 (lv_at hl 0 rfl) ?_
        refine lv_aload_n hx hb dX11_tries_163 rfl (lv_at hl 1 rfl) ?_
        refine va_get (D := D) (ci := 11) (v := .ref (ad 1)) (C := RX11) (T := TX11) (N := 30) hx hb hts inX11 hown hK hP 0 (m_at11 (Nat.le_of_ble_eq_true rfl) rfl) rfl 0 (by decide) lk0 (fun _ h9 => h9) rfl dX11_tries_164 ?_
        refine lv_bipush (v := 118) hx hb dX11_tries_167 (by decide) ?_
        refine va_iald hx hb hK hP 1 0 (m_at12 (Nat.le_of_ble_eq_true rfl) rfl) rfl (g_in (N := 126) (show (118 : Int32).toInt = (118 : Int) from rfl) rfl (by omega) (by omega)) dX11_tries_169 ?_
        refine lv_topi (fun v_6 ev_6 => ?_)
        have hv1 : v_6.toInt = (ar 1 118).toInt := by rw [ev_6, hga 1 (by omega) (by omega) (by omega) (by omega)]; rfl
        refine lv_icmp_ge (tgt := 252) hx hb dX11_tries_170 (by decide) (fun c_7 => ?_) (fun c_7 => ?_)
        · skip
          have q_7 : v_6.toInt ≤ x5_3.toInt := i_le2 (rfl : v_6.toInt = v_6.toInt) (rfl : x5_3.toInt = x5_3.toInt) c_7
          rw [hQ]
          exact W.vret hx hb hr (fun t ht hW => ⟨⟨(iv_4, ar_4), rfl, ⟨hgi, hga, hgk, hgt⟩, by show va_P _ _ _ _; rw [ht]; exact hP⟩, hS.F ht⟩) hS.2.2 dX11_tries_252
        · skip
          have q_7 : x5_3.toInt < v_6.toInt := i_nle2 (rfl : v_6.toInt = v_6.toInt) (rfl : x5_3.toInt = x5_3.toInt) c_7
          refine lv_aload_n hx hb dX11_tries_173 rfl (lv_at hl 1 rfl) ?_
          refine lv_aload_n hx hb dX11_tries_174 rfl (lv_at hl 1 rfl) ?_
          refine va_get (D := D) (ci := 11) (v := .ref (ad 1)) (C := RX11) (T := TX11) (N := 30) hx hb hts inX11 hown hK hP 0 (m_at11 (Nat.le_of_ble_eq_true rfl) rfl) rfl 0 (by decide) lk0 (fun _ h9 => h9) rfl dX11_tries_175 ?_
          refine lv_bipush (v := 112) hx hb dX11_tries_178 (by decide) ?_
          refine lv_iload_n hx hb dX11_tries_180 rfl (lv_at hl 2 rfl) ?_
          refine lv_iadd hx hb dX11_tries_181 ?_
          refine lv_topi (fun v_8 ev_8 => ?_)
          have tv_8 : v_8.toInt = (112 : Int) + a.toInt := i_add (show (112 : Int32).toInt = (112 : Int) from rfl) (rfl : a.toInt = a.toInt) (by omega) (by omega) ev_8
          refine va_iald hx hb hK hP 1 0 (m_at12 (Nat.le_of_ble_eq_true rfl) rfl) rfl (g_in (N := 126) (rfl : v_8.toInt = v_8.toInt) rfl (by omega) (by omega)) dX11_tries_182 ?_
          refine lv_topi (fun v_9 ev_9 => ?_)
          have hv2 : 0 ≤ v_9.toInt ∧ v_9.toInt < 108 := by
            rw [ev_9, g_cN (rfl : v_8.toInt = _), hga 1 (by omega) (by omega) (by omega) (by omega), show (v_8.toInt).toNat = 112 + a.toInt.toNat from by omega]
            exact ⟨(hs5 a.toInt.toNat (by omega)).1, (hs5 a.toInt.toNat (by omega)).2.1⟩
          refine lv_aload_n hx hb dX11_tries_183 rfl (lv_at hl 1 rfl) ?_
          refine va_get (D := D) (ci := 11) (v := .ref (ad 1)) (C := RX11) (T := TX11) (N := 30) hx hb hts inX11 hown hK hP 0 (m_at11 (Nat.le_of_ble_eq_true rfl) rfl) rfl 0 (by decide) lk0 (fun _ h9 => h9) rfl dX11_tries_184 ?_
          refine lv_bipush (v := 119) hx hb dX11_tries_187 (by decide) ?_
          refine lv_iload hx hb dX11_tries_189 (lv_at hl 0 rfl) ?_
          refine lv_iadd hx hb dX11_tries_191 ?_
          refine lv_topi (fun v_10 ev_10 => ?_)
          have tv_10 : v_10.toInt = (119 : Int) + x5_3.toInt := i_add (show (119 : Int32).toInt = (119 : Int) from rfl) (rfl : x5_3.toInt = x5_3.toInt) (by omega) (by omega) ev_10
          refine va_iald hx hb hK hP 1 0 (m_at12 (Nat.le_of_ble_eq_true rfl) rfl) rfl (g_in (N := 126) (rfl : v_10.toInt = v_10.toInt) rfl (by omega) (by omega)) dX11_tries_192 ?_
          refine lv_topi (fun v_11 ev_11 => ?_)
          have hv3 : 0 ≤ v_11.toInt ∧ v_11.toInt < 108 := by
            rw [ev_11, g_cN (rfl : v_10.toInt = _), hga 1 (by omega) (by omega) (by omega) (by omega), show (v_10.toInt).toNat = 119 + (x5_3.toInt).toNat from by omega]
            exact ⟨(hs5 (x5_3.toInt).toNat (by omega)).2.2.1, (hs5 (x5_3.toInt).toNat (by omega)).2.2.2⟩
          refine m_calli (va_runV (As := [.int v_9, .int v_11]) (rest := []) ⟨hx, hb, hml, hown, hts⟩ (c_X11_time l D cy ad hI _ iv_4 ar_4 v_9 v_11 (by omega) (by omega) hgk) (cwV 2 hts gX11_tries_X11_time rfl rfl rfl (by decide +kernel) ⟨Nat.le_of_ble_eq_true rfl, Nat.le_of_ble_eq_true rfl⟩) (m_preV hP hK hSt hNw hS (m_at11 (Nat.le_of_ble_eq_true rfl) rfl) rfl) rfl rfl hl.1 rfl (lv_room (Nat.le_of_ble_eq_true rfl)) dX11_tries_193 ⟨Nat.zero_le _, Nat.zero_le _⟩) hS (fun r_12 iv_12 ar_12 H locs w_12 hP hS => ?_)
          try dsimp only at w_12
          have wi_12 := (w_12.2.1).symm
          subst wi_12
          obtain ⟨-, -, wf, wk, -, -⟩ := w_12
          have hi2 := hgi
          have ha2 : ∀ c, c ≠ 5 → c ≠ 6 → c ≠ 7 → c ≠ 8 → ar_12 c = ar c := fun c h5 h6 h7 h8 => (wf c h5 h6).trans (hga c h5 h6 h7 h8)
          have hk2 := wk
          have ht2 : TR ar_12 := hgt.fr (wf 7 (by omega) (by omega)) (wf 8 (by omega) (by omega))
          refine lv_istore (lv' := [(6, .int r_12), (5, .int x5_3), (0, .ref (ad 0)), (1, .int a), (2, .int b), (3, .int d), (4, .int f)]) hx hb dX11_tries_196 hl (by decide) rfl (fun ls hl => ?_)
          refine lv_iload_n hx hb dX11_tries_198 rfl (lv_at hl 4 rfl) ?_
          refine lv_iload hx hb dX11_tries_199 (lv_at hl 1 rfl) ?_
          refine lv_ishr hx hb dX11_tries_201 ?_
          refine lv_topi (fun v_13 ev_13 => ?_)
          refine lv_iconst (v := 1) hx hb dX11_tries_202 (by decide) ?_
          refine lv_iand hx hb dX11_tries_203 ?_
          refine lv_topi (fun v_14 ev_14 => ?_)
          refine lv_if_ne (tgt := 246) hx hb dX11_tries_204 (by decide) (fun c_15 => ?_) (fun c_15 => ?_)
          · skip
            have q_15 : v_14.toInt ≠ (0 : Int) := i_ne2 (rfl : v_14.toInt = v_14.toInt) (show (0 : Int32).toInt = (0 : Int) from rfl) c_15
            obtain ⟨x5_16, ex5_16⟩ : ∃ y : Int32, y = x5_3 + 1 := ⟨_, rfl⟩
            have tx5_16 : x5_16.toInt = x5_3.toInt + (1 : Int) := i_add (rfl : x5_3.toInt = x5_3.toInt) (show (1 : Int32).toInt = (1 : Int) from rfl) (by omega) (by omega) ex5_16
            refine lv_iinc (v := x5_16) (lv' := [(5, .int x5_16), (6, .int r_12), (0, .ref (ad 0)), (1, .int a), (2, .int b), (3, .int d), (4, .int f)]) hx hb dX11_tries_246 hl (k := 1) rfl (by rw [ex5_16]; rfl) (by decide) rfl (fun ls hl => ?_)
            refine lv_goto (tgt := 161) hx hb dX11_tries_249 (by decide) ?_
            exact ih5 x5_16 iv_4 ar_12 _ _ _ (by omega) (by omega) hi2 ha2 hk2 ht2 hP hS (lv_sub hl [0, 2, 3, 4, 5, 6] rfl)
          · skip
            have q_15 : v_14.toInt = (0 : Int) := i_eq2 (rfl : v_14.toInt = v_14.toInt) (show (0 : Int32).toInt = (0 : Int) from rfl) c_15
            refine lv_iload hx hb dX11_tries_207 (lv_at hl 0 rfl) ?_
            refine lv_ldc (v := 100000) hx hb hown lk1 dX11_tries_209 ?_
            refine lv_icmp_ge (tgt := 246) hx hb dX11_tries_211 (by decide) (fun c_17 => ?_) (fun c_17 => ?_)
            · skip
              have q_17 : (100000 : Int) ≤ r_12.toInt := i_le2 (show (100000 : Int32).toInt = (100000 : Int) from rfl) (rfl : r_12.toInt = r_12.toInt) c_17
              obtain ⟨x5_18, ex5_18⟩ : ∃ y : Int32, y = x5_3 + 1 := ⟨_, rfl⟩
              have tx5_18 : x5_18.toInt = x5_3.toInt + (1 : Int) := i_add (rfl : x5_3.toInt = x5_3.toInt) (show (1 : Int32).toInt = (1 : Int) from rfl) (by omega) (by omega) ex5_18
              refine lv_iinc (v := x5_18) (lv' := [(5, .int x5_18), (6, .int r_12), (0, .ref (ad 0)), (1, .int a), (2, .int b), (3, .int d), (4, .int f)]) hx hb dX11_tries_246 hl (k := 1) rfl (by rw [ex5_18]; rfl) (by decide) rfl (fun ls hl => ?_)
              refine lv_goto (tgt := 161) hx hb dX11_tries_249 (by decide) ?_
              exact ih5 x5_18 iv_4 ar_12 _ _ _ (by omega) (by omega) hi2 ha2 hk2 ht2 hP hS (lv_sub hl [0, 2, 3, 4, 5, 6] rfl)
            · skip
              have q_17 : r_12.toInt < (100000 : Int) := i_nle2 (show (100000 : Int32).toInt = (100000 : Int) from rfl) (rfl : r_12.toInt = r_12.toInt) c_17
              refine lv_aload_n hx hb dX11_tries_214 rfl (lv_at hl 2 rfl) ?_
              refine va_get (D := D) (ci := 11) (v := .ref (ad 7)) (C := RX11) (T := TX11) (N := 30) hx hb hts inX11 hown hK hP 0 (m_at11 (Nat.le_of_ble_eq_true rfl) rfl) rfl 9 (by decide) lk2 (fun _ h9 => h9) rfl dX11_tries_215 ?_
              refine lv_iload_n hx hb dX11_tries_218 rfl (lv_at hl 3 rfl) ?_
              refine lv_iload hx hb dX11_tries_219 (lv_at hl 1 rfl) ?_
              refine va_iast hx hb hK hP (mD hI) hS 7 0 (m_at12 (Nat.le_of_ble_eq_true rfl) rfl) rfl (g_in (N := 6) (rfl : a.toInt = a.toInt) rfl (by omega) (by omega)) dX11_tries_221 (fun H locs hP _ hS => ?_)
              rw [m_pt12 (Nat.le_of_ble_eq_true rfl) rfl] at hP
              obtain ⟨ar_19, ear_19⟩ : ∃ z : gAr, z = va_up ar_12 7 (upd (ar_12 7) a.toNatClampNeg x5_3) := ⟨_, rfl⟩
              rw [← ear_19] at hP
              have ha3 : ∀ c, c ≠ 5 → c ≠ 6 → c ≠ 7 → c ≠ 8 → ar_19 c = ar c := fun c h5 h6 h7 h8 => by rw [ear_19, ua_o h7]; exact ha2 c h5 h6 h7 h8
              have hh1 := ha3 1 (by omega) (by omega) (by omega) (by omega)
              have hk3 : KA ar_19 := hk2.fr (by rw [ear_19, ua_o (by omega)]) (by rw [ear_19, ua_o (by omega)]) (by rw [ear_19, ua_o (by omega)])
              have ht3 : TR ar_19 := fun i hi => by
                have h9 := ht2 i hi
                rw [ear_19, ua_s, ua_o (by omega : (8 : Nat) ≠ 7), g_cN (rfl : a.toInt = _)]
                by_cases e : i = (a.toInt).toNat
                · rw [e, pk_us]; exact ⟨by omega, by omega, by rw [← e]; exact h9.2.2.1, by rw [← e]; exact h9.2.2.2⟩
                · rw [pk_un e]; exact h9
              refine lv_aload_n hx hb dX11_tries_222 rfl (lv_at hl 2 rfl) ?_
              refine lv_iload_n hx hb dX11_tries_223 rfl (lv_at hl 3 rfl) ?_
              refine lv_iconst (v := 1) hx hb dX11_tries_224 (by decide) ?_
              refine lv_iadd hx hb dX11_tries_225 ?_
              refine lv_topi (fun v_20 ev_20 => ?_)
              have tv_20 : v_20.toInt = a.toInt + (1 : Int) := i_add (rfl : a.toInt = a.toInt) (show (1 : Int32).toInt = (1 : Int) from rfl) (by omega) (by omega) ev_20
              refine lv_iload_n hx hb dX11_tries_226 rfl (lv_at hl 4 rfl) ?_
              refine lv_iconst (v := 1) hx hb dX11_tries_227 (by decide) ?_
              refine lv_iload hx hb dX11_tries_228 (lv_at hl 1 rfl) ?_
              refine lv_ishl hx hb dX11_tries_230 ?_
              refine lv_topi (fun v_21 ev_21 => ?_)
              refine lv_ior hx hb dX11_tries_231 ?_
              refine lv_topi (fun v_22 ev_22 => ?_)
              refine lv_iload_n hx hb dX11_tries_232 rfl (lv_at hl 5 rfl) ?_
              refine lv_iload hx hb dX11_tries_233 (lv_at hl 0 rfl) ?_
              refine va_mmax (rest := [.int v_22, .int v_20, .ref (ad 0)]) hx hb (hml.trans hl.1.symm) hown lk3 lk4 lk5 lk6 (Nat.le_of_ble_eq_true rfl) (Nat.le_of_ble_eq_true rfl) (Nat.zero_le _) (Nat.zero_le _) dX11_tries_235 ?_
              refine lv_topi (fun v_23 ev_23 => ?_)
              have tv_23 : v_23.toInt = max d.toInt r_12.toInt := i_max (rfl : d.toInt = d.toInt) (rfl : r_12.toInt = r_12.toInt) ev_23
              refine lv_iload hx hb dX11_tries_238 (lv_at hl 6 rfl) ?_
              refine lv_iload hx hb dX11_tries_240 (lv_at hl 0 rfl) ?_
              refine lv_iadd hx hb dX11_tries_242 ?_
              refine lv_topi (fun v_24 ev_24 => ?_)
              refine m_callv (va_runV (As := [.int v_20, .int v_22, .int v_23, .int v_24]) (rest := []) ⟨hx, hb, hml, hown, hts⟩ (c_tries_3 l D cy ad hI _ iv_4 ar_19 v_20 v_22 v_23 v_24 (by rw [hh1]; exact hsb) hk3 ht3 (by rw [hh1]; omega) (by omega)) (cwV 4 hts gX11_tries_X11_tries rfl rfl rfl (by decide +kernel) ⟨Nat.le_of_ble_eq_true rfl, Nat.le_of_ble_eq_true rfl⟩) (m_preV hP hK hSt hNw hS (m_at11 (Nat.le_of_ble_eq_true rfl) rfl) rfl) rfl rfl hl.1 rfl (lv_room (Nat.le_of_ble_eq_true rfl)) dX11_tries_243 ⟨Nat.zero_le _, Nat.zero_le _⟩) hS (fun iv_25 ar_25 H locs w_25 hP hS => ?_)
              try dsimp only at w_25
              obtain ⟨wi, wa, wk4, wt4⟩ := w_25
              have hi4 : ∀ x y, ¬ (x = 0 ∧ (y = 11 ∨ y = 12 ∨ y = 13 ∨ y = 14)) → iv_25 x y = iv x y := fun x y h => (wi x y h).trans (hi2 x y h)
              have ha4 : ∀ c, c ≠ 5 → c ≠ 6 → c ≠ 7 → c ≠ 8 → ar_25 c = ar c := fun c h5 h6 h7 h8 => (wa c h5 h6 h7 h8).trans (ha3 c h5 h6 h7 h8)
              have hi2 := hi4
              have ha2 := ha4
              have hk2 := wk4
              have ht2 := wt4
              obtain ⟨x5_26, ex5_26⟩ : ∃ y : Int32, y = x5_3 + 1 := ⟨_, rfl⟩
              have tx5_26 : x5_26.toInt = x5_3.toInt + (1 : Int) := i_add (rfl : x5_3.toInt = x5_3.toInt) (show (1 : Int32).toInt = (1 : Int) from rfl) (by omega) (by omega) ex5_26
              refine lv_iinc (v := x5_26) (lv' := [(5, .int x5_26), (6, .int r_12), (0, .ref (ad 0)), (1, .int a), (2, .int b), (3, .int d), (4, .int f)]) hx hb dX11_tries_246 hl (k := 1) rfl (by rw [ex5_26]; rfl) (by decide) rfl (fun ls hl => ?_)
              refine lv_goto (tgt := 161) hx hb dX11_tries_249 (by decide) ?_
              exact ih5 x5_26 iv_25 ar_25 _ _ _ (by omega) (by omega) hi2 ha2 hk2 ht2 hP hS (lv_sub hl [0, 2, 3, 4, 5, 6] rfl)
    have zl_27 : (0 : Int32).toInt = (0 : Int) := rfl
    exact loop5 (((6 - ((0 : Int))).toNat) + 1) 0 iv ar _ _ _ (by omega) (by omega) (fun _ _ _ => rfl) (fun _ _ _ _ _ => rfl) hka htr hP hS (lv_sub hl [0, 1, 2, 3, 4, 5] rfl)
  · skip
    have q_2 : a.toInt = v_1.toInt := i_eq2 (rfl : a.toInt = a.toInt) (rfl : v_1.toInt = v_1.toInt) c_2
    exfalso; omega
set_option maxHeartbeats 4000000 in
set_option maxRecDepth 100000 in
theorem c_tries_5 (l : Launch) (D : va_G) (cy : Nat → ClassId) (ad : Nat → Nat) (hI : mInj ad) (sz : Nat) (iv : gIv) (ar : gAr) (a : Int32) (b : Int32) (d : Int32) (f : Int32) (hsb : SB (ar 1)) (hka : KA ar) (htr : TR ar) (ha : a.toInt = (ar 1 111).toInt - 5) (ha0 : 0 ≤ a.toInt) : Met l yX11_tries wsX11_tries ({ frames := 8, cells := 0, slots := 0, locals := 200 } : Room) (va_Pc [.ref (ad 0), .int a, .int b, .int d, .int f] (mPre D cy ad sz iv ar)) (va_Qv (fun (u : gIv × gAr) => (∀ x y, ¬ (x = 0 ∧ (y = 11 ∨ y = 12 ∨ y = 13 ∨ y = 14)) → u.1 x y = iv x y) ∧ (∀ c, c ≠ 5 → c ≠ 6 → c ≠ 7 → c ≠ 8 → u.2 c = ar c) ∧ KA u.2 ∧ TR u.2) (mPost D cy ad) (mA ad sz)) 0 0 (mA ad sz) := by
  refine Met.ofW (cc := cX11_tries) (maxL := 7) (ret := none) (by decide) rfl ?_
  intro p e s m args below meth c s₁ B hml hv
  obtain ⟨rfl, rfl, hP, hK, hSt, hNw⟩ := hv
  have hx := B.exec
  have hb := B.bytes
  have hr := B.returns
  have hts := atoms_spec (ws := wsX11_tries) B.pre
  have hown : s.vm.findClass RX11 = some m.cls := findClass_of_methodNamed B.named
  have hlocks := B.notSynchronized
  have hS : va_S (mA ad s.heap.size) s.heap s.heap [] := va_S.rf
  have inX11 : ∀ w ∈ u_ws RX11 TX11 30, w ∈ wsX11_tries := by decide +kernel
  have lk0 := hts (.fieldLink RX11 9 "FormationPlannerModel" "s" "[I") (by decide +kernel)
  have lk1 := hts (.constant RX11 124 100000) (by decide +kernel)
  have lk2 := hts (.fieldLink RX11 29 "FormationPlannerModel" "tried" "[I") (by decide +kernel)
  have lk3 := hts (.methodLink RX11 151 Lib.Math.max.name) (by decide +kernel)
  have lk4 := hts (.static Lib.Math.max.name) (by decide +kernel)
  have lk5 := hts (.initialized "java/lang/Math") (by decide +kernel)
  have lk6 := hts (.code Lib.Math.max.name Lib.Math.max.code 2 (some .int)) (by decide +kernel)
  have hl := lv_entry ([.ref (ad 0), .int a, .int b, .int d, .int f]) (n := 7) (Nat.le_of_ble_eq_true rfl)
  rw [lg_entry_eq]
  generalize (lg_sl ([.ref (ad 0), .int a, .int b, .int d, .int f]) ++ List.replicate (7 - (lg_sl ([.ref (ad 0), .int a, .int b, .int d, .int f])).length) Slot.unset).toArray = ls at hl ⊢
  have hl : lv_has ls 7 [(0, .ref (ad 0)), (1, .int a), (2, .int b), (3, .int d), (4, .int f)] := hl
  obtain ⟨Q, hQ⟩ : ∃ Q, Q = MQ below (va_Qv (fun (u : gIv × gAr) => (∀ x y, ¬ (x = 0 ∧ (y = 11 ∨ y = 12 ∨ y = 13 ∨ y = 14)) → u.1 x y = iv x y) ∧ (∀ c, c ≠ 5 → c ≠ 6 → c ≠ 7 → c ≠ 8 → u.2 c = ar c) ∧ KA u.2 ∧ TR u.2) (mPost D cy ad) (mA ad s.heap.size)) (([.ref (ad 0), .int a, .int b, .int d, .int f] : List Value).toArray) s 0 0 (mA ad s.heap.size) := ⟨_, rfl⟩
  rw [← hQ]
  obtain ⟨hs1, hs2, hs3, hs4, hs5⟩ := id hsb
  refine lv_iload_n hx hb dX11_tries_0 rfl (lv_at hl 1 rfl) ?_
  refine lv_aload_n hx hb dX11_tries_1 rfl (lv_at hl 0 rfl) ?_
  refine va_get (D := D) (ci := 11) (v := .ref (ad 1)) (C := RX11) (T := TX11) (N := 30) hx hb hts inX11 hown hK hP 0 (m_at11 (Nat.le_of_ble_eq_true rfl) rfl) rfl 0 (by decide) lk0 (fun _ h9 => h9) rfl dX11_tries_2 ?_
  refine lv_bipush (v := 111) hx hb dX11_tries_5 (by decide) ?_
  refine va_iald hx hb hK hP 1 0 (m_at12 (Nat.le_of_ble_eq_true rfl) rfl) rfl (g_in (N := 126) (show (111 : Int32).toInt = (111 : Int) from rfl) rfl (by omega) (by omega)) dX11_tries_7 ?_
  refine lv_topi (fun v_1 ev_1 => ?_)
  have hv0 : v_1.toInt = (ar 1 111).toInt := by rw [ev_1]; rfl
  refine lv_icmp_ne (tgt := 158) hx hb dX11_tries_8 (by decide) (fun c_2 => ?_) (fun c_2 => ?_)
  · skip
    have q_2 : a.toInt ≠ v_1.toInt := i_ne2 (rfl : a.toInt = a.toInt) (rfl : v_1.toInt = v_1.toInt) c_2
    refine lv_iconst (v := 0) hx hb dX11_tries_158 (by decide) ?_
    refine lv_istore (lv' := [(5, .int 0), (0, .ref (ad 0)), (1, .int a), (2, .int b), (3, .int d), (4, .int f)]) hx hb dX11_tries_159 hl (by decide) rfl (fun ls hl => ?_)
    have loop5 : ∀ (n : Nat) (x5_3 : Int32) (iv_4 : gIv) (ar_4 : gAr) (H : Heap) (locs : List Loc) (ls : Array Slot), ((6 - (x5_3.toInt)).toNat) < n → (0 ≤ (x5_3.toInt) ∧ (x5_3.toInt) ≤ 6) → (∀ x y, ¬ (x = 0 ∧ (y = 11 ∨ y = 12 ∨ y = 13 ∨ y = 14)) → iv_4 x y = iv x y) → (∀ c, c ≠ 5 → c ≠ 6 → c ≠ 7 → c ≠ 8 → ar_4 c = ar c) → (KA ar_4) → (TR ar_4) → va_P D vwCl (MW cy ad iv_4 ar_4) H → va_S (mA ad s.heap.size) s.heap H locs → lv_has ls 7 [(5, .int x5_3), (0, .ref (ad 0)), (1, .int a), (2, .int b), (3, .int d), (4, .int f)] → W p l e (headSpec wsX11_tries (({ frames := 8, cells := 0, slots := 0, locals := 200 } : Room))).room s m (([.ref (ad 0), .int a, .int b, .int d, .int f] : List Value).toArray) below meth c H locs 0 0 Q (F0 m 161 ls []) := by
      intro n
      induction n with
      | zero => intro x5_3 iv_4 ar_4 H locs ls hm; omega
      | succ n ih5 =>
        intro x5_3 iv_4 ar_4 H locs ls hm hg0 hgi hga hgk hgt hP hS hl
        refine lv_iload hx hb dX11_tries_161 (lv_at hl 0 rfl) ?_
        refine lv_aload_n hx hb dX11_tries_163 rfl (lv_at hl 1 rfl) ?_
        refine va_get (D := D) (ci := 11) (v := .ref (ad 1)) (C := RX11) (T := TX11) (N := 30) hx hb hts inX11 hown hK hP 0 (m_at11 (Nat.le_of_ble_eq_true rfl) rfl) rfl 0 (by decide) lk0 (fun _ h9 => h9) rfl dX11_tries_164 ?_
        refine lv_bipush (v := 118) hx hb dX11_tries_167 (by decide) ?_
        refine va_iald hx hb hK hP 1 0 (m_at12 (Nat.le_of_ble_eq_true rfl) rfl) rfl (g_in (N := 126) (show (118 : Int32).toInt = (118 : Int) from rfl) rfl (by omega) (by omega)) dX11_tries_169 ?_
        refine lv_topi (fun v_6 ev_6 => ?_)
        have hv1 : v_6.toInt = (ar 1 118).toInt := by rw [ev_6, hga 1 (by omega) (by omega) (by omega) (by omega)]; rfl
        refine lv_icmp_ge (tgt := 252) hx hb dX11_tries_170 (by decide) (fun c_7 => ?_) (fun c_7 => ?_)
        · skip
          have q_7 : v_6.toInt ≤ x5_3.toInt := i_le2 (rfl : v_6.toInt = v_6.toInt) (rfl : x5_3.toInt = x5_3.toInt) c_7
          rw [hQ]
          exact W.vret hx hb hr (fun t ht hW => ⟨⟨(iv_4, ar_4), rfl, ⟨hgi, hga, hgk, hgt⟩, by show va_P _ _ _ _; rw [ht]; exact hP⟩, hS.F ht⟩) hS.2.2 dX11_tries_252
        · skip
          have q_7 : x5_3.toInt < v_6.toInt := i_nle2 (rfl : v_6.toInt = v_6.toInt) (rfl : x5_3.toInt = x5_3.toInt) c_7
          refine lv_aload_n hx hb dX11_tries_173 rfl (lv_at hl 1 rfl) ?_
          refine lv_aload_n hx hb dX11_tries_174 rfl (lv_at hl 1 rfl) ?_
          refine va_get (D := D) (ci := 11) (v := .ref (ad 1)) (C := RX11) (T := TX11) (N := 30) hx hb hts inX11 hown hK hP 0 (m_at11 (Nat.le_of_ble_eq_true rfl) rfl) rfl 0 (by decide) lk0 (fun _ h9 => h9) rfl dX11_tries_175 ?_
          refine lv_bipush (v := 112) hx hb dX11_tries_178 (by decide) ?_
          refine lv_iload_n hx hb dX11_tries_180 rfl (lv_at hl 2 rfl) ?_
          refine lv_iadd hx hb dX11_tries_181 ?_
          refine lv_topi (fun v_8 ev_8 => ?_)
          have tv_8 : v_8.toInt = (112 : Int) + a.toInt := i_add (show (112 : Int32).toInt = (112 : Int) from rfl) (rfl : a.toInt = a.toInt) (by omega) (by omega) ev_8
          refine va_iald hx hb hK hP 1 0 (m_at12 (Nat.le_of_ble_eq_true rfl) rfl) rfl (g_in (N := 126) (rfl : v_8.toInt = v_8.toInt) rfl (by omega) (by omega)) dX11_tries_182 ?_
          refine lv_topi (fun v_9 ev_9 => ?_)
          have hv2 : 0 ≤ v_9.toInt ∧ v_9.toInt < 108 := by
            rw [ev_9, g_cN (rfl : v_8.toInt = _), hga 1 (by omega) (by omega) (by omega) (by omega), show (v_8.toInt).toNat = 112 + a.toInt.toNat from by omega]
            exact ⟨(hs5 a.toInt.toNat (by omega)).1, (hs5 a.toInt.toNat (by omega)).2.1⟩
          refine lv_aload_n hx hb dX11_tries_183 rfl (lv_at hl 1 rfl) ?_
          refine va_get (D := D) (ci := 11) (v := .ref (ad 1)) (C := RX11) (T := TX11) (N := 30) hx hb hts inX11 hown hK hP 0 (m_at11 (Nat.le_of_ble_eq_true rfl) rfl) rfl 0 (by decide) lk0 (fun _ h9 => h9) rfl dX11_tries_184 ?_
          refine lv_bipush (v := 119) hx hb dX11_tries_187 (by decide) ?_
          refine lv_iload hx hb dX11_tries_189 (lv_at hl 0 rfl) ?_
          refine lv_iadd hx hb dX11_tries_191 ?_
          refine lv_topi (fun v_10 ev_10 => ?_)
          have tv_10 : v_10.toInt = (119 : Int) + x5_3.toInt := i_add (show (119 : Int32).toInt = (119 : Int) from rfl) (rfl : x5_3.toInt = x5_3.toInt) (by omega) (by omega) ev_10
          refine va_iald hx hb hK hP 1 0 (m_at12 (Nat.le_of_ble_eq_true rfl) rfl) rfl (g_in (N := 126) (rfl : v_10.toInt = v_10.toInt) rfl (by omega) (by omega)) dX11_tries_192 ?_
          refine lv_topi (fun v_11 ev_11 => ?_)
          have hv3 : 0 ≤ v_11.toInt ∧ v_11.toInt < 108 := by
            rw [ev_11, g_cN (rfl : v_10.toInt = _), hga 1 (by omega) (by omega) (by omega) (by omega), show (v_10.toInt).toNat = 119 + (x5_3.toInt).toNat from by omega]
            exact ⟨(hs5 (x5_3.toInt).toNat (by omega)).2.2.1, (hs5 (x5_3.toInt).toNat (by omega)).2.2.2⟩
          refine m_calli (va_runV (As := [.int v_9, .int v_11]) (rest := []) ⟨hx, hb, hml, hown, hts⟩ (c_X11_time l D cy ad hI _ iv_4 ar_4 v_9 v_11 (by omega) (by omega) hgk) (cwV 2 hts gX11_tries_X11_time rfl rfl rfl (by decide +kernel) ⟨Nat.le_of_ble_eq_true rfl, Nat.le_of_ble_eq_true rfl⟩) (m_preV hP hK hSt hNw hS (m_at11 (Nat.le_of_ble_eq_true rfl) rfl) rfl) rfl rfl hl.1 rfl (lv_room (Nat.le_of_ble_eq_true rfl)) dX11_tries_193 ⟨Nat.zero_le _, Nat.zero_le _⟩) hS (fun r_12 iv_12 ar_12 H locs w_12 hP hS => ?_)
          try dsimp only at w_12
          have wi_12 := (w_12.2.1).symm
          subst wi_12
          obtain ⟨-, -, wf, wk, -, -⟩ := w_12
          have hi2 := hgi
          have ha2 : ∀ c, c ≠ 5 → c ≠ 6 → c ≠ 7 → c ≠ 8 → ar_12 c = ar c := fun c h5 h6 h7 h8 => (wf c h5 h6).trans (hga c h5 h6 h7 h8)
          have hk2 := wk
          have ht2 : TR ar_12 := hgt.fr (wf 7 (by omega) (by omega)) (wf 8 (by omega) (by omega))
          refine lv_istore (lv' := [(6, .int r_12), (5, .int x5_3), (0, .ref (ad 0)), (1, .int a), (2, .int b), (3, .int d), (4, .int f)]) hx hb dX11_tries_196 hl (by decide) rfl (fun ls hl => ?_)
          refine lv_iload_n hx hb dX11_tries_198 rfl (lv_at hl 4 rfl) ?_
          refine lv_iload hx hb dX11_tries_199 (lv_at hl 1 rfl) ?_
          refine lv_ishr hx hb dX11_tries_201 ?_
          refine lv_topi (fun v_13 ev_13 => ?_)
          refine lv_iconst (v := 1) hx hb dX11_tries_202 (by decide) ?_
          refine lv_iand hx hb dX11_tries_203 ?_
          refine lv_topi (fun v_14 ev_14 => ?_)
          refine lv_if_ne (tgt := 246) hx hb dX11_tries_204 (by decide) (fun c_15 => ?_) (fun c_15 => ?_)
          · skip
            have q_15 : v_14.toInt ≠ (0 : Int) := i_ne2 (rfl : v_14.toInt = v_14.toInt) (show (0 : Int32).toInt = (0 : Int) from rfl) c_15
            obtain ⟨x5_16, ex5_16⟩ : ∃ y : Int32, y = x5_3 + 1 := ⟨_, rfl⟩
            have tx5_16 : x5_16.toInt = x5_3.toInt + (1 : Int) := i_add (rfl : x5_3.toInt = x5_3.toInt) (show (1 : Int32).toInt = (1 : Int) from rfl) (by omega) (by omega) ex5_16
            refine lv_iinc (v := x5_16) (lv' := [(5, .int x5_16), (6, .int r_12), (0, .ref (ad 0)), (1, .int a), (2, .int b), (3, .int d), (4, .int f)]) hx hb dX11_tries_246 hl (k := 1) rfl (by rw [ex5_16]; rfl) (by decide) rfl (fun ls hl => ?_)
            refine lv_goto (tgt := 161) hx hb dX11_tries_249 (by decide) ?_
            exact ih5 x5_16 iv_4 ar_12 _ _ _ (by omega) (by omega) hi2 ha2 hk2 ht2 hP hS (lv_sub hl [0, 2, 3, 4, 5, 6] rfl)
          · skip
            have q_15 : v_14.toInt = (0 : Int) := i_eq2 (rfl : v_14.toInt = v_14.toInt) (show (0 : Int32).toInt = (0 : Int) from rfl) c_15
            refine lv_iload hx hb dX11_tries_207 (lv_at hl 0 rfl) ?_
            refine lv_ldc (v := 100000) hx hb hown lk1 dX11_tries_209 ?_
            refine lv_icmp_ge (tgt := 246) hx hb dX11_tries_211 (by decide) (fun c_17 => ?_) (fun c_17 => ?_)
            · skip
              have q_17 : (100000 : Int) ≤ r_12.toInt := i_le2 (show (100000 : Int32).toInt = (100000 : Int) from rfl) (rfl : r_12.toInt = r_12.toInt) c_17
              obtain ⟨x5_18, ex5_18⟩ : ∃ y : Int32, y = x5_3 + 1 := ⟨_, rfl⟩
              have tx5_18 : x5_18.toInt = x5_3.toInt + (1 : Int) := i_add (rfl : x5_3.toInt = x5_3.toInt) (show (1 : Int32).toInt = (1 : Int) from rfl) (by omega) (by omega) ex5_18
              refine lv_iinc (v := x5_18) (lv' := [(5, .int x5_18), (6, .int r_12), (0, .ref (ad 0)), (1, .int a), (2, .int b), (3, .int d), (4, .int f)]) hx hb dX11_tries_246 hl (k := 1) rfl (by rw [ex5_18]; rfl) (by decide) rfl (fun ls hl => ?_)
              refine lv_goto (tgt := 161) hx hb dX11_tries_249 (by decide) ?_
              exact ih5 x5_18 iv_4 ar_12 _ _ _ (by omega) (by omega) hi2 ha2 hk2 ht2 hP hS (lv_sub hl [0, 2, 3, 4, 5, 6] rfl)
            · skip
              have q_17 : r_12.toInt < (100000 : Int) := i_nle2 (show (100000 : Int32).toInt = (100000 : Int) from rfl) (rfl : r_12.toInt = r_12.toInt) c_17
              refine lv_aload_n hx hb dX11_tries_214 rfl (lv_at hl 2 rfl) ?_
              refine va_get (D := D) (ci := 11) (v := .ref (ad 7)) (C := RX11) (T := TX11) (N := 30) hx hb hts inX11 hown hK hP 0 (m_at11 (Nat.le_of_ble_eq_true rfl) rfl) rfl 9 (by decide) lk2 (fun _ h9 => h9) rfl dX11_tries_215 ?_
              refine lv_iload_n hx hb dX11_tries_218 rfl (lv_at hl 3 rfl) ?_
              refine lv_iload hx hb dX11_tries_219 (lv_at hl 1 rfl) ?_
              refine va_iast hx hb hK hP (mD hI) hS 7 0 (m_at12 (Nat.le_of_ble_eq_true rfl) rfl) rfl (g_in (N := 6) (rfl : a.toInt = a.toInt) rfl (by omega) (by omega)) dX11_tries_221 (fun H locs hP _ hS => ?_)
              rw [m_pt12 (Nat.le_of_ble_eq_true rfl) rfl] at hP
              obtain ⟨ar_19, ear_19⟩ : ∃ z : gAr, z = va_up ar_12 7 (upd (ar_12 7) a.toNatClampNeg x5_3) := ⟨_, rfl⟩
              rw [← ear_19] at hP
              have ha3 : ∀ c, c ≠ 5 → c ≠ 6 → c ≠ 7 → c ≠ 8 → ar_19 c = ar c := fun c h5 h6 h7 h8 => by rw [ear_19, ua_o h7]; exact ha2 c h5 h6 h7 h8
              have hh1 := ha3 1 (by omega) (by omega) (by omega) (by omega)
              have hk3 : KA ar_19 := hk2.fr (by rw [ear_19, ua_o (by omega)]) (by rw [ear_19, ua_o (by omega)]) (by rw [ear_19, ua_o (by omega)])
              have ht3 : TR ar_19 := fun i hi => by
                have h9 := ht2 i hi
                rw [ear_19, ua_s, ua_o (by omega : (8 : Nat) ≠ 7), g_cN (rfl : a.toInt = _)]
                by_cases e : i = (a.toInt).toNat
                · rw [e, pk_us]; exact ⟨by omega, by omega, by rw [← e]; exact h9.2.2.1, by rw [← e]; exact h9.2.2.2⟩
                · rw [pk_un e]; exact h9
              refine lv_aload_n hx hb dX11_tries_222 rfl (lv_at hl 2 rfl) ?_
              refine lv_iload_n hx hb dX11_tries_223 rfl (lv_at hl 3 rfl) ?_
              refine lv_iconst (v := 1) hx hb dX11_tries_224 (by decide) ?_
              refine lv_iadd hx hb dX11_tries_225 ?_
              refine lv_topi (fun v_20 ev_20 => ?_)
              have tv_20 : v_20.toInt = a.toInt + (1 : Int) := i_add (rfl : a.toInt = a.toInt) (show (1 : Int32).toInt = (1 : Int) from rfl) (by omega) (by omega) ev_20
              refine lv_iload_n hx hb dX11_tries_226 rfl (lv_at hl 4 rfl) ?_
              refine lv_iconst (v := 1) hx hb dX11_tries_227 (by decide) ?_
              refine lv_iload hx hb dX11_tries_228 (lv_at hl 1 rfl) ?_
              refine lv_ishl hx hb dX11_tries_230 ?_
              refine lv_topi (fun v_21 ev_21 => ?_)
              refine lv_ior hx hb dX11_tries_231 ?_
              refine lv_topi (fun v_22 ev_22 => ?_)
              refine lv_iload_n hx hb dX11_tries_232 rfl (lv_at hl 5 rfl) ?_
              refine lv_iload hx hb dX11_tries_233 (lv_at hl 0 rfl) ?_
              refine va_mmax (rest := [.int v_22, .int v_20, .ref (ad 0)]) hx hb (hml.trans hl.1.symm) hown lk3 lk4 lk5 lk6 (Nat.le_of_ble_eq_true rfl) (Nat.le_of_ble_eq_true rfl) (Nat.zero_le _) (Nat.zero_le _) dX11_tries_235 ?_
              refine lv_topi (fun v_23 ev_23 => ?_)
              have tv_23 : v_23.toInt = max d.toInt r_12.toInt := i_max (rfl : d.toInt = d.toInt) (rfl : r_12.toInt = r_12.toInt) ev_23
              refine lv_iload hx hb dX11_tries_238 (lv_at hl 6 rfl) ?_
              refine lv_iload hx hb dX11_tries_240 (lv_at hl 0 rfl) ?_
              refine lv_iadd hx hb dX11_tries_242 ?_
              refine lv_topi (fun v_24 ev_24 => ?_)
              refine m_callv (va_runV (As := [.int v_20, .int v_22, .int v_23, .int v_24]) (rest := []) ⟨hx, hb, hml, hown, hts⟩ (c_tries_4 l D cy ad hI _ iv_4 ar_19 v_20 v_22 v_23 v_24 (by rw [hh1]; exact hsb) hk3 ht3 (by rw [hh1]; omega) (by omega)) (cwV 4 hts gX11_tries_X11_tries rfl rfl rfl (by decide +kernel) ⟨Nat.le_of_ble_eq_true rfl, Nat.le_of_ble_eq_true rfl⟩) (m_preV hP hK hSt hNw hS (m_at11 (Nat.le_of_ble_eq_true rfl) rfl) rfl) rfl rfl hl.1 rfl (lv_room (Nat.le_of_ble_eq_true rfl)) dX11_tries_243 ⟨Nat.zero_le _, Nat.zero_le _⟩) hS (fun iv_25 ar_25 H locs w_25 hP hS => ?_)
              try dsimp only at w_25
              obtain ⟨wi, wa, wk4, wt4⟩ := w_25
              have hi4 : ∀ x y, ¬ (x = 0 ∧ (y = 11 ∨ y = 12 ∨ y = 13 ∨ y = 14)) → iv_25 x y = iv x y := fun x y h => (wi x y h).trans (hi2 x y h)
              have ha4 : ∀ c, c ≠ 5 → c ≠ 6 → c ≠ 7 → c ≠ 8 → ar_25 c = ar c := fun c h5 h6 h7 h8 => (wa c h5 h6 h7 h8).trans (ha3 c h5 h6 h7 h8)
              have hi2 := hi4
              have ha2 := ha4
              have hk2 := wk4
              have ht2 := wt4
              obtain ⟨x5_26, ex5_26⟩ : ∃ y : Int32, y = x5_3 + 1 := ⟨_, rfl⟩
              have tx5_26 : x5_26.toInt = x5_3.toInt + (1 : Int) := i_add (rfl : x5_3.toInt = x5_3.toInt) (show (1 : Int32).toInt = (1 : Int) from rfl) (by omega) (by omega) ex5_26
              refine lv_iinc (v := x5_26) (lv' := [(5, .int x5_26), (6, .int r_12), (0, .ref (ad 0)), (1, .int a), (2, .int b), (3, .int d), (4, .int f)]) hx hb dX11_tries_246 hl (k := 1) rfl (by rw [ex5_26]; rfl) (by decide) rfl (fun ls hl => ?_)
              refine lv_goto (tgt := 161) hx hb dX11_tries_249 (by decide) ?_
              exact ih5 x5_26 iv_25 ar_25 _ _ _ (by omega) (by omega) hi2 ha2 hk2 ht2 hP hS (lv_sub hl [0, 2, 3, 4, 5, 6] rfl)
    have zl_27 : (0 : Int32).toInt = (0 : Int) := rfl
    exact loop5 (((6 - ((0 : Int))).toNat) + 1) 0 iv ar _ _ _ (by omega) (by omega) (fun _ _ _ => rfl) (fun _ _ _ _ _ => rfl) hka htr hP hS (lv_sub hl [0, 1, 2, 3, 4, 5] rfl)
  · skip
    have q_2 : a.toInt = v_1.toInt := i_eq2 (rfl : a.toInt = a.toInt) (rfl : v_1.toInt = v_1.toInt) c_2
    exfalso; omega
set_option maxHeartbeats 4000000 in
set_option maxRecDepth 100000 in
theorem c_tries_6 (l : Launch) (D : va_G) (cy : Nat → ClassId) (ad : Nat → Nat) (hI : mInj ad) (sz : Nat) (iv : gIv) (ar : gAr) (a : Int32) (b : Int32) (d : Int32) (f : Int32) (hsb : SB (ar 1)) (hka : KA ar) (htr : TR ar) (ha : a.toInt = (ar 1 111).toInt - 6) (ha0 : 0 ≤ a.toInt) : Met l yX11_tries wsX11_tries ({ frames := 9, cells := 0, slots := 0, locals := 226 } : Room) (va_Pc [.ref (ad 0), .int a, .int b, .int d, .int f] (mPre D cy ad sz iv ar)) (va_Qv (fun (u : gIv × gAr) => (∀ x y, ¬ (x = 0 ∧ (y = 11 ∨ y = 12 ∨ y = 13 ∨ y = 14)) → u.1 x y = iv x y) ∧ (∀ c, c ≠ 5 → c ≠ 6 → c ≠ 7 → c ≠ 8 → u.2 c = ar c) ∧ KA u.2 ∧ TR u.2) (mPost D cy ad) (mA ad sz)) 0 0 (mA ad sz) := by
  refine Met.ofW (cc := cX11_tries) (maxL := 7) (ret := none) (by decide) rfl ?_
  intro p e s m args below meth c s₁ B hml hv
  obtain ⟨rfl, rfl, hP, hK, hSt, hNw⟩ := hv
  have hx := B.exec
  have hb := B.bytes
  have hr := B.returns
  have hts := atoms_spec (ws := wsX11_tries) B.pre
  have hown : s.vm.findClass RX11 = some m.cls := findClass_of_methodNamed B.named
  have hlocks := B.notSynchronized
  have hS : va_S (mA ad s.heap.size) s.heap s.heap [] := va_S.rf
  have inX11 : ∀ w ∈ u_ws RX11 TX11 30, w ∈ wsX11_tries := by decide +kernel
  have lk0 := hts (.fieldLink RX11 9 "FormationPlannerModel" "s" "[I") (by decide +kernel)
  have lk1 := hts (.constant RX11 124 100000) (by decide +kernel)
  have lk2 := hts (.fieldLink RX11 29 "FormationPlannerModel" "tried" "[I") (by decide +kernel)
  have lk3 := hts (.methodLink RX11 151 Lib.Math.max.name) (by decide +kernel)
  have lk4 := hts (.static Lib.Math.max.name) (by decide +kernel)
  have lk5 := hts (.initialized "java/lang/Math") (by decide +kernel)
  have lk6 := hts (.code Lib.Math.max.name Lib.Math.max.code 2 (some .int)) (by decide +kernel)
  have hl := lv_entry ([.ref (ad 0), .int a, .int b, .int d, .int f]) (n := 7) (Nat.le_of_ble_eq_true rfl)
  rw [lg_entry_eq]
  generalize (lg_sl ([.ref (ad 0), .int a, .int b, .int d, .int f]) ++ List.replicate (7 - (lg_sl ([.ref (ad 0), .int a, .int b, .int d, .int f])).length) Slot.unset).toArray = ls at hl ⊢
  have hl : lv_has ls 7 [(0, .ref (ad 0)), (1, .int a), (2, .int b), (3, .int d), (4, .int f)] := hl
  obtain ⟨Q, hQ⟩ : ∃ Q, Q = MQ below (va_Qv (fun (u : gIv × gAr) => (∀ x y, ¬ (x = 0 ∧ (y = 11 ∨ y = 12 ∨ y = 13 ∨ y = 14)) → u.1 x y = iv x y) ∧ (∀ c, c ≠ 5 → c ≠ 6 → c ≠ 7 → c ≠ 8 → u.2 c = ar c) ∧ KA u.2 ∧ TR u.2) (mPost D cy ad) (mA ad s.heap.size)) (([.ref (ad 0), .int a, .int b, .int d, .int f] : List Value).toArray) s 0 0 (mA ad s.heap.size) := ⟨_, rfl⟩
  rw [← hQ]
  obtain ⟨hs1, hs2, hs3, hs4, hs5⟩ := id hsb
  refine lv_iload_n hx hb dX11_tries_0 rfl (lv_at hl 1 rfl) ?_
  refine lv_aload_n hx hb dX11_tries_1 rfl (lv_at hl 0 rfl) ?_
  refine va_get (D := D) (ci := 11) (v := .ref (ad 1)) (C := RX11) (T := TX11) (N := 30) hx hb hts inX11 hown hK hP 0 (m_at11 (Nat.le_of_ble_eq_true rfl) rfl) rfl 0 (by decide) lk0 (fun _ h9 => h9) rfl dX11_tries_2 ?_
  refine lv_bipush (v := 111) hx hb dX11_tries_5 (by decide) ?_
  refine va_iald hx hb hK hP 1 0 (m_at12 (Nat.le_of_ble_eq_true rfl) rfl) rfl (g_in (N := 126) (show (111 : Int32).toInt = (111 : Int) from rfl) rfl (by omega) (by omega)) dX11_tries_7 ?_
  refine lv_topi (fun v_1 ev_1 => ?_)
  have hv0 : v_1.toInt = (ar 1 111).toInt := by rw [ev_1]; rfl
  refine lv_icmp_ne (tgt := 158) hx hb dX11_tries_8 (by decide) (fun c_2 => ?_) (fun c_2 => ?_)
  · skip
    have q_2 : a.toInt ≠ v_1.toInt := i_ne2 (rfl : a.toInt = a.toInt) (rfl : v_1.toInt = v_1.toInt) c_2
    refine lv_iconst (v := 0) hx hb dX11_tries_158 (by decide) ?_
    refine lv_istore (lv' := [(5, .int 0), (0, .ref (ad 0)), (1, .int a), (2, .int b), (3, .int d), (4, .int f)]) hx hb dX11_tries_159 hl (by decide) rfl (fun ls hl => ?_)
    have loop5 : ∀ (n : Nat) (x5_3 : Int32) (iv_4 : gIv) (ar_4 : gAr) (H : Heap) (locs : List Loc) (ls : Array Slot), ((6 - (x5_3.toInt)).toNat) < n → (0 ≤ (x5_3.toInt) ∧ (x5_3.toInt) ≤ 6) → (∀ x y, ¬ (x = 0 ∧ (y = 11 ∨ y = 12 ∨ y = 13 ∨ y = 14)) → iv_4 x y = iv x y) → (∀ c, c ≠ 5 → c ≠ 6 → c ≠ 7 → c ≠ 8 → ar_4 c = ar c) → (KA ar_4) → (TR ar_4) → va_P D vwCl (MW cy ad iv_4 ar_4) H → va_S (mA ad s.heap.size) s.heap H locs → lv_has ls 7 [(5, .int x5_3), (0, .ref (ad 0)), (1, .int a), (2, .int b), (3, .int d), (4, .int f)] → W p l e (headSpec wsX11_tries (({ frames := 9, cells := 0, slots := 0, locals := 226 } : Room))).room s m (([.ref (ad 0), .int a, .int b, .int d, .int f] : List Value).toArray) below meth c H locs 0 0 Q (F0 m 161 ls []) := by
      intro n
      induction n with
      | zero => intro x5_3 iv_4 ar_4 H locs ls hm; omega
      | succ n ih5 =>
        intro x5_3 iv_4 ar_4 H locs ls hm hg0 hgi hga hgk hgt hP hS hl
        refine lv_iload hx hb dX11_tries_161 (lv_at hl 0 rfl) ?_
        refine lv_aload_n hx hb dX11_tries_163 rfl (lv_at hl 1 rfl) ?_
        refine va_get (D := D) (ci := 11) (v := .ref (ad 1)) (C := RX11) (T := TX11) (N := 30) hx hb hts inX11 hown hK hP 0 (m_at11 (Nat.le_of_ble_eq_true rfl) rfl) rfl 0 (by decide) lk0 (fun _ h9 => h9) rfl dX11_tries_164 ?_
        refine lv_bipush (v := 118) hx hb dX11_tries_167 (by decide) ?_
        refine va_iald hx hb hK hP 1 0 (m_at12 (Nat.le_of_ble_eq_true rfl) rfl) rfl (g_in (N := 126) (show (118 : Int32).toInt = (118 : Int) from rfl) rfl (by omega) (by omega)) dX11_tries_169 ?_
        refine lv_topi (fun v_6 ev_6 => ?_)
        have hv1 : v_6.toInt = (ar 1 118).toInt := by rw [ev_6, hga 1 (by omega) (by omega) (by omega) (by omega)]; rfl
        refine lv_icmp_ge (tgt := 252) hx hb dX11_tries_170 (by decide) (fun c_7 => ?_) (fun c_7 => ?_)
        · skip
          have q_7 : v_6.toInt ≤ x5_3.toInt := i_le2 (rfl : v_6.toInt = v_6.toInt) (rfl : x5_3.toInt = x5_3.toInt) c_7
          rw [hQ]
          exact W.vret hx hb hr (fun t ht hW => ⟨⟨(iv_4, ar_4), rfl, ⟨hgi, hga, hgk, hgt⟩, by show va_P _ _ _ _; rw [ht]; exact hP⟩, hS.F ht⟩) hS.2.2 dX11_tries_252
        · skip
          have q_7 : x5_3.toInt < v_6.toInt := i_nle2 (rfl : v_6.toInt = v_6.toInt) (rfl : x5_3.toInt = x5_3.toInt) c_7
          refine lv_aload_n hx hb dX11_tries_173 rfl (lv_at hl 1 rfl) ?_
          refine lv_aload_n hx hb dX11_tries_174 rfl (lv_at hl 1 rfl) ?_
          refine va_get (D := D) (ci := 11) (v := .ref (ad 1)) (C := RX11) (T := TX11) (N := 30) hx hb hts inX11 hown hK hP 0 (m_at11 (Nat.le_of_ble_eq_true rfl) rfl) rfl 0 (by decide) lk0 (fun _ h9 => h9) rfl dX11_tries_175 ?_
          refine lv_bipush (v := 112) hx hb dX11_tries_178 (by decide) ?_
          refine lv_iload_n hx hb dX11_tries_180 rfl (lv_at hl 2 rfl) ?_
          refine lv_iadd hx hb dX11_tries_181 ?_
          refine lv_topi (fun v_8 ev_8 => ?_)
          have tv_8 : v_8.toInt = (112 : Int) + a.toInt := i_add (show (112 : Int32).toInt = (112 : Int) from rfl) (rfl : a.toInt = a.toInt) (by omega) (by omega) ev_8
          refine va_iald hx hb hK hP 1 0 (m_at12 (Nat.le_of_ble_eq_true rfl) rfl) rfl (g_in (N := 126) (rfl : v_8.toInt = v_8.toInt) rfl (by omega) (by omega)) dX11_tries_182 ?_
          refine lv_topi (fun v_9 ev_9 => ?_)
          have hv2 : 0 ≤ v_9.toInt ∧ v_9.toInt < 108 := by
            rw [ev_9, g_cN (rfl : v_8.toInt = _), hga 1 (by omega) (by omega) (by omega) (by omega), show (v_8.toInt).toNat = 112 + a.toInt.toNat from by omega]
            exact ⟨(hs5 a.toInt.toNat (by omega)).1, (hs5 a.toInt.toNat (by omega)).2.1⟩
          refine lv_aload_n hx hb dX11_tries_183 rfl (lv_at hl 1 rfl) ?_
          refine va_get (D := D) (ci := 11) (v := .ref (ad 1)) (C := RX11) (T := TX11) (N := 30) hx hb hts inX11 hown hK hP 0 (m_at11 (Nat.le_of_ble_eq_true rfl) rfl) rfl 0 (by decide) lk0 (fun _ h9 => h9) rfl dX11_tries_184 ?_
          refine lv_bipush (v := 119) hx hb dX11_tries_187 (by decide) ?_
          refine lv_iload hx hb dX11_tries_189 (lv_at hl 0 rfl) ?_
          refine lv_iadd hx hb dX11_tries_191 ?_
          refine lv_topi (fun v_10 ev_10 => ?_)
          have tv_10 : v_10.toInt = (119 : Int) + x5_3.toInt := i_add (show (119 : Int32).toInt = (119 : Int) from rfl) (rfl : x5_3.toInt = x5_3.toInt) (by omega) (by omega) ev_10
          refine va_iald hx hb hK hP 1 0 (m_at12 (Nat.le_of_ble_eq_true rfl) rfl) rfl (g_in (N := 126) (rfl : v_10.toInt = v_10.toInt) rfl (by omega) (by omega)) dX11_tries_192 ?_
          refine lv_topi (fun v_11 ev_11 => ?_)
          have hv3 : 0 ≤ v_11.toInt ∧ v_11.toInt < 108 := by
            rw [ev_11, g_cN (rfl : v_10.toInt = _), hga 1 (by omega) (by omega) (by omega) (by omega), show (v_10.toInt).toNat = 119 + (x5_3.toInt).toNat from by omega]
            exact ⟨(hs5 (x5_3.toInt).toNat (by omega)).2.2.1, (hs5 (x5_3.toInt).toNat (by omega)).2.2.2⟩
          refine m_calli (va_runV (As := [.int v_9, .int v_11]) (rest := []) ⟨hx, hb, hml, hown, hts⟩ (c_X11_time l D cy ad hI _ iv_4 ar_4 v_9 v_11 (by omega) (by omega) hgk) (cwV 2 hts gX11_tries_X11_time rfl rfl rfl (by decide +kernel) ⟨Nat.le_of_ble_eq_true rfl, Nat.le_of_ble_eq_true rfl⟩) (m_preV hP hK hSt hNw hS (m_at11 (Nat.le_of_ble_eq_true rfl) rfl) rfl) rfl rfl hl.1 rfl (lv_room (Nat.le_of_ble_eq_true rfl)) dX11_tries_193 ⟨Nat.zero_le _, Nat.zero_le _⟩) hS (fun r_12 iv_12 ar_12 H locs w_12 hP hS => ?_)
          try dsimp only at w_12
          have wi_12 := (w_12.2.1).symm
          subst wi_12
          obtain ⟨-, -, wf, wk, -, -⟩ := w_12
          have hi2 := hgi
          have ha2 : ∀ c, c ≠ 5 → c ≠ 6 → c ≠ 7 → c ≠ 8 → ar_12 c = ar c := fun c h5 h6 h7 h8 => (wf c h5 h6).trans (hga c h5 h6 h7 h8)
          have hk2 := wk
          have ht2 : TR ar_12 := hgt.fr (wf 7 (by omega) (by omega)) (wf 8 (by omega) (by omega))
          refine lv_istore (lv' := [(6, .int r_12), (5, .int x5_3), (0, .ref (ad 0)), (1, .int a), (2, .int b), (3, .int d), (4, .int f)]) hx hb dX11_tries_196 hl (by decide) rfl (fun ls hl => ?_)
          refine lv_iload_n hx hb dX11_tries_198 rfl (lv_at hl 4 rfl) ?_
          refine lv_iload hx hb dX11_tries_199 (lv_at hl 1 rfl) ?_
          refine lv_ishr hx hb dX11_tries_201 ?_
          refine lv_topi (fun v_13 ev_13 => ?_)
          refine lv_iconst (v := 1) hx hb dX11_tries_202 (by decide) ?_
          refine lv_iand hx hb dX11_tries_203 ?_
          refine lv_topi (fun v_14 ev_14 => ?_)
          refine lv_if_ne (tgt := 246) hx hb dX11_tries_204 (by decide) (fun c_15 => ?_) (fun c_15 => ?_)
          · skip
            have q_15 : v_14.toInt ≠ (0 : Int) := i_ne2 (rfl : v_14.toInt = v_14.toInt) (show (0 : Int32).toInt = (0 : Int) from rfl) c_15
            obtain ⟨x5_16, ex5_16⟩ : ∃ y : Int32, y = x5_3 + 1 := ⟨_, rfl⟩
            have tx5_16 : x5_16.toInt = x5_3.toInt + (1 : Int) := i_add (rfl : x5_3.toInt = x5_3.toInt) (show (1 : Int32).toInt = (1 : Int) from rfl) (by omega) (by omega) ex5_16
            refine lv_iinc (v := x5_16) (lv' := [(5, .int x5_16), (6, .int r_12), (0, .ref (ad 0)), (1, .int a), (2, .int b), (3, .int d), (4, .int f)]) hx hb dX11_tries_246 hl (k := 1) rfl (by rw [ex5_16]; rfl) (by decide) rfl (fun ls hl => ?_)
            refine lv_goto (tgt := 161) hx hb dX11_tries_249 (by decide) ?_
            exact ih5 x5_16 iv_4 ar_12 _ _ _ (by omega) (by omega) hi2 ha2 hk2 ht2 hP hS (lv_sub hl [0, 2, 3, 4, 5, 6] rfl)
          · skip
            have q_15 : v_14.toInt = (0 : Int) := i_eq2 (rfl : v_14.toInt = v_14.toInt) (show (0 : Int32).toInt = (0 : Int) from rfl) c_15
            refine lv_iload hx hb dX11_tries_207 (lv_at hl 0 rfl) ?_
            refine lv_ldc (v := 100000) hx hb hown lk1 dX11_tries_209 ?_
            refine lv_icmp_ge (tgt := 246) hx hb dX11_tries_211 (by decide) (fun c_17 => ?_) (fun c_17 => ?_)
            · skip
              have q_17 : (100000 : Int) ≤ r_12.toInt := i_le2 (show (100000 : Int32).toInt = (100000 : Int) from rfl) (rfl : r_12.toInt = r_12.toInt) c_17
              obtain ⟨x5_18, ex5_18⟩ : ∃ y : Int32, y = x5_3 + 1 := ⟨_, rfl⟩
              have tx5_18 : x5_18.toInt = x5_3.toInt + (1 : Int) := i_add (rfl : x5_3.toInt = x5_3.toInt) (show (1 : Int32).toInt = (1 : Int) from rfl) (by omega) (by omega) ex5_18
              refine lv_iinc (v := x5_18) (lv' := [(5, .int x5_18), (6, .int r_12), (0, .ref (ad 0)), (1, .int a), (2, .int b), (3, .int d), (4, .int f)]) hx hb dX11_tries_246 hl (k := 1) rfl (by rw [ex5_18]; rfl) (by decide) rfl (fun ls hl => ?_)
              refine lv_goto (tgt := 161) hx hb dX11_tries_249 (by decide) ?_
              exact ih5 x5_18 iv_4 ar_12 _ _ _ (by omega) (by omega) hi2 ha2 hk2 ht2 hP hS (lv_sub hl [0, 2, 3, 4, 5, 6] rfl)
            · skip
              have q_17 : r_12.toInt < (100000 : Int) := i_nle2 (show (100000 : Int32).toInt = (100000 : Int) from rfl) (rfl : r_12.toInt = r_12.toInt) c_17
              refine lv_aload_n hx hb dX11_tries_214 rfl (lv_at hl 2 rfl) ?_
              refine va_get (D := D) (ci := 11) (v := .ref (ad 7)) (C := RX11) (T := TX11) (N := 30) hx hb hts inX11 hown hK hP 0 (m_at11 (Nat.le_of_ble_eq_true rfl) rfl) rfl 9 (by decide) lk2 (fun _ h9 => h9) rfl dX11_tries_215 ?_
              refine lv_iload_n hx hb dX11_tries_218 rfl (lv_at hl 3 rfl) ?_
              refine lv_iload hx hb dX11_tries_219 (lv_at hl 1 rfl) ?_
              refine va_iast hx hb hK hP (mD hI) hS 7 0 (m_at12 (Nat.le_of_ble_eq_true rfl) rfl) rfl (g_in (N := 6) (rfl : a.toInt = a.toInt) rfl (by omega) (by omega)) dX11_tries_221 (fun H locs hP _ hS => ?_)
              rw [m_pt12 (Nat.le_of_ble_eq_true rfl) rfl] at hP
              obtain ⟨ar_19, ear_19⟩ : ∃ z : gAr, z = va_up ar_12 7 (upd (ar_12 7) a.toNatClampNeg x5_3) := ⟨_, rfl⟩
              rw [← ear_19] at hP
              have ha3 : ∀ c, c ≠ 5 → c ≠ 6 → c ≠ 7 → c ≠ 8 → ar_19 c = ar c := fun c h5 h6 h7 h8 => by rw [ear_19, ua_o h7]; exact ha2 c h5 h6 h7 h8
              have hh1 := ha3 1 (by omega) (by omega) (by omega) (by omega)
              have hk3 : KA ar_19 := hk2.fr (by rw [ear_19, ua_o (by omega)]) (by rw [ear_19, ua_o (by omega)]) (by rw [ear_19, ua_o (by omega)])
              have ht3 : TR ar_19 := fun i hi => by
                have h9 := ht2 i hi
                rw [ear_19, ua_s, ua_o (by omega : (8 : Nat) ≠ 7), g_cN (rfl : a.toInt = _)]
                by_cases e : i = (a.toInt).toNat
                · rw [e, pk_us]; exact ⟨by omega, by omega, by rw [← e]; exact h9.2.2.1, by rw [← e]; exact h9.2.2.2⟩
                · rw [pk_un e]; exact h9
              refine lv_aload_n hx hb dX11_tries_222 rfl (lv_at hl 2 rfl) ?_
              refine lv_iload_n hx hb dX11_tries_223 rfl (lv_at hl 3 rfl) ?_
              refine lv_iconst (v := 1) hx hb dX11_tries_224 (by decide) ?_
              refine lv_iadd hx hb dX11_tries_225 ?_
              refine lv_topi (fun v_20 ev_20 => ?_)
              have tv_20 : v_20.toInt = a.toInt + (1 : Int) := i_add (rfl : a.toInt = a.toInt) (show (1 : Int32).toInt = (1 : Int) from rfl) (by omega) (by omega) ev_20
              refine lv_iload_n hx hb dX11_tries_226 rfl (lv_at hl 4 rfl) ?_
              refine lv_iconst (v := 1) hx hb dX11_tries_227 (by decide) ?_
              refine lv_iload hx hb dX11_tries_228 (lv_at hl 1 rfl) ?_
              refine lv_ishl hx hb dX11_tries_230 ?_
              refine lv_topi (fun v_21 ev_21 => ?_)
              refine lv_ior hx hb dX11_tries_231 ?_
              refine lv_topi (fun v_22 ev_22 => ?_)
              refine lv_iload_n hx hb dX11_tries_232 rfl (lv_at hl 5 rfl) ?_
              refine lv_iload hx hb dX11_tries_233 (lv_at hl 0 rfl) ?_
              refine va_mmax (rest := [.int v_22, .int v_20, .ref (ad 0)]) hx hb (hml.trans hl.1.symm) hown lk3 lk4 lk5 lk6 (Nat.le_of_ble_eq_true rfl) (Nat.le_of_ble_eq_true rfl) (Nat.zero_le _) (Nat.zero_le _) dX11_tries_235 ?_
              refine lv_topi (fun v_23 ev_23 => ?_)
              have tv_23 : v_23.toInt = max d.toInt r_12.toInt := i_max (rfl : d.toInt = d.toInt) (rfl : r_12.toInt = r_12.toInt) ev_23
              refine lv_iload hx hb dX11_tries_238 (lv_at hl 6 rfl) ?_
              refine lv_iload hx hb dX11_tries_240 (lv_at hl 0 rfl) ?_
              refine lv_iadd hx hb dX11_tries_242 ?_
              refine lv_topi (fun v_24 ev_24 => ?_)
              refine m_callv (va_runV (As := [.int v_20, .int v_22, .int v_23, .int v_24]) (rest := []) ⟨hx, hb, hml, hown, hts⟩ (c_tries_5 l D cy ad hI _ iv_4 ar_19 v_20 v_22 v_23 v_24 (by rw [hh1]; exact hsb) hk3 ht3 (by rw [hh1]; omega) (by omega)) (cwV 4 hts gX11_tries_X11_tries rfl rfl rfl (by decide +kernel) ⟨Nat.le_of_ble_eq_true rfl, Nat.le_of_ble_eq_true rfl⟩) (m_preV hP hK hSt hNw hS (m_at11 (Nat.le_of_ble_eq_true rfl) rfl) rfl) rfl rfl hl.1 rfl (lv_room (Nat.le_of_ble_eq_true rfl)) dX11_tries_243 ⟨Nat.zero_le _, Nat.zero_le _⟩) hS (fun iv_25 ar_25 H locs w_25 hP hS => ?_)
              try dsimp only at w_25
              obtain ⟨wi, wa, wk4, wt4⟩ := w_25
              have hi4 : ∀ x y, ¬ (x = 0 ∧ (y = 11 ∨ y = 12 ∨ y = 13 ∨ y = 14)) → iv_25 x y = iv x y := fun x y h => (wi x y h).trans (hi2 x y h)
              have ha4 : ∀ c, c ≠ 5 → c ≠ 6 → c ≠ 7 → c ≠ 8 → ar_25 c = ar c := fun c h5 h6 h7 h8 => (wa c h5 h6 h7 h8).trans (ha3 c h5 h6 h7 h8)
              have hi2 := hi4
              have ha2 := ha4
              have hk2 := wk4
              have ht2 := wt4
              obtain ⟨x5_26, ex5_26⟩ : ∃ y : Int32, y = x5_3 + 1 := ⟨_, rfl⟩
              have tx5_26 : x5_26.toInt = x5_3.toInt + (1 : Int) := i_add (rfl : x5_3.toInt = x5_3.toInt) (show (1 : Int32).toInt = (1 : Int) from rfl) (by omega) (by omega) ex5_26
              refine lv_iinc (v := x5_26) (lv' := [(5, .int x5_26), (6, .int r_12), (0, .ref (ad 0)), (1, .int a), (2, .int b), (3, .int d), (4, .int f)]) hx hb dX11_tries_246 hl (k := 1) rfl (by rw [ex5_26]; rfl) (by decide) rfl (fun ls hl => ?_)
              refine lv_goto (tgt := 161) hx hb dX11_tries_249 (by decide) ?_
              exact ih5 x5_26 iv_25 ar_25 _ _ _ (by omega) (by omega) hi2 ha2 hk2 ht2 hP hS (lv_sub hl [0, 2, 3, 4, 5, 6] rfl)
    have zl_27 : (0 : Int32).toInt = (0 : Int) := rfl
    exact loop5 (((6 - ((0 : Int))).toNat) + 1) 0 iv ar _ _ _ (by omega) (by omega) (fun _ _ _ => rfl) (fun _ _ _ _ _ => rfl) hka htr hP hS (lv_sub hl [0, 1, 2, 3, 4, 5] rfl)
  · skip
    have q_2 : a.toInt = v_1.toInt := i_eq2 (rfl : a.toInt = a.toInt) (rfl : v_1.toInt = v_1.toInt) c_2
    exfalso; omega
set_option maxHeartbeats 4000000 in
set_option maxRecDepth 100000 in
theorem c_X11_assigns (l : Launch) (D : va_G) (cy : Nat → ClassId) (ad : Nat → Nat) (hI : mInj ad) (sz : Nat) (iv : gIv) (ar : gAr)  (hsb : SB (ar 1)) (hka : KA ar) (htr : TR ar) : Met l yX11_assigns wsX11_assigns ({ frames := 10, cells := 0, slots := 0, locals := 252 } : Room) (va_Pc [.ref (ad 0)] (mPre D cy ad sz iv ar)) (va_Qi (fun (r : Int32) (u : gIv × gAr) => (∀ x y, ¬ (x = 0 ∧ (y = 11 ∨ y = 12 ∨ y = 13 ∨ y = 14)) → u.1 x y = iv x y) ∧ (∀ c, c ≠ 5 → c ≠ 6 → c ≠ 7 → c ≠ 8 → u.2 c = ar c) ∧ KA u.2 ∧ TR u.2) (mPost D cy ad) (mA ad sz)) 0 0 (mA ad sz) := by
  refine Met.ofW (cc := cX11_assigns) (maxL := 1) (ret := (some .int)) (by decide) rfl ?_
  intro p e s m args below meth c s₁ B hml hv
  obtain ⟨rfl, rfl, hP, hK, hSt, hNw⟩ := hv
  have hx := B.exec
  have hb := B.bytes
  have hr := B.returns
  have hts := atoms_spec (ws := wsX11_assigns) B.pre
  have hown : s.vm.findClass RX11 = some m.cls := findClass_of_methodNamed B.named
  have hlocks := B.notSynchronized
  have hS : va_S (mA ad s.heap.size) s.heap s.heap [] := va_S.rf
  have inX11 : ∀ w ∈ u_ws RX11 TX11 30, w ∈ wsX11_assigns := by decide +kernel
  have lk0 := hts (.fieldLink RX11 9 "FormationPlannerModel" "s" "[I") (by decide +kernel)
  have lk1 := hts (.fieldLink RX11 139 "FormationPlannerModel" "assignments" "I") (by decide +kernel)
  have hl := lv_entry ([.ref (ad 0)]) (n := 1) (Nat.le_of_ble_eq_true rfl)
  rw [lg_entry_eq]
  generalize (lg_sl ([.ref (ad 0)]) ++ List.replicate (1 - (lg_sl ([.ref (ad 0)])).length) Slot.unset).toArray = ls at hl ⊢
  have hl : lv_has ls 1 [(0, .ref (ad 0))] := hl
  obtain ⟨Q, hQ⟩ : ∃ Q, Q = MQ below (va_Qi (fun (r : Int32) (u : gIv × gAr) => (∀ x y, ¬ (x = 0 ∧ (y = 11 ∨ y = 12 ∨ y = 13 ∨ y = 14)) → u.1 x y = iv x y) ∧ (∀ c, c ≠ 5 → c ≠ 6 → c ≠ 7 → c ≠ 8 → u.2 c = ar c) ∧ KA u.2 ∧ TR u.2) (mPost D cy ad) (mA ad s.heap.size)) (([.ref (ad 0)] : List Value).toArray) s 0 0 (mA ad s.heap.size) := ⟨_, rfl⟩
  rw [← hQ]
  obtain ⟨hs1, hs2, hs3, hs4, hs5⟩ := id hsb
  refine lv_aload_n hx hb dX11_assigns_0 rfl (lv_at hl 0 rfl) ?_
  refine va_get (D := D) (ci := 11) (v := .ref (ad 1)) (C := RX11) (T := TX11) (N := 30) hx hb hts inX11 hown hK hP 0 (m_at11 (Nat.le_of_ble_eq_true rfl) rfl) rfl 0 (by decide) lk0 (fun _ h9 => h9) rfl dX11_assigns_1 ?_
  refine lv_bipush (v := 111) hx hb dX11_assigns_4 (by decide) ?_
  refine va_iald hx hb hK hP 1 0 (m_at12 (Nat.le_of_ble_eq_true rfl) rfl) rfl (g_in (N := 126) (show (111 : Int32).toInt = (111 : Int) from rfl) rfl (by omega) (by omega)) dX11_assigns_6 ?_
  refine lv_topi (fun v_1 ev_1 => ?_)
  refine lv_aload_n hx hb dX11_assigns_7 rfl (lv_at hl 0 rfl) ?_
  refine va_get (D := D) (ci := 11) (v := .ref (ad 1)) (C := RX11) (T := TX11) (N := 30) hx hb hts inX11 hown hK hP 0 (m_at11 (Nat.le_of_ble_eq_true rfl) rfl) rfl 0 (by decide) lk0 (fun _ h9 => h9) rfl dX11_assigns_8 ?_
  refine lv_bipush (v := 118) hx hb dX11_assigns_11 (by decide) ?_
  refine va_iald hx hb hK hP 1 0 (m_at12 (Nat.le_of_ble_eq_true rfl) rfl) rfl (g_in (N := 126) (show (118 : Int32).toInt = (118 : Int) from rfl) rfl (by omega) (by omega)) dX11_assigns_13 ?_
  refine lv_topi (fun v_2 ev_2 => ?_)
  refine lv_icmp_eq (tgt := 20) hx hb dX11_assigns_14 (by decide) (fun c_3 => ?_) (fun c_3 => ?_)
  · skip
    have q_3 : v_1.toInt = v_2.toInt := i_eq2 (rfl : v_1.toInt = v_1.toInt) (rfl : v_2.toInt = v_2.toInt) c_3
    refine lv_aload_n hx hb dX11_assigns_20 rfl (lv_at hl 0 rfl) ?_
    refine lv_iconst (v := 0) hx hb dX11_assigns_21 (by decide) ?_
    refine va_put (D := D) (ci := 11) (v := .int 0) (ty := .int) (C := RX11) (T := TX11) (N := 30) hx hb hts inX11 tyX11 tyX11_ok nmX11 hown hK hP (mD hI) hS 0 (m_at11 (Nat.le_of_ble_eq_true rfl) rfl) rfl 14 (by decide) lk1 (fun _ h9 => h9) rfl (by decide +kernel) rfl rfl (Nat.le_of_ble_eq_true rfl) dX11_assigns_22 (fun H locs hP _ hS => ?_)
    have hP : va_P D vwCl (MW cy ad (u2 iv 0 14 0) ar) H := by rw [← m_pt11_14 (Nat.le_of_ble_eq_true rfl) rfl]; exact hP
    obtain ⟨iv_4, eiv_4⟩ : ∃ z : gIv, z = u2 iv 0 14 0 := ⟨_, rfl⟩
    rw [← eiv_4] at hP
    refine lv_aload_n hx hb dX11_assigns_25 rfl (lv_at hl 0 rfl) ?_
    refine lv_iconst (v := 0) hx hb dX11_assigns_26 (by decide) ?_
    refine lv_iconst (v := 0) hx hb dX11_assigns_27 (by decide) ?_
    refine lv_iconst (v := 0) hx hb dX11_assigns_28 (by decide) ?_
    refine lv_iconst (v := 0) hx hb dX11_assigns_29 (by decide) ?_
    by_cases zc_5 : (ar 1 111).toInt = 0
    · skip
      have zl_6 : (0 : Int32).toInt = (0 : Int) := rfl
      have zl_7 : (0 : Int32).toInt = (0 : Int) := rfl
      have zl_8 : (0 : Int32).toInt = (0 : Int) := rfl
      have zl_9 : (0 : Int32).toInt = (0 : Int) := rfl
      refine m_callv (va_runV (As := [.int 0, .int 0, .int 0, .int 0]) (rest := []) ⟨hx, hb, hml, hown, hts⟩ (c_tries_0 l D cy ad hI _ iv_4 ar 0 0 0 0 hsb hka htr (by have z0 := i_l0; omega)) (cwV 4 hts gX11_assigns_X11_tries rfl rfl rfl (by decide +kernel) ⟨Nat.le_of_ble_eq_true rfl, Nat.le_of_ble_eq_true rfl⟩) (m_preV hP hK hSt hNw hS (m_at11 (Nat.le_of_ble_eq_true rfl) rfl) rfl) rfl rfl hl.1 rfl (lv_room (Nat.le_of_ble_eq_true rfl)) dX11_assigns_30 ⟨Nat.zero_le _, Nat.zero_le _⟩) hS (fun iv_10 ar_10 H locs w_10 hP hS => ?_)
      try dsimp only at w_10
      obtain ⟨wi, wa, wk4, wt4⟩ := id w_10
      refine lv_aload_n hx hb dX11_assigns_33 rfl (lv_at hl 0 rfl) ?_
      refine va_get (D := D) (ci := 11) (v := .int (iv_10 0 14)) (C := RX11) (T := TX11) (N := 30) hx hb hts inX11 hown hK hP 0 (m_at11 (Nat.le_of_ble_eq_true rfl) rfl) rfl 14 (by decide) lk1 (fun _ h9 => h9) rfl dX11_assigns_34 ?_
      refine lv_if_ne (tgt := 45) hx hb dX11_assigns_37 (by decide) (fun c_11 => ?_) (fun c_11 => ?_)
      · skip
        have q_11 : (iv_10 0 14).toInt ≠ (0 : Int) := i_ne2 (rfl : (iv_10 0 14).toInt = (iv_10 0 14).toInt) (show (0 : Int32).toInt = (0 : Int) from rfl) c_11
        refine lv_iconst (v := 0) hx hb dX11_assigns_45 (by decide) ?_
        rw [hQ]
        exact W.iret (v := 0) hx hb hr (fun t ht hW => ⟨⟨0, (iv_10, ar_10), rfl, ⟨fun a b h => by show iv_10 a b = iv a b; rw [w_10.1 a b (by omega)]; rw [eiv_4, u2_o (by omega)], wa, wk4, wt4⟩, by show va_P _ _ _ _; rw [ht]; exact hP⟩, hS.F ht⟩) hS.2.2 dX11_assigns_46
      · skip
        have q_11 : (iv_10 0 14).toInt = (0 : Int) := i_eq2 (rfl : (iv_10 0 14).toInt = (iv_10 0 14).toInt) (show (0 : Int32).toInt = (0 : Int) from rfl) c_11
        refine lv_bipush (v := (-6)) hx hb dX11_assigns_40 (by decide) ?_
        refine lv_goto (tgt := 46) hx hb dX11_assigns_42 (by decide) ?_
        rw [hQ]
        exact W.iret (v := (-6)) hx hb hr (fun t ht hW => ⟨⟨(-6), (iv_10, ar_10), rfl, ⟨fun a b h => by show iv_10 a b = iv a b; rw [w_10.1 a b (by omega)]; rw [eiv_4, u2_o (by omega)], wa, wk4, wt4⟩, by show va_P _ _ _ _; rw [ht]; exact hP⟩, hS.F ht⟩) hS.2.2 dX11_assigns_46
    by_cases zc_12 : (ar 1 111).toInt = 1
    · skip
      have zl_13 : (0 : Int32).toInt = (0 : Int) := rfl
      have zl_14 : (0 : Int32).toInt = (0 : Int) := rfl
      have zl_15 : (0 : Int32).toInt = (0 : Int) := rfl
      have zl_16 : (0 : Int32).toInt = (0 : Int) := rfl
      refine m_callv (va_runV (As := [.int 0, .int 0, .int 0, .int 0]) (rest := []) ⟨hx, hb, hml, hown, hts⟩ (c_tries_1 l D cy ad hI _ iv_4 ar 0 0 0 0 hsb hka htr (by have z0 := i_l0; omega) (by have z0 := i_l0; omega)) (cwV 4 hts gX11_assigns_X11_tries rfl rfl rfl (by decide +kernel) ⟨Nat.le_of_ble_eq_true rfl, Nat.le_of_ble_eq_true rfl⟩) (m_preV hP hK hSt hNw hS (m_at11 (Nat.le_of_ble_eq_true rfl) rfl) rfl) rfl rfl hl.1 rfl (lv_room (Nat.le_of_ble_eq_true rfl)) dX11_assigns_30 ⟨Nat.zero_le _, Nat.zero_le _⟩) hS (fun iv_17 ar_17 H locs w_17 hP hS => ?_)
      try dsimp only at w_17
      obtain ⟨wi, wa, wk4, wt4⟩ := id w_17
      refine lv_aload_n hx hb dX11_assigns_33 rfl (lv_at hl 0 rfl) ?_
      refine va_get (D := D) (ci := 11) (v := .int (iv_17 0 14)) (C := RX11) (T := TX11) (N := 30) hx hb hts inX11 hown hK hP 0 (m_at11 (Nat.le_of_ble_eq_true rfl) rfl) rfl 14 (by decide) lk1 (fun _ h9 => h9) rfl dX11_assigns_34 ?_
      refine lv_if_ne (tgt := 45) hx hb dX11_assigns_37 (by decide) (fun c_18 => ?_) (fun c_18 => ?_)
      · skip
        have q_18 : (iv_17 0 14).toInt ≠ (0 : Int) := i_ne2 (rfl : (iv_17 0 14).toInt = (iv_17 0 14).toInt) (show (0 : Int32).toInt = (0 : Int) from rfl) c_18
        refine lv_iconst (v := 0) hx hb dX11_assigns_45 (by decide) ?_
        rw [hQ]
        exact W.iret (v := 0) hx hb hr (fun t ht hW => ⟨⟨0, (iv_17, ar_17), rfl, ⟨fun a b h => by show iv_17 a b = iv a b; rw [w_17.1 a b (by omega)]; rw [eiv_4, u2_o (by omega)], wa, wk4, wt4⟩, by show va_P _ _ _ _; rw [ht]; exact hP⟩, hS.F ht⟩) hS.2.2 dX11_assigns_46
      · skip
        have q_18 : (iv_17 0 14).toInt = (0 : Int) := i_eq2 (rfl : (iv_17 0 14).toInt = (iv_17 0 14).toInt) (show (0 : Int32).toInt = (0 : Int) from rfl) c_18
        refine lv_bipush (v := (-6)) hx hb dX11_assigns_40 (by decide) ?_
        refine lv_goto (tgt := 46) hx hb dX11_assigns_42 (by decide) ?_
        rw [hQ]
        exact W.iret (v := (-6)) hx hb hr (fun t ht hW => ⟨⟨(-6), (iv_17, ar_17), rfl, ⟨fun a b h => by show iv_17 a b = iv a b; rw [w_17.1 a b (by omega)]; rw [eiv_4, u2_o (by omega)], wa, wk4, wt4⟩, by show va_P _ _ _ _; rw [ht]; exact hP⟩, hS.F ht⟩) hS.2.2 dX11_assigns_46
    by_cases zc_19 : (ar 1 111).toInt = 2
    · skip
      have zl_20 : (0 : Int32).toInt = (0 : Int) := rfl
      have zl_21 : (0 : Int32).toInt = (0 : Int) := rfl
      have zl_22 : (0 : Int32).toInt = (0 : Int) := rfl
      have zl_23 : (0 : Int32).toInt = (0 : Int) := rfl
      refine m_callv (va_runV (As := [.int 0, .int 0, .int 0, .int 0]) (rest := []) ⟨hx, hb, hml, hown, hts⟩ (c_tries_2 l D cy ad hI _ iv_4 ar 0 0 0 0 hsb hka htr (by have z0 := i_l0; omega) (by have z0 := i_l0; omega)) (cwV 4 hts gX11_assigns_X11_tries rfl rfl rfl (by decide +kernel) ⟨Nat.le_of_ble_eq_true rfl, Nat.le_of_ble_eq_true rfl⟩) (m_preV hP hK hSt hNw hS (m_at11 (Nat.le_of_ble_eq_true rfl) rfl) rfl) rfl rfl hl.1 rfl (lv_room (Nat.le_of_ble_eq_true rfl)) dX11_assigns_30 ⟨Nat.zero_le _, Nat.zero_le _⟩) hS (fun iv_24 ar_24 H locs w_24 hP hS => ?_)
      try dsimp only at w_24
      obtain ⟨wi, wa, wk4, wt4⟩ := id w_24
      refine lv_aload_n hx hb dX11_assigns_33 rfl (lv_at hl 0 rfl) ?_
      refine va_get (D := D) (ci := 11) (v := .int (iv_24 0 14)) (C := RX11) (T := TX11) (N := 30) hx hb hts inX11 hown hK hP 0 (m_at11 (Nat.le_of_ble_eq_true rfl) rfl) rfl 14 (by decide) lk1 (fun _ h9 => h9) rfl dX11_assigns_34 ?_
      refine lv_if_ne (tgt := 45) hx hb dX11_assigns_37 (by decide) (fun c_25 => ?_) (fun c_25 => ?_)
      · skip
        have q_25 : (iv_24 0 14).toInt ≠ (0 : Int) := i_ne2 (rfl : (iv_24 0 14).toInt = (iv_24 0 14).toInt) (show (0 : Int32).toInt = (0 : Int) from rfl) c_25
        refine lv_iconst (v := 0) hx hb dX11_assigns_45 (by decide) ?_
        rw [hQ]
        exact W.iret (v := 0) hx hb hr (fun t ht hW => ⟨⟨0, (iv_24, ar_24), rfl, ⟨fun a b h => by show iv_24 a b = iv a b; rw [w_24.1 a b (by omega)]; rw [eiv_4, u2_o (by omega)], wa, wk4, wt4⟩, by show va_P _ _ _ _; rw [ht]; exact hP⟩, hS.F ht⟩) hS.2.2 dX11_assigns_46
      · skip
        have q_25 : (iv_24 0 14).toInt = (0 : Int) := i_eq2 (rfl : (iv_24 0 14).toInt = (iv_24 0 14).toInt) (show (0 : Int32).toInt = (0 : Int) from rfl) c_25
        refine lv_bipush (v := (-6)) hx hb dX11_assigns_40 (by decide) ?_
        refine lv_goto (tgt := 46) hx hb dX11_assigns_42 (by decide) ?_
        rw [hQ]
        exact W.iret (v := (-6)) hx hb hr (fun t ht hW => ⟨⟨(-6), (iv_24, ar_24), rfl, ⟨fun a b h => by show iv_24 a b = iv a b; rw [w_24.1 a b (by omega)]; rw [eiv_4, u2_o (by omega)], wa, wk4, wt4⟩, by show va_P _ _ _ _; rw [ht]; exact hP⟩, hS.F ht⟩) hS.2.2 dX11_assigns_46
    by_cases zc_26 : (ar 1 111).toInt = 3
    · skip
      have zl_27 : (0 : Int32).toInt = (0 : Int) := rfl
      have zl_28 : (0 : Int32).toInt = (0 : Int) := rfl
      have zl_29 : (0 : Int32).toInt = (0 : Int) := rfl
      have zl_30 : (0 : Int32).toInt = (0 : Int) := rfl
      refine m_callv (va_runV (As := [.int 0, .int 0, .int 0, .int 0]) (rest := []) ⟨hx, hb, hml, hown, hts⟩ (c_tries_3 l D cy ad hI _ iv_4 ar 0 0 0 0 hsb hka htr (by have z0 := i_l0; omega) (by have z0 := i_l0; omega)) (cwV 4 hts gX11_assigns_X11_tries rfl rfl rfl (by decide +kernel) ⟨Nat.le_of_ble_eq_true rfl, Nat.le_of_ble_eq_true rfl⟩) (m_preV hP hK hSt hNw hS (m_at11 (Nat.le_of_ble_eq_true rfl) rfl) rfl) rfl rfl hl.1 rfl (lv_room (Nat.le_of_ble_eq_true rfl)) dX11_assigns_30 ⟨Nat.zero_le _, Nat.zero_le _⟩) hS (fun iv_31 ar_31 H locs w_31 hP hS => ?_)
      try dsimp only at w_31
      obtain ⟨wi, wa, wk4, wt4⟩ := id w_31
      refine lv_aload_n hx hb dX11_assigns_33 rfl (lv_at hl 0 rfl) ?_
      refine va_get (D := D) (ci := 11) (v := .int (iv_31 0 14)) (C := RX11) (T := TX11) (N := 30) hx hb hts inX11 hown hK hP 0 (m_at11 (Nat.le_of_ble_eq_true rfl) rfl) rfl 14 (by decide) lk1 (fun _ h9 => h9) rfl dX11_assigns_34 ?_
      refine lv_if_ne (tgt := 45) hx hb dX11_assigns_37 (by decide) (fun c_32 => ?_) (fun c_32 => ?_)
      · skip
        have q_32 : (iv_31 0 14).toInt ≠ (0 : Int) := i_ne2 (rfl : (iv_31 0 14).toInt = (iv_31 0 14).toInt) (show (0 : Int32).toInt = (0 : Int) from rfl) c_32
        refine lv_iconst (v := 0) hx hb dX11_assigns_45 (by decide) ?_
        rw [hQ]
        exact W.iret (v := 0) hx hb hr (fun t ht hW => ⟨⟨0, (iv_31, ar_31), rfl, ⟨fun a b h => by show iv_31 a b = iv a b; rw [w_31.1 a b (by omega)]; rw [eiv_4, u2_o (by omega)], wa, wk4, wt4⟩, by show va_P _ _ _ _; rw [ht]; exact hP⟩, hS.F ht⟩) hS.2.2 dX11_assigns_46
      · skip
        have q_32 : (iv_31 0 14).toInt = (0 : Int) := i_eq2 (rfl : (iv_31 0 14).toInt = (iv_31 0 14).toInt) (show (0 : Int32).toInt = (0 : Int) from rfl) c_32
        refine lv_bipush (v := (-6)) hx hb dX11_assigns_40 (by decide) ?_
        refine lv_goto (tgt := 46) hx hb dX11_assigns_42 (by decide) ?_
        rw [hQ]
        exact W.iret (v := (-6)) hx hb hr (fun t ht hW => ⟨⟨(-6), (iv_31, ar_31), rfl, ⟨fun a b h => by show iv_31 a b = iv a b; rw [w_31.1 a b (by omega)]; rw [eiv_4, u2_o (by omega)], wa, wk4, wt4⟩, by show va_P _ _ _ _; rw [ht]; exact hP⟩, hS.F ht⟩) hS.2.2 dX11_assigns_46
    by_cases zc_33 : (ar 1 111).toInt = 4
    · skip
      have zl_34 : (0 : Int32).toInt = (0 : Int) := rfl
      have zl_35 : (0 : Int32).toInt = (0 : Int) := rfl
      have zl_36 : (0 : Int32).toInt = (0 : Int) := rfl
      have zl_37 : (0 : Int32).toInt = (0 : Int) := rfl
      refine m_callv (va_runV (As := [.int 0, .int 0, .int 0, .int 0]) (rest := []) ⟨hx, hb, hml, hown, hts⟩ (c_tries_4 l D cy ad hI _ iv_4 ar 0 0 0 0 hsb hka htr (by have z0 := i_l0; omega) (by have z0 := i_l0; omega)) (cwV 4 hts gX11_assigns_X11_tries rfl rfl rfl (by decide +kernel) ⟨Nat.le_of_ble_eq_true rfl, Nat.le_of_ble_eq_true rfl⟩) (m_preV hP hK hSt hNw hS (m_at11 (Nat.le_of_ble_eq_true rfl) rfl) rfl) rfl rfl hl.1 rfl (lv_room (Nat.le_of_ble_eq_true rfl)) dX11_assigns_30 ⟨Nat.zero_le _, Nat.zero_le _⟩) hS (fun iv_38 ar_38 H locs w_38 hP hS => ?_)
      try dsimp only at w_38
      obtain ⟨wi, wa, wk4, wt4⟩ := id w_38
      refine lv_aload_n hx hb dX11_assigns_33 rfl (lv_at hl 0 rfl) ?_
      refine va_get (D := D) (ci := 11) (v := .int (iv_38 0 14)) (C := RX11) (T := TX11) (N := 30) hx hb hts inX11 hown hK hP 0 (m_at11 (Nat.le_of_ble_eq_true rfl) rfl) rfl 14 (by decide) lk1 (fun _ h9 => h9) rfl dX11_assigns_34 ?_
      refine lv_if_ne (tgt := 45) hx hb dX11_assigns_37 (by decide) (fun c_39 => ?_) (fun c_39 => ?_)
      · skip
        have q_39 : (iv_38 0 14).toInt ≠ (0 : Int) := i_ne2 (rfl : (iv_38 0 14).toInt = (iv_38 0 14).toInt) (show (0 : Int32).toInt = (0 : Int) from rfl) c_39
        refine lv_iconst (v := 0) hx hb dX11_assigns_45 (by decide) ?_
        rw [hQ]
        exact W.iret (v := 0) hx hb hr (fun t ht hW => ⟨⟨0, (iv_38, ar_38), rfl, ⟨fun a b h => by show iv_38 a b = iv a b; rw [w_38.1 a b (by omega)]; rw [eiv_4, u2_o (by omega)], wa, wk4, wt4⟩, by show va_P _ _ _ _; rw [ht]; exact hP⟩, hS.F ht⟩) hS.2.2 dX11_assigns_46
      · skip
        have q_39 : (iv_38 0 14).toInt = (0 : Int) := i_eq2 (rfl : (iv_38 0 14).toInt = (iv_38 0 14).toInt) (show (0 : Int32).toInt = (0 : Int) from rfl) c_39
        refine lv_bipush (v := (-6)) hx hb dX11_assigns_40 (by decide) ?_
        refine lv_goto (tgt := 46) hx hb dX11_assigns_42 (by decide) ?_
        rw [hQ]
        exact W.iret (v := (-6)) hx hb hr (fun t ht hW => ⟨⟨(-6), (iv_38, ar_38), rfl, ⟨fun a b h => by show iv_38 a b = iv a b; rw [w_38.1 a b (by omega)]; rw [eiv_4, u2_o (by omega)], wa, wk4, wt4⟩, by show va_P _ _ _ _; rw [ht]; exact hP⟩, hS.F ht⟩) hS.2.2 dX11_assigns_46
    by_cases zc_40 : (ar 1 111).toInt = 5
    · skip
      have zl_41 : (0 : Int32).toInt = (0 : Int) := rfl
      have zl_42 : (0 : Int32).toInt = (0 : Int) := rfl
      have zl_43 : (0 : Int32).toInt = (0 : Int) := rfl
      have zl_44 : (0 : Int32).toInt = (0 : Int) := rfl
      refine m_callv (va_runV (As := [.int 0, .int 0, .int 0, .int 0]) (rest := []) ⟨hx, hb, hml, hown, hts⟩ (c_tries_5 l D cy ad hI _ iv_4 ar 0 0 0 0 hsb hka htr (by have z0 := i_l0; omega) (by have z0 := i_l0; omega)) (cwV 4 hts gX11_assigns_X11_tries rfl rfl rfl (by decide +kernel) ⟨Nat.le_of_ble_eq_true rfl, Nat.le_of_ble_eq_true rfl⟩) (m_preV hP hK hSt hNw hS (m_at11 (Nat.le_of_ble_eq_true rfl) rfl) rfl) rfl rfl hl.1 rfl (lv_room (Nat.le_of_ble_eq_true rfl)) dX11_assigns_30 ⟨Nat.zero_le _, Nat.zero_le _⟩) hS (fun iv_45 ar_45 H locs w_45 hP hS => ?_)
      try dsimp only at w_45
      obtain ⟨wi, wa, wk4, wt4⟩ := id w_45
      refine lv_aload_n hx hb dX11_assigns_33 rfl (lv_at hl 0 rfl) ?_
      refine va_get (D := D) (ci := 11) (v := .int (iv_45 0 14)) (C := RX11) (T := TX11) (N := 30) hx hb hts inX11 hown hK hP 0 (m_at11 (Nat.le_of_ble_eq_true rfl) rfl) rfl 14 (by decide) lk1 (fun _ h9 => h9) rfl dX11_assigns_34 ?_
      refine lv_if_ne (tgt := 45) hx hb dX11_assigns_37 (by decide) (fun c_46 => ?_) (fun c_46 => ?_)
      · skip
        have q_46 : (iv_45 0 14).toInt ≠ (0 : Int) := i_ne2 (rfl : (iv_45 0 14).toInt = (iv_45 0 14).toInt) (show (0 : Int32).toInt = (0 : Int) from rfl) c_46
        refine lv_iconst (v := 0) hx hb dX11_assigns_45 (by decide) ?_
        rw [hQ]
        exact W.iret (v := 0) hx hb hr (fun t ht hW => ⟨⟨0, (iv_45, ar_45), rfl, ⟨fun a b h => by show iv_45 a b = iv a b; rw [w_45.1 a b (by omega)]; rw [eiv_4, u2_o (by omega)], wa, wk4, wt4⟩, by show va_P _ _ _ _; rw [ht]; exact hP⟩, hS.F ht⟩) hS.2.2 dX11_assigns_46
      · skip
        have q_46 : (iv_45 0 14).toInt = (0 : Int) := i_eq2 (rfl : (iv_45 0 14).toInt = (iv_45 0 14).toInt) (show (0 : Int32).toInt = (0 : Int) from rfl) c_46
        refine lv_bipush (v := (-6)) hx hb dX11_assigns_40 (by decide) ?_
        refine lv_goto (tgt := 46) hx hb dX11_assigns_42 (by decide) ?_
        rw [hQ]
        exact W.iret (v := (-6)) hx hb hr (fun t ht hW => ⟨⟨(-6), (iv_45, ar_45), rfl, ⟨fun a b h => by show iv_45 a b = iv a b; rw [w_45.1 a b (by omega)]; rw [eiv_4, u2_o (by omega)], wa, wk4, wt4⟩, by show va_P _ _ _ _; rw [ht]; exact hP⟩, hS.F ht⟩) hS.2.2 dX11_assigns_46
    by_cases zc_47 : (ar 1 111).toInt = 6
    · skip
      have zl_48 : (0 : Int32).toInt = (0 : Int) := rfl
      have zl_49 : (0 : Int32).toInt = (0 : Int) := rfl
      have zl_50 : (0 : Int32).toInt = (0 : Int) := rfl
      have zl_51 : (0 : Int32).toInt = (0 : Int) := rfl
      refine m_callv (va_runV (As := [.int 0, .int 0, .int 0, .int 0]) (rest := []) ⟨hx, hb, hml, hown, hts⟩ (c_tries_6 l D cy ad hI _ iv_4 ar 0 0 0 0 hsb hka htr (by have z0 := i_l0; omega) (by have z0 := i_l0; omega)) (cwV 4 hts gX11_assigns_X11_tries rfl rfl rfl (by decide +kernel) ⟨Nat.le_of_ble_eq_true rfl, Nat.le_of_ble_eq_true rfl⟩) (m_preV hP hK hSt hNw hS (m_at11 (Nat.le_of_ble_eq_true rfl) rfl) rfl) rfl rfl hl.1 rfl (lv_room (Nat.le_of_ble_eq_true rfl)) dX11_assigns_30 ⟨Nat.zero_le _, Nat.zero_le _⟩) hS (fun iv_52 ar_52 H locs w_52 hP hS => ?_)
      try dsimp only at w_52
      obtain ⟨wi, wa, wk4, wt4⟩ := id w_52
      refine lv_aload_n hx hb dX11_assigns_33 rfl (lv_at hl 0 rfl) ?_
      refine va_get (D := D) (ci := 11) (v := .int (iv_52 0 14)) (C := RX11) (T := TX11) (N := 30) hx hb hts inX11 hown hK hP 0 (m_at11 (Nat.le_of_ble_eq_true rfl) rfl) rfl 14 (by decide) lk1 (fun _ h9 => h9) rfl dX11_assigns_34 ?_
      refine lv_if_ne (tgt := 45) hx hb dX11_assigns_37 (by decide) (fun c_53 => ?_) (fun c_53 => ?_)
      · skip
        have q_53 : (iv_52 0 14).toInt ≠ (0 : Int) := i_ne2 (rfl : (iv_52 0 14).toInt = (iv_52 0 14).toInt) (show (0 : Int32).toInt = (0 : Int) from rfl) c_53
        refine lv_iconst (v := 0) hx hb dX11_assigns_45 (by decide) ?_
        rw [hQ]
        exact W.iret (v := 0) hx hb hr (fun t ht hW => ⟨⟨0, (iv_52, ar_52), rfl, ⟨fun a b h => by show iv_52 a b = iv a b; rw [w_52.1 a b (by omega)]; rw [eiv_4, u2_o (by omega)], wa, wk4, wt4⟩, by show va_P _ _ _ _; rw [ht]; exact hP⟩, hS.F ht⟩) hS.2.2 dX11_assigns_46
      · skip
        have q_53 : (iv_52 0 14).toInt = (0 : Int) := i_eq2 (rfl : (iv_52 0 14).toInt = (iv_52 0 14).toInt) (show (0 : Int32).toInt = (0 : Int) from rfl) c_53
        refine lv_bipush (v := (-6)) hx hb dX11_assigns_40 (by decide) ?_
        refine lv_goto (tgt := 46) hx hb dX11_assigns_42 (by decide) ?_
        rw [hQ]
        exact W.iret (v := (-6)) hx hb hr (fun t ht hW => ⟨⟨(-6), (iv_52, ar_52), rfl, ⟨fun a b h => by show iv_52 a b = iv a b; rw [w_52.1 a b (by omega)]; rw [eiv_4, u2_o (by omega)], wa, wk4, wt4⟩, by show va_P _ _ _ _; rw [ht]; exact hP⟩, hS.F ht⟩) hS.2.2 dX11_assigns_46
    exfalso; omega
  · skip
    have q_3 : v_1.toInt ≠ v_2.toInt := i_ne2 (rfl : v_1.toInt = v_1.toInt) (rfl : v_2.toInt = v_2.toInt) c_3
    refine lv_bipush (v := (-5)) hx hb dX11_assigns_17 (by decide) ?_
    rw [hQ]
    exact W.iret (v := (-5)) hx hb hr (fun t ht hW => ⟨⟨(-5), (iv, ar), rfl, ⟨fun _ _ _ => rfl, fun _ _ _ _ _ => rfl, hka, htr⟩, by show va_P _ _ _ _; rw [ht]; exact hP⟩, hS.F ht⟩) hS.2.2 dX11_assigns_19
