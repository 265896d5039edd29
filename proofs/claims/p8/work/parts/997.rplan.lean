set_option maxHeartbeats 4000000 in
set_option maxRecDepth 100000 in
theorem c_X11_plan (l : Launch) (D : va_G) (cy : Nat → ClassId) (ad : Nat → Nat) (hI : mInj ad) (sz : Nat) (iv : gIv) (ar : gAr)  (hri : RI iv ar) : Met l yX11_plan wsX11_plan ({ frames := 11, cells := 0, slots := 0, locals := 272 } : Room) (va_Pc [.ref (ad 0)] (mPre D cy ad sz iv ar)) (va_Qi (fun (r : Int32) (u : gIv × gAr) => RI u.1 u.2 ∧ u.1 0 4 = iv 0 4 ∧ (u.1 0 17).toInt ≤ (iv 0 17).toInt) (mPost D cy ad) (mA ad sz)) 0 0 (mA ad sz) := by
  refine Met.ofW (cc := cX11_plan) (maxL := 5) (ret := (some .int)) (by decide) rfl ?_
  intro p e s m args below meth c s₁ B hml hv
  obtain ⟨rfl, rfl, hP, hK, hSt, hNw⟩ := hv
  have hx := B.exec
  have hb := B.bytes
  have hr := B.returns
  have hts := atoms_spec (ws := wsX11_plan) B.pre
  have hown : s.vm.findClass RX11 = some m.cls := findClass_of_methodNamed B.named
  have hlocks := B.notSynchronized
  have hS : va_S (mA ad s.heap.size) s.heap s.heap [] := va_S.rf
  have inX11 : ∀ w ∈ u_ws RX11 TX11 30, w ∈ wsX11_plan := by decide +kernel
  have lk0 := hts (.fieldLink RX11 69 "FormationPlannerModel" "hasPlan" "Z") (by decide +kernel)
  have lk1 := hts (.fieldLink RX11 35 "FormationPlannerModel" "stuck" "I") (by decide +kernel)
  have lk2 := hts (.fieldLink RX11 189 "FormationPlannerModel" "planned" "I") (by decide +kernel)
  have lk3 := hts (.fieldLink RX11 192 "FormationPlannerModel" "present" "I") (by decide +kernel)
  have lk4 := hts (.fieldLink RX11 195 "FormationPlannerModel" "end" "I") (by decide +kernel)
  have lk5 := hts (.fieldLink RX11 9 "FormationPlannerModel" "s" "[I") (by decide +kernel)
  have lk6 := hts (.fieldLink RX11 45 "FormationPlannerModel" "arrival" "[I") (by decide +kernel)
  have lk7 := hts (.fieldLink RX11 51 "FormationPlannerModel" "order" "[I") (by decide +kernel)
  have lk8 := hts (.fieldLink RX11 48 "FormationPlannerModel" "position" "[I") (by decide +kernel)
  have lk9 := hts (.methodLink RX11 151 Lib.Math.max.name) (by decide +kernel)
  have lk10 := hts (.static Lib.Math.max.name) (by decide +kernel)
  have lk11 := hts (.initialized "java/lang/Math") (by decide +kernel)
  have lk12 := hts (.code Lib.Math.max.name Lib.Math.max.code 2 (some .int)) (by decide +kernel)
  have lk13 := hts (.fieldLink RX11 57 "FormationPlannerModel" "taken" "[I") (by decide +kernel)
  have lk14 := hts (.fieldLink RX11 54 "FormationPlannerModel" "goal" "[I") (by decide +kernel)
  have lk15 := hts (.fieldLink RX11 32 "FormationPlannerModel" "best" "[I") (by decide +kernel)
  have hl := lv_entry ([.ref (ad 0)]) (n := 5) (Nat.le_of_ble_eq_true rfl)
  rw [lg_entry_eq]
  generalize (lg_sl ([.ref (ad 0)]) ++ List.replicate (5 - (lg_sl ([.ref (ad 0)])).length) Slot.unset).toArray = ls at hl ⊢
  have hl : lv_has ls 5 [(0, .ref (ad 0))] := hl
  obtain ⟨Q, hQ⟩ : ∃ Q, Q = MQ below (va_Qi (fun (r : Int32) (u : gIv × gAr) => RI u.1 u.2 ∧ u.1 0 4 = iv 0 4 ∧ (u.1 0 17).toInt ≤ (iv 0 17).toInt) (mPost D cy ad) (mA ad s.heap.size)) (([.ref (ad 0)] : List Value).toArray) s 0 0 (mA ad s.heap.size) := ⟨_, rfl⟩
  rw [← hQ]
  have hp0 := hri.2.2.2.2.2.2.1
  refine lv_aload_n hx hb dX11_plan_0 rfl (lv_at hl 0 rfl) ?_
  refine m_calli (va_runV (As := []) (rest := []) ⟨hx, hb, hml, hown, hts⟩ (c_X11_assigns l D cy ad hI _ iv ar hri.1.1 hri.2.2.2.2.1 hri.2.2.2.2.2.1) (cwV 0 hts gX11_plan_X11_assigns rfl rfl rfl (by decide +kernel) ⟨Nat.le_of_ble_eq_true rfl, Nat.le_of_ble_eq_true rfl⟩) (m_preV hP hK hSt hNw hS (m_at11 (Nat.le_of_ble_eq_true rfl) rfl) rfl) rfl rfl hl.1 rfl (lv_room (Nat.le_of_ble_eq_true rfl)) dX11_plan_1 ⟨Nat.zero_le _, Nat.zero_le _⟩) hS (fun r_1 iv_1 ar_1 H locs w_1 hP hS => ?_)
  try dsimp only at w_1
  obtain ⟨wi, wa, wk, wt⟩ := id w_1
  have hri2 := hri.asg wi wa wk wt
  refine lv_istore_n (lv' := [(1, .int r_1), (0, .ref (ad 0))]) hx hb dX11_plan_4 rfl hl (by decide) rfl (fun ls hl => ?_)
  refine lv_iload_n hx hb dX11_plan_5 rfl (lv_at hl 0 rfl) ?_
  refine lv_if_eq (tgt := 11) hx hb dX11_plan_6 (by decide) (fun c_2 => ?_) (fun c_2 => ?_)
  · skip
    have q_2 : r_1.toInt = (0 : Int) := i_eq2 (rfl : r_1.toInt = r_1.toInt) (show (0 : Int32).toInt = (0 : Int) from rfl) c_2
    have hsb := hri2.1.1
    have hsb1 := hsb.1
    have hsb2 := hsb.2.1
    have hsb3 := hsb.2.2.1
    refine lv_aload_n hx hb dX11_plan_11 rfl (lv_at hl 1 rfl) ?_
    refine lv_iconst (v := 0) hx hb dX11_plan_12 (by decide) ?_
    refine va_put (D := D) (ci := 11) (v := .int 0) (ty := .boolean) (C := RX11) (T := TX11) (N := 30) hx hb hts inX11 tyX11 tyX11_ok nmX11 hown hK hP (mD hI) hS 0 (m_at11 (Nat.le_of_ble_eq_true rfl) rfl) rfl 15 (by decide) lk0 (fun _ h9 => h9) rfl (by decide +kernel) rfl rfl (Nat.le_of_ble_eq_true rfl) dX11_plan_13 (fun H locs hP _ hS => ?_)
    have hP : va_P D vwCl (MW cy ad (u2 iv_1 0 15 0) ar_1) H := by rw [← m_pt11_15 (Nat.le_of_ble_eq_true rfl) rfl]; exact hP
    obtain ⟨iv_3, eiv_3⟩ : ∃ z : gIv, z = u2 iv_1 0 15 0 := ⟨_, rfl⟩
    rw [← eiv_3] at hP
    refine lv_aload_n hx hb dX11_plan_16 rfl (lv_at hl 1 rfl) ?_
    refine lv_iconst (v := (-1)) hx hb dX11_plan_17 (by decide) ?_
    refine va_put (D := D) (ci := 11) (v := .int (-1)) (ty := .int) (C := RX11) (T := TX11) (N := 30) hx hb hts inX11 tyX11 tyX11_ok nmX11 hown hK hP (mD hI) hS 0 (m_at11 (Nat.le_of_ble_eq_true rfl) rfl) rfl 16 (by decide) lk1 (fun _ h9 => h9) rfl (by decide +kernel) rfl rfl (Nat.le_of_ble_eq_true rfl) dX11_plan_18 (fun H locs hP _ hS => ?_)
    have hP : va_P D vwCl (MW cy ad (u2 iv_3 0 16 (-1)) ar_1) H := by rw [← m_pt11_16 (Nat.le_of_ble_eq_true rfl) rfl]; exact hP
    obtain ⟨iv_4, eiv_4⟩ : ∃ z : gIv, z = u2 iv_3 0 16 (-1) := ⟨_, rfl⟩
    rw [← eiv_4] at hP
    refine lv_aload_n hx hb dX11_plan_21 rfl (lv_at hl 1 rfl) ?_
    refine lv_iconst (v := 0) hx hb dX11_plan_22 (by decide) ?_
    refine va_put (D := D) (ci := 11) (v := .int 0) (ty := .int) (C := RX11) (T := TX11) (N := 30) hx hb hts inX11 tyX11 tyX11_ok nmX11 hown hK hP (mD hI) hS 0 (m_at11 (Nat.le_of_ble_eq_true rfl) rfl) rfl 25 (by decide) lk2 (fun _ h9 => h9) rfl (by decide +kernel) rfl rfl (Nat.le_of_ble_eq_true rfl) dX11_plan_23 (fun H locs hP _ hS => ?_)
    have hP : va_P D vwCl (MW cy ad (u2 iv_4 0 25 0) ar_1) H := by rw [← m_pt11_25 (Nat.le_of_ble_eq_true rfl) rfl]; exact hP
    obtain ⟨iv_5, eiv_5⟩ : ∃ z : gIv, z = u2 iv_4 0 25 0 := ⟨_, rfl⟩
    rw [← eiv_5] at hP
    refine lv_aload_n hx hb dX11_plan_26 rfl (lv_at hl 1 rfl) ?_
    refine lv_iconst (v := 0) hx hb dX11_plan_27 (by decide) ?_
    refine va_put (D := D) (ci := 11) (v := .int 0) (ty := .int) (C := RX11) (T := TX11) (N := 30) hx hb hts inX11 tyX11 tyX11_ok nmX11 hown hK hP (mD hI) hS 0 (m_at11 (Nat.le_of_ble_eq_true rfl) rfl) rfl 17 (by decide) lk3 (fun _ h9 => h9) rfl (by decide +kernel) rfl rfl (Nat.le_of_ble_eq_true rfl) dX11_plan_28 (fun H locs hP _ hS => ?_)
    have hP : va_P D vwCl (MW cy ad (u2 iv_5 0 17 0) ar_1) H := by rw [← m_pt11_17 (Nat.le_of_ble_eq_true rfl) rfl]; exact hP
    obtain ⟨iv_6, eiv_6⟩ : ∃ z : gIv, z = u2 iv_5 0 17 0 := ⟨_, rfl⟩
    rw [← eiv_6] at hP
    refine lv_aload_n hx hb dX11_plan_31 rfl (lv_at hl 1 rfl) ?_
    refine lv_iconst (v := 0) hx hb dX11_plan_32 (by decide) ?_
    refine va_put (D := D) (ci := 11) (v := .int 0) (ty := .int) (C := RX11) (T := TX11) (N := 30) hx hb hts inX11 tyX11 tyX11_ok nmX11 hown hK hP (mD hI) hS 0 (m_at11 (Nat.le_of_ble_eq_true rfl) rfl) rfl 18 (by decide) lk4 (fun _ h9 => h9) rfl (by decide +kernel) rfl rfl (Nat.le_of_ble_eq_true rfl) dX11_plan_33 (fun H locs hP _ hS => ?_)
    have hP : va_P D vwCl (MW cy ad (u2 iv_6 0 18 0) ar_1) H := by rw [← m_pt11_18 (Nat.le_of_ble_eq_true rfl) rfl]; exact hP
    obtain ⟨iv_7, eiv_7⟩ : ∃ z : gIv, z = u2 iv_6 0 18 0 := ⟨_, rfl⟩
    rw [← eiv_7] at hP
    have f_8 : iv_7 0 15 = 0 := by rw [eiv_7, u2_o (by omega)]; rw [eiv_6, u2_o (by omega)]; rw [eiv_5, u2_o (by omega)]; rw [eiv_4, u2_o (by omega)]; rw [eiv_3]; exact u2_s _ _ _ _
    have f_9 : iv_7 0 25 = 0 := by rw [eiv_7, u2_o (by omega)]; rw [eiv_6, u2_o (by omega)]; rw [eiv_5]; exact u2_s _ _ _ _
    have f_10 : iv_7 0 17 = 0 := by rw [eiv_7, u2_o (by omega)]; rw [eiv_6]; exact u2_s _ _ _ _
    have hi15 : (iv_7 0 15).toInt = 0 := ((congrArg Int32.toInt f_8).trans (show (0 : Int32).toInt = (0 : Int) from rfl))
    have hi25 : (iv_7 0 25).toInt = 0 := ((congrArg Int32.toInt f_9).trans (show (0 : Int32).toInt = (0 : Int) from rfl))
    have hi17 : (iv_7 0 17).toInt = 0 := ((congrArg Int32.toInt f_10).trans (show (0 : Int32).toInt = (0 : Int) from rfl))
    have hi0 : ∀ x y, ¬ (x = 0 ∧ (y = 15 ∨ y = 16 ∨ y = 17 ∨ y = 18 ∨ y = 25)) → iv_7 x y = iv_1 x y := fun x y h => by
      rw [eiv_7, u2_o (by omega)]
      rw [eiv_6, u2_o (by omega)]
      rw [eiv_5, u2_o (by omega)]
      rw [eiv_4, u2_o (by omega)]
      rw [eiv_3, u2_o (by omega)]
    refine lv_iconst (v := 0) hx hb dX11_plan_36 (by decide) ?_
    refine lv_istore_n (lv' := [(2, .int 0), (1, .int r_1), (0, .ref (ad 0))]) hx hb dX11_plan_37 rfl hl (by decide) rfl (fun ls hl => ?_)
    refine lv_iconst (v := 0) hx hb dX11_plan_38 (by decide) ?_
    refine lv_istore_n (lv' := [(3, .int 0), (2, .int 0), (1, .int r_1), (0, .ref (ad 0))]) hx hb dX11_plan_39 rfl hl (by decide) rfl (fun ls hl => ?_)
    have loop13 : ∀ (n : Nat) (x3_11 : Int32) (ar_12 : gAr) (H : Heap) (locs : List Loc) (ls : Array Slot), ((6588 - (x3_11.toInt)).toNat) < n → (0 ≤ (x3_11.toInt) ∧ (x3_11.toInt) ≤ 6588) → (∀ c, c ≠ 15 → ar_12 c = ar_1 c) → va_P D vwCl (MW cy ad iv_7 ar_12) H → va_S (mA ad s.heap.size) s.heap H locs → lv_has ls 5 [(3, .int x3_11), (2, .int 0), (1, .int r_1), (0, .ref (ad 0))] → W p l e (headSpec wsX11_plan (({ frames := 11, cells := 0, slots := 0, locals := 272 } : Room))).room s m (([.ref (ad 0)] : List Value).toArray) below meth c H locs 0 0 Q (F0 m 40 ls []) := by
      intro n
      induction n with
      | zero => intro x3_11 ar_12 H locs ls hm; omega
      | succ n ih13 =>
        intro x3_11 ar_12 H locs ls hm hz0 hza hP hS hl
        refine lv_iload_n hx hb dX11_plan_40 rfl (lv_at hl 0 rfl) ?_
        refine lv_sipush (v := 6588) hx hb dX11_plan_41 (by decide) ?_
        refine lv_icmp_ge (tgt := 60) hx hb dX11_plan_44 (by decide) (fun c_14 => ?_) (fun c_14 => ?_)
        · skip
          have q_14 : (6588 : Int) ≤ x3_11.toInt := i_le2 (show (6588 : Int32).toInt = (6588 : Int) from rfl) (rfl : x3_11.toInt = x3_11.toInt) c_14
          refine lv_iconst (v := 0) hx hb dX11_plan_60 (by decide) ?_
          refine lv_istore_n (lv' := [(3, .int 0), (2, .int 0), (1, .int r_1), (0, .ref (ad 0))]) hx hb dX11_plan_61 rfl hl (by decide) rfl (fun ls hl => ?_)
          have loop17 : ∀ (n : Nat) (x3_15 : Int32) (ar_16 : gAr) (H : Heap) (locs : List Loc) (ls : Array Slot), ((6 - (x3_15.toInt)).toNat) < n → (0 ≤ (x3_15.toInt) ∧ (x3_15.toInt) ≤ 6) → (∀ c, c ≠ 14 → c ≠ 15 → ar_16 c = ar_1 c) → (∀ i : Nat, (i : Int) < (x3_15.toInt) → 0 ≤ (ar_16 14 i).toInt ∧ (ar_16 14 i).toInt < 108) → va_P D vwCl (MW cy ad iv_7 ar_16) H → va_S (mA ad s.heap.size) s.heap H locs → lv_has ls 5 [(3, .int x3_15), (2, .int 0), (1, .int r_1), (0, .ref (ad 0))] → W p l e (headSpec wsX11_plan (({ frames := 11, cells := 0, slots := 0, locals := 272 } : Room))).room s m (([.ref (ad 0)] : List Value).toArray) below meth c H locs 0 0 Q (F0 m 62 ls []) := by
            intro n
            induction n with
            | zero => intro x3_15 ar_16 H locs ls hm; omega
            | succ n ih17 =>
              intro x3_15 ar_16 H locs ls hm he0 heb hem hP hS hl
              refine lv_iload_n hx hb dX11_plan_62 rfl (lv_at hl 0 rfl) ?_
              refine lv_aload_n hx hb dX11_plan_63 rfl (lv_at hl 3 rfl) ?_
              refine va_get (D := D) (ci := 11) (v := .ref (ad 1)) (C := RX11) (T := TX11) (N := 30) hx hb hts inX11 hown hK hP 0 (m_at11 (Nat.le_of_ble_eq_true rfl) rfl) rfl 0 (by decide) lk5 (fun _ h9 => h9) rfl dX11_plan_64 ?_
              refine lv_bipush (v := 111) hx hb dX11_plan_67 (by decide) ?_
              refine va_iald hx hb hK hP 1 0 (m_at12 (Nat.le_of_ble_eq_true rfl) rfl) rfl (g_in (N := 126) (show (111 : Int32).toInt = (111 : Int) from rfl) rfl (by omega) (by omega)) dX11_plan_69 ?_
              refine lv_topi (fun v_18 ev_18 => ?_)
              have hvn : v_18.toInt = (ar_1 1 111).toInt := by rw [ev_18, heb 1 (by omega) (by omega)]; rfl
              refine lv_icmp_ge (tgt := 99) hx hb dX11_plan_70 (by decide) (fun c_19 => ?_) (fun c_19 => ?_)
              · skip
                have q_19 : v_18.toInt ≤ x3_15.toInt := i_le2 (rfl : v_18.toInt = v_18.toInt) (rfl : x3_15.toInt = x3_15.toInt) c_19
                have heg : ∀ i : Nat, (i : Int) < (ar_1 1 111).toInt → 0 ≤ (ar_16 14 i).toInt ∧ (ar_16 14 i).toInt < 108 := fun i hi => hem i (by omega)
                have loop22 : ∀ (n : Nat) (x2_20 : Int32) (iv_21 : gIv) (ar_21 : gAr) (H : Heap) (locs : List Loc) (ls : Array Slot), (((ar_1 1 111).toInt - (iv_21 0 25).toInt).toNat) < n → (0 ≤ (x2_20.toInt) ∧ (x2_20.toInt) < 64) → (0 ≤ (iv_21 0 25).toInt) → (∀ x y, ¬ (x = 0 ∧ (y = 25 ∨ y = 18)) → iv_21 x y = iv_7 x y) → ((iv_21 0 25).toInt = cN x2_20 (ar_1 1 111).toInt.toNat) → (∀ c, (c = 1 ∨ c = 2 ∨ c = 7 ∨ c = 8 ∨ c = 14) → ar_21 c = ar_16 c) → (KA ar_21) → (∀ d : Nat, (d : Int) < (ar_1 1 111).toInt → bt x2_20 d ≠ 0 → PD (ar_1 1) (ar_21 9) (ar_21 11) (ar_21 14) d) → va_P D vwCl (MW cy ad iv_21 ar_21) H → va_S (mA ad s.heap.size) s.heap H locs → lv_has ls 5 [(2, .int x2_20), (1, .int r_1), (0, .ref (ad 0))] → W p l e (headSpec wsX11_plan (({ frames := 11, cells := 0, slots := 0, locals := 272 } : Room))).room s m (([.ref (ad 0)] : List Value).toArray) below meth c H locs 0 0 Q (F0 m 99 ls []) := by
                  intro n
                  induction n with
                  | zero => intro x2_20 iv_21 ar_21 H locs ls hm; omega
                  | succ n ih22 =>
                    intro x2_20 iv_21 ar_21 H locs ls hm hg0 hg1 hgi hgp hga hgk hgd hP hS hl
                    refine lv_aload_n hx hb dX11_plan_99 rfl (lv_at hl 2 rfl) ?_
                    refine va_get (D := D) (ci := 11) (v := .int (iv_21 0 25)) (C := RX11) (T := TX11) (N := 30) hx hb hts inX11 hown hK hP 0 (m_at11 (Nat.le_of_ble_eq_true rfl) rfl) rfl 25 (by decide) lk2 (fun _ h9 => h9) rfl dX11_plan_100 ?_
                    refine lv_aload_n hx hb dX11_plan_103 rfl (lv_at hl 2 rfl) ?_
                    refine va_get (D := D) (ci := 11) (v := .ref (ad 1)) (C := RX11) (T := TX11) (N := 30) hx hb hts inX11 hown hK hP 0 (m_at11 (Nat.le_of_ble_eq_true rfl) rfl) rfl 0 (by decide) lk5 (fun _ h9 => h9) rfl dX11_plan_104 ?_
                    refine lv_bipush (v := 111) hx hb dX11_plan_107 (by decide) ?_
                    refine va_iald hx hb hK hP 1 0 (m_at12 (Nat.le_of_ble_eq_true rfl) rfl) rfl (g_in (N := 126) (show (111 : Int32).toInt = (111 : Int) from rfl) rfl (by omega) (by omega)) dX11_plan_109 ?_
                    refine lv_topi (fun v_23 ev_23 => ?_)
                    have hvn : v_23.toInt = (ar_1 1 111).toInt := by rw [ev_23, hga 1 (by omega), heb 1 (by omega) (by omega)]; rfl
                    refine lv_icmp_ge (tgt := 250) hx hb dX11_plan_110 (by decide) (fun c_24 => ?_) (fun c_24 => ?_)
                    · skip
                      have q_24 : v_23.toInt ≤ (iv_21 0 25).toInt := i_le2 (rfl : v_23.toInt = v_23.toInt) (rfl : (iv_21 0 25).toInt = (iv_21 0 25).toInt) c_24
                      refine lv_aload_n hx hb dX11_plan_250 rfl (lv_at hl 2 rfl) ?_
                      refine lv_iconst (v := 1) hx hb dX11_plan_251 (by decide) ?_
                      refine va_put (D := D) (ci := 11) (v := .int 1) (ty := .boolean) (C := RX11) (T := TX11) (N := 30) hx hb hts inX11 tyX11 tyX11_ok nmX11 hown hK hP (mD hI) hS 0 (m_at11 (Nat.le_of_ble_eq_true rfl) rfl) rfl 15 (by decide) lk0 (fun _ h9 => h9) rfl (by decide +kernel) rfl rfl (Nat.le_of_ble_eq_true rfl) dX11_plan_252 (fun H locs hP _ hS => ?_)
                      have hP : va_P D vwCl (MW cy ad (u2 iv_21 0 15 1) ar_21) H := by rw [← m_pt11_15 (Nat.le_of_ble_eq_true rfl) rfl]; exact hP
                      obtain ⟨iv_25, eiv_25⟩ : ∃ z : gIv, z = u2 iv_21 0 15 1 := ⟨_, rfl⟩
                      rw [← eiv_25] at hP
                      have hqiS : ∀ x y, ¬ (x = 0 ∧ (y = 25 ∨ y = 18)) → ¬ (x = 0 ∧ y = 15) → iv_25 x y = iv_7 x y := fun x y h h2 => by rw [eiv_25, u2_o (by omega)]; exact hgi x y h
                      have hh1e : ar_21 1 = ar_1 1 := (hga 1 (by omega)).trans (heb 1 (by omega) (by omega))
                      have hriS : RI iv_25 ar_21 := RI.pln hri2 hh1e (by rw [hga 2 (by omega), heb 2 (by omega) (by omega)]) (by rw [hqiS 0 3 (by omega) (by omega), hi0 0 3 (by omega)]) (by rw [hqiS 0 4 (by omega) (by omega), hi0 0 4 (by omega)]) hgk (hri2.2.2.2.2.2.1.fr (by rw [hga 7 (by omega), heb 7 (by omega) (by omega)]) (by rw [hga 8 (by omega), heb 8 (by omega) (by omega)])) (by rw [hqiS 0 17 (by omega) (by omega)]; omega) (fun _ d hd => by
                        rw [hh1e] at hd ⊢
                        exact hgd d hd ((cN_all hg0 (ar_1 1 111).toInt.toNat (by omega)).1 (by omega) d (by omega)))
                      refine lv_aload_n hx hb dX11_plan_255 rfl (lv_at hl 2 rfl) ?_
                      refine va_get (D := D) (ci := 11) (v := .int (iv_25 0 18)) (C := RX11) (T := TX11) (N := 30) hx hb hts inX11 hown hK hP 0 (m_at11 (Nat.le_of_ble_eq_true rfl) rfl) rfl 18 (by decide) lk4 (fun _ h9 => h9) rfl dX11_plan_256 ?_
                      have f_26 : iv_25 0 18 = iv_21 0 18 := by rw [eiv_25, u2_o (by omega)]
                      rw [hQ]
                      exact W.iret (v := (iv_25 0 18)) hx hb hr (fun t ht hW => ⟨⟨(iv_25 0 18), (iv_25, ar_21), rfl, ⟨hriS, (hqiS 0 4 (by omega) (by omega)).trans ((hi0 0 4 (by omega)).trans (wi 0 4 (by omega))), by show (iv_25 0 17).toInt ≤ _; rw [hqiS 0 17 (by omega) (by omega)]; omega⟩, by show va_P _ _ _ _; rw [ht]; exact hP⟩, hS.F ht⟩) hS.2.2 dX11_plan_259
                    · skip
                      have q_24 : (iv_21 0 25).toInt < v_23.toInt := i_nle2 (rfl : v_23.toInt = v_23.toInt) (rfl : (iv_21 0 25).toInt = (iv_21 0 25).toInt) c_24
                      have hh0 : ar_21 1 = ar_1 1 := (hga 1 (by omega)).trans (heb 1 (by omega) (by omega))
                      have hh140 := hga 14 (by omega)
                      refine lv_aload_n hx hb dX11_plan_113 rfl (lv_at hl 2 rfl) ?_
                      refine lv_iload_n hx hb dX11_plan_114 rfl (lv_at hl 0 rfl) ?_
                      refine m_calli (va_runV (As := [.int x2_20]) (rest := []) ⟨hx, hb, hml, hown, hts⟩ (c_X11_nextDrone l D cy ad hI _ iv_21 ar_21 x2_20 (by rw [hh0]; exact hri2.1.1) hgk (by rw [hh0, hh140]; exact heg)) (cwV 1 hts gX11_plan_X11_nextDrone rfl rfl rfl (by decide +kernel) ⟨Nat.le_of_ble_eq_true rfl, Nat.le_of_ble_eq_true rfl⟩) (m_preV hP hK hSt hNw hS (m_at11 (Nat.le_of_ble_eq_true rfl) rfl) rfl) rfl rfl hl.1 rfl (lv_room (Nat.le_of_ble_eq_true rfl)) dX11_plan_115 ⟨Nat.zero_le _, Nat.zero_le _⟩) hS (fun r_27 iv_27 ar_27 H locs w_27 hP hS => ?_)
                      try dsimp only at w_27
                      have wi_27 := (w_27.1).symm
                      subst wi_27
                      obtain ⟨-, wa, wk, wd⟩ := w_27
                      have hga1 : ∀ c, (c = 1 ∨ c = 2 ∨ c = 7 ∨ c = 8 ∨ c = 14) → ar_27 c = ar_16 c := fun c h => by rw [wa c (by omega) (by omega)]; exact hga c h
                      have hh1 : ar_27 1 = ar_1 1 := by rw [wa 1 (by omega) (by omega)]; exact hh0
                      have hh14 : ar_27 14 = ar_16 14 := by rw [wa 14 (by omega) (by omega)]; exact hh140
                      rw [hh0] at wd
                      have hdr : 0 ≤ r_27.toInt ∧ r_27.toInt < (ar_1 1 111).toInt ∧ bt x2_20 r_27.toInt.toNat = 0 := by
                        rcases wd with ⟨-, z⟩ | z
                        · exfalso
                          have z2 := (cN_all hg0 (ar_1 1 111).toInt.toNat (by omega)).2 (fun i hi => z i (by omega))
                          omega
                        · exact z
                      clear wd
                      have hgg1 := heg r_27.toInt.toNat (by omega)
                      have hss1 := hri2.1.1.2.2.2.2 r_27.toInt.toNat (by omega)
                      refine lv_istore_n (lv' := [(3, .int r_27), (2, .int x2_20), (1, .int r_1), (0, .ref (ad 0))]) hx hb dX11_plan_118 rfl hl (by decide) rfl (fun ls hl => ?_)
                      refine lv_aload_n hx hb dX11_plan_119 rfl (lv_at hl 3 rfl) ?_
                      refine va_get (D := D) (ci := 11) (v := .ref (ad 11)) (C := RX11) (T := TX11) (N := 30) hx hb hts inX11 hown hK hP 0 (m_at11 (Nat.le_of_ble_eq_true rfl) rfl) rfl 21 (by decide) lk6 (fun _ h9 => h9) rfl dX11_plan_120 ?_
                      refine lv_iload_n hx hb dX11_plan_123 rfl (lv_at hl 0 rfl) ?_
                      refine lv_aload_n hx hb dX11_plan_124 rfl (lv_at hl 3 rfl) ?_
                      refine lv_iload_n hx hb dX11_plan_125 rfl (lv_at hl 0 rfl) ?_
                      refine m_calli (va_runV (As := [.int r_27]) (rest := [.int r_27, .ref (ad 11)]) ⟨hx, hb, hml, hown, hts⟩ (c_X11_earliest l D cy ad hI _ iv_21 ar_27 r_27 (by rw [hh1]; omega) (by rw [hh1]; exact hri2.1) (by rw [hh14]; exact hgg1)) (cwV 1 hts gX11_plan_X11_earliest rfl rfl rfl (by decide +kernel) ⟨Nat.le_of_ble_eq_true rfl, Nat.le_of_ble_eq_true rfl⟩) (m_preV hP hK hSt hNw hS (m_at11 (Nat.le_of_ble_eq_true rfl) rfl) rfl) rfl rfl hl.1 rfl (lv_room (Nat.le_of_ble_eq_true rfl)) dX11_plan_126 ⟨Nat.zero_le _, Nat.zero_le _⟩) hS (fun r_28 iv_28 ar_28 H locs w_28 hP hS => ?_)
                      try dsimp only at w_28
                      have wi_28 := (w_28.1).symm
                      subst wi_28
                      obtain ⟨-, wb, wr, wm⟩ := w_28
                      have wb1 := wb 1 (by omega)
                      have wb15 := wb 15 (by omega)
                      have wb14 := wb 14 (by omega)
                      rw [← wb1, ← wb15] at wr
                      rw [← wb14] at wm
                      refine va_iast hx hb hK hP (mD hI) hS 11 0 (m_at12 (Nat.le_of_ble_eq_true rfl) rfl) rfl (g_in (N := 6) (rfl : r_27.toInt = r_27.toInt) rfl (by omega) (by omega)) dX11_plan_129 (fun H locs hP _ hS => ?_)
                      rw [m_pt12 (Nat.le_of_ble_eq_true rfl) rfl] at hP
                      obtain ⟨ar_29, ear_29⟩ : ∃ z : gAr, z = va_up ar_28 11 (upd (ar_28 11) r_27.toNatClampNeg r_28) := ⟨_, rfl⟩
                      rw [← ear_29] at hP
                      have h3 : ∀ c, c ≠ 11 → ar_29 c = ar_28 c := fun c h => by rw [ear_29, ua_o h]
                      have h11 : ar_29 11 = upd (ar_28 11) r_27.toInt.toNat r_28 := by rw [ear_29, ua_s, g_cN (rfl : r_27.toInt = _)]
                      have hh143 : ar_29 14 = ar_16 14 := by rw [h3 14 (by omega), wb14]; exact hh14
                      have hh13 : ar_29 1 = ar_1 1 := by rw [h3 1 (by omega), wb1]; exact hh1
                      refine lv_aload_n hx hb dX11_plan_130 rfl (lv_at hl 3 rfl) ?_
                      refine va_get (D := D) (ci := 11) (v := .ref (ad 11)) (C := RX11) (T := TX11) (N := 30) hx hb hts inX11 hown hK hP 0 (m_at11 (Nat.le_of_ble_eq_true rfl) rfl) rfl 21 (by decide) lk6 (fun _ h9 => h9) rfl dX11_plan_131 ?_
                      refine lv_iload_n hx hb dX11_plan_134 rfl (lv_at hl 0 rfl) ?_
                      refine va_iald hx hb hK hP 11 0 (m_at12 (Nat.le_of_ble_eq_true rfl) rfl) rfl (g_in (N := 6) (rfl : r_27.toInt = r_27.toInt) rfl (by omega) (by omega)) dX11_plan_135 ?_
                      refine lv_topi (fun v_30 ev_30 => ?_)
                      have hvr : v_30.toInt = r_28.toInt := by rw [ev_30, g_cN (rfl : r_27.toInt = _), h11, pk_us]
                      refine lv_if_ge (tgt := 147) hx hb dX11_plan_136 (by decide) (fun c_31 => ?_) (fun c_31 => ?_)
                      · skip
                        have q_31 : (0 : Int) ≤ v_30.toInt := i_le2 (show (0 : Int32).toInt = (0 : Int) from rfl) (rfl : v_30.toInt = v_30.toInt) c_31
                        have hm : r_28.toInt ≤ 60 ∧ (ar_28 16 (108 * r_28.toInt.toNat + (ar_28 14 r_27.toInt.toNat).toInt.toNat)).toInt ≠ 0 := by
                          rcases wm with z | z
                          · exfalso; omega
                          · exact ⟨z.2.1, z.2.2⟩
                        clear wm
                        have hL3 : 0 ≤ (ar_29 11 r_27.toInt.toNat).toInt ∧ (ar_29 11 r_27.toInt.toNat).toInt ≤ 60 := by rw [h11, pk_us]; omega
                        have hg3 : 0 ≤ (ar_29 14 r_27.toInt.toNat).toInt ∧ (ar_29 14 r_27.toInt.toNat).toInt < 108 := by rw [hh143]; exact hgg1
                        refine lv_aload_n hx hb dX11_plan_147 rfl (lv_at hl 3 rfl) ?_
                        refine lv_iload_n hx hb dX11_plan_148 rfl (lv_at hl 0 rfl) ?_
                        refine m_callv (va_runV (As := [.int r_27]) (rest := []) ⟨hx, hb, hml, hown, hts⟩ (c_X11_goesBack l D cy ad hI _ iv_21 ar_29 r_27 (by omega) hL3 hg3) (cwV 1 hts gX11_plan_X11_goesBack rfl rfl rfl (by decide +kernel) ⟨Nat.le_of_ble_eq_true rfl, Nat.le_of_ble_eq_true rfl⟩) (m_preV hP hK hSt hNw hS (m_at11 (Nat.le_of_ble_eq_true rfl) rfl) rfl) rfl rfl hl.1 rfl (lv_room (Nat.le_of_ble_eq_true rfl)) dX11_plan_149 ⟨Nat.zero_le _, Nat.zero_le _⟩) hS (fun iv_32 ar_32 H locs w_32 hP hS => ?_)
                        try dsimp only at w_32
                        have wi_32 := (w_32.1).symm
                        subst wi_32
                        obtain ⟨-, wg, wc⟩ := w_32
                        have wg1 := wg 1 (by omega)
                        have wg15 := wg 15 (by omega)
                        have wg16 := wg 16 (by omega)
                        have wg11 := wg 11 (by omega)
                        have wg14 := wg 14 (by omega)
                        rw [← wg1, ← wg15, ← wg16, ← wg11, ← wg14] at wc
                        have hL4 : 0 ≤ (ar_32 11 r_27.toInt.toNat).toInt ∧ (ar_32 11 r_27.toInt.toNat).toInt ≤ 60 := by rw [wg11]; exact hL3
                        have hg4 : 0 ≤ (ar_32 14 r_27.toInt.toNat).toInt ∧ (ar_32 14 r_27.toInt.toNat).toInt < 108 := by rw [wg14]; exact hg3
                        have hs4x : 0 ≤ (ar_32 1 (112 + r_27.toInt.toNat)).toInt ∧ (ar_32 1 (112 + r_27.toInt.toNat)).toInt < 108 := by rw [wg1, hh13]; exact ⟨hss1.1, hss1.2.1⟩
                        have hrc4 : RCH (ar_32 1) (ar_32 15) (ar_32 16) ((ar_32 1 (112 + r_27.toInt.toNat)).toInt.toNat) := by
                          rw [wg1, wg15, wg16, h3 1 (by omega), h3 15 (by omega), h3 16 (by omega)]; exact wr
                        have hmk4 : (ar_32 16 (108 * (ar_32 11 r_27.toInt.toNat).toInt.toNat + (ar_32 14 r_27.toInt.toNat).toInt.toNat)).toInt ≠ 0 := by
                          rw [wg16, wg11, wg14, h3 16 (by omega), h3 14 (by omega), h11, pk_us]; exact hm.2
                        refine lv_aload_n hx hb dX11_plan_152 rfl (lv_at hl 3 rfl) ?_
                        refine lv_iload_n hx hb dX11_plan_153 rfl (lv_at hl 0 rfl) ?_
                        refine m_callv (va_runV (As := [.int r_27]) (rest := []) ⟨hx, hb, hml, hown, hts⟩ (c_X11_writes l D cy ad hI _ iv_21 ar_32 r_27 (by omega) hL4 hg4 hs4x wc hrc4 hmk4) (cwV 1 hts gX11_plan_X11_writes rfl rfl rfl (by decide +kernel) ⟨Nat.le_of_ble_eq_true rfl, Nat.le_of_ble_eq_true rfl⟩) (m_preV hP hK hSt hNw hS (m_at11 (Nat.le_of_ble_eq_true rfl) rfl) rfl) rfl rfl hl.1 rfl (lv_room (Nat.le_of_ble_eq_true rfl)) dX11_plan_154 ⟨Nat.zero_le _, Nat.zero_le _⟩) hS (fun iv_33 ar_33 H locs w_33 hP hS => ?_)
                        try dsimp only at w_33
                        have wi_33 := (w_33.1).symm
                        subst wi_33
                        obtain ⟨-, we, wo, wgd⟩ := w_33
                        refine lv_iconst (v := 0) hx hb dX11_plan_157 (by decide) ?_
                        refine lv_istore (lv' := [(4, .int 0), (3, .int r_27), (2, .int x2_20), (1, .int r_1), (0, .ref (ad 0))]) hx hb dX11_plan_158 hl (by decide) rfl (fun ls hl => ?_)
                        have loop36 : ∀ (n : Nat) (x4_34 : Int32) (ar_35 : gAr) (H : Heap) (locs : List Loc) (ls : Array Slot), ((61 - (x4_34.toInt)).toNat) < n → (0 ≤ (x4_34.toInt) ∧ (x4_34.toInt) ≤ 61) → (∀ c, c ≠ 15 → ar_35 c = ar_33 c) → va_P D vwCl (MW cy ad iv_21 ar_35) H → va_S (mA ad s.heap.size) s.heap H locs → lv_has ls 5 [(4, .int x4_34), (3, .int r_27), (2, .int x2_20), (1, .int r_1), (0, .ref (ad 0))] → W p l e (headSpec wsX11_plan (({ frames := 11, cells := 0, slots := 0, locals := 272 } : Room))).room s m (([.ref (ad 0)] : List Value).toArray) below meth c H locs 0 0 Q (F0 m 160 ls []) := by
                          intro n
                          induction n with
                          | zero => intro x4_34 ar_35 H locs ls hm; omega
                          | succ n ih36 =>
                            intro x4_34 ar_35 H locs ls hm ht0 hta hP hS hl
                            refine lv_iload hx hb dX11_plan_160 (lv_at hl 0 rfl) ?_
                            refine lv_bipush (v := 60) hx hb dX11_plan_162 (by decide) ?_
                            refine lv_icmp_gt (tgt := 194) hx hb dX11_plan_164 (by decide) (fun c_37 => ?_) (fun c_37 => ?_)
                            · skip
                              have q_37 : (60 : Int) < x4_34.toInt := i_lt2 (show (60 : Int32).toInt = (60 : Int) from rfl) (rfl : x4_34.toInt = x4_34.toInt) c_37
                              refine lv_iload_n hx hb dX11_plan_194 rfl (lv_at hl 2 rfl) ?_
                              refine lv_iconst (v := 1) hx hb dX11_plan_195 (by decide) ?_
                              refine lv_iload_n hx hb dX11_plan_196 rfl (lv_at hl 1 rfl) ?_
                              refine lv_ishl hx hb dX11_plan_197 ?_
                              refine lv_topi (fun v_38 ev_38 => ?_)
                              have hsl : v_38 = (1 : Int32) <<< (r_27 &&& 31) := ev_38
                              refine lv_ior hx hb dX11_plan_198 ?_
                              refine lv_topi (fun v_39 ev_39 => ?_)
                              have hbs := bt_set (x := x2_20) (d := r_27) hg0 (by omega) (show v_39 = x2_20 ||| ((1 : Int32) <<< (r_27 &&& 31)) from by rw [ev_39, hsl])
                              refine lv_istore_n (lv' := [(2, .int v_39), (4, .int x4_34), (3, .int r_27), (1, .int r_1), (0, .ref (ad 0))]) hx hb dX11_plan_199 rfl hl (by decide) rfl (fun ls hl => ?_)
                              refine lv_aload_n hx hb dX11_plan_200 rfl (lv_at hl 4 rfl) ?_
                              refine va_get (D := D) (ci := 11) (v := .ref (ad 13)) (C := RX11) (T := TX11) (N := 30) hx hb hts inX11 hown hK hP 0 (m_at11 (Nat.le_of_ble_eq_true rfl) rfl) rfl 23 (by decide) lk7 (fun _ h9 => h9) rfl dX11_plan_201 ?_
                              refine lv_aload_n hx hb dX11_plan_204 rfl (lv_at hl 4 rfl) ?_
                              refine va_get (D := D) (ci := 11) (v := .int (iv_21 0 25)) (C := RX11) (T := TX11) (N := 30) hx hb hts inX11 hown hK hP 0 (m_at11 (Nat.le_of_ble_eq_true rfl) rfl) rfl 25 (by decide) lk2 (fun _ h9 => h9) rfl dX11_plan_205 ?_
                              refine lv_iload_n hx hb dX11_plan_208 rfl (lv_at hl 2 rfl) ?_
                              refine va_iast hx hb hK hP (mD hI) hS 13 0 (m_at12 (Nat.le_of_ble_eq_true rfl) rfl) rfl (g_in (N := 6) (rfl : (iv_21 0 25).toInt = (iv_21 0 25).toInt) rfl (by omega) (by omega)) dX11_plan_209 (fun H locs hP _ hS => ?_)
                              rw [m_pt12 (Nat.le_of_ble_eq_true rfl) rfl] at hP
                              obtain ⟨ar_40, ear_40⟩ : ∃ z : gAr, z = va_up ar_35 13 (upd (ar_35 13) (iv_21 0 25).toNatClampNeg r_27) := ⟨_, rfl⟩
                              rw [← ear_40] at hP
                              have hu1 : ∀ c, c ≠ 15 → c ≠ 13 → ar_40 c = ar_33 c := fun c h h2 => by rw [ear_40, ua_o h2]; exact hta c h
                              refine lv_aload_n hx hb dX11_plan_210 rfl (lv_at hl 4 rfl) ?_
                              refine va_get (D := D) (ci := 11) (v := .ref (ad 12)) (C := RX11) (T := TX11) (N := 30) hx hb hts inX11 hown hK hP 0 (m_at11 (Nat.le_of_ble_eq_true rfl) rfl) rfl 22 (by decide) lk8 (fun _ h9 => h9) rfl dX11_plan_211 ?_
                              refine lv_iload_n hx hb dX11_plan_214 rfl (lv_at hl 2 rfl) ?_
                              refine lv_aload_n hx hb dX11_plan_215 rfl (lv_at hl 4 rfl) ?_
                              refine va_get (D := D) (ci := 11) (v := .int (iv_21 0 25)) (C := RX11) (T := TX11) (N := 30) hx hb hts inX11 hown hK hP 0 (m_at11 (Nat.le_of_ble_eq_true rfl) rfl) rfl 25 (by decide) lk2 (fun _ h9 => h9) rfl dX11_plan_216 ?_
                              refine va_iast hx hb hK hP (mD hI) hS 12 0 (m_at12 (Nat.le_of_ble_eq_true rfl) rfl) rfl (g_in (N := 6) (rfl : r_27.toInt = r_27.toInt) rfl (by omega) (by omega)) dX11_plan_219 (fun H locs hP _ hS => ?_)
                              rw [m_pt12 (Nat.le_of_ble_eq_true rfl) rfl] at hP
                              obtain ⟨ar_41, ear_41⟩ : ∃ z : gAr, z = va_up ar_40 12 (upd (ar_40 12) r_27.toNatClampNeg (iv_21 0 25)) := ⟨_, rfl⟩
                              rw [← ear_41] at hP
                              have hu2 : ∀ c, c ≠ 15 → c ≠ 13 → c ≠ 12 → ar_41 c = ar_33 c := fun c h h2 h12 => by rw [ear_41, ua_o h12]; exact hu1 c h h2
                              refine lv_aload_n hx hb dX11_plan_220 rfl (lv_at hl 4 rfl) ?_
                              refine lv_dup hx hb dX11_plan_221 rfl ?_
                              refine va_get (D := D) (ci := 11) (v := .int (iv_21 0 25)) (C := RX11) (T := TX11) (N := 30) hx hb hts inX11 hown hK hP 0 (m_at11 (Nat.le_of_ble_eq_true rfl) rfl) rfl 25 (by decide) lk2 (fun _ h9 => h9) rfl dX11_plan_222 ?_
                              refine lv_iconst (v := 1) hx hb dX11_plan_225 (by decide) ?_
                              refine lv_iadd hx hb dX11_plan_226 ?_
                              refine lv_topi (fun v_42 ev_42 => ?_)
                              have tv_42 : v_42.toInt = ((iv_21 0 25).toInt) + (1 : Int) := i_add (rfl : (iv_21 0 25).toInt = (iv_21 0 25).toInt) (show (1 : Int32).toInt = (1 : Int) from rfl) (by omega) (by omega) ev_42
                              refine va_put (D := D) (ci := 11) (v := .int v_42) (ty := .int) (C := RX11) (T := TX11) (N := 30) hx hb hts inX11 tyX11 tyX11_ok nmX11 hown hK hP (mD hI) hS 0 (m_at11 (Nat.le_of_ble_eq_true rfl) rfl) rfl 25 (by decide) lk2 (fun _ h9 => h9) rfl (by decide +kernel) rfl rfl (Nat.le_of_ble_eq_true rfl) dX11_plan_227 (fun H locs hP _ hS => ?_)
                              have hP : va_P D vwCl (MW cy ad (u2 iv_21 0 25 v_42) ar_41) H := by rw [← m_pt11_25 (Nat.le_of_ble_eq_true rfl) rfl]; exact hP
                              obtain ⟨iv_43, eiv_43⟩ : ∃ z : gIv, z = u2 iv_21 0 25 v_42 := ⟨_, rfl⟩
                              rw [← eiv_43] at hP
                              have hq25 : (iv_43 0 25).toInt = (iv_21 0 25).toInt + 1 := by rw [eiv_43, u2_s]; omega
                              have hqi : ∀ x y, ¬ (x = 0 ∧ (y = 25 ∨ y = 18)) → iv_43 x y = iv_7 x y := fun x y h => by rw [eiv_43, u2_o (by omega)]; exact hgi x y h
                              refine lv_aload_n hx hb dX11_plan_230 rfl (lv_at hl 4 rfl) ?_
                              refine lv_aload_n hx hb dX11_plan_231 rfl (lv_at hl 4 rfl) ?_
                              refine va_get (D := D) (ci := 11) (v := .int (iv_43 0 18)) (C := RX11) (T := TX11) (N := 30) hx hb hts inX11 hown hK hP 0 (m_at11 (Nat.le_of_ble_eq_true rfl) rfl) rfl 18 (by decide) lk4 (fun _ h9 => h9) rfl dX11_plan_232 ?_
                              have f_44 : iv_43 0 18 = iv_21 0 18 := by rw [eiv_43, u2_o (by omega)]
                              refine lv_aload_n hx hb dX11_plan_235 rfl (lv_at hl 4 rfl) ?_
                              refine va_get (D := D) (ci := 11) (v := .ref (ad 11)) (C := RX11) (T := TX11) (N := 30) hx hb hts inX11 hown hK hP 0 (m_at11 (Nat.le_of_ble_eq_true rfl) rfl) rfl 21 (by decide) lk6 (fun _ h9 => h9) rfl dX11_plan_236 ?_
                              refine lv_iload_n hx hb dX11_plan_239 rfl (lv_at hl 2 rfl) ?_
                              refine va_iald hx hb hK hP 11 0 (m_at12 (Nat.le_of_ble_eq_true rfl) rfl) rfl (g_in (N := 6) (rfl : r_27.toInt = r_27.toInt) rfl (by omega) (by omega)) dX11_plan_240 ?_
                              refine lv_topi (fun v_45 ev_45 => ?_)
                              refine va_mmax (rest := [.ref (ad 0)]) hx hb (hml.trans hl.1.symm) hown lk9 lk10 lk11 lk12 (Nat.le_of_ble_eq_true rfl) (Nat.le_of_ble_eq_true rfl) (Nat.zero_le _) (Nat.zero_le _) dX11_plan_241 ?_
                              refine lv_topi (fun v_46 ev_46 => ?_)
                              have tv_46 : v_46.toInt = max ((iv_21 0 18).toInt) v_45.toInt := i_max ((congrArg Int32.toInt f_44).trans (rfl : (iv_21 0 18).toInt = (iv_21 0 18).toInt)) (rfl : v_45.toInt = v_45.toInt) ev_46
                              refine va_put (D := D) (ci := 11) (v := .int v_46) (ty := .int) (C := RX11) (T := TX11) (N := 30) hx hb hts inX11 tyX11 tyX11_ok nmX11 hown hK hP (mD hI) hS 0 (m_at11 (Nat.le_of_ble_eq_true rfl) rfl) rfl 18 (by decide) lk4 (fun _ h9 => h9) rfl (by decide +kernel) rfl rfl (Nat.le_of_ble_eq_true rfl) dX11_plan_244 (fun H locs hP _ hS => ?_)
                              have hP : va_P D vwCl (MW cy ad (u2 iv_43 0 18 v_46) ar_41) H := by rw [← m_pt11_18 (Nat.le_of_ble_eq_true rfl) rfl]; exact hP
                              obtain ⟨iv_47, eiv_47⟩ : ∃ z : gIv, z = u2 iv_43 0 18 v_46 := ⟨_, rfl⟩
                              rw [← eiv_47] at hP
                              have hq25b : (iv_47 0 25).toInt = (iv_43 0 25).toInt := by rw [eiv_47, u2_o (by omega)]
                              have hqi2 : ∀ x y, ¬ (x = 0 ∧ (y = 25 ∨ y = 18)) → iv_47 x y = iv_7 x y := fun x y h => by rw [eiv_47, u2_o (by omega)]; exact hqi x y h
                              have hrow : ∀ c, c ≠ 9 → c ≠ 10 → c ≠ 11 → c ≠ 12 → c ≠ 13 → c ≠ 15 → c ≠ 16 → c ≠ 17 → ar_41 c = ar_27 c := fun c k9 k10 k11 k12 k13 k15 k16 k17 => by
                                rw [hu2 c k15 k13 k12, we c k9 k10, wg c k17, h3 c k11, wb c k16]
                              have hgaN : ∀ c, (c = 1 ∨ c = 2 ∨ c = 7 ∨ c = 8 ∨ c = 14) → ar_41 c = ar_16 c := fun c h => by rw [hrow c (by omega) (by omega) (by omega) (by omega) (by omega) (by omega) (by omega) (by omega)]; exact hga1 c h
                              have hgkN : KA ar_41 := wk.fr (hrow 1 (by omega) (by omega) (by omega) (by omega) (by omega) (by omega) (by omega) (by omega)) (hrow 5 (by omega) (by omega) (by omega) (by omega) (by omega) (by omega) (by omega) (by omega)) (hrow 6 (by omega) (by omega) (by omega) (by omega) (by omega) (by omega) (by omega) (by omega))
                              have hr9 : ar_41 9 = ar_33 9 := hu2 9 (by omega) (by omega) (by omega)
                              have hr11 : ar_41 11 = upd (ar_28 11) r_27.toInt.toNat r_28 := by rw [hu2 11 (by omega) (by omega) (by omega), we 11 (by omega) (by omega), wg 11 (by omega), h11]
                              have hr14 : ar_41 14 = ar_32 14 := by rw [hu2 14 (by omega) (by omega) (by omega), we 14 (by omega) (by omega)]
                              have hgdN : ∀ d : Nat, (d : Int) < (ar_1 1 111).toInt → bt v_39 d ≠ 0 → PD (ar_1 1) (ar_41 9) (ar_41 11) (ar_41 14) d := fun d hd hb => by
                                have hb2 := hbs.2 d (by omega)
                                by_cases e : d = r_27.toInt.toNat
                                · rw [e]
                                  refine ⟨by rw [hr14]; exact hg4.1, by rw [hr14]; exact hg4.2, by rw [hr11, pk_us]; omega, by rw [hr11, pk_us]; omega, fun t ht => ?_⟩
                                  have z := wgd t ht
                                  rw [wg1, hh13] at z
                                  rw [hr9, hr14]
                                  exact ⟨z.1, z.2.1, z.2.2⟩
                                · rw [if_neg e] at hb2
                                  rw [hb2] at hb
                                  refine PD.of (hgd d hd hb) (fun t ht => ?_) ?_ ?_
                                  · rw [hr9, wo (61 * d + t) (by omega), wg 9 (by omega), h3 9 (by omega), wb 9 (by omega), wa 9 (by omega) (by omega)]
                                  · rw [hr11, pk_un e, wb 11 (by omega), wa 11 (by omega) (by omega)]
                                  · rw [hgaN 14 (by omega), hga 14 (by omega)]
                              have hgpN : (iv_47 0 25).toInt = cN v_39 (ar_1 1 111).toInt.toNat := by
                                have z := cN_set hdr.2.2 (ar_1 1 111).toInt.toNat (fun i hi => hbs.2 i (by omega))
                                rw [if_pos (by omega)] at z
                                omega
                              have hgbN := hbs.1
                              clear hbs
                              refine lv_goto (tgt := 99) hx hb dX11_plan_247 (by decide) ?_
                              exact ih22 v_39 iv_47 ar_41 _ _ _ (by omega) hgbN (by omega) hqi2 hgpN hgaN hgkN hgdN hP hS (lv_sub hl [0, 3, 4] rfl)
                            · skip
                              have q_37 : x4_34.toInt ≤ (60 : Int) := i_nlt2 (show (60 : Int32).toInt = (60 : Int) from rfl) (rfl : x4_34.toInt = x4_34.toInt) c_37
                              refine lv_aload_n hx hb dX11_plan_167 rfl (lv_at hl 4 rfl) ?_
                              refine va_get (D := D) (ci := 11) (v := .ref (ad 15)) (C := RX11) (T := TX11) (N := 30) hx hb hts inX11 hown hK hP 0 (m_at11 (Nat.le_of_ble_eq_true rfl) rfl) rfl 26 (by decide) lk13 (fun _ h9 => h9) rfl dX11_plan_168 ?_
                              refine lv_bipush (v := 108) hx hb dX11_plan_171 (by decide) ?_
                              refine lv_iload hx hb dX11_plan_173 (lv_at hl 0 rfl) ?_
                              refine lv_imul hx hb dX11_plan_175 ?_
                              refine lv_topi (fun v_48 ev_48 => ?_)
                              have tv_48 : v_48.toInt = (108 : Int) * x4_34.toInt := i_mul (show (108 : Int32).toInt = (108 : Int) from rfl) (rfl : x4_34.toInt = x4_34.toInt) (by omega) (by omega) ev_48
                              refine lv_aload_n hx hb dX11_plan_176 rfl (lv_at hl 4 rfl) ?_
                              refine lv_iload_n hx hb dX11_plan_177 rfl (lv_at hl 1 rfl) ?_
                              refine lv_iload hx hb dX11_plan_178 (lv_at hl 0 rfl) ?_
                              refine g_callSi (va_runV (As := [.int r_27, .int x4_34]) (rest := [.int v_48, .ref (ad 15)]) ⟨hx, hb, hml, hown, hts⟩ (c_X11_cell l D cy ad hI _ iv_21 ar_35 r_27 x4_34 (by omega) (by omega)) (cwV 2 hts gX11_plan_X11_cell rfl rfl rfl (by decide +kernel) ⟨Nat.le_of_ble_eq_true rfl, Nat.le_of_ble_eq_true rfl⟩) (m_preV hP hK hSt hNw hS (m_at11 (Nat.le_of_ble_eq_true rfl) rfl) rfl) rfl rfl hl.1 rfl (lv_room (Nat.le_of_ble_eq_true rfl)) dX11_plan_180 ⟨Nat.zero_le _, Nat.zero_le _⟩) (fun r_49 w_49 => ?_)
                              try dsimp only at w_49
                              have h9 := w_49
                              rw [hta 9 (by omega)] at h9
                              have h8 := wgd (if 60 < (x4_34.toInt) then 60 else (x4_34.toInt).toNat) (by split <;> omega)
                              have hcb : 0 ≤ r_49.toInt ∧ r_49.toInt < 108 := by rw [h9]; exact ⟨h8.1, h8.2.1⟩
                              refine lv_iadd hx hb dX11_plan_183 ?_
                              refine lv_topi (fun v_50 ev_50 => ?_)
                              have rg_51 := i_rng r_49
                              have tv_50 : v_50.toInt = v_48.toInt + r_49.toInt := i_add (rfl : v_48.toInt = v_48.toInt) (rfl : r_49.toInt = r_49.toInt) (by omega) (by omega) ev_50
                              refine lv_iload_n hx hb dX11_plan_184 rfl (lv_at hl 1 rfl) ?_
                              refine lv_iconst (v := 1) hx hb dX11_plan_185 (by decide) ?_
                              refine lv_iadd hx hb dX11_plan_186 ?_
                              refine lv_topi (fun v_52 ev_52 => ?_)
                              have rg_53 := i_rng r_27
                              have tv_52 : v_52.toInt = r_27.toInt + (1 : Int) := i_add (rfl : r_27.toInt = r_27.toInt) (show (1 : Int32).toInt = (1 : Int) from rfl) (by omega) (by omega) ev_52
                              refine va_iast hx hb hK hP (mD hI) hS 15 0 (m_at12 (Nat.le_of_ble_eq_true rfl) rfl) rfl (g_in (N := 6588) (rfl : v_50.toInt = v_50.toInt) rfl (by omega) (by omega)) dX11_plan_187 (fun H locs hP _ hS => ?_)
                              rw [m_pt12 (Nat.le_of_ble_eq_true rfl) rfl] at hP
                              obtain ⟨ar_54, ear_54⟩ : ∃ z : gAr, z = va_up ar_35 15 (upd (ar_35 15) v_50.toNatClampNeg v_52) := ⟨_, rfl⟩
                              rw [← ear_54] at hP
                              have hta2 : ∀ c, c ≠ 15 → ar_54 c = ar_33 c := fun c h => by rw [ear_54, ua_o h]; exact hta c h
                              obtain ⟨x4_55, ex4_55⟩ : ∃ y : Int32, y = x4_34 + 1 := ⟨_, rfl⟩
                              have tx4_55 : x4_55.toInt = x4_34.toInt + (1 : Int) := i_add (rfl : x4_34.toInt = x4_34.toInt) (show (1 : Int32).toInt = (1 : Int) from rfl) (by omega) (by omega) ex4_55
                              refine lv_iinc (v := x4_55) (lv' := [(4, .int x4_55), (3, .int r_27), (2, .int x2_20), (1, .int r_1), (0, .ref (ad 0))]) hx hb dX11_plan_188 hl (k := 0) rfl (by rw [ex4_55]; rfl) (by decide) rfl (fun ls hl => ?_)
                              refine lv_goto (tgt := 160) hx hb dX11_plan_191 (by decide) ?_
                              exact ih36 x4_55 ar_54 _ _ _ (by omega) (by omega) hta2 hP hS (lv_sub hl [0, 1, 2, 3, 4] rfl)
                        have zl_56 : (0 : Int32).toInt = (0 : Int) := rfl
                        exact loop36 (((61 - ((0 : Int))).toNat) + 1) 0 ar_33 _ _ _ (by omega) (by omega) (fun _ _ => rfl) hP hS (lv_sub hl [0, 1, 2, 3, 4] rfl)
                      · skip
                        have q_31 : v_30.toInt < (0 : Int) := i_nle2 (show (0 : Int32).toInt = (0 : Int) from rfl) (rfl : v_30.toInt = v_30.toInt) c_31
                        refine lv_aload_n hx hb dX11_plan_139 rfl (lv_at hl 3 rfl) ?_
                        refine lv_iload_n hx hb dX11_plan_140 rfl (lv_at hl 0 rfl) ?_
                        refine va_put (D := D) (ci := 11) (v := .int r_27) (ty := .int) (C := RX11) (T := TX11) (N := 30) hx hb hts inX11 tyX11 tyX11_ok nmX11 hown hK hP (mD hI) hS 0 (m_at11 (Nat.le_of_ble_eq_true rfl) rfl) rfl 16 (by decide) lk1 (fun _ h9 => h9) rfl (by decide +kernel) rfl rfl (Nat.le_of_ble_eq_true rfl) dX11_plan_141 (fun H locs hP _ hS => ?_)
                        have hP : va_P D vwCl (MW cy ad (u2 iv_21 0 16 r_27) ar_29) H := by rw [← m_pt11_16 (Nat.le_of_ble_eq_true rfl) rfl]; exact hP
                        obtain ⟨iv_57, eiv_57⟩ : ∃ z : gIv, z = u2 iv_21 0 16 r_27 := ⟨_, rfl⟩
                        rw [← eiv_57] at hP
                        have hqiS : ∀ x y, ¬ (x = 0 ∧ (y = 25 ∨ y = 18)) → ¬ (x = 0 ∧ y = 16) → iv_57 x y = iv_7 x y := fun x y h h2 => by rw [eiv_57, u2_o (by omega)]; exact hgi x y h
                        have hriS : RI iv_57 ar_29 := RI.pln hri2 hh13 (by rw [h3 2 (by omega), wb 2 (by omega), hga1 2 (by omega), heb 2 (by omega) (by omega)]) (by rw [hqiS 0 3 (by omega) (by omega), hi0 0 3 (by omega)]) (by rw [hqiS 0 4 (by omega) (by omega), hi0 0 4 (by omega)]) (wk.fr (by rw [h3 1 (by omega), wb1]) (by rw [h3 5 (by omega), wb 5 (by omega)]) (by rw [h3 6 (by omega), wb 6 (by omega)])) (hri2.2.2.2.2.2.1.fr (by rw [h3 7 (by omega), wb 7 (by omega), hga1 7 (by omega), heb 7 (by omega) (by omega)]) (by rw [h3 8 (by omega), wb 8 (by omega), hga1 8 (by omega), heb 8 (by omega) (by omega)])) (by rw [hqiS 0 17 (by omega) (by omega)]; omega) (fun z => absurd (by rw [hqiS 0 15 (by omega) (by omega)]; exact hi15) z)
                        refine lv_bipush (v := (-7)) hx hb dX11_plan_144 (by decide) ?_
                        rw [hQ]
                        exact W.iret (v := (-7)) hx hb hr (fun t ht hW => ⟨⟨(-7), (iv_57, ar_29), rfl, ⟨hriS, (hqiS 0 4 (by omega) (by omega)).trans ((hi0 0 4 (by omega)).trans (wi 0 4 (by omega))), by show (iv_57 0 17).toInt ≤ _; rw [hqiS 0 17 (by omega) (by omega)]; omega⟩, by show va_P _ _ _ _; rw [ht]; exact hP⟩, hS.F ht⟩) hS.2.2 dX11_plan_146
                have zl_58 : (0 : Int32).toInt = (0 : Int) := rfl
                exact loop22 ((((ar_1 1 111).toInt - (iv_7 0 25).toInt).toNat) + 1) 0 iv_7 ar_16 _ _ _ (by omega) (by omega) (by omega) (fun _ _ _ => rfl) (by rw [cN_0 _ (by omega)]; exact hi25) (fun _ _ => rfl) (wk.fr (heb 1 (by omega) (by omega)) (heb 5 (by omega) (by omega)) (heb 6 (by omega) (by omega))) (fun d hd hb => absurd (bt_0 d (by omega)) hb) hP hS (lv_sub hl [1, 2, 3] rfl)
              · skip
                have q_19 : x3_15.toInt < v_18.toInt := i_nle2 (rfl : v_18.toInt = v_18.toInt) (rfl : x3_15.toInt = x3_15.toInt) c_19
                refine lv_aload_n hx hb dX11_plan_73 rfl (lv_at hl 3 rfl) ?_
                refine va_get (D := D) (ci := 11) (v := .ref (ad 14)) (C := RX11) (T := TX11) (N := 30) hx hb hts inX11 hown hK hP 0 (m_at11 (Nat.le_of_ble_eq_true rfl) rfl) rfl 24 (by decide) lk14 (fun _ h9 => h9) rfl dX11_plan_74 ?_
                refine lv_iload_n hx hb dX11_plan_77 rfl (lv_at hl 0 rfl) ?_
                refine lv_aload_n hx hb dX11_plan_78 rfl (lv_at hl 3 rfl) ?_
                refine va_get (D := D) (ci := 11) (v := .ref (ad 1)) (C := RX11) (T := TX11) (N := 30) hx hb hts inX11 hown hK hP 0 (m_at11 (Nat.le_of_ble_eq_true rfl) rfl) rfl 0 (by decide) lk5 (fun _ h9 => h9) rfl dX11_plan_79 ?_
                refine lv_bipush (v := 119) hx hb dX11_plan_82 (by decide) ?_
                refine lv_aload_n hx hb dX11_plan_84 rfl (lv_at hl 3 rfl) ?_
                refine va_get (D := D) (ci := 11) (v := .ref (ad 8)) (C := RX11) (T := TX11) (N := 30) hx hb hts inX11 hown hK hP 0 (m_at11 (Nat.le_of_ble_eq_true rfl) rfl) rfl 10 (by decide) lk15 (fun _ h9 => h9) rfl dX11_plan_85 ?_
                refine lv_iload_n hx hb dX11_plan_88 rfl (lv_at hl 0 rfl) ?_
                refine va_iald hx hb hK hP 8 0 (m_at12 (Nat.le_of_ble_eq_true rfl) rfl) rfl (g_in (N := 6) (rfl : x3_15.toInt = x3_15.toInt) rfl (by omega) (by omega)) dX11_plan_89 ?_
                refine lv_topi (fun v_59 ev_59 => ?_)
                have hvb : 0 ≤ v_59.toInt ∧ v_59.toInt ≤ 5 := by
                  rw [ev_59, g_cN (rfl : x3_15.toInt = _), heb 8 (by omega) (by omega)]
                  exact ⟨(wt (x3_15.toInt).toNat (by omega)).2.2.1, (wt (x3_15.toInt).toNat (by omega)).2.2.2⟩
                refine lv_iadd hx hb dX11_plan_90 ?_
                refine lv_topi (fun v_60 ev_60 => ?_)
                have tv_60 : v_60.toInt = (119 : Int) + v_59.toInt := i_add (show (119 : Int32).toInt = (119 : Int) from rfl) (rfl : v_59.toInt = v_59.toInt) (by omega) (by omega) ev_60
                refine va_iald hx hb hK hP 1 0 (m_at12 (Nat.le_of_ble_eq_true rfl) rfl) rfl (g_in (N := 126) (rfl : v_60.toInt = v_60.toInt) rfl (by omega) (by omega)) dX11_plan_91 ?_
                refine lv_topi (fun v_61 ev_61 => ?_)
                have hvs : 0 ≤ v_61.toInt ∧ v_61.toInt < 108 := by
                  rw [ev_61, g_cN (rfl : v_60.toInt = _), heb 1 (by omega) (by omega), show (v_60.toInt).toNat = 119 + ((v_60.toInt) - 119).toNat from by omega]
                  exact ⟨(hsb.2.2.2.2 ((v_60.toInt) - 119).toNat (by omega)).2.2.1, (hsb.2.2.2.2 ((v_60.toInt) - 119).toNat (by omega)).2.2.2⟩
                refine va_iast hx hb hK hP (mD hI) hS 14 0 (m_at12 (Nat.le_of_ble_eq_true rfl) rfl) rfl (g_in (N := 6) (rfl : x3_15.toInt = x3_15.toInt) rfl (by omega) (by omega)) dX11_plan_92 (fun H locs hP _ hS => ?_)
                rw [m_pt12 (Nat.le_of_ble_eq_true rfl) rfl] at hP
                obtain ⟨ar_62, ear_62⟩ : ∃ z : gAr, z = va_up ar_16 14 (upd (ar_16 14) x3_15.toNatClampNeg v_61) := ⟨_, rfl⟩
                rw [← ear_62] at hP
                have heb2 : ∀ c, c ≠ 14 → c ≠ 15 → ar_62 c = ar_1 c := fun c h h2 => by rw [ear_62, ua_o h]; exact heb c h h2
                have heg2 : ∀ i : Nat, (i : Int) < (x3_15.toInt) + 1 → 0 ≤ (ar_62 14 i).toInt ∧ (ar_62 14 i).toInt < 108 := fun i hi => by
                  rw [ear_62, ua_s, g_cN (rfl : x3_15.toInt = _)]
                  by_cases e : i = (x3_15.toInt).toNat
                  · rw [e, pk_us]; exact hvs
                  · rw [pk_un e]; exact hem i (by omega)
                obtain ⟨x3_63, ex3_63⟩ : ∃ y : Int32, y = x3_15 + 1 := ⟨_, rfl⟩
                have tx3_63 : x3_63.toInt = x3_15.toInt + (1 : Int) := i_add (rfl : x3_15.toInt = x3_15.toInt) (show (1 : Int32).toInt = (1 : Int) from rfl) (by omega) (by omega) ex3_63
                refine lv_iinc (v := x3_63) (lv' := [(3, .int x3_63), (2, .int 0), (1, .int r_1), (0, .ref (ad 0))]) hx hb dX11_plan_93 hl (k := 0) rfl (by rw [ex3_63]; rfl) (by decide) rfl (fun ls hl => ?_)
                refine lv_goto (tgt := 62) hx hb dX11_plan_96 (by decide) ?_
                exact ih17 x3_63 ar_62 _ _ _ (by omega) (by omega) heb2 (fun i hi => heg2 i (by omega)) hP hS (lv_sub hl [0, 1, 2, 3] rfl)
          have zl_64 : (0 : Int32).toInt = (0 : Int) := rfl
          exact loop17 (((6 - ((0 : Int))).toNat) + 1) 0 ar_12 _ _ _ (by omega) (by omega) (fun c _ h => hza c h) (fun i hi => by exfalso; omega) hP hS (lv_sub hl [0, 1, 2, 3] rfl)
        · skip
          have q_14 : x3_11.toInt < (6588 : Int) := i_nle2 (show (6588 : Int32).toInt = (6588 : Int) from rfl) (rfl : x3_11.toInt = x3_11.toInt) c_14
          refine lv_aload_n hx hb dX11_plan_47 rfl (lv_at hl 3 rfl) ?_
          refine va_get (D := D) (ci := 11) (v := .ref (ad 15)) (C := RX11) (T := TX11) (N := 30) hx hb hts inX11 hown hK hP 0 (m_at11 (Nat.le_of_ble_eq_true rfl) rfl) rfl 26 (by decide) lk13 (fun _ h9 => h9) rfl dX11_plan_48 ?_
          refine lv_iload_n hx hb dX11_plan_51 rfl (lv_at hl 0 rfl) ?_
          refine lv_iconst (v := 0) hx hb dX11_plan_52 (by decide) ?_
          refine va_iast hx hb hK hP (mD hI) hS 15 0 (m_at12 (Nat.le_of_ble_eq_true rfl) rfl) rfl (g_in (N := 6588) (rfl : x3_11.toInt = x3_11.toInt) rfl (by omega) (by omega)) dX11_plan_53 (fun H locs hP _ hS => ?_)
          rw [m_pt12 (Nat.le_of_ble_eq_true rfl) rfl] at hP
          obtain ⟨ar_65, ear_65⟩ : ∃ z : gAr, z = va_up ar_12 15 (upd (ar_12 15) x3_11.toNatClampNeg 0) := ⟨_, rfl⟩
          rw [← ear_65] at hP
          have hza2 : ∀ c, c ≠ 15 → ar_65 c = ar_1 c := fun c h => by rw [ear_65, ua_o h]; exact hza c h
          obtain ⟨x3_66, ex3_66⟩ : ∃ y : Int32, y = x3_11 + 1 := ⟨_, rfl⟩
          have tx3_66 : x3_66.toInt = x3_11.toInt + (1 : Int) := i_add (rfl : x3_11.toInt = x3_11.toInt) (show (1 : Int32).toInt = (1 : Int) from rfl) (by omega) (by omega) ex3_66
          refine lv_iinc (v := x3_66) (lv' := [(3, .int x3_66), (2, .int 0), (1, .int r_1), (0, .ref (ad 0))]) hx hb dX11_plan_54 hl (k := 0) rfl (by rw [ex3_66]; rfl) (by decide) rfl (fun ls hl => ?_)
          refine lv_goto (tgt := 40) hx hb dX11_plan_57 (by decide) ?_
          exact ih13 x3_66 ar_65 _ _ _ (by omega) (by omega) hza2 hP hS (lv_sub hl [0, 1, 2, 3] rfl)
    have zl_67 : (0 : Int32).toInt = (0 : Int) := rfl
    exact loop13 (((6588 - ((0 : Int))).toNat) + 1) 0 ar_1 _ _ _ (by omega) (by omega) (fun _ _ => rfl) hP hS (lv_sub hl [0, 1, 2, 3] rfl)
  · skip
    have q_2 : r_1.toInt ≠ (0 : Int) := i_ne2 (rfl : r_1.toInt = r_1.toInt) (show (0 : Int32).toInt = (0 : Int) from rfl) c_2
    refine lv_iload_n hx hb dX11_plan_9 rfl (lv_at hl 0 rfl) ?_
    rw [hQ]
    exact W.iret (v := r_1) hx hb hr (fun t ht hW => ⟨⟨r_1, (iv_1, ar_1), rfl, ⟨hri2, wi 0 4 (by omega), by show (iv_1 0 17).toInt ≤ _; rw [wi 0 17 (by omega)]; exact Int.le_refl _⟩, by show va_P _ _ _ _; rw [ht]; exact hP⟩, hS.F ht⟩) hS.2.2 dX11_plan_10
