set_option maxHeartbeats 4000000 in
set_option maxRecDepth 100000 in
theorem c_X11_keeps (l : Launch) (D : va_G) (cy : Nat → ClassId) (ad : Nat → Nat) (hI : mInj ad) (sz : Nat) (iv : gIv) (ar : gAr)  (hch : 0 ≤ (iv 0 3).toInt ∧ (iv 0 3).toInt ≤ 8) (hpa : PA iv ar) (hsi : SI (ar 1)) : Met l yX11_keeps wsX11_keeps ({ frames := 0, cells := 0, slots := 0, locals := 0 } : Room) (va_Pc [.ref (ad 0)] (mPre D cy ad sz iv ar)) (va_Qv (fun (u : gIv × gAr) => (∀ x y, ¬ (x = 0 ∧ y = 3) → u.1 x y = iv x y) ∧ (∀ c, c ≠ 2 → u.2 c = ar c) ∧ (0 ≤ (u.1 0 3).toInt ∧ (u.1 0 3).toInt ≤ 8) ∧ PA u.1 u.2) (mPost D cy ad) (mA ad sz)) 0 0 (mA ad sz) := by
  refine Met.ofW (cc := cX11_keeps) (maxL := 2) (ret := none) (by decide) rfl ?_
  intro p e s m args below meth c s₁ B hml hv
  obtain ⟨rfl, rfl, hP, hK, hSt, hNw⟩ := hv
  have hx := B.exec
  have hb := B.bytes
  have hr := B.returns
  have hts := atoms_spec (ws := wsX11_keeps) B.pre
  have hown : s.vm.findClass RX11 = some m.cls := findClass_of_methodNamed B.named
  have hlocks := B.notSynchronized
  have hS : va_S (mA ad s.heap.size) s.heap s.heap [] := va_S.rf
  have inX11 : ∀ w ∈ u_ws RX11 TX11 30, w ∈ wsX11_keeps := by decide +kernel
  have lk0 := hts (.fieldLink RX11 77 "FormationPlannerModel" "changes" "I") (by decide +kernel)
  have lk1 := hts (.fieldLink RX11 13 "FormationPlannerModel" "past" "[I") (by decide +kernel)
  have lk2 := hts (.fieldLink RX11 9 "FormationPlannerModel" "s" "[I") (by decide +kernel)
  have hl := lv_entry ([.ref (ad 0)]) (n := 2) (Nat.le_of_ble_eq_true rfl)
  rw [lg_entry_eq]
  generalize (lg_sl ([.ref (ad 0)]) ++ List.replicate (2 - (lg_sl ([.ref (ad 0)])).length) Slot.unset).toArray = ls at hl ⊢
  have hl : lv_has ls 2 [(0, .ref (ad 0))] := hl
  obtain ⟨Q, hQ⟩ : ∃ Q, Q = MQ below (va_Qv (fun (u : gIv × gAr) => (∀ x y, ¬ (x = 0 ∧ y = 3) → u.1 x y = iv x y) ∧ (∀ c, c ≠ 2 → u.2 c = ar c) ∧ (0 ≤ (u.1 0 3).toInt ∧ (u.1 0 3).toInt ≤ 8) ∧ PA u.1 u.2) (mPost D cy ad) (mA ad s.heap.size)) (([.ref (ad 0)] : List Value).toArray) s 0 0 (mA ad s.heap.size) := ⟨_, rfl⟩
  rw [← hQ]
  refine lv_aload_n hx hb dX11_keeps_0 rfl (lv_at hl 0 rfl) ?_
  refine va_get (D := D) (ci := 11) (v := .int (iv 0 3)) (C := RX11) (T := TX11) (N := 30) hx hb hts inX11 hown hK hP 0 (m_at11 (Nat.le_of_ble_eq_true rfl) rfl) rfl 3 (by decide) lk0 (fun _ h9 => h9) rfl dX11_keeps_1 ?_
  refine lv_bipush (v := 8) hx hb dX11_keeps_4 (by decide) ?_
  refine lv_icmp_ne (tgt := 50) hx hb dX11_keeps_6 (by decide) (fun c_1 => ?_) (fun c_1 => ?_)
  · skip
    have q_1 : (iv 0 3).toInt ≠ (8 : Int) := i_ne2 (rfl : (iv 0 3).toInt = (iv 0 3).toInt) (show (8 : Int32).toInt = (8 : Int) from rfl) c_1
    have hc8 : 0 ≤ (iv 0 3).toInt ∧ (iv 0 3).toInt ≤ 7 := by omega
    have hpb : ∀ k : Nat, (k : Int) < (iv 0 3).toInt → SI (fun i => ar 2 (126 * k + i)) := hpa
    have hka0 : ∀ c, c ≠ 2 → ar c = ar c := fun _ _ => rfl
    refine lv_iconst (v := 0) hx hb dX11_keeps_50 (by decide) ?_
    refine lv_istore_n (lv' := [(1, .int 0), (0, .ref (ad 0))]) hx hb dX11_keeps_51 rfl hl (by decide) rfl (fun ls hl => ?_)
    have loop4 : ∀ (n : Nat) (x1_2 : Int32) (ar_3 : gAr) (H : Heap) (locs : List Loc) (ls : Array Slot), ((126 - (x1_2.toInt)).toNat) < n → (0 ≤ (x1_2.toInt) ∧ (x1_2.toInt) ≤ 126) → (∀ c, c ≠ 2 → ar_3 c = ar c) → (∀ i : Nat, (i : Int) < 126 * (iv 0 3).toInt → ar_3 2 i = ar 2 i) → (∀ i : Nat, (i : Int) < (x1_2.toInt) → ar_3 2 (126 * (iv 0 3).toInt.toNat + i) = ar 1 i) → va_P D vwCl (MW cy ad iv ar_3) H → va_S (mA ad s.heap.size) s.heap H locs → lv_has ls 2 [(1, .int x1_2), (0, .ref (ad 0))] → W p l e (headSpec wsX11_keeps (({ frames := 0, cells := 0, slots := 0, locals := 0 } : Room))).room s m (([.ref (ad 0)] : List Value).toArray) below meth c H locs 0 0 Q (F0 m 52 ls []) := by
      intro n
      induction n with
      | zero => intro x1_2 ar_3 H locs ls hm; omega
      | succ n ih4 =>
        intro x1_2 ar_3 H locs ls hm hk0 hka hkb hkc hP hS hl
        refine lv_iload_n hx hb dX11_keeps_52 rfl (lv_at hl 0 rfl) ?_
        refine lv_bipush (v := 126) hx hb dX11_keeps_53 (by decide) ?_
        refine lv_icmp_ge (tgt := 84) hx hb dX11_keeps_55 (by decide) (fun c_5 => ?_) (fun c_5 => ?_)
        · skip
          have q_5 : (126 : Int) ≤ x1_2.toInt := i_le2 (show (126 : Int32).toInt = (126 : Int) from rfl) (rfl : x1_2.toInt = x1_2.toInt) c_5
          have hpc : ∀ k : Nat, (k : Int) < (iv 0 3).toInt + 1 → SI (fun i => ar_3 2 (126 * k + i)) := fun k hk => (Classical.em ((k : Int) = (iv 0 3).toInt)).elim (fun e => SI.of hsi (fun i hi => by
            show ar_3 2 (126 * k + i) = ar 1 i
            rw [← hkc i (by omega)]
            congr 1
            omega)) (fun e => SI.of (hpb k (by omega)) (fun i hi => hkb _ (by omega)))
          have hcc := hc8
          refine lv_aload_n hx hb dX11_keeps_84 rfl (lv_at hl 1 rfl) ?_
          refine lv_dup hx hb dX11_keeps_85 rfl ?_
          refine va_get (D := D) (ci := 11) (v := .int (iv 0 3)) (C := RX11) (T := TX11) (N := 30) hx hb hts inX11 hown hK hP 0 (m_at11 (Nat.le_of_ble_eq_true rfl) rfl) rfl 3 (by decide) lk0 (fun _ h9 => h9) rfl dX11_keeps_86 ?_
          refine lv_iconst (v := 1) hx hb dX11_keeps_89 (by decide) ?_
          refine lv_iadd hx hb dX11_keeps_90 ?_
          refine lv_topi (fun v_6 ev_6 => ?_)
          have tv_6 : v_6.toInt = ((iv 0 3).toInt) + (1 : Int) := i_add (rfl : (iv 0 3).toInt = (iv 0 3).toInt) (show (1 : Int32).toInt = (1 : Int) from rfl) (by omega) (by omega) ev_6
          refine va_put (D := D) (ci := 11) (v := .int v_6) (ty := .int) (C := RX11) (T := TX11) (N := 30) hx hb hts inX11 tyX11 tyX11_ok nmX11 hown hK hP (mD hI) hS 0 (m_at11 (Nat.le_of_ble_eq_true rfl) rfl) rfl 3 (by decide) lk0 (fun _ h9 => h9) rfl (by decide +kernel) rfl rfl (Nat.le_of_ble_eq_true rfl) dX11_keeps_91 (fun H locs hP _ hS => ?_)
          have hP : va_P D vwCl (MW cy ad (u2 iv 0 3 v_6) ar_3) H := by rw [← m_pt11_3 (Nat.le_of_ble_eq_true rfl) rfl]; exact hP
          obtain ⟨iv_7, eiv_7⟩ : ∃ z : gIv, z = u2 iv 0 3 v_6 := ⟨_, rfl⟩
          rw [← eiv_7] at hP
          have hc9 : (iv_7 0 3).toInt = (iv 0 3).toInt + 1 := by rw [eiv_7, u2_s]; omega
          rw [hQ]
          exact W.vret hx hb hr (fun t ht hW => ⟨⟨(iv_7, ar_3), rfl, ⟨fun a b h => by show iv_7 a b = iv a b; rw [eiv_7, u2_o (by omega)], hka, by show 0 ≤ (iv_7 0 3).toInt ∧ (iv_7 0 3).toInt ≤ 8; omega, fun k hk => hpc k (by have h9 : (k : Int) < (iv_7 0 3).toInt := hk; omega)⟩, by show va_P _ _ _ _; rw [ht]; exact hP⟩, hS.F ht⟩) hS.2.2 dX11_keeps_94
        · skip
          have q_5 : x1_2.toInt < (126 : Int) := i_nle2 (show (126 : Int32).toInt = (126 : Int) from rfl) (rfl : x1_2.toInt = x1_2.toInt) c_5
          refine lv_aload_n hx hb dX11_keeps_58 rfl (lv_at hl 1 rfl) ?_
          refine va_get (D := D) (ci := 11) (v := .ref (ad 2)) (C := RX11) (T := TX11) (N := 30) hx hb hts inX11 hown hK hP 0 (m_at11 (Nat.le_of_ble_eq_true rfl) rfl) rfl 1 (by decide) lk1 (fun _ h9 => h9) rfl dX11_keeps_59 ?_
          refine lv_bipush (v := 126) hx hb dX11_keeps_62 (by decide) ?_
          refine lv_aload_n hx hb dX11_keeps_64 rfl (lv_at hl 1 rfl) ?_
          refine va_get (D := D) (ci := 11) (v := .int (iv 0 3)) (C := RX11) (T := TX11) (N := 30) hx hb hts inX11 hown hK hP 0 (m_at11 (Nat.le_of_ble_eq_true rfl) rfl) rfl 3 (by decide) lk0 (fun _ h9 => h9) rfl dX11_keeps_65 ?_
          refine lv_imul hx hb dX11_keeps_68 ?_
          refine lv_topi (fun v_8 ev_8 => ?_)
          have tv_8 : v_8.toInt = (126 : Int) * ((iv 0 3).toInt) := i_mul (show (126 : Int32).toInt = (126 : Int) from rfl) (rfl : (iv 0 3).toInt = (iv 0 3).toInt) (by omega) (by omega) ev_8
          refine lv_iload_n hx hb dX11_keeps_69 rfl (lv_at hl 0 rfl) ?_
          refine lv_iadd hx hb dX11_keeps_70 ?_
          refine lv_topi (fun v_9 ev_9 => ?_)
          have tv_9 : v_9.toInt = v_8.toInt + x1_2.toInt := i_add (rfl : v_8.toInt = v_8.toInt) (rfl : x1_2.toInt = x1_2.toInt) (by omega) (by omega) ev_9
          refine lv_aload_n hx hb dX11_keeps_71 rfl (lv_at hl 1 rfl) ?_
          refine va_get (D := D) (ci := 11) (v := .ref (ad 1)) (C := RX11) (T := TX11) (N := 30) hx hb hts inX11 hown hK hP 0 (m_at11 (Nat.le_of_ble_eq_true rfl) rfl) rfl 0 (by decide) lk2 (fun _ h9 => h9) rfl dX11_keeps_72 ?_
          refine lv_iload_n hx hb dX11_keeps_75 rfl (lv_at hl 0 rfl) ?_
          refine va_iald hx hb hK hP 1 0 (m_at12 (Nat.le_of_ble_eq_true rfl) rfl) rfl (g_in (N := 126) (rfl : x1_2.toInt = x1_2.toInt) rfl (by omega) (by omega)) dX11_keeps_76 ?_
          refine lv_topi (fun v_10 ev_10 => ?_)
          have hv2 : v_10 = ar 1 (x1_2.toInt).toNat := by rw [ev_10, g_cN (rfl : x1_2.toInt = _), hka 1 (by omega)]
          refine va_iast hx hb hK hP (mD hI) hS 2 0 (m_at12 (Nat.le_of_ble_eq_true rfl) rfl) rfl (g_in (N := 1008) (rfl : v_9.toInt = v_9.toInt) rfl (by omega) (by omega)) dX11_keeps_77 (fun H locs hP _ hS => ?_)
          rw [m_pt12 (Nat.le_of_ble_eq_true rfl) rfl] at hP
          obtain ⟨ar_11, ear_11⟩ : ∃ z : gAr, z = va_up ar_3 2 (upd (ar_3 2) v_9.toNatClampNeg v_10) := ⟨_, rfl⟩
          rw [← ear_11] at hP
          have har : ar_11 2 = upd (ar_3 2) (126 * (iv 0 3).toInt.toNat + (x1_2.toInt).toNat) v_10 := by rw [ear_11, ua_s, g_cN (rfl : v_9.toInt = _), show (v_9.toInt).toNat = 126 * (iv 0 3).toInt.toNat + (x1_2.toInt).toNat from by omega]
          have hka2 : ∀ c, c ≠ 2 → ar_11 c = ar c := fun c h => by rw [ear_11, ua_o h]; exact hka c h
          have hkb2 : ∀ i : Nat, (i : Int) < 126 * (iv 0 3).toInt → ar_11 2 i = ar 2 i := fun i hi => by
            rw [har, pk_un (show i ≠ 126 * (iv 0 3).toInt.toNat + (x1_2.toInt).toNat from by omega)]; exact hkb i hi
          have hkc2 : ∀ i : Nat, (i : Int) < (x1_2.toInt) + 1 → ar_11 2 (126 * (iv 0 3).toInt.toNat + i) = ar 1 i := fun i hi => by
            rw [har]
            by_cases e : i = (x1_2.toInt).toNat
            · rw [e, pk_us, hv2]
            · rw [pk_un (show 126 * (iv 0 3).toInt.toNat + i ≠ 126 * (iv 0 3).toInt.toNat + (x1_2.toInt).toNat from by omega)]; exact hkc i (by omega)
          obtain ⟨x1_12, ex1_12⟩ : ∃ y : Int32, y = x1_2 + 1 := ⟨_, rfl⟩
          have tx1_12 : x1_12.toInt = x1_2.toInt + (1 : Int) := i_add (rfl : x1_2.toInt = x1_2.toInt) (show (1 : Int32).toInt = (1 : Int) from rfl) (by omega) (by omega) ex1_12
          refine lv_iinc (v := x1_12) (lv' := [(1, .int x1_12), (0, .ref (ad 0))]) hx hb dX11_keeps_78 hl (k := 0) rfl (by rw [ex1_12]; rfl) (by decide) rfl (fun ls hl => ?_)
          refine lv_goto (tgt := 52) hx hb dX11_keeps_81 (by decide) ?_
          exact ih4 x1_12 ar_11 _ _ _ (by omega) (by omega) hka2 hkb2 (fun i hi => hkc2 i (by omega)) hP hS (lv_sub hl [0, 1] rfl)
    have zl_13 : (0 : Int32).toInt = (0 : Int) := rfl
    exact loop4 (((126 - ((0 : Int))).toNat) + 1) 0 ar _ _ _ (by omega) (by omega) hka0 (fun _ _ => rfl) (fun i hi => by exfalso; omega) hP hS (lv_sub hl [0, 1] rfl)
  · skip
    have q_1 : (iv 0 3).toInt = (8 : Int) := i_eq2 (rfl : (iv 0 3).toInt = (iv 0 3).toInt) (show (8 : Int32).toInt = (8 : Int) from rfl) c_1
    refine lv_bipush (v := 126) hx hb dX11_keeps_9 (by decide) ?_
    refine lv_istore_n (lv' := [(1, .int 126), (0, .ref (ad 0))]) hx hb dX11_keeps_11 rfl hl (by decide) rfl (fun ls hl => ?_)
    have loop16 : ∀ (n : Nat) (x1_14 : Int32) (ar_15 : gAr) (H : Heap) (locs : List Loc) (ls : Array Slot), ((1008 - (x1_14.toInt)).toNat) < n → (126 ≤ (x1_14.toInt) ∧ (x1_14.toInt) ≤ 1008) → (∀ c, c ≠ 2 → ar_15 c = ar c) → (∀ i : Nat, (i : Int) + 126 < (x1_14.toInt) → ar_15 2 i = ar 2 (i + 126)) → (∀ i : Nat, (x1_14.toInt) ≤ (i : Int) + 126 → ar_15 2 i = ar 2 i) → va_P D vwCl (MW cy ad iv ar_15) H → va_S (mA ad s.heap.size) s.heap H locs → lv_has ls 2 [(1, .int x1_14), (0, .ref (ad 0))] → W p l e (headSpec wsX11_keeps (({ frames := 0, cells := 0, slots := 0, locals := 0 } : Room))).room s m (([.ref (ad 0)] : List Value).toArray) below meth c H locs 0 0 Q (F0 m 12 ls []) := by
      intro n
      induction n with
      | zero => intro x1_14 ar_15 H locs ls hm; omega
      | succ n ih16 =>
        intro x1_14 ar_15 H locs ls hm hg0 hga hgs hgr hP hS hl
        refine lv_iload_n hx hb dX11_keeps_12 rfl (lv_at hl 0 rfl) ?_
        refine lv_sipush (v := 1008) hx hb dX11_keeps_13 (by decide) ?_
        refine lv_icmp_ge (tgt := 40) hx hb dX11_keeps_16 (by decide) (fun c_17 => ?_) (fun c_17 => ?_)
        · skip
          have q_17 : (1008 : Int) ≤ x1_14.toInt := i_le2 (show (1008 : Int32).toInt = (1008 : Int) from rfl) (rfl : x1_14.toInt = x1_14.toInt) c_17
          refine lv_aload_n hx hb dX11_keeps_40 rfl (lv_at hl 1 rfl) ?_
          refine lv_dup hx hb dX11_keeps_41 rfl ?_
          refine va_get (D := D) (ci := 11) (v := .int (iv 0 3)) (C := RX11) (T := TX11) (N := 30) hx hb hts inX11 hown hK hP 0 (m_at11 (Nat.le_of_ble_eq_true rfl) rfl) rfl 3 (by decide) lk0 (fun _ h9 => h9) rfl dX11_keeps_42 ?_
          refine lv_iconst (v := 1) hx hb dX11_keeps_45 (by decide) ?_
          refine lv_isub hx hb dX11_keeps_46 ?_
          refine lv_topi (fun v_18 ev_18 => ?_)
          have tv_18 : v_18.toInt = ((iv 0 3).toInt) - (1 : Int) := i_sub (rfl : (iv 0 3).toInt = (iv 0 3).toInt) (show (1 : Int32).toInt = (1 : Int) from rfl) (by omega) (by omega) ev_18
          refine va_put (D := D) (ci := 11) (v := .int v_18) (ty := .int) (C := RX11) (T := TX11) (N := 30) hx hb hts inX11 tyX11 tyX11_ok nmX11 hown hK hP (mD hI) hS 0 (m_at11 (Nat.le_of_ble_eq_true rfl) rfl) rfl 3 (by decide) lk0 (fun _ h9 => h9) rfl (by decide +kernel) rfl rfl (Nat.le_of_ble_eq_true rfl) dX11_keeps_47 (fun H locs hP _ hS => ?_)
          have hP : va_P D vwCl (MW cy ad (u2 iv 0 3 v_18) ar_15) H := by rw [← m_pt11_3 (Nat.le_of_ble_eq_true rfl) rfl]; exact hP
          obtain ⟨iv_19, eiv_19⟩ : ∃ z : gIv, z = u2 iv 0 3 v_18 := ⟨_, rfl⟩
          rw [← eiv_19] at hP
          have hc7 : (iv_19 0 3).toInt = 7 := by rw [eiv_19, u2_s]; omega
          have hc8 : 0 ≤ (iv_19 0 3).toInt ∧ (iv_19 0 3).toInt ≤ 7 := by omega
          have hpb : ∀ k : Nat, (k : Int) < (iv_19 0 3).toInt → SI (fun i => ar_15 2 (126 * k + i)) := fun k hk => SI.of (hpa (k + 1) (by omega)) (fun i hi => by
            show ar_15 2 (126 * k + i) = ar 2 (126 * (k + 1) + i)
            rw [hgs _ (by omega)]
            congr 1
            omega)
          have hka0 := hga
          refine lv_iconst (v := 0) hx hb dX11_keeps_50 (by decide) ?_
          refine lv_istore_n (lv' := [(1, .int 0), (0, .ref (ad 0))]) hx hb dX11_keeps_51 rfl hl (by decide) rfl (fun ls hl => ?_)
          have loop22 : ∀ (n : Nat) (x1_20 : Int32) (ar_21 : gAr) (H : Heap) (locs : List Loc) (ls : Array Slot), ((126 - (x1_20.toInt)).toNat) < n → (0 ≤ (x1_20.toInt) ∧ (x1_20.toInt) ≤ 126) → (∀ c, c ≠ 2 → ar_21 c = ar c) → (∀ i : Nat, (i : Int) < 126 * (iv_19 0 3).toInt → ar_21 2 i = ar_15 2 i) → (∀ i : Nat, (i : Int) < (x1_20.toInt) → ar_21 2 (126 * (iv_19 0 3).toInt.toNat + i) = ar 1 i) → va_P D vwCl (MW cy ad iv_19 ar_21) H → va_S (mA ad s.heap.size) s.heap H locs → lv_has ls 2 [(1, .int x1_20), (0, .ref (ad 0))] → W p l e (headSpec wsX11_keeps (({ frames := 0, cells := 0, slots := 0, locals := 0 } : Room))).room s m (([.ref (ad 0)] : List Value).toArray) below meth c H locs 0 0 Q (F0 m 52 ls []) := by
            intro n
            induction n with
            | zero => intro x1_20 ar_21 H locs ls hm; omega
            | succ n ih22 =>
              intro x1_20 ar_21 H locs ls hm hk0 hka hkb hkc hP hS hl
              refine lv_iload_n hx hb dX11_keeps_52 rfl (lv_at hl 0 rfl) ?_
              refine lv_bipush (v := 126) hx hb dX11_keeps_53 (by decide) ?_
              refine lv_icmp_ge (tgt := 84) hx hb dX11_keeps_55 (by decide) (fun c_23 => ?_) (fun c_23 => ?_)
              · skip
                have q_23 : (126 : Int) ≤ x1_20.toInt := i_le2 (show (126 : Int32).toInt = (126 : Int) from rfl) (rfl : x1_20.toInt = x1_20.toInt) c_23
                have hpc : ∀ k : Nat, (k : Int) < (iv_19 0 3).toInt + 1 → SI (fun i => ar_21 2 (126 * k + i)) := fun k hk => (Classical.em ((k : Int) = (iv_19 0 3).toInt)).elim (fun e => SI.of hsi (fun i hi => by
                  show ar_21 2 (126 * k + i) = ar 1 i
                  rw [← hkc i (by omega)]
                  congr 1
                  omega)) (fun e => SI.of (hpb k (by omega)) (fun i hi => hkb _ (by omega)))
                have hcc := hc8
                refine lv_aload_n hx hb dX11_keeps_84 rfl (lv_at hl 1 rfl) ?_
                refine lv_dup hx hb dX11_keeps_85 rfl ?_
                refine va_get (D := D) (ci := 11) (v := .int (iv_19 0 3)) (C := RX11) (T := TX11) (N := 30) hx hb hts inX11 hown hK hP 0 (m_at11 (Nat.le_of_ble_eq_true rfl) rfl) rfl 3 (by decide) lk0 (fun _ h9 => h9) rfl dX11_keeps_86 ?_
                have f_24 : iv_19 0 3 = v_18 := by rw [eiv_19]; exact u2_s _ _ _ _
                refine lv_iconst (v := 1) hx hb dX11_keeps_89 (by decide) ?_
                refine lv_iadd hx hb dX11_keeps_90 ?_
                refine lv_topi (fun v_25 ev_25 => ?_)
                have tv_25 : v_25.toInt = v_18.toInt + (1 : Int) := i_add ((congrArg Int32.toInt f_24).trans (rfl : v_18.toInt = v_18.toInt)) (show (1 : Int32).toInt = (1 : Int) from rfl) (by omega) (by omega) ev_25
                refine va_put (D := D) (ci := 11) (v := .int v_25) (ty := .int) (C := RX11) (T := TX11) (N := 30) hx hb hts inX11 tyX11 tyX11_ok nmX11 hown hK hP (mD hI) hS 0 (m_at11 (Nat.le_of_ble_eq_true rfl) rfl) rfl 3 (by decide) lk0 (fun _ h9 => h9) rfl (by decide +kernel) rfl rfl (Nat.le_of_ble_eq_true rfl) dX11_keeps_91 (fun H locs hP _ hS => ?_)
                have hP : va_P D vwCl (MW cy ad (u2 iv_19 0 3 v_25) ar_21) H := by rw [← m_pt11_3 (Nat.le_of_ble_eq_true rfl) rfl]; exact hP
                obtain ⟨iv_26, eiv_26⟩ : ∃ z : gIv, z = u2 iv_19 0 3 v_25 := ⟨_, rfl⟩
                rw [← eiv_26] at hP
                have hc9 : (iv_26 0 3).toInt = (iv_19 0 3).toInt + 1 := by rw [eiv_26, u2_s]; omega
                rw [hQ]
                exact W.vret hx hb hr (fun t ht hW => ⟨⟨(iv_26, ar_21), rfl, ⟨fun a b h => by show iv_26 a b = iv a b; rw [eiv_26, u2_o (by omega)]; rw [eiv_19, u2_o (by omega)], hka, by show 0 ≤ (iv_26 0 3).toInt ∧ (iv_26 0 3).toInt ≤ 8; omega, fun k hk => hpc k (by have h9 : (k : Int) < (iv_26 0 3).toInt := hk; omega)⟩, by show va_P _ _ _ _; rw [ht]; exact hP⟩, hS.F ht⟩) hS.2.2 dX11_keeps_94
              · skip
                have q_23 : x1_20.toInt < (126 : Int) := i_nle2 (show (126 : Int32).toInt = (126 : Int) from rfl) (rfl : x1_20.toInt = x1_20.toInt) c_23
                refine lv_aload_n hx hb dX11_keeps_58 rfl (lv_at hl 1 rfl) ?_
                refine va_get (D := D) (ci := 11) (v := .ref (ad 2)) (C := RX11) (T := TX11) (N := 30) hx hb hts inX11 hown hK hP 0 (m_at11 (Nat.le_of_ble_eq_true rfl) rfl) rfl 1 (by decide) lk1 (fun _ h9 => h9) rfl dX11_keeps_59 ?_
                refine lv_bipush (v := 126) hx hb dX11_keeps_62 (by decide) ?_
                refine lv_aload_n hx hb dX11_keeps_64 rfl (lv_at hl 1 rfl) ?_
                refine va_get (D := D) (ci := 11) (v := .int (iv_19 0 3)) (C := RX11) (T := TX11) (N := 30) hx hb hts inX11 hown hK hP 0 (m_at11 (Nat.le_of_ble_eq_true rfl) rfl) rfl 3 (by decide) lk0 (fun _ h9 => h9) rfl dX11_keeps_65 ?_
                have f_27 : iv_19 0 3 = v_18 := by rw [eiv_19]; exact u2_s _ _ _ _
                refine lv_imul hx hb dX11_keeps_68 ?_
                refine lv_topi (fun v_28 ev_28 => ?_)
                have tv_28 : v_28.toInt = (126 : Int) * v_18.toInt := i_mul (show (126 : Int32).toInt = (126 : Int) from rfl) ((congrArg Int32.toInt f_27).trans (rfl : v_18.toInt = v_18.toInt)) (by omega) (by omega) ev_28
                refine lv_iload_n hx hb dX11_keeps_69 rfl (lv_at hl 0 rfl) ?_
                refine lv_iadd hx hb dX11_keeps_70 ?_
                refine lv_topi (fun v_29 ev_29 => ?_)
                have tv_29 : v_29.toInt = v_28.toInt + x1_20.toInt := i_add (rfl : v_28.toInt = v_28.toInt) (rfl : x1_20.toInt = x1_20.toInt) (by omega) (by omega) ev_29
                refine lv_aload_n hx hb dX11_keeps_71 rfl (lv_at hl 1 rfl) ?_
                refine va_get (D := D) (ci := 11) (v := .ref (ad 1)) (C := RX11) (T := TX11) (N := 30) hx hb hts inX11 hown hK hP 0 (m_at11 (Nat.le_of_ble_eq_true rfl) rfl) rfl 0 (by decide) lk2 (fun _ h9 => h9) rfl dX11_keeps_72 ?_
                refine lv_iload_n hx hb dX11_keeps_75 rfl (lv_at hl 0 rfl) ?_
                refine va_iald hx hb hK hP 1 0 (m_at12 (Nat.le_of_ble_eq_true rfl) rfl) rfl (g_in (N := 126) (rfl : x1_20.toInt = x1_20.toInt) rfl (by omega) (by omega)) dX11_keeps_76 ?_
                refine lv_topi (fun v_30 ev_30 => ?_)
                have hv2 : v_30 = ar 1 (x1_20.toInt).toNat := by rw [ev_30, g_cN (rfl : x1_20.toInt = _), hka 1 (by omega)]
                refine va_iast hx hb hK hP (mD hI) hS 2 0 (m_at12 (Nat.le_of_ble_eq_true rfl) rfl) rfl (g_in (N := 1008) (rfl : v_29.toInt = v_29.toInt) rfl (by omega) (by omega)) dX11_keeps_77 (fun H locs hP _ hS => ?_)
                rw [m_pt12 (Nat.le_of_ble_eq_true rfl) rfl] at hP
                obtain ⟨ar_31, ear_31⟩ : ∃ z : gAr, z = va_up ar_21 2 (upd (ar_21 2) v_29.toNatClampNeg v_30) := ⟨_, rfl⟩
                rw [← ear_31] at hP
                have har : ar_31 2 = upd (ar_21 2) (126 * (iv_19 0 3).toInt.toNat + (x1_20.toInt).toNat) v_30 := by rw [ear_31, ua_s, g_cN (rfl : v_29.toInt = _), show (v_29.toInt).toNat = 126 * (iv_19 0 3).toInt.toNat + (x1_20.toInt).toNat from by omega]
                have hka2 : ∀ c, c ≠ 2 → ar_31 c = ar c := fun c h => by rw [ear_31, ua_o h]; exact hka c h
                have hkb2 : ∀ i : Nat, (i : Int) < 126 * (iv_19 0 3).toInt → ar_31 2 i = ar_15 2 i := fun i hi => by
                  rw [har, pk_un (show i ≠ 126 * (iv_19 0 3).toInt.toNat + (x1_20.toInt).toNat from by omega)]; exact hkb i hi
                have hkc2 : ∀ i : Nat, (i : Int) < (x1_20.toInt) + 1 → ar_31 2 (126 * (iv_19 0 3).toInt.toNat + i) = ar 1 i := fun i hi => by
                  rw [har]
                  by_cases e : i = (x1_20.toInt).toNat
                  · rw [e, pk_us, hv2]
                  · rw [pk_un (show 126 * (iv_19 0 3).toInt.toNat + i ≠ 126 * (iv_19 0 3).toInt.toNat + (x1_20.toInt).toNat from by omega)]; exact hkc i (by omega)
                obtain ⟨x1_32, ex1_32⟩ : ∃ y : Int32, y = x1_20 + 1 := ⟨_, rfl⟩
                have tx1_32 : x1_32.toInt = x1_20.toInt + (1 : Int) := i_add (rfl : x1_20.toInt = x1_20.toInt) (show (1 : Int32).toInt = (1 : Int) from rfl) (by omega) (by omega) ex1_32
                refine lv_iinc (v := x1_32) (lv' := [(1, .int x1_32), (0, .ref (ad 0))]) hx hb dX11_keeps_78 hl (k := 0) rfl (by rw [ex1_32]; rfl) (by decide) rfl (fun ls hl => ?_)
                refine lv_goto (tgt := 52) hx hb dX11_keeps_81 (by decide) ?_
                exact ih22 x1_32 ar_31 _ _ _ (by omega) (by omega) hka2 hkb2 (fun i hi => hkc2 i (by omega)) hP hS (lv_sub hl [0, 1] rfl)
          have zl_33 : (0 : Int32).toInt = (0 : Int) := rfl
          exact loop22 (((126 - ((0 : Int))).toNat) + 1) 0 ar_15 _ _ _ (by omega) (by omega) hka0 (fun _ _ => rfl) (fun i hi => by exfalso; omega) hP hS (lv_sub hl [0, 1] rfl)
        · skip
          have q_17 : x1_14.toInt < (1008 : Int) := i_nle2 (show (1008 : Int32).toInt = (1008 : Int) from rfl) (rfl : x1_14.toInt = x1_14.toInt) c_17
          refine lv_aload_n hx hb dX11_keeps_19 rfl (lv_at hl 1 rfl) ?_
          refine va_get (D := D) (ci := 11) (v := .ref (ad 2)) (C := RX11) (T := TX11) (N := 30) hx hb hts inX11 hown hK hP 0 (m_at11 (Nat.le_of_ble_eq_true rfl) rfl) rfl 1 (by decide) lk1 (fun _ h9 => h9) rfl dX11_keeps_20 ?_
          refine lv_iload_n hx hb dX11_keeps_23 rfl (lv_at hl 0 rfl) ?_
          refine lv_bipush (v := 126) hx hb dX11_keeps_24 (by decide) ?_
          refine lv_isub hx hb dX11_keeps_26 ?_
          refine lv_topi (fun v_34 ev_34 => ?_)
          have tv_34 : v_34.toInt = x1_14.toInt - (126 : Int) := i_sub (rfl : x1_14.toInt = x1_14.toInt) (show (126 : Int32).toInt = (126 : Int) from rfl) (by omega) (by omega) ev_34
          refine lv_aload_n hx hb dX11_keeps_27 rfl (lv_at hl 1 rfl) ?_
          refine va_get (D := D) (ci := 11) (v := .ref (ad 2)) (C := RX11) (T := TX11) (N := 30) hx hb hts inX11 hown hK hP 0 (m_at11 (Nat.le_of_ble_eq_true rfl) rfl) rfl 1 (by decide) lk1 (fun _ h9 => h9) rfl dX11_keeps_28 ?_
          refine lv_iload_n hx hb dX11_keeps_31 rfl (lv_at hl 0 rfl) ?_
          refine va_iald hx hb hK hP 2 0 (m_at12 (Nat.le_of_ble_eq_true rfl) rfl) rfl (g_in (N := 1008) (rfl : x1_14.toInt = x1_14.toInt) rfl (by omega) (by omega)) dX11_keeps_32 ?_
          refine lv_topi (fun v_35 ev_35 => ?_)
          have hv1 : v_35 = ar 2 (x1_14.toInt).toNat := by rw [ev_35, g_cN (rfl : x1_14.toInt = _), hgr _ (by omega)]
          refine va_iast hx hb hK hP (mD hI) hS 2 0 (m_at12 (Nat.le_of_ble_eq_true rfl) rfl) rfl (g_in (N := 1008) (rfl : v_34.toInt = v_34.toInt) rfl (by omega) (by omega)) dX11_keeps_33 (fun H locs hP _ hS => ?_)
          rw [m_pt12 (Nat.le_of_ble_eq_true rfl) rfl] at hP
          obtain ⟨ar_36, ear_36⟩ : ∃ z : gAr, z = va_up ar_15 2 (upd (ar_15 2) v_34.toNatClampNeg v_35) := ⟨_, rfl⟩
          rw [← ear_36] at hP
          have har : ar_36 2 = upd (ar_15 2) ((x1_14.toInt).toNat - 126) v_35 := by rw [ear_36, ua_s, g_cN (rfl : v_34.toInt = _), show (v_34.toInt).toNat = (x1_14.toInt).toNat - 126 from by omega]
          have hga2 : ∀ c, c ≠ 2 → ar_36 c = ar c := fun c h => by rw [ear_36, ua_o h]; exact hga c h
          have hgs2 : ∀ i : Nat, (i : Int) + 126 < (x1_14.toInt) + 1 → ar_36 2 i = ar 2 (i + 126) := fun i hi => by
            rw [har]
            by_cases e : i = (x1_14.toInt).toNat - 126
            · rw [e, pk_us, hv1]; congr 1; omega
            · rw [pk_un e]; exact hgs i (by omega)
          have hgr2 : ∀ i : Nat, (x1_14.toInt) + 1 ≤ (i : Int) + 126 → ar_36 2 i = ar 2 i := fun i hi => by
            rw [har, pk_un (show i ≠ (x1_14.toInt).toNat - 126 from by omega)]; exact hgr i (by omega)
          obtain ⟨x1_37, ex1_37⟩ : ∃ y : Int32, y = x1_14 + 1 := ⟨_, rfl⟩
          have tx1_37 : x1_37.toInt = x1_14.toInt + (1 : Int) := i_add (rfl : x1_14.toInt = x1_14.toInt) (show (1 : Int32).toInt = (1 : Int) from rfl) (by omega) (by omega) ex1_37
          refine lv_iinc (v := x1_37) (lv' := [(1, .int x1_37), (0, .ref (ad 0))]) hx hb dX11_keeps_34 hl (k := 0) rfl (by rw [ex1_37]; rfl) (by decide) rfl (fun ls hl => ?_)
          refine lv_goto (tgt := 12) hx hb dX11_keeps_37 (by decide) ?_
          exact ih16 x1_37 ar_36 _ _ _ (by omega) (by omega) hga2 (fun i hi => hgs2 i (by omega)) (fun i hi => hgr2 i (by omega)) hP hS (lv_sub hl [0, 1] rfl)
    have zl_38 : (126 : Int32).toInt = (126 : Int) := rfl
    exact loop16 (((1008 - ((126 : Int))).toNat) + 1) 126 ar _ _ _ (by omega) (by omega) (fun _ _ => rfl) (fun i hi => by exfalso; omega) (fun _ _ => rfl) hP hS (lv_sub hl [0, 1] rfl)
