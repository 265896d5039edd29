set_option maxHeartbeats 4000000 in
set_option maxRecDepth 100000 in
theorem c_X11_goesAlone (l : Launch) (D : va_G) (cy : Nat → ClassId) (ad : Nat → Nat) (hI : mInj ad) (sz : Nat) (iv : gIv) (ar : gAr) (a : Int32) (hd : 0 ≤ a.toInt ∧ a.toInt < 6) (hp : 0 ≤ (iv 0 17).toInt) (hka : KA ar) (hpd : PD (ar 1) (ar 9) (ar 11) (ar 14) a.toInt.toNat) : Met l yX11_goesAlone wsX11_goesAlone ({ frames := 5, cells := 0, slots := 0, locals := 120 } : Room) (va_Pc [.ref (ad 0), .int a] (mPre D cy ad sz iv ar)) (va_Qv (fun (u : gIv × gAr) => u.1 = iv ∧ (∀ c, c ≠ 5 → c ≠ 6 → c ≠ 18 → u.2 c = ar c) ∧ KA u.2) (mPost D cy ad) (mA ad sz)) 0 0 (mA ad sz) := by
  refine Met.ofW (cc := cX11_goesAlone) (maxL := 6) (ret := none) (by decide) rfl ?_
  intro p e s m args below meth c s₁ B hml hv
  obtain ⟨rfl, rfl, hP, hK, hSt, hNw⟩ := hv
  have hx := B.exec
  have hb := B.bytes
  have hr := B.returns
  have hts := atoms_spec (ws := wsX11_goesAlone) B.pre
  have hown : s.vm.findClass RX11 = some m.cls := findClass_of_methodNamed B.named
  have hlocks := B.notSynchronized
  have hS : va_S (mA ad s.heap.size) s.heap s.heap [] := va_S.rf
  have inX11 : ∀ w ∈ u_ws RX11 TX11 30, w ∈ wsX11_goesAlone := by decide +kernel
  have lk0 := hts (.fieldLink RX11 192 "FormationPlannerModel" "present" "I") (by decide +kernel)
  have lk1 := hts (.fieldLink RX11 66 "FormationPlannerModel" "way" "[I") (by decide +kernel)
  have lk2 := hts (.fieldLink RX11 54 "FormationPlannerModel" "goal" "[I") (by decide +kernel)
  have hl := lv_entry ([.ref (ad 0), .int a]) (n := 6) (Nat.le_of_ble_eq_true rfl)
  rw [lg_entry_eq]
  generalize (lg_sl ([.ref (ad 0), .int a]) ++ List.replicate (6 - (lg_sl ([.ref (ad 0), .int a])).length) Slot.unset).toArray = ls at hl ⊢
  have hl : lv_has ls 6 [(0, .ref (ad 0)), (1, .int a)] := hl
  obtain ⟨Q, hQ⟩ : ∃ Q, Q = MQ below (va_Qv (fun (u : gIv × gAr) => u.1 = iv ∧ (∀ c, c ≠ 5 → c ≠ 6 → c ≠ 18 → u.2 c = ar c) ∧ KA u.2) (mPost D cy ad) (mA ad s.heap.size)) (([.ref (ad 0), .int a] : List Value).toArray) s 0 0 (mA ad s.heap.size) := ⟨_, rfl⟩
  rw [← hQ]
  have hpg := hpd.1
  have hph := hpd.2.1
  refine lv_aload_n hx hb dX11_goesAlone_0 rfl (lv_at hl 0 rfl) ?_
  refine lv_iload_n hx hb dX11_goesAlone_1 rfl (lv_at hl 1 rfl) ?_
  refine lv_aload_n hx hb dX11_goesAlone_2 rfl (lv_at hl 0 rfl) ?_
  refine va_get (D := D) (ci := 11) (v := .int (iv 0 17)) (C := RX11) (T := TX11) (N := 30) hx hb hts inX11 hown hK hP 0 (m_at11 (Nat.le_of_ble_eq_true rfl) rfl) rfl 17 (by decide) lk0 (fun _ h9 => h9) rfl dX11_goesAlone_3 ?_
  refine g_callSi (va_runV (As := [.int a, .int (iv 0 17)]) (rest := []) ⟨hx, hb, hml, hown, hts⟩ (c_X11_cell l D cy ad hI _ iv ar a (iv 0 17) (by omega) (by omega)) (cwV 2 hts gX11_goesAlone_X11_cell rfl rfl rfl (by decide +kernel) ⟨Nat.le_of_ble_eq_true rfl, Nat.le_of_ble_eq_true rfl⟩) (m_preV hP hK hSt hNw hS (m_at11 (Nat.le_of_ble_eq_true rfl) rfl) rfl) rfl rfl hl.1 rfl (lv_room (Nat.le_of_ble_eq_true rfl)) dX11_goesAlone_6 ⟨Nat.zero_le _, Nat.zero_le _⟩) (fun r_1 w_1 => ?_)
  try dsimp only at w_1
  have h9 := w_1
  have h8 := hpd.2.2.2.2 (if 60 < (iv 0 17).toInt then 60 else (iv 0 17).toInt.toNat) (by split <;> omega)
  rw [← h9] at h8
  have h7 : 0 ≤ r_1.toInt ∧ r_1.toInt < 108 := ⟨h8.1, h8.2.1⟩
  have hal0 : AL ar ((ar 14 a.toInt.toNat).toInt.toNat) 0 r_1.toInt.toNat := ⟨h8.2.2.2.1, Or.inl ⟨rfl, h8.2.2⟩⟩
  clear h8
  refine lv_istore_n (lv' := [(2, .int r_1), (0, .ref (ad 0)), (1, .int a)]) hx hb dX11_goesAlone_9 rfl hl (by decide) rfl (fun ls hl => ?_)
  refine lv_iconst (v := 0) hx hb dX11_goesAlone_10 (by decide) ?_
  refine lv_istore_n (lv' := [(3, .int 0), (2, .int r_1), (0, .ref (ad 0)), (1, .int a)]) hx hb dX11_goesAlone_11 rfl hl (by decide) rfl (fun ls hl => ?_)
  refine lv_aload_n hx hb dX11_goesAlone_12 rfl (lv_at hl 2 rfl) ?_
  refine va_get (D := D) (ci := 11) (v := .ref (ad 18)) (C := RX11) (T := TX11) (N := 30) hx hb hts inX11 hown hK hP 0 (m_at11 (Nat.le_of_ble_eq_true rfl) rfl) rfl 29 (by decide) lk1 (fun _ h9 => h9) rfl dX11_goesAlone_13 ?_
  refine lv_sipush (v := 300) hx hb dX11_goesAlone_16 (by decide) ?_
  refine lv_iload_n hx hb dX11_goesAlone_19 rfl (lv_at hl 3 rfl) ?_
  refine lv_imul hx hb dX11_goesAlone_20 ?_
  refine lv_topi (fun v_2 ev_2 => ?_)
  have tv_2 : v_2.toInt = (300 : Int) * a.toInt := i_mul (show (300 : Int32).toInt = (300 : Int) from rfl) (rfl : a.toInt = a.toInt) (by omega) (by omega) ev_2
  refine lv_iload_n hx hb dX11_goesAlone_21 rfl (lv_at hl 1 rfl) ?_
  refine va_iast hx hb hK hP (mD hI) hS 18 0 (m_at12 (Nat.le_of_ble_eq_true rfl) rfl) rfl (g_in (N := 1800) (rfl : v_2.toInt = v_2.toInt) rfl (by omega) (by omega)) dX11_goesAlone_22 (fun H locs hP _ hS => ?_)
  rw [m_pt12 (Nat.le_of_ble_eq_true rfl) rfl] at hP
  obtain ⟨ar_3, ear_3⟩ : ∃ z : gAr, z = va_up ar 18 (upd (ar 18) v_2.toNatClampNeg r_1) := ⟨_, rfl⟩
  rw [← ear_3] at hP
  have hb2 : ∀ c, c ≠ 5 → c ≠ 6 → c ≠ 18 → ar_3 c = ar c := fun c _ _ h18 => by rw [ear_3, ua_o h18]
  have hbk2 : KA ar_3 := hka.fr (by rw [ear_3, ua_o (by omega)]) (by rw [ear_3, ua_o (by omega)]) (by rw [ear_3, ua_o (by omega)])
  have hal1 : AL ar_3 ((ar 14 a.toInt.toNat).toInt.toNat) 0 (r_1.toInt).toNat := hal0.fr (by rw [ear_3, ua_o (by omega)]) (by rw [ear_3, ua_o (by omega)]) (by rw [ear_3, ua_o (by omega)])
  have loop7 : ∀ (n : Nat) (x3_4 : Int32) (x2_5 : Int32) (ar_6 : gAr) (H : Heap) (locs : List Loc) (ls : Array Slot), ((61 - (x3_4.toInt)).toNat) < n → (0 ≤ (x3_4.toInt) ∧ (x3_4.toInt) ≤ 61 ∧ 0 ≤ (x2_5.toInt) ∧ (x2_5.toInt) < 108) → (∀ c, c ≠ 5 → c ≠ 6 → c ≠ 18 → ar_6 c = ar c) → (KA ar_6) → (AL ar_6 ((ar 14 a.toInt.toNat).toInt.toNat) (x3_4.toInt) (x2_5.toInt).toNat) → va_P D vwCl (MW cy ad iv ar_6) H → va_S (mA ad s.heap.size) s.heap H locs → lv_has ls 6 [(3, .int x3_4), (2, .int x2_5), (0, .ref (ad 0)), (1, .int a)] → W p l e (headSpec wsX11_goesAlone (({ frames := 5, cells := 0, slots := 0, locals := 120 } : Room))).room s m (([.ref (ad 0), .int a] : List Value).toArray) below meth c H locs 0 0 Q (F0 m 23 ls []) := by
    intro n
    induction n with
    | zero => intro x3_4 x2_5 ar_6 H locs ls hm; omega
    | succ n ih7 =>
      intro x3_4 x2_5 ar_6 H locs ls hm hg0 hga hgk hgl hP hS hl
      refine lv_iload_n hx hb dX11_goesAlone_23 rfl (lv_at hl 1 rfl) ?_
      refine lv_aload_n hx hb dX11_goesAlone_24 rfl (lv_at hl 2 rfl) ?_
      refine va_get (D := D) (ci := 11) (v := .ref (ad 14)) (C := RX11) (T := TX11) (N := 30) hx hb hts inX11 hown hK hP 0 (m_at11 (Nat.le_of_ble_eq_true rfl) rfl) rfl 24 (by decide) lk2 (fun _ h9 => h9) rfl dX11_goesAlone_25 ?_
      refine lv_iload_n hx hb dX11_goesAlone_28 rfl (lv_at hl 3 rfl) ?_
      refine va_iald hx hb hK hP 14 0 (m_at12 (Nat.le_of_ble_eq_true rfl) rfl) rfl (g_in (N := 6) (rfl : a.toInt = a.toInt) rfl (by omega) (by omega)) dX11_goesAlone_29 ?_
      refine lv_topi (fun v_8 ev_8 => ?_)
      have hvg0 : v_8.toInt = (ar 14 a.toInt.toNat).toInt := by rw [ev_8, g_cN (rfl : a.toInt = _), hga 14 (by omega) (by omega) (by omega)]
      refine lv_icmp_eq (tgt := 99) hx hb dX11_goesAlone_30 (by decide) (fun c_9 => ?_) (fun c_9 => ?_)
      · skip
        have q_9 : x2_5.toInt = v_8.toInt := i_eq2 (rfl : x2_5.toInt = x2_5.toInt) (rfl : v_8.toInt = v_8.toInt) c_9
        refine lv_iload_n hx hb dX11_goesAlone_99 rfl (lv_at hl 0 rfl) ?_
        refine lv_iconst (v := 1) hx hb dX11_goesAlone_100 (by decide) ?_
        refine lv_iadd hx hb dX11_goesAlone_101 ?_
        refine lv_topi (fun v_10 ev_10 => ?_)
        have tv_10 : v_10.toInt = x3_4.toInt + (1 : Int) := i_add (rfl : x3_4.toInt = x3_4.toInt) (show (1 : Int32).toInt = (1 : Int) from rfl) (by omega) (by omega) ev_10
        refine lv_istore (lv' := [(4, .int v_10), (3, .int x3_4), (2, .int x2_5), (0, .ref (ad 0)), (1, .int a)]) hx hb dX11_goesAlone_102 hl (by decide) rfl (fun ls hl => ?_)
        have loop13 : ∀ (n : Nat) (x4_11 : Int32) (ar_12 : gAr) (H : Heap) (locs : List Loc) (ls : Array Slot), ((300 - (x4_11.toInt)).toNat) < n → (0 ≤ (x4_11.toInt) ∧ (x4_11.toInt) ≤ 300) → (∀ c, c ≠ 5 → c ≠ 6 → c ≠ 18 → ar_12 c = ar c) → (KA ar_12) → va_P D vwCl (MW cy ad iv ar_12) H → va_S (mA ad s.heap.size) s.heap H locs → lv_has ls 6 [(4, .int x4_11), (3, .int x3_4), (2, .int x2_5), (0, .ref (ad 0)), (1, .int a)] → W p l e (headSpec wsX11_goesAlone (({ frames := 5, cells := 0, slots := 0, locals := 120 } : Room))).room s m (([.ref (ad 0), .int a] : List Value).toArray) below meth c H locs 0 0 Q (F0 m 104 ls []) := by
          intro n
          induction n with
          | zero => intro x4_11 ar_12 H locs ls hm; omega
          | succ n ih13 =>
            intro x4_11 ar_12 H locs ls hm hx0 hxa hxk hP hS hl
            refine lv_iload hx hb dX11_goesAlone_104 (lv_at hl 0 rfl) ?_
            refine lv_sipush (v := 300) hx hb dX11_goesAlone_106 (by decide) ?_
            refine lv_icmp_ge (tgt := 132) hx hb dX11_goesAlone_109 (by decide) (fun c_14 => ?_) (fun c_14 => ?_)
            · skip
              have q_14 : (300 : Int) ≤ x4_11.toInt := i_le2 (show (300 : Int32).toInt = (300 : Int) from rfl) (rfl : x4_11.toInt = x4_11.toInt) c_14
              rw [hQ]
              exact W.vret hx hb hr (fun t ht hW => ⟨⟨(iv, ar_12), rfl, ⟨rfl, hxa, hxk⟩, by show va_P _ _ _ _; rw [ht]; exact hP⟩, hS.F ht⟩) hS.2.2 dX11_goesAlone_132
            · skip
              have q_14 : x4_11.toInt < (300 : Int) := i_nle2 (show (300 : Int32).toInt = (300 : Int) from rfl) (rfl : x4_11.toInt = x4_11.toInt) c_14
              refine lv_aload_n hx hb dX11_goesAlone_112 rfl (lv_at hl 3 rfl) ?_
              refine va_get (D := D) (ci := 11) (v := .ref (ad 18)) (C := RX11) (T := TX11) (N := 30) hx hb hts inX11 hown hK hP 0 (m_at11 (Nat.le_of_ble_eq_true rfl) rfl) rfl 29 (by decide) lk1 (fun _ h9 => h9) rfl dX11_goesAlone_113 ?_
              refine lv_sipush (v := 300) hx hb dX11_goesAlone_116 (by decide) ?_
              refine lv_iload_n hx hb dX11_goesAlone_119 rfl (lv_at hl 4 rfl) ?_
              refine lv_imul hx hb dX11_goesAlone_120 ?_
              refine lv_topi (fun v_15 ev_15 => ?_)
              have tv_15 : v_15.toInt = (300 : Int) * a.toInt := i_mul (show (300 : Int32).toInt = (300 : Int) from rfl) (rfl : a.toInt = a.toInt) (by omega) (by omega) ev_15
              refine lv_iload hx hb dX11_goesAlone_121 (lv_at hl 0 rfl) ?_
              refine lv_iadd hx hb dX11_goesAlone_123 ?_
              refine lv_topi (fun v_16 ev_16 => ?_)
              have tv_16 : v_16.toInt = v_15.toInt + x4_11.toInt := i_add (rfl : v_15.toInt = v_15.toInt) (rfl : x4_11.toInt = x4_11.toInt) (by omega) (by omega) ev_16
              refine lv_iload_n hx hb dX11_goesAlone_124 rfl (lv_at hl 2 rfl) ?_
              refine va_iast hx hb hK hP (mD hI) hS 18 0 (m_at12 (Nat.le_of_ble_eq_true rfl) rfl) rfl (g_in (N := 1800) (rfl : v_16.toInt = v_16.toInt) rfl (by omega) (by omega)) dX11_goesAlone_125 (fun H locs hP _ hS => ?_)
              rw [m_pt12 (Nat.le_of_ble_eq_true rfl) rfl] at hP
              obtain ⟨ar_17, ear_17⟩ : ∃ z : gAr, z = va_up ar_12 18 (upd (ar_12 18) v_16.toNatClampNeg x2_5) := ⟨_, rfl⟩
              rw [← ear_17] at hP
              have hya2 : ∀ c, c ≠ 5 → c ≠ 6 → c ≠ 18 → ar_17 c = ar c := fun c h5 h6 h18 => by rw [ear_17, ua_o h18]; exact hxa c h5 h6 h18
              have hyk2 : KA ar_17 := hxk.fr (by rw [ear_17, ua_o (by omega)]) (by rw [ear_17, ua_o (by omega)]) (by rw [ear_17, ua_o (by omega)])
              obtain ⟨x4_18, ex4_18⟩ : ∃ y : Int32, y = x4_11 + 1 := ⟨_, rfl⟩
              have tx4_18 : x4_18.toInt = x4_11.toInt + (1 : Int) := i_add (rfl : x4_11.toInt = x4_11.toInt) (show (1 : Int32).toInt = (1 : Int) from rfl) (by omega) (by omega) ex4_18
              refine lv_iinc (v := x4_18) (lv' := [(4, .int x4_18), (3, .int x3_4), (2, .int x2_5), (0, .ref (ad 0)), (1, .int a)]) hx hb dX11_goesAlone_126 hl (k := 0) rfl (by rw [ex4_18]; rfl) (by decide) rfl (fun ls hl => ?_)
              refine lv_goto (tgt := 104) hx hb dX11_goesAlone_129 (by decide) ?_
              exact ih13 x4_18 ar_17 _ _ _ (by omega) (by omega) hya2 hyk2 hP hS (lv_sub hl [0, 1, 2, 3, 4] rfl)
        exact loop13 (((300 - (v_10.toInt)).toNat) + 1) v_10 ar_6 _ _ _ (by omega) (by omega) hga hgk hP hS (lv_sub hl [0, 1, 2, 3, 4] rfl)
      · skip
        have q_9 : x2_5.toInt ≠ v_8.toInt := i_ne2 (rfl : x2_5.toInt = x2_5.toInt) (rfl : v_8.toInt = v_8.toInt) c_9
        skip
        refine lv_aload_n hx hb dX11_goesAlone_33 rfl (lv_at hl 2 rfl) ?_
        refine lv_iload_n hx hb dX11_goesAlone_34 rfl (lv_at hl 1 rfl) ?_
        refine lv_aload_n hx hb dX11_goesAlone_35 rfl (lv_at hl 2 rfl) ?_
        refine va_get (D := D) (ci := 11) (v := .ref (ad 14)) (C := RX11) (T := TX11) (N := 30) hx hb hts inX11 hown hK hP 0 (m_at11 (Nat.le_of_ble_eq_true rfl) rfl) rfl 24 (by decide) lk2 (fun _ h9 => h9) rfl dX11_goesAlone_36 ?_
        refine lv_iload_n hx hb dX11_goesAlone_39 rfl (lv_at hl 3 rfl) ?_
        refine va_iald hx hb hK hP 14 0 (m_at12 (Nat.le_of_ble_eq_true rfl) rfl) rfl (g_in (N := 6) (rfl : a.toInt = a.toInt) rfl (by omega) (by omega)) dX11_goesAlone_40 ?_
        refine lv_topi (fun v_19 ev_19 => ?_)
        have hvg : v_19.toInt = (ar 14 a.toInt.toNat).toInt := by rw [ev_19, g_cN (rfl : a.toInt = _), hga 14 (by omega) (by omega) (by omega)]
        refine m_calli (va_runV (As := [.int x2_5, .int v_19]) (rest := []) ⟨hx, hb, hml, hown, hts⟩ (c_X11_firstAction l D cy ad hI _ iv ar_6 x2_5 v_19 (by omega) (by omega) hgk) (cwV 2 hts gX11_goesAlone_X11_firstAction rfl rfl rfl (by decide +kernel) ⟨Nat.le_of_ble_eq_true rfl, Nat.le_of_ble_eq_true rfl⟩) (m_preV hP hK hSt hNw hS (m_at11 (Nat.le_of_ble_eq_true rfl) rfl) rfl) rfl rfl hl.1 rfl (lv_room (Nat.le_of_ble_eq_true rfl)) dX11_goesAlone_41 ⟨Nat.zero_le _, Nat.zero_le _⟩) hS (fun r_20 iv_20 ar_20 H locs w_20 hP hS => ?_)
        try dsimp only at w_20
        have wi_20 := (w_20.1).symm
        subst wi_20
        obtain ⟨-, wf, wk, ws, wr⟩ := w_20
        rw [hvg] at wr
        have hgo := hgl.go (r := r_20) (by omega) (by omega) (by omega) (by omega) hgk wk ws (wf 1 (by omega) (by omega)) (wr.elim (fun z => Or.inl ⟨z.1, z.2.1, z.2.2.2.1, z.2.2.2.2.1, z.2.2.2.2.2⟩) (fun z => Or.inr (z.2 (by omega))))
        clear wr
        obtain ⟨g1, g2, g3, g4, g5⟩ := hgo
        have htb := TK_b (f := ar_6 1) (c := (x2_5.toInt).toNat) (q := r_20.toInt.toNat)
        have wa1 : ∀ c, c ≠ 5 → c ≠ 6 → c ≠ 18 → ar_20 c = ar c := fun c h5 h6 h18 => (wf c h5 h6).trans (hga c h5 h6 h18)
        have wf1 := wf 1 (by omega) (by omega)
        refine lv_istore (lv' := [(4, .int r_20), (3, .int x3_4), (2, .int x2_5), (0, .ref (ad 0)), (1, .int a)]) hx hb dX11_goesAlone_44 hl (by decide) rfl (fun ls hl => ?_)
        refine lv_aload_n hx hb dX11_goesAlone_46 rfl (lv_at hl 3 rfl) ?_
        refine lv_iload_n hx hb dX11_goesAlone_47 rfl (lv_at hl 2 rfl) ?_
        refine lv_iload hx hb dX11_goesAlone_48 (lv_at hl 0 rfl) ?_
        refine g_callSi (va_runV (As := [.int x2_5, .int r_20]) (rest := []) ⟨hx, hb, hml, hown, hts⟩ (c_X11_ticks l D cy ad hI _ iv ar_20 x2_5 r_20 (by omega) (by omega)) (cwV 2 hts gX11_goesAlone_X11_ticks rfl rfl rfl (by decide +kernel) ⟨Nat.le_of_ble_eq_true rfl, Nat.le_of_ble_eq_true rfl⟩) (m_preV hP hK hSt hNw hS (m_at11 (Nat.le_of_ble_eq_true rfl) rfl) rfl) rfl rfl hl.1 rfl (lv_room (Nat.le_of_ble_eq_true rfl)) dX11_goesAlone_50 ⟨Nat.zero_le _, Nat.zero_le _⟩) (fun r_21 w_21 => ?_)
        try dsimp only at w_21
        have htk := w_21
        rw [wf1] at htk
        refine lv_istore (lv' := [(5, .int r_21), (4, .int r_20), (3, .int x3_4), (2, .int x2_5), (0, .ref (ad 0)), (1, .int a)]) hx hb dX11_goesAlone_53 hl (by decide) rfl (fun ls hl => ?_)
        refine lv_aload_n hx hb dX11_goesAlone_55 rfl (lv_at hl 4 rfl) ?_
        refine va_get (D := D) (ci := 11) (v := .ref (ad 18)) (C := RX11) (T := TX11) (N := 30) hx hb hts inX11 hown hK hP 0 (m_at11 (Nat.le_of_ble_eq_true rfl) rfl) rfl 29 (by decide) lk1 (fun _ h9 => h9) rfl dX11_goesAlone_56 ?_
        refine lv_sipush (v := 300) hx hb dX11_goesAlone_59 (by decide) ?_
        refine lv_iload_n hx hb dX11_goesAlone_62 rfl (lv_at hl 5 rfl) ?_
        refine lv_imul hx hb dX11_goesAlone_63 ?_
        refine lv_topi (fun v_22 ev_22 => ?_)
        have tv_22 : v_22.toInt = (300 : Int) * a.toInt := i_mul (show (300 : Int32).toInt = (300 : Int) from rfl) (rfl : a.toInt = a.toInt) (by omega) (by omega) ev_22
        refine lv_iload_n hx hb dX11_goesAlone_64 rfl (lv_at hl 2 rfl) ?_
        refine lv_iadd hx hb dX11_goesAlone_65 ?_
        refine lv_topi (fun v_23 ev_23 => ?_)
        have tv_23 : v_23.toInt = v_22.toInt + x3_4.toInt := i_add (rfl : v_22.toInt = v_22.toInt) (rfl : x3_4.toInt = x3_4.toInt) (by omega) (by omega) ev_23
        refine lv_iconst (v := 1) hx hb dX11_goesAlone_66 (by decide) ?_
        refine lv_iadd hx hb dX11_goesAlone_67 ?_
        refine lv_topi (fun v_24 ev_24 => ?_)
        have tv_24 : v_24.toInt = v_23.toInt + (1 : Int) := i_add (rfl : v_23.toInt = v_23.toInt) (show (1 : Int32).toInt = (1 : Int) from rfl) (by omega) (by omega) ev_24
        refine lv_iload_n hx hb dX11_goesAlone_68 rfl (lv_at hl 3 rfl) ?_
        refine va_iast hx hb hK hP (mD hI) hS 18 0 (m_at12 (Nat.le_of_ble_eq_true rfl) rfl) rfl (g_in (N := 1800) (rfl : v_24.toInt = v_24.toInt) rfl (by omega) (by omega)) dX11_goesAlone_69 (fun H locs hP _ hS => ?_)
        rw [m_pt12 (Nat.le_of_ble_eq_true rfl) rfl] at hP
        obtain ⟨ar_25, ear_25⟩ : ∃ z : gAr, z = va_up ar_20 18 (upd (ar_20 18) v_24.toNatClampNeg x2_5) := ⟨_, rfl⟩
        rw [← ear_25] at hP
        have hca2 : ∀ c, c ≠ 5 → c ≠ 6 → c ≠ 18 → ar_25 c = ar c := fun c h5 h6 h18 => by rw [ear_25, ua_o h18]; exact wa1 c h5 h6 h18
        have hck2 : KA ar_25 := wk.fr (by rw [ear_25, ua_o (by omega)]) (by rw [ear_25, ua_o (by omega)]) (by rw [ear_25, ua_o (by omega)])
        have hx1 : ar_25 1 = ar_6 1 := by rw [ear_25, ua_o (by omega)]; exact wf1
        have g42 := g4.fr (ar2 := ar_25) (by rw [ear_25, ua_o (by omega)]) (by rw [ear_25, ua_o (by omega)]) (by rw [ear_25, ua_o (by omega)])
        refine lv_aload_n hx hb dX11_goesAlone_70 rfl (lv_at hl 4 rfl) ?_
        refine lv_iload_n hx hb dX11_goesAlone_71 rfl (lv_at hl 3 rfl) ?_
        refine lv_iload hx hb dX11_goesAlone_72 (lv_at hl 1 rfl) ?_
        refine g_callSi (va_runV (As := [.int x2_5, .int r_20]) (rest := []) ⟨hx, hb, hml, hown, hts⟩ (c_X11_next l D cy ad hI _ iv ar_25 x2_5 r_20 (by omega) (by omega)) (cwV 2 hts gX11_goesAlone_X11_next rfl rfl rfl (by decide +kernel) ⟨Nat.le_of_ble_eq_true rfl, Nat.le_of_ble_eq_true rfl⟩) (m_preV hP hK hSt hNw hS (m_at11 (Nat.le_of_ble_eq_true rfl) rfl) rfl) rfl rfl hl.1 rfl (lv_room (Nat.le_of_ble_eq_true rfl)) dX11_goesAlone_74 ⟨Nat.zero_le _, Nat.zero_le _⟩) (fun r_26 w_26 => ?_)
        try dsimp only at w_26
        have hnx := w_26
        rw [hx1] at hnx
        have hnb := NX_b (f := ar_6 1) (c := (x2_5.toInt).toNat) (q := r_20.toInt.toNat) (by omega) (by omega)
        refine lv_istore_n (lv' := [(2, .int r_26), (5, .int r_21), (4, .int r_20), (3, .int x3_4), (0, .ref (ad 0)), (1, .int a)]) hx hb dX11_goesAlone_77 rfl hl (by decide) rfl (fun ls hl => ?_)
        refine lv_iload_n hx hb dX11_goesAlone_78 rfl (lv_at hl 3 rfl) ?_
        refine lv_iload hx hb dX11_goesAlone_79 (lv_at hl 1 rfl) ?_
        refine lv_iadd hx hb dX11_goesAlone_81 ?_
        refine lv_topi (fun v_27 ev_27 => ?_)
        have tv_27 : v_27.toInt = x3_4.toInt + r_21.toInt := i_add (rfl : x3_4.toInt = x3_4.toInt) (rfl : r_21.toInt = r_21.toInt) (by omega) (by omega) ev_27
        refine lv_istore_n (lv' := [(3, .int v_27), (2, .int r_26), (5, .int r_21), (4, .int r_20), (0, .ref (ad 0)), (1, .int a)]) hx hb dX11_goesAlone_82 rfl hl (by decide) rfl (fun ls hl => ?_)
        refine lv_aload_n hx hb dX11_goesAlone_83 rfl (lv_at hl 4 rfl) ?_
        refine va_get (D := D) (ci := 11) (v := .ref (ad 18)) (C := RX11) (T := TX11) (N := 30) hx hb hts inX11 hown hK hP 0 (m_at11 (Nat.le_of_ble_eq_true rfl) rfl) rfl 29 (by decide) lk1 (fun _ h9 => h9) rfl dX11_goesAlone_84 ?_
        refine lv_sipush (v := 300) hx hb dX11_goesAlone_87 (by decide) ?_
        refine lv_iload_n hx hb dX11_goesAlone_90 rfl (lv_at hl 5 rfl) ?_
        refine lv_imul hx hb dX11_goesAlone_91 ?_
        refine lv_topi (fun v_28 ev_28 => ?_)
        have tv_28 : v_28.toInt = (300 : Int) * a.toInt := i_mul (show (300 : Int32).toInt = (300 : Int) from rfl) (rfl : a.toInt = a.toInt) (by omega) (by omega) ev_28
        refine lv_iload_n hx hb dX11_goesAlone_92 rfl (lv_at hl 0 rfl) ?_
        refine lv_iadd hx hb dX11_goesAlone_93 ?_
        refine lv_topi (fun v_29 ev_29 => ?_)
        have tv_29 : v_29.toInt = v_28.toInt + v_27.toInt := i_add (rfl : v_28.toInt = v_28.toInt) (rfl : v_27.toInt = v_27.toInt) (by omega) (by omega) ev_29
        refine lv_iload_n hx hb dX11_goesAlone_94 rfl (lv_at hl 1 rfl) ?_
        refine va_iast hx hb hK hP (mD hI) hS 18 0 (m_at12 (Nat.le_of_ble_eq_true rfl) rfl) rfl (g_in (N := 1800) (rfl : v_29.toInt = v_29.toInt) rfl (by omega) (by omega)) dX11_goesAlone_95 (fun H locs hP _ hS => ?_)
        rw [m_pt12 (Nat.le_of_ble_eq_true rfl) rfl] at hP
        obtain ⟨ar_30, ear_30⟩ : ∃ z : gAr, z = va_up ar_25 18 (upd (ar_25 18) v_29.toNatClampNeg r_26) := ⟨_, rfl⟩
        rw [← ear_30] at hP
        have hda2 : ∀ c, c ≠ 5 → c ≠ 6 → c ≠ 18 → ar_30 c = ar c := fun c h5 h6 h18 => by rw [ear_30, ua_o h18]; exact hca2 c h5 h6 h18
        have hdk2 : KA ar_30 := hck2.fr (by rw [ear_30, ua_o (by omega)]) (by rw [ear_30, ua_o (by omega)]) (by rw [ear_30, ua_o (by omega)])
        have hgl2 : AL ar_30 ((ar 14 a.toInt.toNat).toInt.toNat) (v_27.toInt) (r_26.toInt).toNat := by
          rw [show (v_27.toInt) = (x3_4.toInt) + TK (ar_6 1) (x2_5.toInt).toNat r_20.toInt.toNat from by omega, hnx]
          exact g42.fr (by rw [ear_30, ua_o (by omega)]) (by rw [ear_30, ua_o (by omega)]) (by rw [ear_30, ua_o (by omega)])
        refine lv_goto (tgt := 23) hx hb dX11_goesAlone_96 (by decide) ?_
        exact ih7 v_27 r_26 ar_30 _ _ _ (by omega) (by omega) hda2 hdk2 hgl2 hP hS (lv_sub hl [0, 1, 4, 5] rfl)
  have zl_31 : (0 : Int32).toInt = (0 : Int) := rfl
  exact loop7 (((61 - ((0 : Int))).toNat) + 1) 0 r_1 ar_3 _ _ _ (by omega) (by omega) hb2 hbk2 hal1 hP hS (lv_sub hl [0, 1, 2, 3] rfl)
set_option maxHeartbeats 4000000 in
set_option maxRecDepth 100000 in
theorem c_X11_areInConflict (l : Launch) (D : va_G) (cy : Nat → ClassId) (ad : Nat → Nat) (hI : mInj ad) (sz : Nat) (iv : gIv) (ar : gAr) (a : Int32) (b : Int32) (hd : 0 ≤ a.toInt ∧ a.toInt < 6) (he : 0 ≤ b.toInt ∧ b.toInt < 6) : Met l yX11_areInConflict wsX11_areInConflict ({ frames := 0, cells := 0, slots := 0, locals := 0 } : Room) (va_Pc [.ref (ad 0), .int a, .int b] (mPre D cy ad sz iv ar)) (vp_Si (fun r => True)) 0 0 (fun _ => False) := by
  refine Met.ofW (cc := cX11_areInConflict) (maxL := 4) (ret := (some .boolean)) (by decide) rfl ?_
  intro p e s m args below meth c s₁ B hml hv
  obtain ⟨rfl, rfl, hP, hK, hSt, hNw⟩ := hv
  have hx := B.exec
  have hb := B.bytes
  have hr := B.returns
  have hts := atoms_spec (ws := wsX11_areInConflict) B.pre
  have hown : s.vm.findClass RX11 = some m.cls := findClass_of_methodNamed B.named
  have hlocks := B.notSynchronized
  have hS : va_S (mA ad s.heap.size) s.heap s.heap [] := va_S.rf
  have inX11 : ∀ w ∈ u_ws RX11 TX11 30, w ∈ wsX11_areInConflict := by decide +kernel
  have lk0 := hts (.fieldLink RX11 66 "FormationPlannerModel" "way" "[I") (by decide +kernel)
  have hl := lv_entry ([.ref (ad 0), .int a, .int b]) (n := 4) (Nat.le_of_ble_eq_true rfl)
  rw [lg_entry_eq]
  generalize (lg_sl ([.ref (ad 0), .int a, .int b]) ++ List.replicate (4 - (lg_sl ([.ref (ad 0), .int a, .int b])).length) Slot.unset).toArray = ls at hl ⊢
  have hl : lv_has ls 4 [(0, .ref (ad 0)), (1, .int a), (2, .int b)] := hl
  obtain ⟨Q, hQ⟩ : ∃ Q, Q = MQ below (vp_Si (fun r => True)) (([.ref (ad 0), .int a, .int b] : List Value).toArray) s 0 0 (fun _ => False) := ⟨_, rfl⟩
  rw [← hQ]
  refine lv_iconst (v := 0) hx hb dX11_areInConflict_0 (by decide) ?_
  refine lv_istore_n (lv' := [(3, .int 0), (0, .ref (ad 0)), (1, .int a), (2, .int b)]) hx hb dX11_areInConflict_1 rfl hl (by decide) rfl (fun ls hl => ?_)
  have loop2 : ∀ (n : Nat) (x3_1 : Int32) (ls : Array Slot), ((300 - (x3_1.toInt)).toNat) < n → (0 ≤ (x3_1.toInt) ∧ (x3_1.toInt) ≤ 300) → lv_has ls 4 [(3, .int x3_1), (0, .ref (ad 0)), (1, .int a), (2, .int b)] → W p l e (headSpec wsX11_areInConflict (({ frames := 0, cells := 0, slots := 0, locals := 0 } : Room))).room s m (([.ref (ad 0), .int a, .int b] : List Value).toArray) below meth c s.heap [] 0 0 Q (F0 m 2 ls []) := by
    intro n
    induction n with
    | zero => intro x3_1 ls hm; omega
    | succ n ih2 =>
      intro x3_1 ls hm hg0 hl
      refine lv_iload_n hx hb dX11_areInConflict_2 rfl (lv_at hl 0 rfl) ?_
      refine lv_sipush (v := 300) hx hb dX11_areInConflict_3 (by decide) ?_
      refine lv_icmp_ge (tgt := 108) hx hb dX11_areInConflict_6 (by decide) (fun c_3 => ?_) (fun c_3 => ?_)
      · skip
        have q_3 : (300 : Int) ≤ x3_1.toInt := i_le2 (show (300 : Int32).toInt = (300 : Int) from rfl) (rfl : x3_1.toInt = x3_1.toInt) c_3
        refine lv_iconst (v := 0) hx hb dX11_areInConflict_108 (by decide) ?_
        rw [hQ]
        exact W.zret (v := 0) hx hb hr rfl (fun t ht hW => ⟨0, rfl, trivial, ht⟩) (fun q h => by cases h) dX11_areInConflict_109
      · skip
        have q_3 : x3_1.toInt < (300 : Int) := i_nle2 (show (300 : Int32).toInt = (300 : Int) from rfl) (rfl : x3_1.toInt = x3_1.toInt) c_3
        refine lv_aload_n hx hb dX11_areInConflict_9 rfl (lv_at hl 1 rfl) ?_
        refine va_get (D := D) (ci := 11) (v := .ref (ad 18)) (C := RX11) (T := TX11) (N := 30) hx hb hts inX11 hown hK hP 0 (m_at11 (Nat.le_of_ble_eq_true rfl) rfl) rfl 29 (by decide) lk0 (fun _ h9 => h9) rfl dX11_areInConflict_10 ?_
        refine lv_sipush (v := 300) hx hb dX11_areInConflict_13 (by decide) ?_
        refine lv_iload_n hx hb dX11_areInConflict_16 rfl (lv_at hl 2 rfl) ?_
        refine lv_imul hx hb dX11_areInConflict_17 ?_
        refine lv_topi (fun v_4 ev_4 => ?_)
        have tv_4 : v_4.toInt = (300 : Int) * a.toInt := i_mul (show (300 : Int32).toInt = (300 : Int) from rfl) (rfl : a.toInt = a.toInt) (by omega) (by omega) ev_4
        refine lv_iload_n hx hb dX11_areInConflict_18 rfl (lv_at hl 0 rfl) ?_
        refine lv_iadd hx hb dX11_areInConflict_19 ?_
        refine lv_topi (fun v_5 ev_5 => ?_)
        have tv_5 : v_5.toInt = v_4.toInt + x3_1.toInt := i_add (rfl : v_4.toInt = v_4.toInt) (rfl : x3_1.toInt = x3_1.toInt) (by omega) (by omega) ev_5
        refine va_iald hx hb hK hP 18 0 (m_at12 (Nat.le_of_ble_eq_true rfl) rfl) rfl (g_in (N := 1800) (rfl : v_5.toInt = v_5.toInt) rfl (by omega) (by omega)) dX11_areInConflict_20 ?_
        refine lv_topi (fun v_6 ev_6 => ?_)
        refine lv_aload_n hx hb dX11_areInConflict_21 rfl (lv_at hl 1 rfl) ?_
        refine va_get (D := D) (ci := 11) (v := .ref (ad 18)) (C := RX11) (T := TX11) (N := 30) hx hb hts inX11 hown hK hP 0 (m_at11 (Nat.le_of_ble_eq_true rfl) rfl) rfl 29 (by decide) lk0 (fun _ h9 => h9) rfl dX11_areInConflict_22 ?_
        refine lv_sipush (v := 300) hx hb dX11_areInConflict_25 (by decide) ?_
        refine lv_iload_n hx hb dX11_areInConflict_28 rfl (lv_at hl 3 rfl) ?_
        refine lv_imul hx hb dX11_areInConflict_29 ?_
        refine lv_topi (fun v_7 ev_7 => ?_)
        have tv_7 : v_7.toInt = (300 : Int) * b.toInt := i_mul (show (300 : Int32).toInt = (300 : Int) from rfl) (rfl : b.toInt = b.toInt) (by omega) (by omega) ev_7
        refine lv_iload_n hx hb dX11_areInConflict_30 rfl (lv_at hl 0 rfl) ?_
        refine lv_iadd hx hb dX11_areInConflict_31 ?_
        refine lv_topi (fun v_8 ev_8 => ?_)
        have tv_8 : v_8.toInt = v_7.toInt + x3_1.toInt := i_add (rfl : v_7.toInt = v_7.toInt) (rfl : x3_1.toInt = x3_1.toInt) (by omega) (by omega) ev_8
        refine va_iald hx hb hK hP 18 0 (m_at12 (Nat.le_of_ble_eq_true rfl) rfl) rfl (g_in (N := 1800) (rfl : v_8.toInt = v_8.toInt) rfl (by omega) (by omega)) dX11_areInConflict_32 ?_
        refine lv_topi (fun v_9 ev_9 => ?_)
        refine lv_icmp_ne (tgt := 38) hx hb dX11_areInConflict_33 (by decide) (fun c_10 => ?_) (fun c_10 => ?_)
        · skip
          have q_10 : v_6.toInt ≠ v_9.toInt := i_ne2 (rfl : v_6.toInt = v_6.toInt) (rfl : v_9.toInt = v_9.toInt) c_10
          refine lv_iload_n hx hb dX11_areInConflict_38 rfl (lv_at hl 0 rfl) ?_
          refine lv_if_le (tgt := 102) hx hb dX11_areInConflict_39 (by decide) (fun c_11 => ?_) (fun c_11 => ?_)
          · skip
            have q_11 : x3_1.toInt ≤ (0 : Int) := i_le2 (rfl : x3_1.toInt = x3_1.toInt) (show (0 : Int32).toInt = (0 : Int) from rfl) c_11
            obtain ⟨x3_12, ex3_12⟩ : ∃ y : Int32, y = x3_1 + 1 := ⟨_, rfl⟩
            have tx3_12 : x3_12.toInt = x3_1.toInt + (1 : Int) := i_add (rfl : x3_1.toInt = x3_1.toInt) (show (1 : Int32).toInt = (1 : Int) from rfl) (by omega) (by omega) ex3_12
            refine lv_iinc (v := x3_12) (lv' := [(3, .int x3_12), (0, .ref (ad 0)), (1, .int a), (2, .int b)]) hx hb dX11_areInConflict_102 hl (k := 0) rfl (by rw [ex3_12]; rfl) (by decide) rfl (fun ls hl => ?_)
            refine lv_goto (tgt := 2) hx hb dX11_areInConflict_105 (by decide) ?_
            exact ih2 x3_12 _ (by omega) (by omega) (lv_sub hl [0, 1, 2, 3] rfl)
          · skip
            have q_11 : (0 : Int) < x3_1.toInt := i_nle2 (rfl : x3_1.toInt = x3_1.toInt) (show (0 : Int32).toInt = (0 : Int) from rfl) c_11
            refine lv_aload_n hx hb dX11_areInConflict_42 rfl (lv_at hl 1 rfl) ?_
            refine va_get (D := D) (ci := 11) (v := .ref (ad 18)) (C := RX11) (T := TX11) (N := 30) hx hb hts inX11 hown hK hP 0 (m_at11 (Nat.le_of_ble_eq_true rfl) rfl) rfl 29 (by decide) lk0 (fun _ h9 => h9) rfl dX11_areInConflict_43 ?_
            refine lv_sipush (v := 300) hx hb dX11_areInConflict_46 (by decide) ?_
            refine lv_iload_n hx hb dX11_areInConflict_49 rfl (lv_at hl 2 rfl) ?_
            refine lv_imul hx hb dX11_areInConflict_50 ?_
            refine lv_topi (fun v_13 ev_13 => ?_)
            have tv_13 : v_13.toInt = (300 : Int) * a.toInt := i_mul (show (300 : Int32).toInt = (300 : Int) from rfl) (rfl : a.toInt = a.toInt) (by omega) (by omega) ev_13
            refine lv_iload_n hx hb dX11_areInConflict_51 rfl (lv_at hl 0 rfl) ?_
            refine lv_iadd hx hb dX11_areInConflict_52 ?_
            refine lv_topi (fun v_14 ev_14 => ?_)
            have tv_14 : v_14.toInt = v_13.toInt + x3_1.toInt := i_add (rfl : v_13.toInt = v_13.toInt) (rfl : x3_1.toInt = x3_1.toInt) (by omega) (by omega) ev_14
            refine va_iald hx hb hK hP 18 0 (m_at12 (Nat.le_of_ble_eq_true rfl) rfl) rfl (g_in (N := 1800) (rfl : v_14.toInt = v_14.toInt) rfl (by omega) (by omega)) dX11_areInConflict_53 ?_
            refine lv_topi (fun v_15 ev_15 => ?_)
            refine lv_aload_n hx hb dX11_areInConflict_54 rfl (lv_at hl 1 rfl) ?_
            refine va_get (D := D) (ci := 11) (v := .ref (ad 18)) (C := RX11) (T := TX11) (N := 30) hx hb hts inX11 hown hK hP 0 (m_at11 (Nat.le_of_ble_eq_true rfl) rfl) rfl 29 (by decide) lk0 (fun _ h9 => h9) rfl dX11_areInConflict_55 ?_
            refine lv_sipush (v := 300) hx hb dX11_areInConflict_58 (by decide) ?_
            refine lv_iload_n hx hb dX11_areInConflict_61 rfl (lv_at hl 3 rfl) ?_
            refine lv_imul hx hb dX11_areInConflict_62 ?_
            refine lv_topi (fun v_16 ev_16 => ?_)
            have tv_16 : v_16.toInt = (300 : Int) * b.toInt := i_mul (show (300 : Int32).toInt = (300 : Int) from rfl) (rfl : b.toInt = b.toInt) (by omega) (by omega) ev_16
            refine lv_iload_n hx hb dX11_areInConflict_63 rfl (lv_at hl 0 rfl) ?_
            refine lv_iadd hx hb dX11_areInConflict_64 ?_
            refine lv_topi (fun v_17 ev_17 => ?_)
            have tv_17 : v_17.toInt = v_16.toInt + x3_1.toInt := i_add (rfl : v_16.toInt = v_16.toInt) (rfl : x3_1.toInt = x3_1.toInt) (by omega) (by omega) ev_17
            refine lv_iconst (v := 1) hx hb dX11_areInConflict_65 (by decide) ?_
            refine lv_isub hx hb dX11_areInConflict_66 ?_
            refine lv_topi (fun v_18 ev_18 => ?_)
            have tv_18 : v_18.toInt = v_17.toInt - (1 : Int) := i_sub (rfl : v_17.toInt = v_17.toInt) (show (1 : Int32).toInt = (1 : Int) from rfl) (by omega) (by omega) ev_18
            refine va_iald hx hb hK hP 18 0 (m_at12 (Nat.le_of_ble_eq_true rfl) rfl) rfl (g_in (N := 1800) (rfl : v_18.toInt = v_18.toInt) rfl (by omega) (by omega)) dX11_areInConflict_67 ?_
            refine lv_topi (fun v_19 ev_19 => ?_)
            refine lv_icmp_ne (tgt := 102) hx hb dX11_areInConflict_68 (by decide) (fun c_20 => ?_) (fun c_20 => ?_)
            · skip
              have q_20 : v_15.toInt ≠ v_19.toInt := i_ne2 (rfl : v_15.toInt = v_15.toInt) (rfl : v_19.toInt = v_19.toInt) c_20
              obtain ⟨x3_21, ex3_21⟩ : ∃ y : Int32, y = x3_1 + 1 := ⟨_, rfl⟩
              have tx3_21 : x3_21.toInt = x3_1.toInt + (1 : Int) := i_add (rfl : x3_1.toInt = x3_1.toInt) (show (1 : Int32).toInt = (1 : Int) from rfl) (by omega) (by omega) ex3_21
              refine lv_iinc (v := x3_21) (lv' := [(3, .int x3_21), (0, .ref (ad 0)), (1, .int a), (2, .int b)]) hx hb dX11_areInConflict_102 hl (k := 0) rfl (by rw [ex3_21]; rfl) (by decide) rfl (fun ls hl => ?_)
              refine lv_goto (tgt := 2) hx hb dX11_areInConflict_105 (by decide) ?_
              exact ih2 x3_21 _ (by omega) (by omega) (lv_sub hl [0, 1, 2, 3] rfl)
            · skip
              have q_20 : v_15.toInt = v_19.toInt := i_eq2 (rfl : v_15.toInt = v_15.toInt) (rfl : v_19.toInt = v_19.toInt) c_20
              refine lv_aload_n hx hb dX11_areInConflict_71 rfl (lv_at hl 1 rfl) ?_
              refine va_get (D := D) (ci := 11) (v := .ref (ad 18)) (C := RX11) (T := TX11) (N := 30) hx hb hts inX11 hown hK hP 0 (m_at11 (Nat.le_of_ble_eq_true rfl) rfl) rfl 29 (by decide) lk0 (fun _ h9 => h9) rfl dX11_areInConflict_72 ?_
              refine lv_sipush (v := 300) hx hb dX11_areInConflict_75 (by decide) ?_
              refine lv_iload_n hx hb dX11_areInConflict_78 rfl (lv_at hl 2 rfl) ?_
              refine lv_imul hx hb dX11_areInConflict_79 ?_
              refine lv_topi (fun v_22 ev_22 => ?_)
              have tv_22 : v_22.toInt = (300 : Int) * a.toInt := i_mul (show (300 : Int32).toInt = (300 : Int) from rfl) (rfl : a.toInt = a.toInt) (by omega) (by omega) ev_22
              refine lv_iload_n hx hb dX11_areInConflict_80 rfl (lv_at hl 0 rfl) ?_
              refine lv_iadd hx hb dX11_areInConflict_81 ?_
              refine lv_topi (fun v_23 ev_23 => ?_)
              have tv_23 : v_23.toInt = v_22.toInt + x3_1.toInt := i_add (rfl : v_22.toInt = v_22.toInt) (rfl : x3_1.toInt = x3_1.toInt) (by omega) (by omega) ev_23
              refine lv_iconst (v := 1) hx hb dX11_areInConflict_82 (by decide) ?_
              refine lv_isub hx hb dX11_areInConflict_83 ?_
              refine lv_topi (fun v_24 ev_24 => ?_)
              have tv_24 : v_24.toInt = v_23.toInt - (1 : Int) := i_sub (rfl : v_23.toInt = v_23.toInt) (show (1 : Int32).toInt = (1 : Int) from rfl) (by omega) (by omega) ev_24
              refine va_iald hx hb hK hP 18 0 (m_at12 (Nat.le_of_ble_eq_true rfl) rfl) rfl (g_in (N := 1800) (rfl : v_24.toInt = v_24.toInt) rfl (by omega) (by omega)) dX11_areInConflict_84 ?_
              refine lv_topi (fun v_25 ev_25 => ?_)
              refine lv_aload_n hx hb dX11_areInConflict_85 rfl (lv_at hl 1 rfl) ?_
              refine va_get (D := D) (ci := 11) (v := .ref (ad 18)) (C := RX11) (T := TX11) (N := 30) hx hb hts inX11 hown hK hP 0 (m_at11 (Nat.le_of_ble_eq_true rfl) rfl) rfl 29 (by decide) lk0 (fun _ h9 => h9) rfl dX11_areInConflict_86 ?_
              refine lv_sipush (v := 300) hx hb dX11_areInConflict_89 (by decide) ?_
              refine lv_iload_n hx hb dX11_areInConflict_92 rfl (lv_at hl 3 rfl) ?_
              refine lv_imul hx hb dX11_areInConflict_93 ?_
              refine lv_topi (fun v_26 ev_26 => ?_)
              have tv_26 : v_26.toInt = (300 : Int) * b.toInt := i_mul (show (300 : Int32).toInt = (300 : Int) from rfl) (rfl : b.toInt = b.toInt) (by omega) (by omega) ev_26
              refine lv_iload_n hx hb dX11_areInConflict_94 rfl (lv_at hl 0 rfl) ?_
              refine lv_iadd hx hb dX11_areInConflict_95 ?_
              refine lv_topi (fun v_27 ev_27 => ?_)
              have tv_27 : v_27.toInt = v_26.toInt + x3_1.toInt := i_add (rfl : v_26.toInt = v_26.toInt) (rfl : x3_1.toInt = x3_1.toInt) (by omega) (by omega) ev_27
              refine va_iald hx hb hK hP 18 0 (m_at12 (Nat.le_of_ble_eq_true rfl) rfl) rfl (g_in (N := 1800) (rfl : v_27.toInt = v_27.toInt) rfl (by omega) (by omega)) dX11_areInConflict_96 ?_
              refine lv_topi (fun v_28 ev_28 => ?_)
              refine lv_icmp_ne (tgt := 102) hx hb dX11_areInConflict_97 (by decide) (fun c_29 => ?_) (fun c_29 => ?_)
              · skip
                have q_29 : v_25.toInt ≠ v_28.toInt := i_ne2 (rfl : v_25.toInt = v_25.toInt) (rfl : v_28.toInt = v_28.toInt) c_29
                obtain ⟨x3_30, ex3_30⟩ : ∃ y : Int32, y = x3_1 + 1 := ⟨_, rfl⟩
                have tx3_30 : x3_30.toInt = x3_1.toInt + (1 : Int) := i_add (rfl : x3_1.toInt = x3_1.toInt) (show (1 : Int32).toInt = (1 : Int) from rfl) (by omega) (by omega) ex3_30
                refine lv_iinc (v := x3_30) (lv' := [(3, .int x3_30), (0, .ref (ad 0)), (1, .int a), (2, .int b)]) hx hb dX11_areInConflict_102 hl (k := 0) rfl (by rw [ex3_30]; rfl) (by decide) rfl (fun ls hl => ?_)
                refine lv_goto (tgt := 2) hx hb dX11_areInConflict_105 (by decide) ?_
                exact ih2 x3_30 _ (by omega) (by omega) (lv_sub hl [0, 1, 2, 3] rfl)
              · skip
                have q_29 : v_25.toInt = v_28.toInt := i_eq2 (rfl : v_25.toInt = v_25.toInt) (rfl : v_28.toInt = v_28.toInt) c_29
                refine lv_iconst (v := 1) hx hb dX11_areInConflict_100 (by decide) ?_
                rw [hQ]
                exact W.zret (v := 1) hx hb hr rfl (fun t ht hW => ⟨1, rfl, trivial, ht⟩) (fun q h => by cases h) dX11_areInConflict_101
        · skip
          have q_10 : v_6.toInt = v_9.toInt := i_eq2 (rfl : v_6.toInt = v_6.toInt) (rfl : v_9.toInt = v_9.toInt) c_10
          refine lv_iconst (v := 1) hx hb dX11_areInConflict_36 (by decide) ?_
          rw [hQ]
          exact W.zret (v := 1) hx hb hr rfl (fun t ht hW => ⟨1, rfl, trivial, ht⟩) (fun q h => by cases h) dX11_areInConflict_37
  have zl_31 : (0 : Int32).toInt = (0 : Int) := rfl
  exact loop2 (((300 - ((0 : Int))).toNat) + 1) 0 _ (by omega) (by omega) (lv_sub hl [0, 1, 2, 3] rfl)
set_option maxHeartbeats 4000000 in
set_option maxRecDepth 100000 in
theorem c_X11_conflictsWithout (l : Launch) (D : va_G) (cy : Nat → ClassId) (ad : Nat → Nat) (hI : mInj ad) (sz : Nat) (iv : gIv) (ar : gAr)  (hri : RI iv ar) : Met l yX11_conflictsWithout wsX11_conflictsWithout ({ frames := 6, cells := 0, slots := 0, locals := 145 } : Room) (va_Pc [.ref (ad 0)] (mPre D cy ad sz iv ar)) (va_Qi (fun (r : Int32) (u : gIv × gAr) => RI u.1 u.2 ∧ u.1 0 4 = iv 0 4 ∧ u.1 0 17 = iv 0 17) (mPost D cy ad) (mA ad sz)) 0 0 (mA ad sz) := by
  refine Met.ofW (cc := cX11_conflictsWithout) (maxL := 4) (ret := (some .int)) (by decide) rfl ?_
  intro p e s m args below meth c s₁ B hml hv
  obtain ⟨rfl, rfl, hP, hK, hSt, hNw⟩ := hv
  have hx := B.exec
  have hb := B.bytes
  have hr := B.returns
  have hts := atoms_spec (ws := wsX11_conflictsWithout) B.pre
  have hown : s.vm.findClass RX11 = some m.cls := findClass_of_methodNamed B.named
  have hlocks := B.notSynchronized
  have hS : va_S (mA ad s.heap.size) s.heap s.heap [] := va_S.rf
  have inX11 : ∀ w ∈ u_ws RX11 TX11 30, w ∈ wsX11_conflictsWithout := by decide +kernel
  have lk0 := hts (.fieldLink RX11 69 "FormationPlannerModel" "hasPlan" "Z") (by decide +kernel)
  have lk1 := hts (.fieldLink RX11 9 "FormationPlannerModel" "s" "[I") (by decide +kernel)
  have hl := lv_entry ([.ref (ad 0)]) (n := 4) (Nat.le_of_ble_eq_true rfl)
  rw [lg_entry_eq]
  generalize (lg_sl ([.ref (ad 0)]) ++ List.replicate (4 - (lg_sl ([.ref (ad 0)])).length) Slot.unset).toArray = ls at hl ⊢
  have hl : lv_has ls 4 [(0, .ref (ad 0))] := hl
  obtain ⟨Q, hQ⟩ : ∃ Q, Q = MQ below (va_Qi (fun (r : Int32) (u : gIv × gAr) => RI u.1 u.2 ∧ u.1 0 4 = iv 0 4 ∧ u.1 0 17 = iv 0 17) (mPost D cy ad) (mA ad s.heap.size)) (([.ref (ad 0)] : List Value).toArray) s 0 0 (mA ad s.heap.size) := ⟨_, rfl⟩
  rw [← hQ]
  obtain ⟨⟨hs1, hs2, hs3, hs4, -⟩, -⟩ := id hri.1
  have hp0 := hri.2.2.2.2.2.2.1
  refine lv_aload_n hx hb dX11_conflictsWithout_0 rfl (lv_at hl 0 rfl) ?_
  refine va_get (D := D) (ci := 11) (v := .int (iv 0 15)) (C := RX11) (T := TX11) (N := 30) hx hb hts inX11 hown hK hP 0 (m_at11 (Nat.le_of_ble_eq_true rfl) rfl) rfl 15 (by decide) lk0 (fun _ h9 => h9) rfl dX11_conflictsWithout_1 ?_
  refine lv_if_ne (tgt := 10) hx hb dX11_conflictsWithout_4 (by decide) (fun c_1 => ?_) (fun c_1 => ?_)
  · skip
    have q_1 : (iv 0 15).toInt ≠ (0 : Int) := i_ne2 (rfl : (iv 0 15).toInt = (iv 0 15).toInt) (show (0 : Int32).toInt = (0 : Int) from rfl) c_1
    have hpl0 : PL ar := hri.2.2.2.2.2.2.2 (by omega)
    refine lv_iconst (v := 0) hx hb dX11_conflictsWithout_10 (by decide) ?_
    refine lv_istore_n (lv' := [(1, .int 0), (0, .ref (ad 0))]) hx hb dX11_conflictsWithout_11 rfl hl (by decide) rfl (fun ls hl => ?_)
    refine lv_iconst (v := 0) hx hb dX11_conflictsWithout_12 (by decide) ?_
    refine lv_istore_n (lv' := [(2, .int 0), (1, .int 0), (0, .ref (ad 0))]) hx hb dX11_conflictsWithout_13 rfl hl (by decide) rfl (fun ls hl => ?_)
    have loop5 : ∀ (n : Nat) (x2_2 : Int32) (x1_3 : Int32) (ar_4 : gAr) (H : Heap) (locs : List Loc) (ls : Array Slot), ((6 - (x2_2.toInt)).toNat) < n → (0 ≤ (x2_2.toInt) ∧ (x2_2.toInt) ≤ 6) → (∀ c, c ≠ 5 → c ≠ 6 → c ≠ 18 → ar_4 c = ar c) → (KA ar_4) → va_P D vwCl (MW cy ad iv ar_4) H → va_S (mA ad s.heap.size) s.heap H locs → lv_has ls 4 [(2, .int x2_2), (1, .int x1_3), (0, .ref (ad 0))] → W p l e (headSpec wsX11_conflictsWithout (({ frames := 6, cells := 0, slots := 0, locals := 145 } : Room))).room s m (([.ref (ad 0)] : List Value).toArray) below meth c H locs 0 0 Q (F0 m 14 ls []) := by
      intro n
      induction n with
      | zero => intro x2_2 x1_3 ar_4 H locs ls hm; omega
      | succ n ih5 =>
        intro x2_2 x1_3 ar_4 H locs ls hm hg0 hga hgk hP hS hl
        refine lv_iload_n hx hb dX11_conflictsWithout_14 rfl (lv_at hl 0 rfl) ?_
        refine lv_aload_n hx hb dX11_conflictsWithout_15 rfl (lv_at hl 2 rfl) ?_
        refine va_get (D := D) (ci := 11) (v := .ref (ad 1)) (C := RX11) (T := TX11) (N := 30) hx hb hts inX11 hown hK hP 0 (m_at11 (Nat.le_of_ble_eq_true rfl) rfl) rfl 0 (by decide) lk1 (fun _ h9 => h9) rfl dX11_conflictsWithout_16 ?_
        refine lv_bipush (v := 111) hx hb dX11_conflictsWithout_19 (by decide) ?_
        refine va_iald hx hb hK hP 1 0 (m_at12 (Nat.le_of_ble_eq_true rfl) rfl) rfl (g_in (N := 126) (show (111 : Int32).toInt = (111 : Int) from rfl) rfl (by omega) (by omega)) dX11_conflictsWithout_21 ?_
        refine lv_topi (fun v_6 ev_6 => ?_)
        have hv1 : v_6.toInt = (ar 1 111).toInt := by rw [ev_6, hga 1 (by omega) (by omega) (by omega)]; rfl
        refine lv_icmp_ge (tgt := 66) hx hb dX11_conflictsWithout_22 (by decide) (fun c_7 => ?_) (fun c_7 => ?_)
        · skip
          have q_7 : v_6.toInt ≤ x2_2.toInt := i_le2 (rfl : v_6.toInt = v_6.toInt) (rfl : x2_2.toInt = x2_2.toInt) c_7
          refine lv_iload_n hx hb dX11_conflictsWithout_66 rfl (lv_at hl 1 rfl) ?_
          rw [hQ]
          exact W.iret (v := x1_3) hx hb hr (fun t ht hW => ⟨⟨x1_3, (iv, ar_4), rfl, ⟨hri.way hga hgk, rfl, rfl⟩, by show va_P _ _ _ _; rw [ht]; exact hP⟩, hS.F ht⟩) hS.2.2 dX11_conflictsWithout_67
        · skip
          have q_7 : x2_2.toInt < v_6.toInt := i_nle2 (rfl : v_6.toInt = v_6.toInt) (rfl : x2_2.toInt = x2_2.toInt) c_7
          refine lv_aload_n hx hb dX11_conflictsWithout_25 rfl (lv_at hl 2 rfl) ?_
          refine lv_iload_n hx hb dX11_conflictsWithout_26 rfl (lv_at hl 0 rfl) ?_
          refine m_callv (va_runV (As := [.int x2_2]) (rest := []) ⟨hx, hb, hml, hown, hts⟩ (c_X11_goesAlone l D cy ad hI _ iv ar_4 x2_2 (by omega) (by omega) hgk (by rw [hga 1 (by omega) (by omega) (by omega), hga 9 (by omega) (by omega) (by omega), hga 11 (by omega) (by omega) (by omega), hga 14 (by omega) (by omega) (by omega)]; exact hpl0 (x2_2.toInt).toNat (by omega))) (cwV 1 hts gX11_conflictsWithout_X11_goesAlone rfl rfl rfl (by decide +kernel) ⟨Nat.le_of_ble_eq_true rfl, Nat.le_of_ble_eq_true rfl⟩) (m_preV hP hK hSt hNw hS (m_at11 (Nat.le_of_ble_eq_true rfl) rfl) rfl) rfl rfl hl.1 rfl (lv_room (Nat.le_of_ble_eq_true rfl)) dX11_conflictsWithout_27 ⟨Nat.zero_le _, Nat.zero_le _⟩) hS (fun iv_8 ar_8 H locs w_8 hP hS => ?_)
          try dsimp only at w_8
          have wi_8 := (w_8.1).symm
          subst wi_8
          obtain ⟨-, wa, wk⟩ := w_8
          have hga2 : ∀ c, c ≠ 5 → c ≠ 6 → c ≠ 18 → ar_8 c = ar c := fun c h5 h6 h18 => (wa c h5 h6 h18).trans (hga c h5 h6 h18)
          refine lv_iconst (v := 0) hx hb dX11_conflictsWithout_30 (by decide) ?_
          refine lv_istore_n (lv' := [(3, .int 0), (2, .int x2_2), (1, .int x1_3), (0, .ref (ad 0))]) hx hb dX11_conflictsWithout_31 rfl hl (by decide) rfl (fun ls hl => ?_)
          have loop11 : ∀ (n : Nat) (x3_9 : Int32) (x1_10 : Int32) (ls : Array Slot), (((x2_2.toInt) - (x3_9.toInt)).toNat) < n → (0 ≤ (x3_9.toInt) ∧ (x3_9.toInt) ≤ (x2_2.toInt)) → lv_has ls 4 [(3, .int x3_9), (2, .int x2_2), (1, .int x1_10), (0, .ref (ad 0))] → W p l e (headSpec wsX11_conflictsWithout (({ frames := 6, cells := 0, slots := 0, locals := 145 } : Room))).room s m (([.ref (ad 0)] : List Value).toArray) below meth c H locs 0 0 Q (F0 m 32 ls []) := by
            intro n
            induction n with
            | zero => intro x3_9 x1_10 ls hm; omega
            | succ n ih11 =>
              intro x3_9 x1_10 ls hm hk0 hl
              refine lv_iload_n hx hb dX11_conflictsWithout_32 rfl (lv_at hl 0 rfl) ?_
              refine lv_iload_n hx hb dX11_conflictsWithout_33 rfl (lv_at hl 1 rfl) ?_
              refine lv_icmp_ge (tgt := 60) hx hb dX11_conflictsWithout_34 (by decide) (fun c_12 => ?_) (fun c_12 => ?_)
              · skip
                have q_12 : x2_2.toInt ≤ x3_9.toInt := i_le2 (rfl : x2_2.toInt = x2_2.toInt) (rfl : x3_9.toInt = x3_9.toInt) c_12
                obtain ⟨x2_13, ex2_13⟩ : ∃ y : Int32, y = x2_2 + 1 := ⟨_, rfl⟩
                have tx2_13 : x2_13.toInt = x2_2.toInt + (1 : Int) := i_add (rfl : x2_2.toInt = x2_2.toInt) (show (1 : Int32).toInt = (1 : Int) from rfl) (by omega) (by omega) ex2_13
                refine lv_iinc (v := x2_13) (lv' := [(2, .int x2_13), (3, .int x3_9), (1, .int x1_10), (0, .ref (ad 0))]) hx hb dX11_conflictsWithout_60 hl (k := 1) rfl (by rw [ex2_13]; rfl) (by decide) rfl (fun ls hl => ?_)
                refine lv_goto (tgt := 14) hx hb dX11_conflictsWithout_63 (by decide) ?_
                exact ih5 x2_13 x1_10 ar_8 _ _ _ (by omega) (by omega) hga2 wk hP hS (lv_sub hl [0, 2, 3] rfl)
              · skip
                have q_12 : x3_9.toInt < x2_2.toInt := i_nle2 (rfl : x2_2.toInt = x2_2.toInt) (rfl : x3_9.toInt = x3_9.toInt) c_12
                refine lv_iload_n hx hb dX11_conflictsWithout_37 rfl (lv_at hl 2 rfl) ?_
                refine lv_aload_n hx hb dX11_conflictsWithout_38 rfl (lv_at hl 3 rfl) ?_
                refine lv_iload_n hx hb dX11_conflictsWithout_39 rfl (lv_at hl 1 rfl) ?_
                refine lv_iload_n hx hb dX11_conflictsWithout_40 rfl (lv_at hl 0 rfl) ?_
                refine g_callSi (va_runV (As := [.int x2_2, .int x3_9]) (rest := [.int x1_10]) ⟨hx, hb, hml, hown, hts⟩ (c_X11_areInConflict l D cy ad hI _ iv ar_8 x2_2 x3_9 (by omega) (by omega)) (cwV 2 hts gX11_conflictsWithout_X11_areInConflict rfl rfl rfl (by decide +kernel) ⟨Nat.le_of_ble_eq_true rfl, Nat.le_of_ble_eq_true rfl⟩) (m_preV hP hK hSt hNw hS (m_at11 (Nat.le_of_ble_eq_true rfl) rfl) rfl) rfl rfl hl.1 rfl (lv_room (Nat.le_of_ble_eq_true rfl)) dX11_conflictsWithout_41 ⟨Nat.zero_le _, Nat.zero_le _⟩) (fun r_14 w_14 => ?_)
                try dsimp only at w_14
                refine lv_if_eq (tgt := 51) hx hb dX11_conflictsWithout_44 (by decide) (fun c_15 => ?_) (fun c_15 => ?_)
                · skip
                  have q_15 : r_14.toInt = (0 : Int) := i_eq2 (rfl : r_14.toInt = r_14.toInt) (show (0 : Int32).toInt = (0 : Int) from rfl) c_15
                  refine lv_iconst (v := 0) hx hb dX11_conflictsWithout_51 (by decide) ?_
                  refine lv_iadd hx hb dX11_conflictsWithout_52 ?_
                  refine lv_topi (fun v_16 ev_16 => ?_)
                  refine lv_istore_n (lv' := [(1, .int v_16), (3, .int x3_9), (2, .int x2_2), (0, .ref (ad 0))]) hx hb dX11_conflictsWithout_53 rfl hl (by decide) rfl (fun ls hl => ?_)
                  obtain ⟨x3_17, ex3_17⟩ : ∃ y : Int32, y = x3_9 + 1 := ⟨_, rfl⟩
                  have tx3_17 : x3_17.toInt = x3_9.toInt + (1 : Int) := i_add (rfl : x3_9.toInt = x3_9.toInt) (show (1 : Int32).toInt = (1 : Int) from rfl) (by omega) (by omega) ex3_17
                  refine lv_iinc (v := x3_17) (lv' := [(3, .int x3_17), (1, .int v_16), (2, .int x2_2), (0, .ref (ad 0))]) hx hb dX11_conflictsWithout_54 hl (k := 1) rfl (by rw [ex3_17]; rfl) (by decide) rfl (fun ls hl => ?_)
                  refine lv_goto (tgt := 32) hx hb dX11_conflictsWithout_57 (by decide) ?_
                  exact ih11 x3_17 v_16 _ (by omega) (by omega) (lv_sub hl [0, 2, 1, 3] rfl)
                · skip
                  have q_15 : r_14.toInt ≠ (0 : Int) := i_ne2 (rfl : r_14.toInt = r_14.toInt) (show (0 : Int32).toInt = (0 : Int) from rfl) c_15
                  refine lv_iconst (v := 1) hx hb dX11_conflictsWithout_47 (by decide) ?_
                  refine lv_goto (tgt := 52) hx hb dX11_conflictsWithout_48 (by decide) ?_
                  refine lv_iadd hx hb dX11_conflictsWithout_52 ?_
                  refine lv_topi (fun v_18 ev_18 => ?_)
                  refine lv_istore_n (lv' := [(1, .int v_18), (3, .int x3_9), (2, .int x2_2), (0, .ref (ad 0))]) hx hb dX11_conflictsWithout_53 rfl hl (by decide) rfl (fun ls hl => ?_)
                  obtain ⟨x3_19, ex3_19⟩ : ∃ y : Int32, y = x3_9 + 1 := ⟨_, rfl⟩
                  have tx3_19 : x3_19.toInt = x3_9.toInt + (1 : Int) := i_add (rfl : x3_9.toInt = x3_9.toInt) (show (1 : Int32).toInt = (1 : Int) from rfl) (by omega) (by omega) ex3_19
                  refine lv_iinc (v := x3_19) (lv' := [(3, .int x3_19), (1, .int v_18), (2, .int x2_2), (0, .ref (ad 0))]) hx hb dX11_conflictsWithout_54 hl (k := 1) rfl (by rw [ex3_19]; rfl) (by decide) rfl (fun ls hl => ?_)
                  refine lv_goto (tgt := 32) hx hb dX11_conflictsWithout_57 (by decide) ?_
                  exact ih11 x3_19 v_18 _ (by omega) (by omega) (lv_sub hl [0, 2, 1, 3] rfl)
          have zl_20 : (0 : Int32).toInt = (0 : Int) := rfl
          exact loop11 ((((x2_2.toInt) - ((0 : Int))).toNat) + 1) 0 x1_3 _ (by omega) (by omega) (lv_sub hl [0, 1, 2, 3] rfl)
    have zl_21 : (0 : Int32).toInt = (0 : Int) := rfl
    have zl_22 : (0 : Int32).toInt = (0 : Int) := rfl
    exact loop5 (((6 - ((0 : Int))).toNat) + 1) 0 0 ar _ _ _ (by omega) (by omega) (fun _ _ _ _ => rfl) hri.2.2.2.2.1 hP hS (lv_sub hl [0, 1, 2] rfl)
  · skip
    have q_1 : (iv 0 15).toInt = (0 : Int) := i_eq2 (rfl : (iv 0 15).toInt = (iv 0 15).toInt) (show (0 : Int32).toInt = (0 : Int) from rfl) c_1
    refine lv_bipush (v := (-7)) hx hb dX11_conflictsWithout_7 (by decide) ?_
    rw [hQ]
    exact W.iret (v := (-7)) hx hb hr (fun t ht hW => ⟨⟨(-7), (iv, ar), rfl, ⟨hri, rfl, rfl⟩, by show va_P _ _ _ _; rw [ht]; exact hP⟩, hS.F ht⟩) hS.2.2 dX11_conflictsWithout_9
