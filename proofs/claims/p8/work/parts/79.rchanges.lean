set_option maxHeartbeats 4000000 in
set_option maxRecDepth 100000 in
theorem c_X11_discards (l : Launch) (D : va_G) (cy : Nat → ClassId) (ad : Nat → Nat) (hI : mInj ad) (sz : Nat) (iv : gIv) (ar : gAr)   : Met l yX11_discards wsX11_discards ({ frames := 0, cells := 0, slots := 0, locals := 0 } : Room) (va_Pc [.ref (ad 0)] (mPre D cy ad sz iv ar)) (va_Qv (fun (u : gIv × gAr) => u.1 = u2 (u2 iv 0 15 0) 0 16 (-1) ∧ (∀ a, a ≠ 6 → u.2 a = ar a) ∧ ∀ g, g < 108 → (u.2 6 g).toInt = 0) (mPost D cy ad) (mA ad sz)) 0 0 (mA ad sz) := by
  refine Met.ofW (cc := cX11_discards) (maxL := 2) (ret := none) (by decide) rfl ?_
  intro p e s m args below meth c s₁ B hml hv
  obtain ⟨rfl, rfl, hP, hK, hSt, hNw⟩ := hv
  have hx := B.exec
  have hb := B.bytes
  have hr := B.returns
  have hts := atoms_spec (ws := wsX11_discards) B.pre
  have hown : s.vm.findClass RX11 = some m.cls := findClass_of_methodNamed B.named
  have hlocks := B.notSynchronized
  have hS : va_S (mA ad s.heap.size) s.heap s.heap [] := va_S.rf
  have inX11 : ∀ w ∈ u_ws RX11 TX11 30, w ∈ wsX11_discards := by decide +kernel
  have lk0 := hts (.fieldLink RX11 69 "FormationPlannerModel" "hasPlan" "Z") (by decide +kernel)
  have lk1 := hts (.fieldLink RX11 35 "FormationPlannerModel" "stuck" "I") (by decide +kernel)
  have lk2 := hts (.fieldLink RX11 25 "FormationPlannerModel" "isKnown" "[Z") (by decide +kernel)
  have hl := lv_entry ([.ref (ad 0)]) (n := 2) (Nat.le_of_ble_eq_true rfl)
  rw [lg_entry_eq]
  generalize (lg_sl ([.ref (ad 0)]) ++ List.replicate (2 - (lg_sl ([.ref (ad 0)])).length) Slot.unset).toArray = ls at hl ⊢
  have hl : lv_has ls 2 [(0, .ref (ad 0))] := hl
  obtain ⟨Q, hQ⟩ : ∃ Q, Q = MQ below (va_Qv (fun (u : gIv × gAr) => u.1 = u2 (u2 iv 0 15 0) 0 16 (-1) ∧ (∀ a, a ≠ 6 → u.2 a = ar a) ∧ ∀ g, g < 108 → (u.2 6 g).toInt = 0) (mPost D cy ad) (mA ad s.heap.size)) (([.ref (ad 0)] : List Value).toArray) s 0 0 (mA ad s.heap.size) := ⟨_, rfl⟩
  rw [← hQ]
  refine lv_aload_n hx hb dX11_discards_0 rfl (lv_at hl 0 rfl) ?_
  refine lv_iconst (v := 0) hx hb dX11_discards_1 (by decide) ?_
  refine va_put (D := D) (ci := 11) (v := .int 0) (ty := .boolean) (C := RX11) (T := TX11) (N := 30) hx hb hts inX11 tyX11 tyX11_ok nmX11 hown hK hP (mD hI) hS 0 (m_at11 (Nat.le_of_ble_eq_true rfl) rfl) rfl 15 (by decide) lk0 (fun _ h9 => h9) rfl (by decide +kernel) rfl rfl (Nat.le_of_ble_eq_true rfl) dX11_discards_2 (fun H locs hP _ hS => ?_)
  have hP : va_P D vwCl (MW cy ad (u2 iv 0 15 0) ar) H := by rw [← m_pt11_15 (Nat.le_of_ble_eq_true rfl) rfl]; exact hP
  obtain ⟨iv_1, eiv_1⟩ : ∃ z : gIv, z = u2 iv 0 15 0 := ⟨_, rfl⟩
  rw [← eiv_1] at hP
  refine lv_aload_n hx hb dX11_discards_5 rfl (lv_at hl 0 rfl) ?_
  refine lv_iconst (v := (-1)) hx hb dX11_discards_6 (by decide) ?_
  refine va_put (D := D) (ci := 11) (v := .int (-1)) (ty := .int) (C := RX11) (T := TX11) (N := 30) hx hb hts inX11 tyX11 tyX11_ok nmX11 hown hK hP (mD hI) hS 0 (m_at11 (Nat.le_of_ble_eq_true rfl) rfl) rfl 16 (by decide) lk1 (fun _ h9 => h9) rfl (by decide +kernel) rfl rfl (Nat.le_of_ble_eq_true rfl) dX11_discards_7 (fun H locs hP _ hS => ?_)
  have hP : va_P D vwCl (MW cy ad (u2 iv_1 0 16 (-1)) ar) H := by rw [← m_pt11_16 (Nat.le_of_ble_eq_true rfl) rfl]; exact hP
  obtain ⟨iv_2, eiv_2⟩ : ∃ z : gIv, z = u2 iv_1 0 16 (-1) := ⟨_, rfl⟩
  rw [← eiv_2] at hP
  refine lv_iconst (v := 0) hx hb dX11_discards_10 (by decide) ?_
  refine lv_istore_n (lv' := [(1, .int 0), (0, .ref (ad 0))]) hx hb dX11_discards_11 rfl hl (by decide) rfl (fun ls hl => ?_)
  have loop5 : ∀ (n : Nat) (x1_3 : Int32) (ar_4 : gAr) (H : Heap) (locs : List Loc) (ls : Array Slot), ((108 - (x1_3.toInt)).toNat) < n → (0 ≤ (x1_3.toInt) ∧ (x1_3.toInt) ≤ 108) → (∀ a, a ≠ 6 → ar_4 a = ar a) → (∀ g : Nat, (g : Int) < (x1_3.toInt) → (ar_4 6 g).toInt = 0) → va_P D vwCl (MW cy ad iv_2 ar_4) H → va_S (mA ad s.heap.size) s.heap H locs → lv_has ls 2 [(1, .int x1_3), (0, .ref (ad 0))] → W p l e (headSpec wsX11_discards (({ frames := 0, cells := 0, slots := 0, locals := 0 } : Room))).room s m (([.ref (ad 0)] : List Value).toArray) below meth c H locs 0 0 Q (F0 m 12 ls []) := by
    intro n
    induction n with
    | zero => intro x1_3 ar_4 H locs ls hm; omega
    | succ n ih5 =>
      intro x1_3 ar_4 H locs ls hm hg0 hga hgz hP hS hl
      refine lv_iload_n hx hb dX11_discards_12 rfl (lv_at hl 0 rfl) ?_
      refine lv_bipush (v := 108) hx hb dX11_discards_13 (by decide) ?_
      refine lv_icmp_ge (tgt := 31) hx hb dX11_discards_15 (by decide) (fun c_6 => ?_) (fun c_6 => ?_)
      · skip
        have q_6 : (108 : Int) ≤ x1_3.toInt := i_le2 (show (108 : Int32).toInt = (108 : Int) from rfl) (rfl : x1_3.toInt = x1_3.toInt) c_6
        rw [hQ]
        exact W.vret hx hb hr (fun t ht hW => ⟨⟨(iv_2, ar_4), rfl, ⟨by show iv_2 = _; rw [eiv_2, eiv_1], hga, fun g hg => hgz g (by omega)⟩, by show va_P _ _ _ _; rw [ht]; exact hP⟩, hS.F ht⟩) hS.2.2 dX11_discards_31
      · skip
        have q_6 : x1_3.toInt < (108 : Int) := i_nle2 (show (108 : Int32).toInt = (108 : Int) from rfl) (rfl : x1_3.toInt = x1_3.toInt) c_6
        refine lv_aload_n hx hb dX11_discards_18 rfl (lv_at hl 1 rfl) ?_
        refine va_get (D := D) (ci := 11) (v := .ref (ad 6)) (C := RX11) (T := TX11) (N := 30) hx hb hts inX11 hown hK hP 0 (m_at11 (Nat.le_of_ble_eq_true rfl) rfl) rfl 8 (by decide) lk2 (fun _ h9 => h9) rfl dX11_discards_19 ?_
        refine lv_iload_n hx hb dX11_discards_22 rfl (lv_at hl 0 rfl) ?_
        refine lv_iconst (v := 0) hx hb dX11_discards_23 (by decide) ?_
        refine va_zast hx hb hK hP (mD hI) hS 6 1 (m_at13 (Nat.le_of_ble_eq_true rfl) rfl) rfl (g_in (N := 108) (rfl : x1_3.toInt = x1_3.toInt) rfl (by omega) (by omega)) dX11_discards_24 (fun H locs hP _ hS => ?_)
        rw [m_pt13 (Nat.le_of_ble_eq_true rfl) rfl] at hP
        obtain ⟨ar_7, ear_7⟩ : ∃ z : gAr, z = va_up ar_4 6 (upd (ar_4 6) x1_3.toNatClampNeg 0) := ⟨_, rfl⟩
        have hP : va_P D vwCl (MW cy ad iv_2 ar_7) H := by rw [ear_7]; exact hP
        have hga2 : ∀ a, a ≠ 6 → ar_7 a = ar a := fun a h => by rw [ear_7, ua_o h]; exact hga a h
        have hgz2 : ∀ g : Nat, (g : Int) < (x1_3.toInt) + 1 → (ar_7 6 g).toInt = 0 := fun g hg => by
          rw [ear_7, ua_s, g_cN (rfl : x1_3.toInt = _)]
          by_cases e : g = (x1_3.toInt).toNat
          · rw [e, pk_us]; rfl
          · rw [pk_un e]; exact hgz g (by omega)
        obtain ⟨x1_8, ex1_8⟩ : ∃ y : Int32, y = x1_3 + 1 := ⟨_, rfl⟩
        have tx1_8 : x1_8.toInt = x1_3.toInt + (1 : Int) := i_add (rfl : x1_3.toInt = x1_3.toInt) (show (1 : Int32).toInt = (1 : Int) from rfl) (by omega) (by omega) ex1_8
        refine lv_iinc (v := x1_8) (lv' := [(1, .int x1_8), (0, .ref (ad 0))]) hx hb dX11_discards_25 hl (k := 0) rfl (by rw [ex1_8]; rfl) (by decide) rfl (fun ls hl => ?_)
        refine lv_goto (tgt := 12) hx hb dX11_discards_28 (by decide) ?_
        exact ih5 x1_8 ar_7 _ _ _ (by omega) (by omega) hga2 (fun g hg => hgz2 g (by omega)) hP hS (lv_sub hl [0, 1] rfl)
  have zl_9 : (0 : Int32).toInt = (0 : Int) := rfl
  exact loop5 (((108 - ((0 : Int))).toNat) + 1) 0 ar _ _ _ (by omega) (by omega) (fun _ _ => rfl) (fun g hg => by exfalso; omega) hP hS (lv_sub hl [0, 1] rfl)
set_option maxHeartbeats 4000000 in
set_option maxRecDepth 100000 in
theorem c_X11_changes (l : Launch) (D : va_G) (cy : Nat → ClassId) (ad : Nat → Nat) (hI : mInj ad) (sz : Nat) (iv : gIv) (ar : gAr)  (hch : 0 ≤ (iv 0 3).toInt ∧ (iv 0 3).toInt ≤ 8) (hpa : PA iv ar) (hsi : SI (ar 1)) : Met l yX11_changes wsX11_changes ({ frames := 1, cells := 0, slots := 0, locals := 21 } : Room) (va_Pc [.ref (ad 0)] (mPre D cy ad sz iv ar)) (va_Qv (fun (u : gIv × gAr) => (∀ x y, ¬ (x = 0 ∧ (y = 3 ∨ y = 15 ∨ y = 16)) → u.1 x y = iv x y) ∧ (∀ c, c ≠ 2 → c ≠ 6 → u.2 c = ar c) ∧ (0 ≤ (u.1 0 3).toInt ∧ (u.1 0 3).toInt ≤ 8) ∧ PA u.1 u.2 ∧ (∀ g, g < 108 → (u.2 6 g).toInt = 0) ∧ (u.1 0 15).toInt = 0) (mPost D cy ad) (mA ad sz)) 0 0 (mA ad sz) := by
  refine Met.ofW (cc := cX11_changes) (maxL := 1) (ret := none) (by decide) rfl ?_
  intro p e s m args below meth c s₁ B hml hv
  obtain ⟨rfl, rfl, hP, hK, hSt, hNw⟩ := hv
  have hx := B.exec
  have hb := B.bytes
  have hr := B.returns
  have hts := atoms_spec (ws := wsX11_changes) B.pre
  have hown : s.vm.findClass RX11 = some m.cls := findClass_of_methodNamed B.named
  have hlocks := B.notSynchronized
  have hS : va_S (mA ad s.heap.size) s.heap s.heap [] := va_S.rf
  have hl := lv_entry ([.ref (ad 0)]) (n := 1) (Nat.le_of_ble_eq_true rfl)
  rw [lg_entry_eq]
  generalize (lg_sl ([.ref (ad 0)]) ++ List.replicate (1 - (lg_sl ([.ref (ad 0)])).length) Slot.unset).toArray = ls at hl ⊢
  have hl : lv_has ls 1 [(0, .ref (ad 0))] := hl
  obtain ⟨Q, hQ⟩ : ∃ Q, Q = MQ below (va_Qv (fun (u : gIv × gAr) => (∀ x y, ¬ (x = 0 ∧ (y = 3 ∨ y = 15 ∨ y = 16)) → u.1 x y = iv x y) ∧ (∀ c, c ≠ 2 → c ≠ 6 → u.2 c = ar c) ∧ (0 ≤ (u.1 0 3).toInt ∧ (u.1 0 3).toInt ≤ 8) ∧ PA u.1 u.2 ∧ (∀ g, g < 108 → (u.2 6 g).toInt = 0) ∧ (u.1 0 15).toInt = 0) (mPost D cy ad) (mA ad s.heap.size)) (([.ref (ad 0)] : List Value).toArray) s 0 0 (mA ad s.heap.size) := ⟨_, rfl⟩
  rw [← hQ]
  refine lv_aload_n hx hb dX11_changes_0 rfl (lv_at hl 0 rfl) ?_
  refine m_callv (va_runV (As := []) (rest := []) ⟨hx, hb, hml, hown, hts⟩ (c_X11_keeps l D cy ad hI _ iv ar hch hpa hsi) (cwV 0 hts gX11_changes_X11_keeps rfl rfl rfl (by decide +kernel) ⟨Nat.le_of_ble_eq_true rfl, Nat.le_of_ble_eq_true rfl⟩) (m_preV hP hK hSt hNw hS (m_at11 (Nat.le_of_ble_eq_true rfl) rfl) rfl) rfl rfl hl.1 rfl (lv_room (Nat.le_of_ble_eq_true rfl)) dX11_changes_1 ⟨Nat.zero_le _, Nat.zero_le _⟩) hS (fun iv_1 ar_1 H locs w_1 hP hS => ?_)
  try dsimp only at w_1
  obtain ⟨_, _, wk3, wk4⟩ := id w_1
  refine lv_aload_n hx hb dX11_changes_4 rfl (lv_at hl 0 rfl) ?_
  refine m_callv (va_runV (As := []) (rest := []) ⟨hx, hb, hml, hown, hts⟩ (c_X11_discards l D cy ad hI _ iv_1 ar_1) (cwV 0 hts gX11_changes_X11_discards rfl rfl rfl (by decide +kernel) ⟨Nat.le_of_ble_eq_true rfl, Nat.le_of_ble_eq_true rfl⟩) (m_preV hP hK hSt hNw hS (m_at11 (Nat.le_of_ble_eq_true rfl) rfl) rfl) rfl rfl hl.1 rfl (lv_room (Nat.le_of_ble_eq_true rfl)) dX11_changes_5 ⟨Nat.zero_le _, Nat.zero_le _⟩) hS (fun iv_2 ar_2 H locs w_2 hP hS => ?_)
  try dsimp only at w_2
  obtain ⟨iv_3, eiv_3⟩ : ∃ z : gIv, z = u2 iv_1 0 15 0 := ⟨_, rfl⟩
  have eiv_2 : iv_2 = u2 iv_3 0 16 (-1) := by rw [eiv_3]; exact w_2.1
  have hd2 := w_2.2.1
  have hd3 := w_2.2.2
  have he3 : iv_2 0 3 = iv_1 0 3 := by rw [w_2.1, u2_o (by omega), u2_o (by omega)]
  have he15 : iv_2 0 15 = 0 := by rw [w_2.1, u2_o (by omega), u2_s]
  rw [hQ]
  exact W.vret hx hb hr (fun t ht hW => ⟨⟨(iv_2, ar_2), rfl, ⟨fun a b h => by show iv_2 a b = iv a b; rw [eiv_2, u2_o (by omega)]; rw [eiv_3, u2_o (by omega)]; rw [w_1.1 a b (by omega)], fun a h2 h6 => by show ar_2 a = ar a; rw [w_2.2.1 a (by omega)]; rw [w_1.2.1 a (by omega)], by show 0 ≤ (iv_2 0 3).toInt ∧ (iv_2 0 3).toInt ≤ 8; rw [he3]; exact wk3, fun k hk => SI.of (wk4 k (by have h9 : (k : Int) < (iv_2 0 3).toInt := hk; rw [he3] at h9; exact h9)) (fun i hi => by show ar_2 2 _ = _; rw [hd2 2 (by omega)]), hd3, by show (iv_2 0 15).toInt = 0; rw [he15]; rfl⟩, by show va_P _ _ _ _; rw [ht]; exact hP⟩, hS.F ht⟩) hS.2.2 dX11_changes_8
