set_option maxHeartbeats 4000000 in
set_option maxRecDepth 100000 in
theorem c_J7_fill_53178 (l : Launch) (D : va_G) (cy : Nat → ClassId) (ad : Nat → Nat) (hI : gInj ad) (sz : Nat) (iv : gIv) (ar : gAr) (k : Nat) (hk_k : k < 135) (hd_k : kd k = 12) (b : Int32)  : Met l yJ7_fill_53178 wsJ7_fill_53178 ({ frames := 0, cells := 0, slots := 0, locals := 0 } : Room) (va_Pc [.ref (ad k), .int b] (gPre D cy ad sz iv ar)) (va_Qv (fun (u : gIv × gAr) => u.1 = iv ∧ (∀ j, j ≠ k → u.2 j = ar j) ∧ ∀ j, j < ln k → u.2 k j = b) (gPost D cy ad) (gA ad sz)) 0 0 (gA ad sz) := by
  refine va_MetF (cc := cJ7_fill_53178) (maxL := 4) (ret := none) (by decide +kernel) rfl ?_
  intro p e s m args below meth c s₁ B hml hv
  obtain ⟨rfl, rfl, hP, hK, hSt, hNw⟩ := hv
  have hx := B.exec
  have hb := B.bytes
  have hr := B.returns
  have hts := atoms_spec (ws := wsJ7_fill_53178) B.pre
  have hown : s.vm.findClass RJ7 = some m.cls := findClass_of_methodNamed B.named
  have hlocks := B.notSynchronized
  have hS : va_S (gA ad s.heap.size) s.heap s.heap [] := va_S.rf
  have hl := lv_entry ([.ref (ad k), .int b]) (n := 4) (Nat.le_of_ble_eq_true rfl)
  rw [lg_entry_eq]
  generalize (lg_sl ([.ref (ad k), .int b]) ++ List.replicate (4 - (lg_sl ([.ref (ad k), .int b])).length) Slot.unset).toArray = ls at hl ⊢
  have hl : lv_has ls 4 [(0, .ref (ad k)), (1, .int b)] := hl
  obtain ⟨Q, hQ⟩ : ∃ Q, Q = MQ below (va_Qv (fun (u : gIv × gAr) => u.1 = iv ∧ (∀ j, j ≠ k → u.2 j = ar j) ∧ ∀ j, j < ln k → u.2 k j = b) (gPost D cy ad) (gA ad s.heap.size)) (([.ref (ad k), .int b] : List Value).toArray) s 0 0 (gA ad s.heap.size) := ⟨_, rfl⟩
  rw [← hQ]
  refine lv_iconst (v := 0) hx hb dJ7_fill_53178_0 (by decide) ?_
  refine lv_istore_n (lv' := [(2, .int 0), (0, .ref (ad k)), (1, .int b)]) hx hb dJ7_fill_53178_1 rfl hl (by decide) rfl (fun ls hl => ?_)
  refine lv_aload_n hx hb dJ7_fill_53178_2 rfl (lv_at hl 1 rfl) ?_
  obtain ⟨v_1, ev_1⟩ : ∃ z : Int32, z = Int32.ofNat (ln k) := ⟨_, rfl⟩
  have tv_1 : v_1.toInt = (ln k : Int) ∧ (ln k : Int) ≤ 6588 := g_ln hk_k ev_1
  refine va_alen hx hb hK hP k 0 (g_at12 hk_k hd_k) rfl (v := v_1) ev_1.symm dJ7_fill_53178_3 ?_
  refine lv_istore_n (lv' := [(3, .int v_1), (2, .int 0), (0, .ref (ad k)), (1, .int b)]) hx hb dJ7_fill_53178_4 rfl hl (by decide) rfl (fun ls hl => ?_)
  have loop4 : ∀ (n : Nat) (x2_2 : Int32) (ar_3 : gAr) (H : Heap) (locs : List Loc) (ls : Array Slot), (((v_1.toInt) - (x2_2.toInt)).toNat) < n → (0 ≤ (x2_2.toInt) ∧ (x2_2.toInt) ≤ (ln k : Int)) → (∀ j, j ≠ k → ar_3 j = ar j) → (∀ j : Nat, (j : Int) < (x2_2.toInt) → ar_3 k j = b) → va_P D vwCl (GW cy ad iv ar_3) H → va_S (gA ad s.heap.size) s.heap H locs → lv_has ls 4 [(3, .int v_1), (2, .int x2_2), (0, .ref (ad k)), (1, .int b)] → W p l e (headSpec wsJ7_fill_53178 (({ frames := 0, cells := 0, slots := 0, locals := 0 } : Room))).room s m (([.ref (ad k), .int b] : List Value).toArray) below meth c H locs 0 0 Q (F0 m 5 ls []) := by
    intro n
    induction n with
    | zero => intro x2_2 ar_3 H locs ls hm; omega
    | succ n ih4 =>
      intro x2_2 ar_3 H locs ls hm hg0 hga hgb hP hS hl
      refine lv_iload_n hx hb dJ7_fill_53178_5 rfl (lv_at hl 1 rfl) ?_
      refine lv_iload_n hx hb dJ7_fill_53178_6 rfl (lv_at hl 0 rfl) ?_
      refine lv_icmp_ge (tgt := 20) hx hb dJ7_fill_53178_7 (by decide) (fun c_5 => ?_) (fun c_5 => ?_)
      · skip
        have q_5 : v_1.toInt ≤ x2_2.toInt := i_le2 (rfl : v_1.toInt = v_1.toInt) (rfl : x2_2.toInt = x2_2.toInt) c_5
        rw [hQ]
        exact W.vret hx hb hr (fun t ht hW => ⟨⟨(iv, ar_3), rfl, ⟨rfl, hga, fun j hj => hgb j (by omega)⟩, by show va_P _ _ _ _; rw [ht]; exact hP⟩, hS.F ht⟩) hS.2.2 dJ7_fill_53178_20
      · skip
        have q_5 : x2_2.toInt < v_1.toInt := i_nle2 (rfl : v_1.toInt = v_1.toInt) (rfl : x2_2.toInt = x2_2.toInt) c_5
        refine lv_aload_n hx hb dJ7_fill_53178_10 rfl (lv_at hl 2 rfl) ?_
        refine lv_iload_n hx hb dJ7_fill_53178_11 rfl (lv_at hl 1 rfl) ?_
        refine lv_iload_n hx hb dJ7_fill_53178_12 rfl (lv_at hl 3 rfl) ?_
        refine va_iast hx hb hK hP (gD hI) hS k 0 (g_at12 hk_k hd_k) rfl (g_in (N := (ln k)) (rfl : x2_2.toInt = x2_2.toInt) rfl (by omega) (by omega)) dJ7_fill_53178_13 (fun H locs hP _ hS => ?_)
        rw [g_pt12 hk_k hd_k] at hP
        obtain ⟨ar_6, ear_6⟩ : ∃ z : gAr, z = va_up ar_3 k (upd (ar_3 k) x2_2.toNatClampNeg b) := ⟨_, rfl⟩
        rw [← ear_6] at hP
        have hnb : ∀ j : Nat, (j : Int) < (x2_2.toInt) + 1 → ar_6 k j = b := fun j hj => by
          rw [ear_6, ua_s]
          by_cases hq : j = x2_2.toNatClampNeg
          · rw [hq]; exact pk_us
          · rw [g_un hq]; exact hgb j (by have := g_cN (rfl : x2_2.toInt = _); omega)
        obtain ⟨x2_7, ex2_7⟩ : ∃ y : Int32, y = x2_2 + 1 := ⟨_, rfl⟩
        have tx2_7 : x2_7.toInt = x2_2.toInt + (1 : Int) := i_add (rfl : x2_2.toInt = x2_2.toInt) (show (1 : Int32).toInt = (1 : Int) from rfl) (by omega) (by omega) ex2_7
        refine lv_iinc (v := x2_7) (lv' := [(2, .int x2_7), (3, .int v_1), (0, .ref (ad k)), (1, .int b)]) hx hb dJ7_fill_53178_14 hl (k := 1) rfl (by rw [ex2_7]; rfl) (by decide) rfl (fun ls hl => ?_)
        refine lv_goto (tgt := 5) hx hb dJ7_fill_53178_17 (by decide) ?_
        exact ih4 x2_7 ar_6 _ _ _ (by omega) (by omega) (fun a h => by rw [ear_6, ua_o h]; exact hga a h) (fun j hj => hnb j (by omega)) hP hS (lv_sub hl [1, 0, 2, 3] rfl)
  have zl_8 : (0 : Int32).toInt = (0 : Int) := rfl
  exact loop4 ((((v_1.toInt) - ((0 : Int))).toNat) + 1) 0 ar _ _ _ (by omega) (by omega) (fun _ _ => rfl) (fun j hj => by exfalso; omega) hP hS (lv_sub hl [0, 1, 2, 3] rfl)
set_option maxHeartbeats 4000000 in
set_option maxRecDepth 100000 in
theorem c_X7_free (l : Launch) (D : va_G) (cy : Nat → ClassId) (ad : Nat → Nat) (hI : gInj ad) (sz : Nat) (iv : gIv) (ar : gAr)   : Met l yX7_free wsX7_free ({ frames := 1, cells := 0, slots := 0, locals := 23 } : Room) (va_Pc [.ref (ad 93)] (gPre D cy ad sz iv ar)) (va_Qv (fun (u : gIv × gAr) => u.1 = iv ∧ ∀ j, j ≠ 94 → u.2 j = ar j) (gPost D cy ad) (gA ad sz)) 0 0 (gA ad sz) := by
  refine Met.ofW (cc := cX7_free) (maxL := 1) (ret := none) (by decide) rfl ?_
  intro p e s m args below meth c s₁ B hml hv
  obtain ⟨rfl, rfl, hP, hK, hSt, hNw⟩ := hv
  have hx := B.exec
  have hb := B.bytes
  have hr := B.returns
  have hts := atoms_spec (ws := wsX7_free) B.pre
  have hown : s.vm.findClass RX7 = some m.cls := findClass_of_methodNamed B.named
  have hlocks := B.notSynchronized
  have hS : va_S (gA ad s.heap.size) s.heap s.heap [] := va_S.rf
  have inX7 : ∀ w ∈ u_ws RX7 TX7 3, w ∈ wsX7_free := by decide +kernel
  have lk0 := hts (.fieldLink RX7 9 "FormationPlanner$Router" "holders" "[I") (by decide +kernel)
  have hl := lv_entry ([.ref (ad 93)]) (n := 1) (Nat.le_of_ble_eq_true rfl)
  rw [lg_entry_eq]
  generalize (lg_sl ([.ref (ad 93)]) ++ List.replicate (1 - (lg_sl ([.ref (ad 93)])).length) Slot.unset).toArray = ls at hl ⊢
  have hl : lv_has ls 1 [(0, .ref (ad 93))] := hl
  obtain ⟨Q, hQ⟩ : ∃ Q, Q = MQ below (va_Qv (fun (u : gIv × gAr) => u.1 = iv ∧ ∀ j, j ≠ 94 → u.2 j = ar j) (gPost D cy ad) (gA ad s.heap.size)) (([.ref (ad 93)] : List Value).toArray) s 0 0 (gA ad s.heap.size) := ⟨_, rfl⟩
  rw [← hQ]
  refine lv_aload_n hx hb dX7_free_0 rfl (lv_at hl 0 rfl) ?_
  refine va_get (D := D) (ci := 7) (v := .ref (ad 94)) (C := RX7) (T := TX7) (N := 3) hx hb hts inX7 hown hK hP 93 (g_at7 (Nat.le_of_ble_eq_true rfl) rfl) rfl 1 (by decide) lk0 (fun _ h9 => h9) rfl dX7_free_1 ?_
  refine lv_iconst (v := 0) hx hb dX7_free_4 (by decide) ?_
  have zl_1 : (0 : Int32).toInt = (0 : Int) := rfl
  refine g_callv (va_runS (As := [.ref (ad 94), .int 0]) (rest := []) ⟨hx, hb, hml, hown, hts⟩ (c_J7_fill_53178 l D cy ad hI _ iv ar 94 (Nat.le_of_ble_eq_true rfl) rfl 0) (va_cwS 2 hts gX7_free_J7_fill_53178 rfl rfl rfl (by decide +kernel) ⟨Nat.le_of_ble_eq_true rfl, Nat.le_of_ble_eq_true rfl⟩) (g_preS hP hK hSt hNw hS) rfl rfl hl.1 rfl (lv_room (Nat.le_of_ble_eq_true rfl)) dX7_free_5 ⟨Nat.zero_le _, Nat.zero_le _⟩) hS (fun iv_2 ar_2 H locs w_2 hP hS => ?_)
  try dsimp only at w_2
  rw [hQ]
  exact W.vret hx hb hr (fun t ht hW => ⟨⟨(iv_2, ar_2), rfl, ⟨w_2.1, fun j h => w_2.2.1 j h⟩, by show va_P _ _ _ _; rw [ht]; exact hP⟩, hS.F ht⟩) hS.2.2 dX7_free_8
set_option maxHeartbeats 4000000 in
set_option maxRecDepth 100000 in
theorem c0_takeOrder (l : Launch) (D : va_G) (cy : Nat → ClassId) (ad : Nat → Nat) (hI : gInj ad) (sz : Nat) (iv : gIv) (ar : gAr)  (h9 : (iv 90 9).toInt = 0) : Met l yX6_takeOrder wsX6_takeOrder ({ frames := 0, cells := 0, slots := 0, locals := 0 } : Room) (va_Pc [.ref (ad 90), .ref (ad 74)] (gPre D cy ad sz iv ar)) (va_Sv (fun _ => True)) 0 0 (fun _ => False) := by
  refine Met.ofW (cc := cX6_takeOrder) (maxL := 6) (ret := none) (by decide) rfl ?_
  intro p e s m args below meth c s₁ B hml hv
  obtain ⟨rfl, rfl, hP, hK, hSt, hNw⟩ := hv
  have hx := B.exec
  have hb := B.bytes
  have hr := B.returns
  have hts := atoms_spec (ws := wsX6_takeOrder) B.pre
  have hown : s.vm.findClass RX6 = some m.cls := findClass_of_methodNamed B.named
  have hlocks := B.notSynchronized
  have hS : va_S (gA ad s.heap.size) s.heap s.heap [] := va_S.rf
  have inX6 : ∀ w ∈ u_ws RX6 TX6 11, w ∈ wsX6_takeOrder := by decide +kernel
  have lk0 := hts (.fieldLink RX6 74 "FormationPlanner$Plan" "size" "I") (by decide +kernel)
  have hl := lv_entry ([.ref (ad 90), .ref (ad 74)]) (n := 6) (Nat.le_of_ble_eq_true rfl)
  rw [lg_entry_eq]
  generalize (lg_sl ([.ref (ad 90), .ref (ad 74)]) ++ List.replicate (6 - (lg_sl ([.ref (ad 90), .ref (ad 74)])).length) Slot.unset).toArray = ls at hl ⊢
  have hl : lv_has ls 6 [(0, .ref (ad 90)), (1, .ref (ad 74))] := hl
  obtain ⟨Q, hQ⟩ : ∃ Q, Q = MQ below (va_Sv (fun _ => True)) (([.ref (ad 90), .ref (ad 74)] : List Value).toArray) s 0 0 (fun _ => False) := ⟨_, rfl⟩
  rw [← hQ]
  refine lv_iconst (v := 0) hx hb dX6_takeOrder_0 (by decide) ?_
  refine lv_istore_n (lv' := [(2, .int 0), (0, .ref (ad 90)), (1, .ref (ad 74))]) hx hb dX6_takeOrder_1 rfl hl (by decide) rfl (fun ls hl => ?_)
  refine lv_iload_n hx hb dX6_takeOrder_2 rfl (lv_at hl 0 rfl) ?_
  refine lv_aload_n hx hb dX6_takeOrder_3 rfl (lv_at hl 1 rfl) ?_
  refine va_get (D := D) (ci := 6) (v := .int (iv 90 9)) (C := RX6) (T := TX6) (N := 11) hx hb hts inX6 hown hK hP 90 (g_at6 (Nat.le_of_ble_eq_true rfl) rfl) rfl 9 (by decide) lk0 (fun _ h9 => h9) rfl dX6_takeOrder_4 ?_
  refine lv_icmp_ge (tgt := 104) hx hb dX6_takeOrder_7 (by decide) (fun c_1 => ?_) (fun c_1 => ?_)
  · skip
    have q_1 : (0 : Int) ≤ (0 : Int) := i_le2 h9 (show (0 : Int32).toInt = (0 : Int) from rfl) c_1
    rw [hQ]
    exact W.vret hx hb hr (fun t ht hW => ⟨rfl, trivial, ht⟩) (fun q h => by cases h) dX6_takeOrder_104
  · skip
    have q_1 : (0 : Int) < (0 : Int) := i_nle2 h9 (show (0 : Int32).toInt = (0 : Int) from rfl) c_1
    exfalso; omega
set_option maxHeartbeats 4000000 in
set_option maxRecDepth 100000 in
theorem c0_make (l : Launch) (D : va_G) (cy : Nat → ClassId) (ad : Nat → Nat) (hI : gInj ad) (sz : Nat) (iv : gIv) (ar : gAr)  (h4 : (iv 74 4).toInt = 0) : Met l yX6_make wsX6_make ({ frames := 2, cells := 0, slots := 0, locals := 43 } : Room) (va_Pc [.ref (ad 90), .ref (ad 74)] (gPre D cy ad sz iv ar)) (va_Qi (fun (r : Int32) (u : gIv × gAr) => r.toInt = 0) (gPost D cy ad) (gA ad sz)) 0 0 (gA ad sz) := by
  refine Met.ofW (cc := cX6_make) (maxL := 7) (ret := (some .int)) (by decide) rfl ?_
  intro p e s m args below meth c s₁ B hml hv
  obtain ⟨rfl, rfl, hP, hK, hSt, hNw⟩ := hv
  have hx := B.exec
  have hb := B.bytes
  have hr := B.returns
  have hts := atoms_spec (ws := wsX6_make) B.pre
  have hown : s.vm.findClass RX6 = some m.cls := findClass_of_methodNamed B.named
  have hlocks := B.notSynchronized
  have hS : va_S (gA ad s.heap.size) s.heap s.heap [] := va_S.rf
  have inX0 : ∀ w ∈ u_ws RX0 TX0 9, w ∈ wsX6_make := by decide +kernel
  have inX6 : ∀ w ∈ u_ws RX6 TX6 11, w ∈ wsX6_make := by decide +kernel
  have lk0 := hts (.fieldLink RX6 60 "FormationPlanner$Plan" "now" "I") (by decide +kernel)
  have lk1 := hts (.fieldLink RX6 63 "FormationPlanner$Assigner" "size" "I") (by decide +kernel)
  have lk2 := hts (.methodLink RX6 68 Lib.Math.min.name) (by decide +kernel)
  have lk3 := hts (.static Lib.Math.min.name) (by decide +kernel)
  have lk4 := hts (.initialized "java/lang/Math") (by decide +kernel)
  have lk5 := hts (.code Lib.Math.min.name Lib.Math.min.code 2 (some .int)) (by decide +kernel)
  have lk6 := hts (.fieldLink RX6 74 "FormationPlanner$Plan" "size" "I") (by decide +kernel)
  have lk7 := hts (.fieldLink RX6 48 "FormationPlanner$Plan" "router" "LFormationPlanner$Router;") (by decide +kernel)
  have lk8 := hts (.fieldLink RX6 53 "FormationPlanner$Plan" "stands" "Z") (by decide +kernel)
  have hl := lv_entry ([.ref (ad 90), .ref (ad 74)]) (n := 7) (Nat.le_of_ble_eq_true rfl)
  rw [lg_entry_eq]
  generalize (lg_sl ([.ref (ad 90), .ref (ad 74)]) ++ List.replicate (7 - (lg_sl ([.ref (ad 90), .ref (ad 74)])).length) Slot.unset).toArray = ls at hl ⊢
  have hl : lv_has ls 7 [(0, .ref (ad 90)), (1, .ref (ad 74))] := hl
  obtain ⟨Q, hQ⟩ : ∃ Q, Q = MQ below (va_Qi (fun (r : Int32) (u : gIv × gAr) => r.toInt = 0) (gPost D cy ad) (gA ad s.heap.size)) (([.ref (ad 90), .ref (ad 74)] : List Value).toArray) s 0 0 (gA ad s.heap.size) := ⟨_, rfl⟩
  rw [← hQ]
  refine lv_aload_n hx hb dX6_make_0 rfl (lv_at hl 0 rfl) ?_
  refine g_callv (va_runV (As := []) (rest := []) ⟨hx, hb, hml, hown, hts⟩ (c_X6_discard l D cy ad hI _ iv ar) (cwV 0 hts gX6_make_X6_discard rfl rfl rfl (by decide +kernel) ⟨Nat.le_of_ble_eq_true rfl, Nat.le_of_ble_eq_true rfl⟩) (g_preV hP hK hSt hNw hS (g_at6 (Nat.le_of_ble_eq_true rfl) rfl) rfl) rfl rfl hl.1 rfl (lv_room (Nat.le_of_ble_eq_true rfl)) dX6_make_1 ⟨Nat.zero_le _, Nat.zero_le _⟩) hS (fun iv_1 ar_1 H locs w_1 hP hS => ?_)
  try dsimp only at w_1
  obtain ⟨iv_2, eiv_2⟩ : ∃ z : gIv, z = u2 iv 90 7 0 := ⟨_, rfl⟩
  have eiv_1 : iv_1 = u2 iv_2 90 8 (-1) := by rw [eiv_2]; exact w_1.1
  refine lv_aload_n hx hb dX6_make_4 rfl (lv_at hl 0 rfl) ?_
  refine lv_iconst (v := 0) hx hb dX6_make_5 (by decide) ?_
  refine va_put (D := D) (ci := 6) (v := .int 0) (ty := .int) (C := RX6) (T := TX6) (N := 11) hx hb hts inX6 tyX6 tyX6_ok nmX6 hown hK hP (gD hI) hS 90 (g_at6 (Nat.le_of_ble_eq_true rfl) rfl) rfl 10 (by decide) lk0 (fun _ h9 => h9) rfl (by decide +kernel) rfl rfl (Nat.le_of_ble_eq_true rfl) dX6_make_6 (fun H locs hP _ hS => ?_)
  have hP : va_P D vwCl (GW cy ad (u2 iv_1 90 10 0) ar_1) H := by rw [← g_pt6_10 (Nat.le_of_ble_eq_true rfl) rfl]; exact hP
  obtain ⟨iv_3, eiv_3⟩ : ∃ z : gIv, z = u2 iv_1 90 10 0 := ⟨_, rfl⟩
  rw [← eiv_3] at hP
  refine lv_aload_n hx hb dX6_make_9 rfl (lv_at hl 0 rfl) ?_
  refine lv_aload_n hx hb dX6_make_10 rfl (lv_at hl 1 rfl) ?_
  refine va_get (D := D) (ci := 0) (v := .int (iv_3 74 4)) (C := RX0) (T := TX0) (N := 9) hx hb hts inX0 hown hK hP 74 (g_at0 (Nat.le_of_ble_eq_true rfl) rfl) rfl 4 (by decide) lk1 (fun _ h9 => h9) rfl dX6_make_11 ?_
  have f_4 : iv_3 74 4 = iv 74 4 := by rw [eiv_3, u2_o (by omega)]; rw [eiv_1, u2_o (by omega)]; rw [eiv_2, u2_o (by omega)]
  refine lv_bipush (v := 6) hx hb dX6_make_14 (by decide) ?_
  refine va_mmin (rest := [.ref (ad 90)]) hx hb (hml.trans hl.1.symm) hown lk2 lk3 lk4 lk5 (Nat.le_of_ble_eq_true rfl) (Nat.le_of_ble_eq_true rfl) (Nat.zero_le _) (Nat.zero_le _) dX6_make_16 ?_
  refine lv_topi (fun v_5 ev_5 => ?_)
  have tv_5 : v_5.toInt = min (0 : Int) (6 : Int) := i_min ((congrArg Int32.toInt f_4).trans h4) (show (6 : Int32).toInt = (6 : Int) from rfl) ev_5
  refine va_put (D := D) (ci := 6) (v := .int v_5) (ty := .int) (C := RX6) (T := TX6) (N := 11) hx hb hts inX6 tyX6 tyX6_ok nmX6 hown hK hP (gD hI) hS 90 (g_at6 (Nat.le_of_ble_eq_true rfl) rfl) rfl 9 (by decide) lk6 (fun _ h9 => h9) rfl (by decide +kernel) rfl rfl (Nat.le_of_ble_eq_true rfl) dX6_make_19 (fun H locs hP _ hS => ?_)
  have hP : va_P D vwCl (GW cy ad (u2 iv_3 90 9 v_5) ar_1) H := by rw [← g_pt6_9 (Nat.le_of_ble_eq_true rfl) rfl]; exact hP
  obtain ⟨iv_6, eiv_6⟩ : ∃ z : gIv, z = u2 iv_3 90 9 v_5 := ⟨_, rfl⟩
  rw [← eiv_6] at hP
  refine lv_aload_n hx hb dX6_make_22 rfl (lv_at hl 0 rfl) ?_
  refine lv_aload_n hx hb dX6_make_23 rfl (lv_at hl 1 rfl) ?_
  have f_7 : iv_6 90 9 = v_5 := by rw [eiv_6]; exact u2_s _ _ _ _
  have h9t : (iv_6 90 9).toInt = 0 := (((congrArg Int32.toInt f_7).trans (rfl : v_5.toInt = v_5.toInt))).trans (by omega)
  refine g_callSv (va_runV (As := [.ref (ad 74)]) (rest := []) ⟨hx, hb, hml, hown, hts⟩ (c0_takeOrder l D cy ad hI _ iv_6 ar_1 h9t) (cwV 1 hts gX6_make_X6_takeOrder rfl rfl rfl (by decide +kernel) ⟨Nat.le_of_ble_eq_true rfl, Nat.le_of_ble_eq_true rfl⟩) (g_preV hP hK hSt hNw hS (g_at6 (Nat.le_of_ble_eq_true rfl) rfl) rfl) rfl rfl hl.1 rfl (lv_room (Nat.le_of_ble_eq_true rfl)) dX6_make_24 ⟨Nat.zero_le _, Nat.zero_le _⟩) (fun w_8 => ?_)
  try dsimp only at w_8
  refine lv_aload_n hx hb dX6_make_27 rfl (lv_at hl 0 rfl) ?_
  refine va_get (D := D) (ci := 6) (v := .ref (ad 93)) (C := RX6) (T := TX6) (N := 11) hx hb hts inX6 hown hK hP 90 (g_at6 (Nat.le_of_ble_eq_true rfl) rfl) rfl 3 (by decide) lk7 (fun _ h9 => h9) rfl dX6_make_28 ?_
  refine g_callv (va_runV (As := []) (rest := []) ⟨hx, hb, hml, hown, hts⟩ (c_X7_free l D cy ad hI _ iv_6 ar_1) (cwV 0 hts gX6_make_X7_free rfl rfl rfl (by decide +kernel) ⟨Nat.le_of_ble_eq_true rfl, Nat.le_of_ble_eq_true rfl⟩) (g_preV hP hK hSt hNw hS (g_at7 (Nat.le_of_ble_eq_true rfl) rfl) rfl) rfl rfl hl.1 rfl (lv_room (Nat.le_of_ble_eq_true rfl)) dX6_make_31 ⟨Nat.zero_le _, Nat.zero_le _⟩) hS (fun iv_9 ar_9 H locs w_9 hP hS => ?_)
  try dsimp only at w_9
  refine lv_iconst (v := 0) hx hb dX6_make_34 (by decide) ?_
  refine lv_istore_n (lv' := [(2, .int 0), (0, .ref (ad 90)), (1, .ref (ad 74))]) hx hb dX6_make_35 rfl hl (by decide) rfl (fun ls hl => ?_)
  refine lv_iconst (v := 0) hx hb dX6_make_36 (by decide) ?_
  refine lv_istore_n (lv' := [(3, .int 0), (2, .int 0), (0, .ref (ad 90)), (1, .ref (ad 74))]) hx hb dX6_make_37 rfl hl (by decide) rfl (fun ls hl => ?_)
  refine lv_iload_n hx hb dX6_make_38 rfl (lv_at hl 0 rfl) ?_
  refine lv_aload_n hx hb dX6_make_39 rfl (lv_at hl 2 rfl) ?_
  refine va_get (D := D) (ci := 6) (v := .int (iv_9 90 9)) (C := RX6) (T := TX6) (N := 11) hx hb hts inX6 hown hK hP 90 (g_at6 (Nat.le_of_ble_eq_true rfl) rfl) rfl 9 (by decide) lk6 (fun _ h9 => h9) rfl dX6_make_40 ?_
  have f_10 : iv_9 90 9 = v_5 := by rw [w_9.1]; rw [eiv_6]; exact u2_s _ _ _ _
  refine lv_icmp_ge (tgt := 166) hx hb dX6_make_43 (by decide) (fun c_11 => ?_) (fun c_11 => ?_)
  · skip
    have q_11 : v_5.toInt ≤ (0 : Int) := i_le2 ((congrArg Int32.toInt f_10).trans (rfl : v_5.toInt = v_5.toInt)) (show (0 : Int32).toInt = (0 : Int) from rfl) c_11
    refine lv_aload_n hx hb dX6_make_166 rfl (lv_at hl 2 rfl) ?_
    refine lv_iconst (v := 1) hx hb dX6_make_167 (by decide) ?_
    refine va_put (D := D) (ci := 6) (v := .int 1) (ty := .boolean) (C := RX6) (T := TX6) (N := 11) hx hb hts inX6 tyX6 tyX6_ok nmX6 hown hK hP (gD hI) hS 90 (g_at6 (Nat.le_of_ble_eq_true rfl) rfl) rfl 7 (by decide) lk8 (fun _ h9 => h9) rfl (by decide +kernel) rfl rfl (Nat.le_of_ble_eq_true rfl) dX6_make_168 (fun H locs hP _ hS => ?_)
    have hP : va_P D vwCl (GW cy ad (u2 iv_9 90 7 1) ar_9) H := by rw [← g_pt6_7 (Nat.le_of_ble_eq_true rfl) rfl]; exact hP
    obtain ⟨iv_12, eiv_12⟩ : ∃ z : gIv, z = u2 iv_9 90 7 1 := ⟨_, rfl⟩
    rw [← eiv_12] at hP
    refine lv_iload_n hx hb dX6_make_171 rfl (lv_at hl 1 rfl) ?_
    rw [hQ]
    exact W.iret (v := 0) hx hb hr (fun t ht hW => ⟨⟨0, (iv_12, ar_9), rfl, by have zr : (0 : Int32).toInt = (0 : Int) := (show (0 : Int32).toInt = (0 : Int) from rfl); have z0 := i_l0; have z1 := i_l1; omega, by show va_P _ _ _ _; rw [ht]; exact hP⟩, hS.F ht⟩) hS.2.2 dX6_make_172
  · skip
    have q_11 : (0 : Int) < v_5.toInt := i_nle2 ((congrArg Int32.toInt f_10).trans (rfl : v_5.toInt = v_5.toInt)) (show (0 : Int32).toInt = (0 : Int) from rfl) c_11
    exfalso; omega
set_option maxHeartbeats 4000000 in
set_option maxRecDepth 100000 in
theorem f_X10_plan (l : Launch) (D : va_G) (cy : Nat → ClassId) (ad : Nat → Nat) (hI : gInj ad) (sz : Nat) (iv : gIv) (ar : gAr)  (hF_iv : gFr iv ar) : Met l yX10_plan wsX10_plan ({ frames := 4, cells := 0, slots := 0, locals := 108 } : Room) (va_Pc [.ref (ad 0)] (gPre D cy ad sz iv ar)) (va_Qi (fun (r : Int32) (u : gIv × gAr) => r.toInt = 0) (gPost D cy ad) (gA ad sz)) 0 0 (gA ad sz) := by
  refine Met.ofW (cc := cX10_plan) (maxL := 2) (ret := (some .int)) (by decide) rfl ?_
  intro p e s m args below meth c s₁ B hml hv
  obtain ⟨rfl, rfl, hP, hK, hSt, hNw⟩ := hv
  have hx := B.exec
  have hb := B.bytes
  have hr := B.returns
  have hts := atoms_spec (ws := wsX10_plan) B.pre
  have hown : s.vm.findClass RX10 = some m.cls := findClass_of_methodNamed B.named
  have hlocks := B.notSynchronized
  have hS : va_S (gA ad s.heap.size) s.heap s.heap [] := va_S.rf
  have inX10 : ∀ w ∈ u_ws RX10 TX10 6, w ∈ wsX10_plan := by decide +kernel
  have lk0 := hts (.fieldLink RX10 49 "FormationPlanner" "assigner" "LFormationPlanner$Assigner;") (by decide +kernel)
  have lk1 := hts (.fieldLink RX10 56 "FormationPlanner" "plan" "LFormationPlanner$Plan;") (by decide +kernel)
  have hl := lv_entry ([.ref (ad 0)]) (n := 2) (Nat.le_of_ble_eq_true rfl)
  rw [lg_entry_eq]
  generalize (lg_sl ([.ref (ad 0)]) ++ List.replicate (2 - (lg_sl ([.ref (ad 0)])).length) Slot.unset).toArray = ls at hl ⊢
  have hl : lv_has ls 2 [(0, .ref (ad 0))] := hl
  obtain ⟨Q, hQ⟩ : ∃ Q, Q = MQ below (va_Qi (fun (r : Int32) (u : gIv × gAr) => r.toInt = 0) (gPost D cy ad) (gA ad s.heap.size)) (([.ref (ad 0)] : List Value).toArray) s 0 0 (gA ad s.heap.size) := ⟨_, rfl⟩
  rw [← hQ]
  refine lv_aload_n hx hb dX10_plan_0 rfl (lv_at hl 0 rfl) ?_
  refine va_get (D := D) (ci := 10) (v := .ref (ad 74)) (C := RX10) (T := TX10) (N := 6) hx hb hts inX10 hown hK hP 0 (g_at10 (Nat.le_of_ble_eq_true rfl) rfl) rfl 4 (by decide) lk0 (fun _ h9 => h9) rfl dX10_plan_1 ?_
  refine g_calli (va_runV (As := []) (rest := []) ⟨hx, hb, hml, hown, hts⟩ (c0_assign l D cy ad hI _ iv ar (fr0 hF_iv 4 1 (by decide)) (fr0 hF_iv 6 1 (by decide))) (cwV 0 hts gX10_plan_X0_assign rfl rfl rfl (by decide +kernel) ⟨Nat.le_of_ble_eq_true rfl, Nat.le_of_ble_eq_true rfl⟩) (g_preV hP hK hSt hNw hS (g_at0 (Nat.le_of_ble_eq_true rfl) rfl) rfl) rfl rfl hl.1 rfl (lv_room (Nat.le_of_ble_eq_true rfl)) dX10_plan_4 ⟨Nat.zero_le _, Nat.zero_le _⟩) hS (fun r_1 iv_1 ar_1 H locs w_1 hP hS => ?_)
  try dsimp only at w_1
  have z_1 : r_1.toInt = 0 := w_1.1
  refine lv_istore_n (lv' := [(1, .int r_1), (0, .ref (ad 0))]) hx hb dX10_plan_7 rfl hl (by decide) rfl (fun ls hl => ?_)
  refine lv_iload_n hx hb dX10_plan_8 rfl (lv_at hl 0 rfl) ?_
  refine lv_if_eq (tgt := 16) hx hb dX10_plan_9 (by decide) (fun c_2 => ?_) (fun c_2 => ?_)
  · skip
    have q_2 : (0 : Int) = (0 : Int) := i_eq2 z_1 (show (0 : Int32).toInt = (0 : Int) from rfl) c_2
    refine lv_aload_n hx hb dX10_plan_16 rfl (lv_at hl 1 rfl) ?_
    refine va_get (D := D) (ci := 10) (v := .ref (ad 90)) (C := RX10) (T := TX10) (N := 6) hx hb hts inX10 hown hK hP 0 (g_at10 (Nat.le_of_ble_eq_true rfl) rfl) rfl 5 (by decide) lk1 (fun _ h9 => h9) rfl dX10_plan_17 ?_
    refine lv_aload_n hx hb dX10_plan_20 rfl (lv_at hl 1 rfl) ?_
    refine va_get (D := D) (ci := 10) (v := .ref (ad 74)) (C := RX10) (T := TX10) (N := 6) hx hb hts inX10 hown hK hP 0 (g_at10 (Nat.le_of_ble_eq_true rfl) rfl) rfl 4 (by decide) lk0 (fun _ h9 => h9) rfl dX10_plan_21 ?_
    refine g_calli (va_runV (As := [.ref (ad 74)]) (rest := []) ⟨hx, hb, hml, hown, hts⟩ (c0_make l D cy ad hI _ iv_1 ar_1 w_1.2.1.1) (cwV 1 hts gX10_plan_X6_make rfl rfl rfl (by decide +kernel) ⟨Nat.le_of_ble_eq_true rfl, Nat.le_of_ble_eq_true rfl⟩) (g_preV hP hK hSt hNw hS (g_at6 (Nat.le_of_ble_eq_true rfl) rfl) rfl) rfl rfl hl.1 rfl (lv_room (Nat.le_of_ble_eq_true rfl)) dX10_plan_24 ⟨Nat.zero_le _, Nat.zero_le _⟩) hS (fun r_3 iv_3 ar_3 H locs w_3 hP hS => ?_)
    try dsimp only at w_3
    rw [hQ]
    exact W.iret (v := r_3) hx hb hr (fun t ht hW => ⟨⟨r_3, (iv_3, ar_3), rfl, w_3, by show va_P _ _ _ _; rw [ht]; exact hP⟩, hS.F ht⟩) hS.2.2 dX10_plan_27
  · skip
    have q_2 : (0 : Int) ≠ (0 : Int) := i_ne2 z_1 (show (0 : Int32).toInt = (0 : Int) from rfl) c_2
    exfalso; omega
set_option maxHeartbeats 4000000 in
set_option maxRecDepth 100000 in
theorem f_X10_assignment (l : Launch) (D : va_G) (cy : Nat → ClassId) (ad : Nat → Nat) (hI : gInj ad) (sz : Nat) (iv : gIv) (ar : gAr) (a : Int32) (hF_iv : gFr iv ar) : Met l yX10_assignment wsX10_assignment ({ frames := 4, cells := 0, slots := 0, locals := 108 } : Room) (va_Pc [.ref (ad 0), .int a] (gPre D cy ad sz iv ar)) (va_Qi (fun (r : Int32) (u : gIv × gAr) => (¬ (0 ≤ a.toInt ∧ a.toInt ≤ 3) ∧ r.toInt = -2) ∨ (0 ≤ a.toInt ∧ a.toInt ≤ 1 ∧ r.toInt = 0) ∨ (2 ≤ a.toInt ∧ a.toInt ≤ 3 ∧ r.toInt = 1)) (gPost D cy ad) (gA ad sz)) 0 0 (gA ad sz) := by
  refine Met.ofW (cc := cX10_assignment) (maxL := 3) (ret := (some .int)) (by decide) rfl ?_
  intro p e s m args below meth c s₁ B hml hv
  obtain ⟨rfl, rfl, hP, hK, hSt, hNw⟩ := hv
  have hx := B.exec
  have hb := B.bytes
  have hr := B.returns
  have hts := atoms_spec (ws := wsX10_assignment) B.pre
  have hown : s.vm.findClass RX10 = some m.cls := findClass_of_methodNamed B.named
  have hlocks := B.notSynchronized
  have hS : va_S (gA ad s.heap.size) s.heap s.heap [] := va_S.rf
  have inX0 : ∀ w ∈ u_ws RX0 TX0 9, w ∈ wsX10_assignment := by decide +kernel
  have inX10 : ∀ w ∈ u_ws RX10 TX10 6, w ∈ wsX10_assignment := by decide +kernel
  have lk0 := hts (.fieldLink RX10 49 "FormationPlanner" "assigner" "LFormationPlanner$Assigner;") (by decide +kernel)
  have lk1 := hts (.fieldLink RX10 149 "FormationPlanner$Assigner" "greatest" "I") (by decide +kernel)
  have lk2 := hts (.fieldLink RX10 152 "FormationPlanner$Assigner" "sum" "I") (by decide +kernel)
  have lk3 := hts (.fieldLink RX10 155 "FormationPlanner$Assigner" "alike" "I") (by decide +kernel)
  have lk4 := hts (.fieldLink RX10 158 "FormationPlanner$Assigner" "all" "I") (by decide +kernel)
  have hl := lv_entry ([.ref (ad 0), .int a]) (n := 3) (Nat.le_of_ble_eq_true rfl)
  rw [lg_entry_eq]
  generalize (lg_sl ([.ref (ad 0), .int a]) ++ List.replicate (3 - (lg_sl ([.ref (ad 0), .int a])).length) Slot.unset).toArray = ls at hl ⊢
  have hl : lv_has ls 3 [(0, .ref (ad 0)), (1, .int a)] := hl
  obtain ⟨Q, hQ⟩ : ∃ Q, Q = MQ below (va_Qi (fun (r : Int32) (u : gIv × gAr) => (¬ (0 ≤ a.toInt ∧ a.toInt ≤ 3) ∧ r.toInt = -2) ∨ (0 ≤ a.toInt ∧ a.toInt ≤ 1 ∧ r.toInt = 0) ∨ (2 ≤ a.toInt ∧ a.toInt ≤ 3 ∧ r.toInt = 1)) (gPost D cy ad) (gA ad s.heap.size)) (([.ref (ad 0), .int a] : List Value).toArray) s 0 0 (gA ad s.heap.size) := ⟨_, rfl⟩
  rw [← hQ]
  refine lv_iload_n hx hb dX10_assignment_0 rfl (lv_at hl 1 rfl) ?_
  refine lv_if_lt (tgt := 9) hx hb dX10_assignment_1 (by decide) (fun c_1 => ?_) (fun c_1 => ?_)
  · skip
    have q_1 : a.toInt < (0 : Int) := i_lt2 (rfl : a.toInt = a.toInt) (show (0 : Int32).toInt = (0 : Int) from rfl) c_1
    refine lv_bipush (v := (-2)) hx hb dX10_assignment_9 (by decide) ?_
    rw [hQ]
    exact W.iret (v := (-2)) hx hb hr (fun t ht hW => ⟨⟨(-2), (iv, ar), rfl, by have zr : ((-2) : Int32).toInt = (-2 : Int) := (show ((-2) : Int32).toInt = (-2 : Int) from rfl); have z0 := i_l0; have z1 := i_l1; omega, by show va_P _ _ _ _; rw [ht]; exact hP⟩, hS.F ht⟩) hS.2.2 dX10_assignment_11
  · skip
    have q_1 : (0 : Int) ≤ a.toInt := i_nlt2 (rfl : a.toInt = a.toInt) (show (0 : Int32).toInt = (0 : Int) from rfl) c_1
    refine lv_iload_n hx hb dX10_assignment_4 rfl (lv_at hl 1 rfl) ?_
    refine lv_iconst (v := 3) hx hb dX10_assignment_5 (by decide) ?_
    refine lv_icmp_le (tgt := 12) hx hb dX10_assignment_6 (by decide) (fun c_2 => ?_) (fun c_2 => ?_)
    · skip
      have q_2 : a.toInt ≤ (3 : Int) := i_le2 (rfl : a.toInt = a.toInt) (show (3 : Int32).toInt = (3 : Int) from rfl) c_2
      refine lv_aload_n hx hb dX10_assignment_12 rfl (lv_at hl 0 rfl) ?_
      refine va_get (D := D) (ci := 10) (v := .ref (ad 74)) (C := RX10) (T := TX10) (N := 6) hx hb hts inX10 hown hK hP 0 (g_at10 (Nat.le_of_ble_eq_true rfl) rfl) rfl 4 (by decide) lk0 (fun _ h9 => h9) rfl dX10_assignment_13 ?_
      refine g_calli (va_runV (As := []) (rest := []) ⟨hx, hb, hml, hown, hts⟩ (c0_assign l D cy ad hI _ iv ar (fr0 hF_iv 4 1 (by decide)) (fr0 hF_iv 6 1 (by decide))) (cwV 0 hts gX10_assignment_X0_assign rfl rfl rfl (by decide +kernel) ⟨Nat.le_of_ble_eq_true rfl, Nat.le_of_ble_eq_true rfl⟩) (g_preV hP hK hSt hNw hS (g_at0 (Nat.le_of_ble_eq_true rfl) rfl) rfl) rfl rfl hl.1 rfl (lv_room (Nat.le_of_ble_eq_true rfl)) dX10_assignment_16 ⟨Nat.zero_le _, Nat.zero_le _⟩) hS (fun r_3 iv_3 ar_3 H locs w_3 hP hS => ?_)
      try dsimp only at w_3
      have z_3 : r_3.toInt = 0 := w_3.1
      obtain ⟨_, ⟨wq4, wq5, wq6, wq7, wq8⟩, _, _⟩ := w_3
      refine lv_istore_n (lv' := [(2, .int r_3), (0, .ref (ad 0)), (1, .int a)]) hx hb dX10_assignment_19 rfl hl (by decide) rfl (fun ls hl => ?_)
      refine lv_iload_n hx hb dX10_assignment_20 rfl (lv_at hl 0 rfl) ?_
      refine lv_if_eq (tgt := 26) hx hb dX10_assignment_21 (by decide) (fun c_4 => ?_) (fun c_4 => ?_)
      · skip
        have q_4 : (0 : Int) = (0 : Int) := i_eq2 z_3 (show (0 : Int32).toInt = (0 : Int) from rfl) c_4
        refine lv_iload_n hx hb dX10_assignment_26 rfl (lv_at hl 2 rfl) ?_
        by_cases z_5 : a.toInt = 0
        · skip
          refine lv_tableIn (off := 25) (tgt := 52) hx hb dX10_assignment_27 (by rw [(rfl : a.toInt = a.toInt), z_5]; decide) (by rw [(rfl : a.toInt = a.toInt), z_5]; decide) (by rw [(rfl : a.toInt = a.toInt), z_5]; rfl) (by decide) ?_
          refine lv_aload_n hx hb dX10_assignment_52 rfl (lv_at hl 1 rfl) ?_
          refine va_get (D := D) (ci := 10) (v := .ref (ad 74)) (C := RX10) (T := TX10) (N := 6) hx hb hts inX10 hown hK hP 0 (g_at10 (Nat.le_of_ble_eq_true rfl) rfl) rfl 4 (by decide) lk0 (fun _ h9 => h9) rfl dX10_assignment_53 ?_
          refine va_get (D := D) (ci := 0) (v := .int (iv_3 74 7)) (C := RX0) (T := TX0) (N := 9) hx hb hts inX0 hown hK hP 74 (g_at0 (Nat.le_of_ble_eq_true rfl) rfl) rfl 7 (by decide) lk1 (fun _ h9 => h9) rfl dX10_assignment_56 ?_
          rw [hQ]
          exact W.iret (v := (iv_3 74 7)) hx hb hr (fun t ht hW => ⟨⟨(iv_3 74 7), (iv_3, ar_3), rfl, by have zr : (iv_3 74 7).toInt = (iv_3 74 7).toInt := (rfl : (iv_3 74 7).toInt = (iv_3 74 7).toInt); have z0 := i_l0; have z1 := i_l1; omega, by show va_P _ _ _ _; rw [ht]; exact hP⟩, hS.F ht⟩) hS.2.2 dX10_assignment_59
        by_cases z_6 : a.toInt = 1
        · skip
          refine lv_tableIn (off := 33) (tgt := 60) hx hb dX10_assignment_27 (by rw [(rfl : a.toInt = a.toInt), z_6]; decide) (by rw [(rfl : a.toInt = a.toInt), z_6]; decide) (by rw [(rfl : a.toInt = a.toInt), z_6]; rfl) (by decide) ?_
          refine lv_aload_n hx hb dX10_assignment_60 rfl (lv_at hl 1 rfl) ?_
          refine va_get (D := D) (ci := 10) (v := .ref (ad 74)) (C := RX10) (T := TX10) (N := 6) hx hb hts inX10 hown hK hP 0 (g_at10 (Nat.le_of_ble_eq_true rfl) rfl) rfl 4 (by decide) lk0 (fun _ h9 => h9) rfl dX10_assignment_61 ?_
          refine va_get (D := D) (ci := 0) (v := .int (iv_3 74 8)) (C := RX0) (T := TX0) (N := 9) hx hb hts inX0 hown hK hP 74 (g_at0 (Nat.le_of_ble_eq_true rfl) rfl) rfl 8 (by decide) lk2 (fun _ h9 => h9) rfl dX10_assignment_64 ?_
          rw [hQ]
          exact W.iret (v := (iv_3 74 8)) hx hb hr (fun t ht hW => ⟨⟨(iv_3 74 8), (iv_3, ar_3), rfl, by have zr : (iv_3 74 8).toInt = (iv_3 74 8).toInt := (rfl : (iv_3 74 8).toInt = (iv_3 74 8).toInt); have z0 := i_l0; have z1 := i_l1; omega, by show va_P _ _ _ _; rw [ht]; exact hP⟩, hS.F ht⟩) hS.2.2 dX10_assignment_67
        by_cases z_7 : a.toInt = 2
        · skip
          refine lv_tableIn (off := 41) (tgt := 68) hx hb dX10_assignment_27 (by rw [(rfl : a.toInt = a.toInt), z_7]; decide) (by rw [(rfl : a.toInt = a.toInt), z_7]; decide) (by rw [(rfl : a.toInt = a.toInt), z_7]; rfl) (by decide) ?_
          refine lv_aload_n hx hb dX10_assignment_68 rfl (lv_at hl 1 rfl) ?_
          refine va_get (D := D) (ci := 10) (v := .ref (ad 74)) (C := RX10) (T := TX10) (N := 6) hx hb hts inX10 hown hK hP 0 (g_at10 (Nat.le_of_ble_eq_true rfl) rfl) rfl 4 (by decide) lk0 (fun _ h9 => h9) rfl dX10_assignment_69 ?_
          refine va_get (D := D) (ci := 0) (v := .int (iv_3 74 6)) (C := RX0) (T := TX0) (N := 9) hx hb hts inX0 hown hK hP 74 (g_at0 (Nat.le_of_ble_eq_true rfl) rfl) rfl 6 (by decide) lk3 (fun _ h9 => h9) rfl dX10_assignment_72 ?_
          rw [hQ]
          exact W.iret (v := (iv_3 74 6)) hx hb hr (fun t ht hW => ⟨⟨(iv_3 74 6), (iv_3, ar_3), rfl, by have zr : (iv_3 74 6).toInt = (iv_3 74 6).toInt := (rfl : (iv_3 74 6).toInt = (iv_3 74 6).toInt); have z0 := i_l0; have z1 := i_l1; omega, by show va_P _ _ _ _; rw [ht]; exact hP⟩, hS.F ht⟩) hS.2.2 dX10_assignment_75
        refine lv_tableOut (tgt := 76) hx hb dX10_assignment_27 (by rw [(rfl : a.toInt = a.toInt)]; omega) (by decide) ?_
        refine lv_aload_n hx hb dX10_assignment_76 rfl (lv_at hl 1 rfl) ?_
        refine va_get (D := D) (ci := 10) (v := .ref (ad 74)) (C := RX10) (T := TX10) (N := 6) hx hb hts inX10 hown hK hP 0 (g_at10 (Nat.le_of_ble_eq_true rfl) rfl) rfl 4 (by decide) lk0 (fun _ h9 => h9) rfl dX10_assignment_77 ?_
        refine va_get (D := D) (ci := 0) (v := .int (iv_3 74 5)) (C := RX0) (T := TX0) (N := 9) hx hb hts inX0 hown hK hP 74 (g_at0 (Nat.le_of_ble_eq_true rfl) rfl) rfl 5 (by decide) lk4 (fun _ h9 => h9) rfl dX10_assignment_80 ?_
        rw [hQ]
        exact W.iret (v := (iv_3 74 5)) hx hb hr (fun t ht hW => ⟨⟨(iv_3 74 5), (iv_3, ar_3), rfl, by have zr : (iv_3 74 5).toInt = (iv_3 74 5).toInt := (rfl : (iv_3 74 5).toInt = (iv_3 74 5).toInt); have z0 := i_l0; have z1 := i_l1; omega, by show va_P _ _ _ _; rw [ht]; exact hP⟩, hS.F ht⟩) hS.2.2 dX10_assignment_83
      · skip
        have q_4 : (0 : Int) ≠ (0 : Int) := i_ne2 z_3 (show (0 : Int32).toInt = (0 : Int) from rfl) c_4
        exfalso; omega
    · skip
      have q_2 : (3 : Int) < a.toInt := i_nle2 (rfl : a.toInt = a.toInt) (show (3 : Int32).toInt = (3 : Int) from rfl) c_2
      refine lv_bipush (v := (-2)) hx hb dX10_assignment_9 (by decide) ?_
      rw [hQ]
      exact W.iret (v := (-2)) hx hb hr (fun t ht hW => ⟨⟨(-2), (iv, ar), rfl, by have zr : ((-2) : Int32).toInt = (-2 : Int) := (show ((-2) : Int32).toInt = (-2 : Int) from rfl); have z0 := i_l0; have z1 := i_l1; omega, by show va_P _ _ _ _; rw [ht]; exact hP⟩, hS.F ht⟩) hS.2.2 dX10_assignment_11
set_option maxHeartbeats 4000000 in
set_option maxRecDepth 100000 in
theorem f_X10_greatestWith (l : Launch) (D : va_G) (cy : Nat → ClassId) (ad : Nat → Nat) (hI : gInj ad) (sz : Nat) (iv : gIv) (ar : gAr) (a : Int32) (b : Int32) (hF_iv : gFr iv ar) : Met l yX10_greatestWith wsX10_greatestWith ({ frames := 4, cells := 0, slots := 0, locals := 108 } : Room) (va_Pc [.ref (ad 0), .int a, .int b] (gPre D cy ad sz iv ar)) (va_Qi (fun (r : Int32) (u : gIv × gAr) => (0 ≤ a.toInt ∧ a.toInt < 3 ∧ 0 ≤ b.toInt ∧ b.toInt < 5) ∧ r.toInt = 0 ∨ ¬ (0 ≤ a.toInt ∧ a.toInt < 3 ∧ 0 ≤ b.toInt ∧ b.toInt < 5) ∧ r.toInt = -2) (gPost D cy ad) (gA ad sz)) 0 0 (gA ad sz) := by
  refine Met.ofW (cc := cX10_greatestWith) (maxL := 5) (ret := (some .int)) (by decide) rfl ?_
  intro p e s m args below meth c s₁ B hml hv
  obtain ⟨rfl, rfl, hP, hK, hSt, hNw⟩ := hv
  have hx := B.exec
  have hb := B.bytes
  have hr := B.returns
  have hts := atoms_spec (ws := wsX10_greatestWith) B.pre
  have hown : s.vm.findClass RX10 = some m.cls := findClass_of_methodNamed B.named
  have hlocks := B.notSynchronized
  have hS : va_S (gA ad s.heap.size) s.heap s.heap [] := va_S.rf
  have inX0 : ∀ w ∈ u_ws RX0 TX0 9, w ∈ wsX10_greatestWith := by decide +kernel
  have inX10 : ∀ w ∈ u_ws RX10 TX10 6, w ∈ wsX10_greatestWith := by decide +kernel
  have inX8 : ∀ w ∈ u_ws RX8 TX8 5, w ∈ wsX10_greatestWith := by decide +kernel
  have lk0 := hts (.fieldLink RX10 12 "FormationPlanner" "scene" "LFormationPlanner$Scene;") (by decide +kernel)
  have lk1 := hts (.fieldLink RX10 70 "FormationPlanner$Scene" "winds" "[I") (by decide +kernel)
  have lk2 := hts (.fieldLink RX10 49 "FormationPlanner" "assigner" "LFormationPlanner$Assigner;") (by decide +kernel)
  have lk3 := hts (.fieldLink RX10 149 "FormationPlanner$Assigner" "greatest" "I") (by decide +kernel)
  have hl := lv_entry ([.ref (ad 0), .int a, .int b]) (n := 5) (Nat.le_of_ble_eq_true rfl)
  rw [lg_entry_eq]
  generalize (lg_sl ([.ref (ad 0), .int a, .int b]) ++ List.replicate (5 - (lg_sl ([.ref (ad 0), .int a, .int b])).length) Slot.unset).toArray = ls at hl ⊢
  have hl : lv_has ls 5 [(0, .ref (ad 0)), (1, .int a), (2, .int b)] := hl
  obtain ⟨Q, hQ⟩ : ∃ Q, Q = MQ below (va_Qi (fun (r : Int32) (u : gIv × gAr) => (0 ≤ a.toInt ∧ a.toInt < 3 ∧ 0 ≤ b.toInt ∧ b.toInt < 5) ∧ r.toInt = 0 ∨ ¬ (0 ≤ a.toInt ∧ a.toInt < 3 ∧ 0 ≤ b.toInt ∧ b.toInt < 5) ∧ r.toInt = -2) (gPost D cy ad) (gA ad s.heap.size)) (([.ref (ad 0), .int a, .int b] : List Value).toArray) s 0 0 (gA ad s.heap.size) := ⟨_, rfl⟩
  rw [← hQ]
  refine lv_iload_n hx hb dX10_greatestWith_0 rfl (lv_at hl 1 rfl) ?_
  refine g_callSi (va_runS (As := [.int a]) (rest := []) ⟨hx, hb, hml, hown, hts⟩ (c_X10_isLayer l a) (va_cwS 1 hts gX10_greatestWith_X10_isLayer rfl rfl rfl (by decide +kernel) ⟨Nat.le_of_ble_eq_true rfl, Nat.le_of_ble_eq_true rfl⟩) (g_preT) rfl rfl hl.1 rfl (lv_room (Nat.le_of_ble_eq_true rfl)) dX10_greatestWith_1 ⟨Nat.zero_le _, Nat.zero_le _⟩) (fun r_1 w_1 => ?_)
  try dsimp only at w_1
  refine lv_if_eq (tgt := 14) hx hb dX10_greatestWith_4 (by decide) (fun c_2 => ?_) (fun c_2 => ?_)
  · skip
    have q_2 : r_1.toInt = (0 : Int) := i_eq2 (rfl : r_1.toInt = r_1.toInt) (show (0 : Int32).toInt = (0 : Int) from rfl) c_2
    refine lv_bipush (v := (-2)) hx hb dX10_greatestWith_14 (by decide) ?_
    rw [hQ]
    exact W.iret (v := (-2)) hx hb hr (fun t ht hW => ⟨⟨(-2), (iv, ar), rfl, by have zr : ((-2) : Int32).toInt = (-2 : Int) := (show ((-2) : Int32).toInt = (-2 : Int) from rfl); have z0 := i_l0; have z1 := i_l1; omega, by show va_P _ _ _ _; rw [ht]; exact hP⟩, hS.F ht⟩) hS.2.2 dX10_greatestWith_16
  · skip
    have q_2 : r_1.toInt ≠ (0 : Int) := i_ne2 (rfl : r_1.toInt = r_1.toInt) (show (0 : Int32).toInt = (0 : Int) from rfl) c_2
    refine lv_iload_n hx hb dX10_greatestWith_7 rfl (lv_at hl 2 rfl) ?_
    refine g_callSi (va_runS (As := [.int b]) (rest := []) ⟨hx, hb, hml, hown, hts⟩ (c_X10_isWind l b) (va_cwS 1 hts gX10_greatestWith_X10_isWind rfl rfl rfl (by decide +kernel) ⟨Nat.le_of_ble_eq_true rfl, Nat.le_of_ble_eq_true rfl⟩) (g_preT) rfl rfl hl.1 rfl (lv_room (Nat.le_of_ble_eq_true rfl)) dX10_greatestWith_8 ⟨Nat.zero_le _, Nat.zero_le _⟩) (fun r_3 w_3 => ?_)
    try dsimp only at w_3
    refine lv_if_ne (tgt := 17) hx hb dX10_greatestWith_11 (by decide) (fun c_4 => ?_) (fun c_4 => ?_)
    · skip
      have q_4 : r_3.toInt ≠ (0 : Int) := i_ne2 (rfl : r_3.toInt = r_3.toInt) (show (0 : Int32).toInt = (0 : Int) from rfl) c_4
      refine lv_aload_n hx hb dX10_greatestWith_17 rfl (lv_at hl 0 rfl) ?_
      refine va_get (D := D) (ci := 10) (v := .ref (ad 1)) (C := RX10) (T := TX10) (N := 6) hx hb hts inX10 hown hK hP 0 (g_at10 (Nat.le_of_ble_eq_true rfl) rfl) rfl 0 (by decide) lk0 (fun _ h9 => h9) rfl dX10_greatestWith_18 ?_
      refine va_get (D := D) (ci := 8) (v := .ref (ad 2)) (C := RX8) (T := TX8) (N := 5) hx hb hts inX8 hown hK hP 1 (g_at8 (Nat.le_of_ble_eq_true rfl) rfl) rfl 0 (by decide) lk1 (fun _ h9 => h9) rfl dX10_greatestWith_21 ?_
      refine lv_iload_n hx hb dX10_greatestWith_24 rfl (lv_at hl 1 rfl) ?_
      refine va_iald hx hb hK hP 2 0 (g_at12 (Nat.le_of_ble_eq_true rfl) rfl) rfl (g_in (N := 3) (rfl : a.toInt = a.toInt) rfl (by omega) (by omega)) dX10_greatestWith_25 ?_
      refine lv_topi (fun v_5 ev_5 => ?_)
      refine lv_istore_n (lv' := [(3, .int v_5), (0, .ref (ad 0)), (1, .int a), (2, .int b)]) hx hb dX10_greatestWith_26 rfl hl (by decide) rfl (fun ls hl => ?_)
      refine lv_aload_n hx hb dX10_greatestWith_27 rfl (lv_at hl 1 rfl) ?_
      refine va_get (D := D) (ci := 10) (v := .ref (ad 1)) (C := RX10) (T := TX10) (N := 6) hx hb hts inX10 hown hK hP 0 (g_at10 (Nat.le_of_ble_eq_true rfl) rfl) rfl 0 (by decide) lk0 (fun _ h9 => h9) rfl dX10_greatestWith_28 ?_
      refine va_get (D := D) (ci := 8) (v := .ref (ad 2)) (C := RX8) (T := TX8) (N := 5) hx hb hts inX8 hown hK hP 1 (g_at8 (Nat.le_of_ble_eq_true rfl) rfl) rfl 0 (by decide) lk1 (fun _ h9 => h9) rfl dX10_greatestWith_31 ?_
      refine lv_iload_n hx hb dX10_greatestWith_34 rfl (lv_at hl 2 rfl) ?_
      refine lv_iload_n hx hb dX10_greatestWith_35 rfl (lv_at hl 3 rfl) ?_
      refine va_iast hx hb hK hP (gD hI) hS 2 0 (g_at12 (Nat.le_of_ble_eq_true rfl) rfl) rfl (g_in (N := 3) (rfl : a.toInt = a.toInt) rfl (by omega) (by omega)) dX10_greatestWith_36 (fun H locs hP _ hS => ?_)
      rw [g_pt12 (Nat.le_of_ble_eq_true rfl) rfl] at hP
      obtain ⟨ar_6, ear_6⟩ : ∃ z : gAr, z = va_up ar 2 (upd (ar 2) a.toNatClampNeg b) := ⟨_, rfl⟩
      rw [← ear_6] at hP
      refine lv_aload_n hx hb dX10_greatestWith_37 rfl (lv_at hl 1 rfl) ?_
      refine va_get (D := D) (ci := 10) (v := .ref (ad 74)) (C := RX10) (T := TX10) (N := 6) hx hb hts inX10 hown hK hP 0 (g_at10 (Nat.le_of_ble_eq_true rfl) rfl) rfl 4 (by decide) lk2 (fun _ h9 => h9) rfl dX10_greatestWith_38 ?_
      refine g_calli (va_runV (As := []) (rest := []) ⟨hx, hb, hml, hown, hts⟩ (c0_assign l D cy ad hI _ iv ar_6 (fr0 hF_iv 4 1 (by decide)) (fr0 hF_iv 6 1 (by decide))) (cwV 0 hts gX10_greatestWith_X0_assign rfl rfl rfl (by decide +kernel) ⟨Nat.le_of_ble_eq_true rfl, Nat.le_of_ble_eq_true rfl⟩) (g_preV hP hK hSt hNw hS (g_at0 (Nat.le_of_ble_eq_true rfl) rfl) rfl) rfl rfl hl.1 rfl (lv_room (Nat.le_of_ble_eq_true rfl)) dX10_greatestWith_41 ⟨Nat.zero_le _, Nat.zero_le _⟩) hS (fun r_7 iv_7 ar_7 H locs w_7 hP hS => ?_)
      try dsimp only at w_7
      have z_7 : r_7.toInt = 0 := w_7.1
      obtain ⟨_, ⟨wq4, wq5, wq6, wq7, wq8⟩, _, _⟩ := w_7
      refine lv_istore (lv' := [(4, .int r_7), (3, .int v_5), (0, .ref (ad 0)), (1, .int a), (2, .int b)]) hx hb dX10_greatestWith_44 hl (by decide) rfl (fun ls hl => ?_)
      refine lv_aload_n hx hb dX10_greatestWith_46 rfl (lv_at hl 2 rfl) ?_
      refine va_get (D := D) (ci := 10) (v := .ref (ad 1)) (C := RX10) (T := TX10) (N := 6) hx hb hts inX10 hown hK hP 0 (g_at10 (Nat.le_of_ble_eq_true rfl) rfl) rfl 0 (by decide) lk0 (fun _ h9 => h9) rfl dX10_greatestWith_47 ?_
      refine va_get (D := D) (ci := 8) (v := .ref (ad 2)) (C := RX8) (T := TX8) (N := 5) hx hb hts inX8 hown hK hP 1 (g_at8 (Nat.le_of_ble_eq_true rfl) rfl) rfl 0 (by decide) lk1 (fun _ h9 => h9) rfl dX10_greatestWith_50 ?_
      refine lv_iload_n hx hb dX10_greatestWith_53 rfl (lv_at hl 3 rfl) ?_
      refine lv_iload_n hx hb dX10_greatestWith_54 rfl (lv_at hl 1 rfl) ?_
      refine va_iast hx hb hK hP (gD hI) hS 2 0 (g_at12 (Nat.le_of_ble_eq_true rfl) rfl) rfl (g_in (N := 3) (rfl : a.toInt = a.toInt) rfl (by omega) (by omega)) dX10_greatestWith_55 (fun H locs hP _ hS => ?_)
      rw [g_pt12 (Nat.le_of_ble_eq_true rfl) rfl] at hP
      obtain ⟨ar_8, ear_8⟩ : ∃ z : gAr, z = va_up ar_7 2 (upd (ar_7 2) a.toNatClampNeg v_5) := ⟨_, rfl⟩
      rw [← ear_8] at hP
      refine lv_iload hx hb dX10_greatestWith_56 (lv_at hl 0 rfl) ?_
      refine lv_if_eq (tgt := 66) hx hb dX10_greatestWith_58 (by decide) (fun c_9 => ?_) (fun c_9 => ?_)
      · skip
        have q_9 : (0 : Int) = (0 : Int) := i_eq2 z_7 (show (0 : Int32).toInt = (0 : Int) from rfl) c_9
        refine lv_aload_n hx hb dX10_greatestWith_66 rfl (lv_at hl 2 rfl) ?_
        refine va_get (D := D) (ci := 10) (v := .ref (ad 74)) (C := RX10) (T := TX10) (N := 6) hx hb hts inX10 hown hK hP 0 (g_at10 (Nat.le_of_ble_eq_true rfl) rfl) rfl 4 (by decide) lk2 (fun _ h9 => h9) rfl dX10_greatestWith_67 ?_
        refine va_get (D := D) (ci := 0) (v := .int (iv_7 74 7)) (C := RX0) (T := TX0) (N := 9) hx hb hts inX0 hown hK hP 74 (g_at0 (Nat.le_of_ble_eq_true rfl) rfl) rfl 7 (by decide) lk3 (fun _ h9 => h9) rfl dX10_greatestWith_70 ?_
        rw [hQ]
        exact W.iret (v := (iv_7 74 7)) hx hb hr (fun t ht hW => ⟨⟨(iv_7 74 7), (iv_7, ar_8), rfl, by have zr : (iv_7 74 7).toInt = (iv_7 74 7).toInt := (rfl : (iv_7 74 7).toInt = (iv_7 74 7).toInt); have z0 := i_l0; have z1 := i_l1; omega, by show va_P _ _ _ _; rw [ht]; exact hP⟩, hS.F ht⟩) hS.2.2 dX10_greatestWith_73
      · skip
        have q_9 : (0 : Int) ≠ (0 : Int) := i_ne2 z_7 (show (0 : Int32).toInt = (0 : Int) from rfl) c_9
        exfalso; omega
    · skip
      have q_4 : r_3.toInt = (0 : Int) := i_eq2 (rfl : r_3.toInt = r_3.toInt) (show (0 : Int32).toInt = (0 : Int) from rfl) c_4
      refine lv_bipush (v := (-2)) hx hb dX10_greatestWith_14 (by decide) ?_
      rw [hQ]
      exact W.iret (v := (-2)) hx hb hr (fun t ht hW => ⟨⟨(-2), (iv, ar), rfl, by have zr : ((-2) : Int32).toInt = (-2 : Int) := (show ((-2) : Int32).toInt = (-2 : Int) from rfl); have z0 := i_l0; have z1 := i_l1; omega, by show va_P _ _ _ _; rw [ht]; exact hP⟩, hS.F ht⟩) hS.2.2 dX10_greatestWith_16
