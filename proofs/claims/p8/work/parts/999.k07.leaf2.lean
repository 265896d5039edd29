set_option maxHeartbeats 4000000 in
set_option maxRecDepth 100000 in
theorem c_J9_floorMod_7cf53 (l : Launch) (a : Int32) (b : Int32) (h8 : b.toInt = 8) : Met l yJ9_floorMod_7cf53 wsJ9_floorMod_7cf53 ({ frames := 0, cells := 0, slots := 0, locals := 0 } : Room) (va_Pc [.int a, .int b] (fun _ => True)) (vp_Si (fun r => 0 ≤ r.toInt ∧ r.toInt < 8 ∧ (0 ≤ a.toInt → r.toInt = a.toInt % 8))) 0 0 (fun _ => False) := by
  refine va_MetF (cc := cJ9_floorMod_7cf53) (maxL := 3) (ret := (some .int)) (by decide +kernel) rfl ?_
  intro p e s m args below meth c s₁ B hml hv
  obtain ⟨rfl, -⟩ := hv
  have hx := B.exec
  have hb := B.bytes
  have hr := B.returns
  have hts := atoms_spec (ws := wsJ9_floorMod_7cf53) B.pre
  have hown : s.vm.findClass RJ9 = some m.cls := findClass_of_methodNamed B.named
  have hlocks := B.notSynchronized
  have hl := lv_entry ([.int a, .int b]) (n := 3) (Nat.le_of_ble_eq_true rfl)
  rw [lg_entry_eq]
  generalize (lg_sl ([.int a, .int b]) ++ List.replicate (3 - (lg_sl ([.int a, .int b])).length) Slot.unset).toArray = ls at hl ⊢
  have hl : lv_has ls 3 [(0, .int a), (1, .int b)] := hl
  obtain ⟨Q, hQ⟩ : ∃ Q, Q = MQ below (vp_Si (fun r => 0 ≤ r.toInt ∧ r.toInt < 8 ∧ (0 ≤ a.toInt → r.toInt = a.toInt % 8))) (([.int a, .int b] : List Value).toArray) s 0 0 (fun _ => False) := ⟨_, rfl⟩
  rw [← hQ]
  refine lv_iload_n hx hb dJ9_floorMod_7cf53_0 rfl (lv_at hl 0 rfl) ?_
  refine lv_iload_n hx hb dJ9_floorMod_7cf53_1 rfl (lv_at hl 1 rfl) ?_
  refine lv_irem hx hb dJ9_floorMod_7cf53_2 (fun q => by have := i_eq q; have z := i_l0; omega) ?_
  refine lv_topi (fun v_1 ev_1 => ?_)
  have hm := i_fmod (i_trem h8 ev_1) (rfl : (8 : Int) = 8)
  refine lv_istore_n (lv' := [(2, .int v_1), (0, .int a), (1, .int b)]) hx hb dJ9_floorMod_7cf53_3 rfl hl (by decide) rfl (fun ls hl => ?_)
  refine lv_iload_n hx hb dJ9_floorMod_7cf53_4 rfl (lv_at hl 1 rfl) ?_
  refine lv_iload_n hx hb dJ9_floorMod_7cf53_5 rfl (lv_at hl 2 rfl) ?_
  refine lv_ixor hx hb dJ9_floorMod_7cf53_6 ?_
  refine lv_topi (fun v_2 ev_2 => ?_)
  have hx6 : v_2.toInt < 0 ↔ a.toInt < 0 := by rw [ev_2]; exact i_xneg (by omega)
  refine lv_if_ge (tgt := 18) hx hb dJ9_floorMod_7cf53_7 (by decide) (fun c_3 => ?_) (fun c_3 => ?_)
  · skip
    have q_3 : (0 : Int) ≤ v_2.toInt := i_le2 (show (0 : Int32).toInt = (0 : Int) from rfl) (rfl : v_2.toInt = v_2.toInt) c_3
    refine lv_iload_n hx hb dJ9_floorMod_7cf53_18 rfl (lv_at hl 0 rfl) ?_
    rw [hQ]
    exact W.iret (v := v_1) hx hb hr (fun t ht hW => ⟨v_1, rfl, by have z0 := i_l0; have z1 := i_l1; have zm := i_m1; have z2 := i_m2; omega, ht⟩) (fun q h => by cases h) dJ9_floorMod_7cf53_19
  · skip
    have q_3 : v_2.toInt < (0 : Int) := i_nle2 (show (0 : Int32).toInt = (0 : Int) from rfl) (rfl : v_2.toInt = v_2.toInt) c_3
    refine lv_iload_n hx hb dJ9_floorMod_7cf53_10 rfl (lv_at hl 0 rfl) ?_
    refine lv_if_eq (tgt := 18) hx hb dJ9_floorMod_7cf53_11 (by decide) (fun c_4 => ?_) (fun c_4 => ?_)
    · skip
      have q_4 : v_1.toInt = (0 : Int) := i_eq2 (rfl : v_1.toInt = v_1.toInt) (show (0 : Int32).toInt = (0 : Int) from rfl) c_4
      refine lv_iload_n hx hb dJ9_floorMod_7cf53_18 rfl (lv_at hl 0 rfl) ?_
      rw [hQ]
      exact W.iret (v := v_1) hx hb hr (fun t ht hW => ⟨v_1, rfl, by have z0 := i_l0; have z1 := i_l1; have zm := i_m1; have z2 := i_m2; omega, ht⟩) (fun q h => by cases h) dJ9_floorMod_7cf53_19
    · skip
      have q_4 : v_1.toInt ≠ (0 : Int) := i_ne2 (rfl : v_1.toInt = v_1.toInt) (show (0 : Int32).toInt = (0 : Int) from rfl) c_4
      refine lv_iload_n hx hb dJ9_floorMod_7cf53_14 rfl (lv_at hl 0 rfl) ?_
      refine lv_iload_n hx hb dJ9_floorMod_7cf53_15 rfl (lv_at hl 2 rfl) ?_
      refine lv_iadd hx hb dJ9_floorMod_7cf53_16 ?_
      refine lv_topi (fun v_5 ev_5 => ?_)
      have rg_6 := i_rng v_1
      have rg_7 := i_rng b
      have tv_5 : v_5.toInt = v_1.toInt + b.toInt := i_add (rfl : v_1.toInt = v_1.toInt) (rfl : b.toInt = b.toInt) (by omega) (by omega) ev_5
      rw [hQ]
      exact W.iret (v := v_5) hx hb hr (fun t ht hW => ⟨v_5, rfl, by have z0 := i_l0; have z1 := i_l1; have zm := i_m1; have z2 := i_m2; omega, ht⟩) (fun q h => by cases h) dJ9_floorMod_7cf53_17
set_option maxHeartbeats 4000000 in
set_option maxRecDepth 100000 in
theorem c_X5_copyFrom (l : Launch) (D : va_G) (cy : Nat → ClassId) (ad : Nat → Nat) (hI : gInj ad) (sz : Nat) (iv : gIv) (ar : gAr) (k : Nat) (hk : k < 135) (hd : kd k = 5) (k2 : Nat) (hk_k2 : k2 < 135) (hd_k2 : kd k2 = 5)  : Met l yX5_copyFrom wsX5_copyFrom ({ frames := 1, cells := 0, slots := 0, locals := 40 } : Room) (va_Pc [.ref (ad k), .ref (ad k2)] (gPre D cy ad sz iv ar)) (va_Qv (fun (u : gIv × gAr) => u.1 = u2 iv k 1 (iv k2 1) ∧ ∀ a, a ≠ k + 1 → u.2 a = ar a) (gPost D cy ad) (gA ad sz)) 0 0 (gA ad sz) := by
  refine Met.ofW (cc := cX5_copyFrom) (maxL := 2) (ret := none) (by decide) rfl ?_
  intro p e s m args below meth c s₁ B hml hv
  obtain ⟨rfl, rfl, hP, hK, hSt, hNw⟩ := hv
  have hx := B.exec
  have hb := B.bytes
  have hr := B.returns
  have hts := atoms_spec (ws := wsX5_copyFrom) B.pre
  have hown : s.vm.findClass RX5 = some m.cls := findClass_of_methodNamed B.named
  have hlocks := B.notSynchronized
  have hS : va_S (gA ad s.heap.size) s.heap s.heap [] := va_S.rf
  have inX5 : ∀ w ∈ u_ws RX5 TX5 2, w ∈ wsX5_copyFrom := by decide +kernel
  have lk0 := hts (.fieldLink RX5 9 "FormationPlanner$Places" "cells" "[I") (by decide +kernel)
  have lk1 := hts (.methodLink RX5 23 arraycopyName) (by decide +kernel)
  have lk2 := hts (.native arraycopyName) (by decide +kernel)
  have lk3 := hts (.static arraycopyName) (by decide +kernel)
  have lk4 := hts (.initialized "java/lang/System") (by decide +kernel)
  have lk5 := hts (.fieldLink RX5 15 "FormationPlanner$Places" "size" "I") (by decide +kernel)
  have hl := lv_entry ([.ref (ad k), .ref (ad k2)]) (n := 2) (Nat.le_of_ble_eq_true rfl)
  rw [lg_entry_eq]
  generalize (lg_sl ([.ref (ad k), .ref (ad k2)]) ++ List.replicate (2 - (lg_sl ([.ref (ad k), .ref (ad k2)])).length) Slot.unset).toArray = ls at hl ⊢
  have hl : lv_has ls 2 [(0, .ref (ad k)), (1, .ref (ad k2))] := hl
  obtain ⟨Q, hQ⟩ : ∃ Q, Q = MQ below (va_Qv (fun (u : gIv × gAr) => u.1 = u2 iv k 1 (iv k2 1) ∧ ∀ a, a ≠ k + 1 → u.2 a = ar a) (gPost D cy ad) (gA ad s.heap.size)) (([.ref (ad k), .ref (ad k2)] : List Value).toArray) s 0 0 (gA ad s.heap.size) := ⟨_, rfl⟩
  rw [← hQ]
  refine lv_aload_n hx hb dX5_copyFrom_0 rfl (lv_at hl 1 rfl) ?_
  refine va_get (D := D) (ci := 5) (v := .ref (ad (k2 + 1))) (C := RX5) (T := TX5) (N := 2) hx hb hts inX5 hown hK hP k2 (g_at5 hk_k2 hd_k2) rfl 0 (by decide) lk0 (fun _ h9 => h9) rfl dX5_copyFrom_1 ?_
  refine lv_iconst (v := 0) hx hb dX5_copyFrom_4 (by decide) ?_
  refine lv_aload_n hx hb dX5_copyFrom_5 rfl (lv_at hl 0 rfl) ?_
  refine va_get (D := D) (ci := 5) (v := .ref (ad (k + 1))) (C := RX5) (T := TX5) (N := 2) hx hb hts inX5 hown hK hP k (g_at5 hk hd) rfl 0 (by decide) lk0 (fun _ h9 => h9) rfl dX5_copyFrom_6 ?_
  refine lv_iconst (v := 0) hx hb dX5_copyFrom_9 (by decide) ?_
  refine lv_bipush (v := 6) hx hb dX5_copyFrom_10 (by decide) ?_
  refine va_copyi (rest := []) hx hb (hml.trans hl.1.symm) hown lk1 lk2 lk3 lk4 hK hP (gD hI) hS (k2 + 1) (k + 1) 0 0 (g_at12 (g_k5_0 hk_k2 hd_k2).1 (g_k5_0 hk_k2 hd_k2).2) (g_at12 (g_k5_0 hk hd).1 (g_k5_0 hk hd).2) rfl rfl rfl (by decide) (by decide) (by decide) (g_le3 (N := 6) (g_l5_0 hk_k2 hd_k2) (by decide)) (g_le3 (N := 6) (g_l5_0 hk hd) (by decide)) (fun i _ => rfl) (Nat.le_of_ble_eq_true rfl) (Nat.le_of_ble_eq_true rfl) dX5_copyFrom_12 (fun H locs hP _ hS => ?_)
  rw [g_pt12 (g_k5_0 hk hd).1 (g_k5_0 hk hd).2] at hP
  obtain ⟨ar_1, ear_1⟩ : ∃ z : gAr, z = va_up ar (k + 1) (va_cpy (ar (k2 + 1)) (ar (k + 1)) 0 0 (6 : Int32).toNatClampNeg) := ⟨_, rfl⟩
  have hP : va_P D vwCl (GW cy ad iv ar_1) H := by rw [ear_1]; exact hP
  refine lv_aload_n hx hb dX5_copyFrom_15 rfl (lv_at hl 0 rfl) ?_
  refine lv_aload_n hx hb dX5_copyFrom_16 rfl (lv_at hl 1 rfl) ?_
  refine va_get (D := D) (ci := 5) (v := .int (iv k2 1)) (C := RX5) (T := TX5) (N := 2) hx hb hts inX5 hown hK hP k2 (g_at5 hk_k2 hd_k2) rfl 1 (by decide) lk5 (fun _ h9 => h9) rfl dX5_copyFrom_17 ?_
  refine va_put (D := D) (ci := 5) (v := .int (iv k2 1)) (ty := .int) (C := RX5) (T := TX5) (N := 2) hx hb hts inX5 tyX5 tyX5_ok nmX5 hown hK hP (gD hI) hS k (g_at5 hk hd) rfl 1 (by decide) lk5 (fun _ h9 => h9) rfl (by decide +kernel) rfl rfl (Nat.le_of_ble_eq_true rfl) dX5_copyFrom_20 (fun H locs hP _ hS => ?_)
  have hP : va_P D vwCl (GW cy ad (u2 iv k 1 (iv k2 1)) ar_1) H := by rw [← g_pt5_1 hk hd]; exact hP
  obtain ⟨iv_2, eiv_2⟩ : ∃ z : gIv, z = u2 iv k 1 (iv k2 1) := ⟨_, rfl⟩
  rw [← eiv_2] at hP
  rw [hQ]
  exact W.vret hx hb hr (fun t ht hW => ⟨⟨(iv_2, ar_1), rfl, ⟨eiv_2, fun a h => by show ar_1 a = ar a; rw [ear_1, ua_o (h)]⟩, by show va_P _ _ _ _; rw [ht]; exact hP⟩, hS.F ht⟩) hS.2.2 dX5_copyFrom_23
set_option maxHeartbeats 4000000 in
set_option maxRecDepth 100000 in
theorem c_X8_copyFrom (l : Launch) (D : va_G) (cy : Nat → ClassId) (ad : Nat → Nat) (hI : gInj ad) (sz : Nat) (iv : gIv) (ar : gAr) (k : Nat) (hk : k < 135) (hd : kd k = 8) (k2 : Nat) (hk_k2 : k2 < 135) (hd_k2 : kd k2 = 8) (hne : k + 7 ≤ k2 ∨ k2 + 7 ≤ k) : Met l yX8_copyFrom wsX8_copyFrom ({ frames := 2, cells := 0, slots := 0, locals := 61 } : Room) (va_Pc [.ref (ad k), .ref (ad k2)] (gPre D cy ad sz iv ar)) (va_Qv (fun (u : gIv × gAr) => (∀ a b, (a < k ∨ k + 7 ≤ a) → u.1 a b = iv a b) ∧ (∀ a, (a < k ∨ k + 7 ≤ a) → u.2 a = ar a) ∧ (u.1 (k + 3) 1 = iv (k2 + 3) 1 ∧ u.1 (k + 5) 1 = iv (k2 + 5) 1)) (gPost D cy ad) (gA ad sz)) 0 0 (gA ad sz) := by
  refine Met.ofW (cc := cX8_copyFrom) (maxL := 2) (ret := none) (by decide) rfl ?_
  intro p e s m args below meth c s₁ B hml hv
  obtain ⟨rfl, rfl, hP, hK, hSt, hNw⟩ := hv
  have hx := B.exec
  have hb := B.bytes
  have hr := B.returns
  have hts := atoms_spec (ws := wsX8_copyFrom) B.pre
  have hown : s.vm.findClass RX8 = some m.cls := findClass_of_methodNamed B.named
  have hlocks := B.notSynchronized
  have hS : va_S (gA ad s.heap.size) s.heap s.heap [] := va_S.rf
  have inX8 : ∀ w ∈ u_ws RX8 TX8 5, w ∈ wsX8_copyFrom := by decide +kernel
  have lk0 := hts (.fieldLink RX8 9 "FormationPlanner$Scene" "winds" "[I") (by decide +kernel)
  have lk1 := hts (.methodLink RX8 43 arraycopyName) (by decide +kernel)
  have lk2 := hts (.native arraycopyName) (by decide +kernel)
  have lk3 := hts (.static arraycopyName) (by decide +kernel)
  have lk4 := hts (.initialized "java/lang/System") (by decide +kernel)
  have lk5 := hts (.fieldLink RX8 15 "FormationPlanner$Scene" "obstacles" "[I") (by decide +kernel)
  have lk6 := hts (.fieldLink RX8 21 "FormationPlanner$Scene" "drones" "LFormationPlanner$Places;") (by decide +kernel)
  have lk7 := hts (.fieldLink RX8 25 "FormationPlanner$Scene" "slots" "LFormationPlanner$Places;") (by decide +kernel)
  have lk8 := hts (.fieldLink RX8 53 "FormationPlanner$Scene" "flown" "I") (by decide +kernel)
  have hl := lv_entry ([.ref (ad k), .ref (ad k2)]) (n := 2) (Nat.le_of_ble_eq_true rfl)
  rw [lg_entry_eq]
  generalize (lg_sl ([.ref (ad k), .ref (ad k2)]) ++ List.replicate (2 - (lg_sl ([.ref (ad k), .ref (ad k2)])).length) Slot.unset).toArray = ls at hl ⊢
  have hl : lv_has ls 2 [(0, .ref (ad k)), (1, .ref (ad k2))] := hl
  obtain ⟨Q, hQ⟩ : ∃ Q, Q = MQ below (va_Qv (fun (u : gIv × gAr) => (∀ a b, (a < k ∨ k + 7 ≤ a) → u.1 a b = iv a b) ∧ (∀ a, (a < k ∨ k + 7 ≤ a) → u.2 a = ar a) ∧ (u.1 (k + 3) 1 = iv (k2 + 3) 1 ∧ u.1 (k + 5) 1 = iv (k2 + 5) 1)) (gPost D cy ad) (gA ad s.heap.size)) (([.ref (ad k), .ref (ad k2)] : List Value).toArray) s 0 0 (gA ad s.heap.size) := ⟨_, rfl⟩
  rw [← hQ]
  refine lv_aload_n hx hb dX8_copyFrom_0 rfl (lv_at hl 1 rfl) ?_
  refine va_get (D := D) (ci := 8) (v := .ref (ad (k2 + 1))) (C := RX8) (T := TX8) (N := 5) hx hb hts inX8 hown hK hP k2 (g_at8 hk_k2 hd_k2) rfl 0 (by decide) lk0 (fun _ h9 => h9) rfl dX8_copyFrom_1 ?_
  refine lv_iconst (v := 0) hx hb dX8_copyFrom_4 (by decide) ?_
  refine lv_aload_n hx hb dX8_copyFrom_5 rfl (lv_at hl 0 rfl) ?_
  refine va_get (D := D) (ci := 8) (v := .ref (ad (k + 1))) (C := RX8) (T := TX8) (N := 5) hx hb hts inX8 hown hK hP k (g_at8 hk hd) rfl 0 (by decide) lk0 (fun _ h9 => h9) rfl dX8_copyFrom_6 ?_
  refine lv_iconst (v := 0) hx hb dX8_copyFrom_9 (by decide) ?_
  refine lv_iconst (v := 3) hx hb dX8_copyFrom_10 (by decide) ?_
  refine va_copyi (rest := []) hx hb (hml.trans hl.1.symm) hown lk1 lk2 lk3 lk4 hK hP (gD hI) hS (k2 + 1) (k + 1) 0 0 (g_at12 (g_k8_0 hk_k2 hd_k2).1 (g_k8_0 hk_k2 hd_k2).2) (g_at12 (g_k8_0 hk hd).1 (g_k8_0 hk hd).2) rfl rfl rfl (by decide) (by decide) (by decide) (g_le3 (N := 3) (g_l8_0 hk_k2 hd_k2) (by decide)) (g_le3 (N := 3) (g_l8_0 hk hd) (by decide)) (fun i _ => rfl) (Nat.le_of_ble_eq_true rfl) (Nat.le_of_ble_eq_true rfl) dX8_copyFrom_11 (fun H locs hP _ hS => ?_)
  rw [g_pt12 (g_k8_0 hk hd).1 (g_k8_0 hk hd).2] at hP
  obtain ⟨ar_1, ear_1⟩ : ∃ z : gAr, z = va_up ar (k + 1) (va_cpy (ar (k2 + 1)) (ar (k + 1)) 0 0 (3 : Int32).toNatClampNeg) := ⟨_, rfl⟩
  have hP : va_P D vwCl (GW cy ad iv ar_1) H := by rw [ear_1]; exact hP
  refine lv_aload_n hx hb dX8_copyFrom_14 rfl (lv_at hl 1 rfl) ?_
  refine va_get (D := D) (ci := 8) (v := .ref (ad (k2 + 2))) (C := RX8) (T := TX8) (N := 5) hx hb hts inX8 hown hK hP k2 (g_at8 hk_k2 hd_k2) rfl 1 (by decide) lk5 (fun _ h9 => h9) rfl dX8_copyFrom_15 ?_
  refine lv_iconst (v := 0) hx hb dX8_copyFrom_18 (by decide) ?_
  refine lv_aload_n hx hb dX8_copyFrom_19 rfl (lv_at hl 0 rfl) ?_
  refine va_get (D := D) (ci := 8) (v := .ref (ad (k + 2))) (C := RX8) (T := TX8) (N := 5) hx hb hts inX8 hown hK hP k (g_at8 hk hd) rfl 1 (by decide) lk5 (fun _ h9 => h9) rfl dX8_copyFrom_20 ?_
  refine lv_iconst (v := 0) hx hb dX8_copyFrom_23 (by decide) ?_
  refine lv_bipush (v := 108) hx hb dX8_copyFrom_24 (by decide) ?_
  refine va_copyi (rest := []) hx hb (hml.trans hl.1.symm) hown lk1 lk2 lk3 lk4 hK hP (gD hI) hS (k2 + 2) (k + 2) 0 0 (g_at12 (g_k8_1 hk_k2 hd_k2).1 (g_k8_1 hk_k2 hd_k2).2) (g_at12 (g_k8_1 hk hd).1 (g_k8_1 hk hd).2) rfl rfl rfl (by decide) (by decide) (by decide) (g_le3 (N := 108) (g_l8_1 hk_k2 hd_k2) (by decide)) (g_le3 (N := 108) (g_l8_1 hk hd) (by decide)) (fun i _ => rfl) (Nat.le_of_ble_eq_true rfl) (Nat.le_of_ble_eq_true rfl) dX8_copyFrom_26 (fun H locs hP _ hS => ?_)
  rw [g_pt12 (g_k8_1 hk hd).1 (g_k8_1 hk hd).2] at hP
  obtain ⟨ar_2, ear_2⟩ : ∃ z : gAr, z = va_up ar_1 (k + 2) (va_cpy (ar_1 (k2 + 2)) (ar_1 (k + 2)) 0 0 (108 : Int32).toNatClampNeg) := ⟨_, rfl⟩
  have hP : va_P D vwCl (GW cy ad iv ar_2) H := by rw [ear_2]; exact hP
  refine lv_aload_n hx hb dX8_copyFrom_29 rfl (lv_at hl 0 rfl) ?_
  refine va_get (D := D) (ci := 8) (v := .ref (ad (k + 3))) (C := RX8) (T := TX8) (N := 5) hx hb hts inX8 hown hK hP k (g_at8 hk hd) rfl 2 (by decide) lk6 (fun _ h9 => h9) rfl dX8_copyFrom_30 ?_
  refine lv_aload_n hx hb dX8_copyFrom_33 rfl (lv_at hl 1 rfl) ?_
  refine va_get (D := D) (ci := 8) (v := .ref (ad (k2 + 3))) (C := RX8) (T := TX8) (N := 5) hx hb hts inX8 hown hK hP k2 (g_at8 hk_k2 hd_k2) rfl 2 (by decide) lk6 (fun _ h9 => h9) rfl dX8_copyFrom_34 ?_
  refine g_callv (va_runV (As := [.ref (ad (k2 + 3))]) (rest := []) ⟨hx, hb, hml, hown, hts⟩ (c_X5_copyFrom l D cy ad hI _ iv ar_2 (k + 3) (g_k8_2 hk hd).1 (g_k8_2 hk hd).2 (k2 + 3) (g_k8_2 hk_k2 hd_k2).1 (g_k8_2 hk_k2 hd_k2).2) (cwV 1 hts gX8_copyFrom_X5_copyFrom rfl rfl rfl (by decide +kernel) ⟨Nat.le_of_ble_eq_true rfl, Nat.le_of_ble_eq_true rfl⟩) (g_preV hP hK hSt hNw hS (g_at5 (g_k8_2 hk hd).1 (g_k8_2 hk hd).2) rfl) rfl rfl hl.1 rfl (lv_room (Nat.le_of_ble_eq_true rfl)) dX8_copyFrom_37 ⟨Nat.zero_le _, Nat.zero_le _⟩) hS (fun iv_3 ar_3 H locs w_3 hP hS => ?_)
  try dsimp only at w_3
  have eiv_3 : iv_3 = u2 iv (k + 3) 1 (iv (k2 + 3) 1) := by exact w_3.1
  refine lv_aload_n hx hb dX8_copyFrom_40 rfl (lv_at hl 0 rfl) ?_
  refine va_get (D := D) (ci := 8) (v := .ref (ad (k + 5))) (C := RX8) (T := TX8) (N := 5) hx hb hts inX8 hown hK hP k (g_at8 hk hd) rfl 3 (by decide) lk7 (fun _ h9 => h9) rfl dX8_copyFrom_41 ?_
  refine lv_aload_n hx hb dX8_copyFrom_44 rfl (lv_at hl 1 rfl) ?_
  refine va_get (D := D) (ci := 8) (v := .ref (ad (k2 + 5))) (C := RX8) (T := TX8) (N := 5) hx hb hts inX8 hown hK hP k2 (g_at8 hk_k2 hd_k2) rfl 3 (by decide) lk7 (fun _ h9 => h9) rfl dX8_copyFrom_45 ?_
  refine g_callv (va_runV (As := [.ref (ad (k2 + 5))]) (rest := []) ⟨hx, hb, hml, hown, hts⟩ (c_X5_copyFrom l D cy ad hI _ iv_3 ar_3 (k + 5) (g_k8_3 hk hd).1 (g_k8_3 hk hd).2 (k2 + 5) (g_k8_3 hk_k2 hd_k2).1 (g_k8_3 hk_k2 hd_k2).2) (cwV 1 hts gX8_copyFrom_X5_copyFrom rfl rfl rfl (by decide +kernel) ⟨Nat.le_of_ble_eq_true rfl, Nat.le_of_ble_eq_true rfl⟩) (g_preV hP hK hSt hNw hS (g_at5 (g_k8_3 hk hd).1 (g_k8_3 hk hd).2) rfl) rfl rfl hl.1 rfl (lv_room (Nat.le_of_ble_eq_true rfl)) dX8_copyFrom_48 ⟨Nat.zero_le _, Nat.zero_le _⟩) hS (fun iv_4 ar_4 H locs w_4 hP hS => ?_)
  try dsimp only at w_4
  have eiv_4 : iv_4 = u2 iv_3 (k + 5) 1 (iv_3 (k2 + 5) 1) := by exact w_4.1
  refine lv_aload_n hx hb dX8_copyFrom_51 rfl (lv_at hl 0 rfl) ?_
  refine lv_aload_n hx hb dX8_copyFrom_52 rfl (lv_at hl 1 rfl) ?_
  refine va_get (D := D) (ci := 8) (v := .int (iv_4 k2 4)) (C := RX8) (T := TX8) (N := 5) hx hb hts inX8 hown hK hP k2 (g_at8 hk_k2 hd_k2) rfl 4 (by decide) lk8 (fun _ h9 => h9) rfl dX8_copyFrom_53 ?_
  have f_5 : iv_4 k2 4 = iv k2 4 := by rw [eiv_4, u2_o (by omega)]; rw [eiv_3, u2_o (by omega)]
  refine va_put (D := D) (ci := 8) (v := .int (iv_4 k2 4)) (ty := .int) (C := RX8) (T := TX8) (N := 5) hx hb hts inX8 tyX8 tyX8_ok nmX8 hown hK hP (gD hI) hS k (g_at8 hk hd) rfl 4 (by decide) lk8 (fun _ h9 => h9) rfl (by decide +kernel) rfl rfl (Nat.le_of_ble_eq_true rfl) dX8_copyFrom_56 (fun H locs hP _ hS => ?_)
  have hP : va_P D vwCl (GW cy ad (u2 iv_4 k 4 (iv_4 k2 4)) ar_4) H := by rw [← g_pt8_4 hk hd]; exact hP
  obtain ⟨iv_6, eiv_6⟩ : ∃ z : gIv, z = u2 iv_4 k 4 (iv_4 k2 4) := ⟨_, rfl⟩
  rw [← eiv_6] at hP
  rw [hQ]
  exact W.vret hx hb hr (fun t ht hW => ⟨⟨(iv_6, ar_4), rfl, ⟨fun a b h => by show iv_6 a b = iv a b; rw [eiv_6, u2_o (by omega), w_4.1, u2_o (by omega), w_3.1, u2_o (by omega)], fun a h => by show ar_4 a = ar a; rw [w_4.2 a (by omega)]; rw [w_3.2 a (by omega)]; rw [ear_2, ua_o (by omega)]; rw [ear_1, ua_o (by omega)], ⟨by show iv_6 (k + 3) 1 = _; rw [eiv_6, u2_o (by omega), w_4.1, u2_o (by omega), w_3.1, u2_s], by show iv_6 (k + 5) 1 = _; rw [eiv_6, u2_o (by omega), w_4.1, u2_s, w_3.1, u2_o (by omega)]⟩⟩, by show va_P _ _ _ _; rw [ht]; exact hP⟩, hS.F ht⟩) hS.2.2 dX8_copyFrom_59
set_option maxHeartbeats 4000000 in
set_option maxRecDepth 100000 in
theorem c_X6_discard (l : Launch) (D : va_G) (cy : Nat → ClassId) (ad : Nat → Nat) (hI : gInj ad) (sz : Nat) (iv : gIv) (ar : gAr)   : Met l yX6_discard wsX6_discard ({ frames := 0, cells := 0, slots := 0, locals := 0 } : Room) (va_Pc [.ref (ad 90)] (gPre D cy ad sz iv ar)) (va_Qv (fun (u : gIv × gAr) => u.1 = u2 (u2 iv 90 7 0) 90 8 (-1) ∧ u.2 = ar) (gPost D cy ad) (gA ad sz)) 0 0 (gA ad sz) := by
  refine Met.ofW (cc := cX6_discard) (maxL := 1) (ret := none) (by decide) rfl ?_
  intro p e s m args below meth c s₁ B hml hv
  obtain ⟨rfl, rfl, hP, hK, hSt, hNw⟩ := hv
  have hx := B.exec
  have hb := B.bytes
  have hr := B.returns
  have hts := atoms_spec (ws := wsX6_discard) B.pre
  have hown : s.vm.findClass RX6 = some m.cls := findClass_of_methodNamed B.named
  have hlocks := B.notSynchronized
  have hS : va_S (gA ad s.heap.size) s.heap s.heap [] := va_S.rf
  have inX6 : ∀ w ∈ u_ws RX6 TX6 11, w ∈ wsX6_discard := by decide +kernel
  have lk0 := hts (.fieldLink RX6 53 "FormationPlanner$Plan" "stands" "Z") (by decide +kernel)
  have lk1 := hts (.fieldLink RX6 24 "FormationPlanner$Plan" "stuckDrone" "I") (by decide +kernel)
  have hl := lv_entry ([.ref (ad 90)]) (n := 1) (Nat.le_of_ble_eq_true rfl)
  rw [lg_entry_eq]
  generalize (lg_sl ([.ref (ad 90)]) ++ List.replicate (1 - (lg_sl ([.ref (ad 90)])).length) Slot.unset).toArray = ls at hl ⊢
  have hl : lv_has ls 1 [(0, .ref (ad 90))] := hl
  obtain ⟨Q, hQ⟩ : ∃ Q, Q = MQ below (va_Qv (fun (u : gIv × gAr) => u.1 = u2 (u2 iv 90 7 0) 90 8 (-1) ∧ u.2 = ar) (gPost D cy ad) (gA ad s.heap.size)) (([.ref (ad 90)] : List Value).toArray) s 0 0 (gA ad s.heap.size) := ⟨_, rfl⟩
  rw [← hQ]
  refine lv_aload_n hx hb dX6_discard_0 rfl (lv_at hl 0 rfl) ?_
  refine lv_iconst (v := 0) hx hb dX6_discard_1 (by decide) ?_
  refine va_put (D := D) (ci := 6) (v := .int 0) (ty := .boolean) (C := RX6) (T := TX6) (N := 11) hx hb hts inX6 tyX6 tyX6_ok nmX6 hown hK hP (gD hI) hS 90 (g_at6 (Nat.le_of_ble_eq_true rfl) rfl) rfl 7 (by decide) lk0 (fun _ h9 => h9) rfl (by decide +kernel) rfl rfl (Nat.le_of_ble_eq_true rfl) dX6_discard_2 (fun H locs hP _ hS => ?_)
  have hP : va_P D vwCl (GW cy ad (u2 iv 90 7 0) ar) H := by rw [← g_pt6_7 (Nat.le_of_ble_eq_true rfl) rfl]; exact hP
  obtain ⟨iv_1, eiv_1⟩ : ∃ z : gIv, z = u2 iv 90 7 0 := ⟨_, rfl⟩
  rw [← eiv_1] at hP
  refine lv_aload_n hx hb dX6_discard_5 rfl (lv_at hl 0 rfl) ?_
  refine lv_iconst (v := (-1)) hx hb dX6_discard_6 (by decide) ?_
  refine va_put (D := D) (ci := 6) (v := .int (-1)) (ty := .int) (C := RX6) (T := TX6) (N := 11) hx hb hts inX6 tyX6 tyX6_ok nmX6 hown hK hP (gD hI) hS 90 (g_at6 (Nat.le_of_ble_eq_true rfl) rfl) rfl 8 (by decide) lk1 (fun _ h9 => h9) rfl (by decide +kernel) rfl rfl (Nat.le_of_ble_eq_true rfl) dX6_discard_7 (fun H locs hP _ hS => ?_)
  have hP : va_P D vwCl (GW cy ad (u2 iv_1 90 8 (-1)) ar) H := by rw [← g_pt6_8 (Nat.le_of_ble_eq_true rfl) rfl]; exact hP
  obtain ⟨iv_2, eiv_2⟩ : ∃ z : gIv, z = u2 iv_1 90 8 (-1) := ⟨_, rfl⟩
  rw [← eiv_2] at hP
  rw [hQ]
  exact W.vret hx hb hr (fun t ht hW => ⟨⟨(iv_2, ar), rfl, ⟨by show iv_2 = _; rw [eiv_2, eiv_1], rfl⟩, by show va_P _ _ _ _; rw [ht]; exact hP⟩, hS.F ht⟩) hS.2.2 dX6_discard_10
set_option maxHeartbeats 4000000 in
set_option maxRecDepth 100000 in
theorem c_X3_keep (l : Launch) (D : va_G) (cy : Nat → ClassId) (ad : Nat → Nat) (hI : gInj ad) (sz : Nat) (iv : gIv) (ar : gAr)  (hz : (∀ c, c < 135 → kd c = 5 → 0 ≤ (iv c 1).toInt ∧ (iv c 1).toInt ≤ 6)) : Met l yX3_keep wsX3_keep ({ frames := 3, cells := 0, slots := 0, locals := 82 } : Room) (va_Pc [.ref (ad 8), .ref (ad 1)] (gPre D cy ad sz iv ar)) (va_Qv (fun (u : gIv × gAr) => (∀ a b, (a < 8 ∨ 66 ≤ a) → u.1 a b = iv a b) ∧ (∀ a, (a < 8 ∨ 66 ≤ a) → u.2 a = ar a) ∧ (∀ c, c < 135 → kd c = 5 → 0 ≤ (u.1 c 1).toInt ∧ (u.1 c 1).toInt ≤ 6)) (gPost D cy ad) (gA ad sz)) 0 0 (gA ad sz) := by
  refine Met.ofW (cc := cX3_keep) (maxL := 2) (ret := none) (by decide) rfl ?_
  intro p e s m args below meth c s₁ B hml hv
  obtain ⟨rfl, rfl, hP, hK, hSt, hNw⟩ := hv
  have hx := B.exec
  have hb := B.bytes
  have hr := B.returns
  have hts := atoms_spec (ws := wsX3_keep) B.pre
  have hown : s.vm.findClass RX3 = some m.cls := findClass_of_methodNamed B.named
  have hlocks := B.notSynchronized
  have hS : va_S (gA ad s.heap.size) s.heap s.heap [] := va_S.rf
  have inX3 : ∀ w ∈ u_ws RX3 TX3 3, w ∈ wsX3_keep := by decide +kernel
  have lk0 := hts (.fieldLink RX3 11 "FormationPlanner$History" "scenes" "[LFormationPlanner$Scene;") (by decide +kernel)
  have lk1 := hts (.fieldLink RX3 18 "FormationPlanner$History" "next" "I") (by decide +kernel)
  have lk2 := hts (.fieldLink RX3 32 "FormationPlanner$History" "size" "I") (by decide +kernel)
  have lk3 := hts (.methodLink RX3 35 Lib.Math.min.name) (by decide +kernel)
  have lk4 := hts (.static Lib.Math.min.name) (by decide +kernel)
  have lk5 := hts (.initialized "java/lang/Math") (by decide +kernel)
  have lk6 := hts (.code Lib.Math.min.name Lib.Math.min.code 2 (some .int)) (by decide +kernel)
  have hl := lv_entry ([.ref (ad 8), .ref (ad 1)]) (n := 2) (Nat.le_of_ble_eq_true rfl)
  rw [lg_entry_eq]
  generalize (lg_sl ([.ref (ad 8), .ref (ad 1)]) ++ List.replicate (2 - (lg_sl ([.ref (ad 8), .ref (ad 1)])).length) Slot.unset).toArray = ls at hl ⊢
  have hl : lv_has ls 2 [(0, .ref (ad 8)), (1, .ref (ad 1))] := hl
  obtain ⟨Q, hQ⟩ : ∃ Q, Q = MQ below (va_Qv (fun (u : gIv × gAr) => (∀ a b, (a < 8 ∨ 66 ≤ a) → u.1 a b = iv a b) ∧ (∀ a, (a < 8 ∨ 66 ≤ a) → u.2 a = ar a) ∧ (∀ c, c < 135 → kd c = 5 → 0 ≤ (u.1 c 1).toInt ∧ (u.1 c 1).toInt ≤ 6)) (gPost D cy ad) (gA ad s.heap.size)) (([.ref (ad 8), .ref (ad 1)] : List Value).toArray) s 0 0 (gA ad s.heap.size) := ⟨_, rfl⟩
  rw [← hQ]
  have h9 : ln 9 = 10 := rfl
  refine lv_aload_n hx hb dX3_keep_0 rfl (lv_at hl 0 rfl) ?_
  refine va_get (D := D) (ci := 3) (v := .ref (ad 9)) (C := RX3) (T := TX3) (N := 3) hx hb hts inX3 hown hK hP 8 (g_at3 (Nat.le_of_ble_eq_true rfl) rfl) rfl 0 (by decide) lk0 (fun _ h9 => h9) rfl dX3_keep_1 ?_
  refine lv_aload_n hx hb dX3_keep_4 rfl (lv_at hl 0 rfl) ?_
  refine va_get (D := D) (ci := 3) (v := .int (iv 8 1)) (C := RX3) (T := TX3) (N := 3) hx hb hts inX3 hown hK hP 8 (g_at3 (Nat.le_of_ble_eq_true rfl) rfl) rfl 1 (by decide) lk1 (fun _ h9 => h9) rfl dX3_keep_5 ?_
  refine lv_bipush (v := 8) hx hb dX3_keep_8 (by decide) ?_
  have zl_1 : (8 : Int32).toInt = (8 : Int) := rfl
  refine g_callSi (va_runS (As := [.int (iv 8 1), .int 8]) (rest := [.ref (ad 9)]) ⟨hx, hb, hml, hown, hts⟩ (c_J9_floorMod_7cf53 l (iv 8 1) 8 rfl) (va_cwS 2 hts gX3_keep_J9_floorMod_7cf53 rfl rfl rfl (by decide +kernel) ⟨Nat.le_of_ble_eq_true rfl, Nat.le_of_ble_eq_true rfl⟩) (g_preT) rfl rfl hl.1 rfl (lv_room (Nat.le_of_ble_eq_true rfl)) dX3_keep_10 ⟨Nat.zero_le _, Nat.zero_le _⟩) (fun r_2 w_2 => ?_)
  try dsimp only at w_2
  refine va_aldq hx hb hK hP 9 2 (g_at15 (Nat.le_of_ble_eq_true rfl) rfl) rfl (g_in (N := 8) (rfl : r_2.toInt = r_2.toInt) rfl (by omega) (by omega)) dX3_keep_13 ?_
  obtain ⟨k_3, ek_3⟩ : ∃ z : Nat, z = ln 9 + 7 * r_2.toNatClampNeg := ⟨_, rfl⟩
  have hk_3 : k_3 < 135 ∧ kd k_3 = 8 := by rw [ek_3]; exact g_ch9 (g_cl (rfl : r_2.toInt = r_2.toInt) (by omega) (by omega))
  show W p l e _ s m _ below meth c _ _ _ _ Q (F0 m 14 _ (Value.ref (ad (ln 9 + 7 * r_2.toNatClampNeg)) :: []))
  rw [← ek_3]
  have hck_3 := g_cN (rfl : r_2.toInt = r_2.toInt)
  refine lv_aload_n hx hb dX3_keep_14 rfl (lv_at hl 1 rfl) ?_
  refine g_callv (va_runV (As := [.ref (ad 1)]) (rest := []) ⟨hx, hb, hml, hown, hts⟩ (c_X8_copyFrom l D cy ad hI _ iv ar k_3 hk_3.1 hk_3.2 1 (Nat.le_of_ble_eq_true rfl) rfl (by have h9 : ln 9 = 10 := rfl; omega)) (cwV 1 hts gX3_keep_X8_copyFrom rfl rfl rfl (by decide +kernel) ⟨Nat.le_of_ble_eq_true rfl, Nat.le_of_ble_eq_true rfl⟩) (g_preV hP hK hSt hNw hS (g_at8 hk_3.1 hk_3.2) rfl) rfl rfl hl.1 rfl (lv_room (Nat.le_of_ble_eq_true rfl)) dX3_keep_15 ⟨Nat.zero_le _, Nat.zero_le _⟩) hS (fun iv_4 ar_4 H locs w_4 hP hS => ?_)
  try dsimp only at w_4
  refine lv_aload_n hx hb dX3_keep_18 rfl (lv_at hl 0 rfl) ?_
  refine lv_aload_n hx hb dX3_keep_19 rfl (lv_at hl 0 rfl) ?_
  refine va_get (D := D) (ci := 3) (v := .int (iv_4 8 1)) (C := RX3) (T := TX3) (N := 3) hx hb hts inX3 hown hK hP 8 (g_at3 (Nat.le_of_ble_eq_true rfl) rfl) rfl 1 (by decide) lk1 (fun _ h9 => h9) rfl dX3_keep_20 ?_
  refine lv_iconst (v := 1) hx hb dX3_keep_23 (by decide) ?_
  refine lv_iadd hx hb dX3_keep_24 ?_
  refine lv_topi (fun v_5 ev_5 => ?_)
  refine lv_bipush (v := 8) hx hb dX3_keep_25 (by decide) ?_
  have zl_6 : (8 : Int32).toInt = (8 : Int) := rfl
  refine g_callSi (va_runS (As := [.int v_5, .int 8]) (rest := [.ref (ad 8)]) ⟨hx, hb, hml, hown, hts⟩ (c_J9_floorMod_7cf53 l v_5 8 rfl) (va_cwS 2 hts gX3_keep_J9_floorMod_7cf53 rfl rfl rfl (by decide +kernel) ⟨Nat.le_of_ble_eq_true rfl, Nat.le_of_ble_eq_true rfl⟩) (g_preT) rfl rfl hl.1 rfl (lv_room (Nat.le_of_ble_eq_true rfl)) dX3_keep_27 ⟨Nat.zero_le _, Nat.zero_le _⟩) (fun r_7 w_7 => ?_)
  try dsimp only at w_7
  refine va_put (D := D) (ci := 3) (v := .int r_7) (ty := .int) (C := RX3) (T := TX3) (N := 3) hx hb hts inX3 tyX3 tyX3_ok nmX3 hown hK hP (gD hI) hS 8 (g_at3 (Nat.le_of_ble_eq_true rfl) rfl) rfl 1 (by decide) lk1 (fun _ h9 => h9) rfl (by decide +kernel) rfl rfl (Nat.le_of_ble_eq_true rfl) dX3_keep_30 (fun H locs hP _ hS => ?_)
  have hP : va_P D vwCl (GW cy ad (u2 iv_4 8 1 r_7) ar_4) H := by rw [← g_pt3_1 (Nat.le_of_ble_eq_true rfl) rfl]; exact hP
  obtain ⟨iv_8, eiv_8⟩ : ∃ z : gIv, z = u2 iv_4 8 1 r_7 := ⟨_, rfl⟩
  rw [← eiv_8] at hP
  refine lv_aload_n hx hb dX3_keep_33 rfl (lv_at hl 0 rfl) ?_
  refine lv_aload_n hx hb dX3_keep_34 rfl (lv_at hl 0 rfl) ?_
  refine va_get (D := D) (ci := 3) (v := .int (iv_8 8 2)) (C := RX3) (T := TX3) (N := 3) hx hb hts inX3 hown hK hP 8 (g_at3 (Nat.le_of_ble_eq_true rfl) rfl) rfl 2 (by decide) lk2 (fun _ h9 => h9) rfl dX3_keep_35 ?_
  have f_9 : iv_8 8 2 = iv_4 8 2 := by rw [eiv_8, u2_o (by omega)]
  refine lv_iconst (v := 1) hx hb dX3_keep_38 (by decide) ?_
  refine lv_iadd hx hb dX3_keep_39 ?_
  refine lv_topi (fun v_10 ev_10 => ?_)
  refine lv_bipush (v := 8) hx hb dX3_keep_40 (by decide) ?_
  refine va_mmin (rest := [.ref (ad 8)]) hx hb (hml.trans hl.1.symm) hown lk3 lk4 lk5 lk6 (Nat.le_of_ble_eq_true rfl) (Nat.le_of_ble_eq_true rfl) (Nat.zero_le _) (Nat.zero_le _) dX3_keep_42 ?_
  refine lv_topi (fun v_11 ev_11 => ?_)
  have tv_11 : v_11.toInt = min v_10.toInt (8 : Int) := i_min (rfl : v_10.toInt = v_10.toInt) (show (8 : Int32).toInt = (8 : Int) from rfl) ev_11
  refine va_put (D := D) (ci := 3) (v := .int v_11) (ty := .int) (C := RX3) (T := TX3) (N := 3) hx hb hts inX3 tyX3 tyX3_ok nmX3 hown hK hP (gD hI) hS 8 (g_at3 (Nat.le_of_ble_eq_true rfl) rfl) rfl 2 (by decide) lk2 (fun _ h9 => h9) rfl (by decide +kernel) rfl rfl (Nat.le_of_ble_eq_true rfl) dX3_keep_45 (fun H locs hP _ hS => ?_)
  have hP : va_P D vwCl (GW cy ad (u2 iv_8 8 2 v_11) ar_4) H := by rw [← g_pt3_2 (Nat.le_of_ble_eq_true rfl) rfl]; exact hP
  obtain ⟨iv_12, eiv_12⟩ : ∃ z : gIv, z = u2 iv_8 8 2 v_11 := ⟨_, rfl⟩
  rw [← eiv_12] at hP
  have hsz : (∀ c, c < 135 → kd c = 5 → 0 ≤ (iv_12 c 1).toInt ∧ (iv_12 c 1).toInt ≤ 6) := by
    intro c hc h5
    have hc8 : c ≠ 8 := fun q => by rw [q] at h5; exact absurd h5 (by decide)
    rw [eiv_12, u2_o (fun q => hc8 q.1), eiv_8, u2_o (fun q => hc8 q.1)]
    by_cases hin : k_3 ≤ c ∧ c < k_3 + 7
    · obtain ⟨d, hd⟩ : ∃ d, c = k_3 + d := ⟨c - k_3, by omega⟩
      rw [hd] at h5
      rcases g_pl_in hk_3.1 hk_3.2 (by omega) h5 with h3 | h3
      · rw [hd, h3, w_4.2.2.1]; exact hz (1 + 3) (by decide) (by decide)
      · rw [hd, h3, w_4.2.2.2]; exact hz (1 + 5) (by decide) (by decide)
    · rw [w_4.1 c 1 (by omega)]; exact hz c hc h5
  rw [hQ]
  exact W.vret hx hb hr (fun t ht hW => ⟨⟨(iv_12, ar_4), rfl, ⟨fun a b h => by show iv_12 a b = iv a b; rw [eiv_12, u2_o (by omega)]; rw [eiv_8, u2_o (by omega)]; rw [w_4.1 a b (by omega)], fun a h => by show ar_4 a = ar a; rw [w_4.2.1 a (by omega)], hsz⟩, by show va_P _ _ _ _; rw [ht]; exact hP⟩, hS.F ht⟩) hS.2.2 dX3_keep_48
set_option maxHeartbeats 4000000 in
set_option maxRecDepth 100000 in
theorem c_X10_beginChange (l : Launch) (D : va_G) (cy : Nat → ClassId) (ad : Nat → Nat) (hI : gInj ad) (sz : Nat) (iv : gIv) (ar : gAr)  (hz : (∀ c, c < 135 → kd c = 5 → 0 ≤ (iv c 1).toInt ∧ (iv c 1).toInt ≤ 6)) : Met l yX10_beginChange wsX10_beginChange ({ frames := 4, cells := 0, slots := 0, locals := 103 } : Room) (va_Pc [.ref (ad 0)] (gPre D cy ad sz iv ar)) (va_Qv (fun (u : gIv × gAr) => (∀ a b, (a < 8 ∨ 66 ≤ a) → a ≠ 90 → u.1 a b = iv a b) ∧ (∀ a, (a < 8 ∨ 66 ≤ a) → u.2 a = ar a) ∧ (∀ c, c < 135 → kd c = 5 → 0 ≤ (u.1 c 1).toInt ∧ (u.1 c 1).toInt ≤ 6)) (gPost D cy ad) (gA ad sz)) 0 0 (gA ad sz) := by
  refine Met.ofW (cc := cX10_beginChange) (maxL := 1) (ret := none) (by decide) rfl ?_
  intro p e s m args below meth c s₁ B hml hv
  obtain ⟨rfl, rfl, hP, hK, hSt, hNw⟩ := hv
  have hx := B.exec
  have hb := B.bytes
  have hr := B.returns
  have hts := atoms_spec (ws := wsX10_beginChange) B.pre
  have hown : s.vm.findClass RX10 = some m.cls := findClass_of_methodNamed B.named
  have hlocks := B.notSynchronized
  have hS : va_S (gA ad s.heap.size) s.heap s.heap [] := va_S.rf
  have inX10 : ∀ w ∈ u_ws RX10 TX10 6, w ∈ wsX10_beginChange := by decide +kernel
  have lk0 := hts (.fieldLink RX10 19 "FormationPlanner" "history" "LFormationPlanner$History;") (by decide +kernel)
  have lk1 := hts (.fieldLink RX10 12 "FormationPlanner" "scene" "LFormationPlanner$Scene;") (by decide +kernel)
  have lk2 := hts (.fieldLink RX10 56 "FormationPlanner" "plan" "LFormationPlanner$Plan;") (by decide +kernel)
  have hl := lv_entry ([.ref (ad 0)]) (n := 1) (Nat.le_of_ble_eq_true rfl)
  rw [lg_entry_eq]
  generalize (lg_sl ([.ref (ad 0)]) ++ List.replicate (1 - (lg_sl ([.ref (ad 0)])).length) Slot.unset).toArray = ls at hl ⊢
  have hl : lv_has ls 1 [(0, .ref (ad 0))] := hl
  obtain ⟨Q, hQ⟩ : ∃ Q, Q = MQ below (va_Qv (fun (u : gIv × gAr) => (∀ a b, (a < 8 ∨ 66 ≤ a) → a ≠ 90 → u.1 a b = iv a b) ∧ (∀ a, (a < 8 ∨ 66 ≤ a) → u.2 a = ar a) ∧ (∀ c, c < 135 → kd c = 5 → 0 ≤ (u.1 c 1).toInt ∧ (u.1 c 1).toInt ≤ 6)) (gPost D cy ad) (gA ad s.heap.size)) (([.ref (ad 0)] : List Value).toArray) s 0 0 (gA ad s.heap.size) := ⟨_, rfl⟩
  rw [← hQ]
  refine lv_aload_n hx hb dX10_beginChange_0 rfl (lv_at hl 0 rfl) ?_
  refine va_get (D := D) (ci := 10) (v := .ref (ad 8)) (C := RX10) (T := TX10) (N := 6) hx hb hts inX10 hown hK hP 0 (g_at10 (Nat.le_of_ble_eq_true rfl) rfl) rfl 1 (by decide) lk0 (fun _ h9 => h9) rfl dX10_beginChange_1 ?_
  refine lv_aload_n hx hb dX10_beginChange_4 rfl (lv_at hl 0 rfl) ?_
  refine va_get (D := D) (ci := 10) (v := .ref (ad 1)) (C := RX10) (T := TX10) (N := 6) hx hb hts inX10 hown hK hP 0 (g_at10 (Nat.le_of_ble_eq_true rfl) rfl) rfl 0 (by decide) lk1 (fun _ h9 => h9) rfl dX10_beginChange_5 ?_
  refine g_callv (va_runV (As := [.ref (ad 1)]) (rest := []) ⟨hx, hb, hml, hown, hts⟩ (c_X3_keep l D cy ad hI _ iv ar hz) (cwV 1 hts gX10_beginChange_X3_keep rfl rfl rfl (by decide +kernel) ⟨Nat.le_of_ble_eq_true rfl, Nat.le_of_ble_eq_true rfl⟩) (g_preV hP hK hSt hNw hS (g_at3 (Nat.le_of_ble_eq_true rfl) rfl) rfl) rfl rfl hl.1 rfl (lv_room (Nat.le_of_ble_eq_true rfl)) dX10_beginChange_8 ⟨Nat.zero_le _, Nat.zero_le _⟩) hS (fun iv_1 ar_1 H locs w_1 hP hS => ?_)
  try dsimp only at w_1
  refine lv_aload_n hx hb dX10_beginChange_11 rfl (lv_at hl 0 rfl) ?_
  refine va_get (D := D) (ci := 10) (v := .ref (ad 90)) (C := RX10) (T := TX10) (N := 6) hx hb hts inX10 hown hK hP 0 (g_at10 (Nat.le_of_ble_eq_true rfl) rfl) rfl 5 (by decide) lk2 (fun _ h9 => h9) rfl dX10_beginChange_12 ?_
  refine g_callv (va_runV (As := []) (rest := []) ⟨hx, hb, hml, hown, hts⟩ (c_X6_discard l D cy ad hI _ iv_1 ar_1) (cwV 0 hts gX10_beginChange_X6_discard rfl rfl rfl (by decide +kernel) ⟨Nat.le_of_ble_eq_true rfl, Nat.le_of_ble_eq_true rfl⟩) (g_preV hP hK hSt hNw hS (g_at6 (Nat.le_of_ble_eq_true rfl) rfl) rfl) rfl rfl hl.1 rfl (lv_room (Nat.le_of_ble_eq_true rfl)) dX10_beginChange_15 ⟨Nat.zero_le _, Nat.zero_le _⟩) hS (fun iv_2 ar_2 H locs w_2 hP hS => ?_)
  try dsimp only at w_2
  obtain ⟨iv_3, eiv_3⟩ : ∃ z : gIv, z = u2 iv_1 90 7 0 := ⟨_, rfl⟩
  have eiv_2 : iv_2 = u2 iv_3 90 8 (-1) := by rw [eiv_3]; exact w_2.1
  rw [hQ]
  exact W.vret hx hb hr (fun t ht hW => ⟨⟨(iv_2, ar_2), rfl, ⟨fun a b h h9 => by show iv_2 a b = iv a b; rw [w_2.1, u2_o (by omega), u2_o (by omega), w_1.1 a b h], fun a h => by show ar_2 a = ar a; rw [w_2.2, w_1.2.1 a h], fun c hc h5 => by
      have hc9 : c ≠ 90 := fun q => by rw [q] at h5; exact absurd h5 (by decide)
      show 0 ≤ (iv_2 c 1).toInt ∧ (iv_2 c 1).toInt ≤ 6
      rw [w_2.1, u2_o (by omega), u2_o (by omega)]
      exact w_1.2.2 c hc h5⟩, by show va_P _ _ _ _; rw [ht]; exact hP⟩, hS.F ht⟩) hS.2.2 dX10_beginChange_18
