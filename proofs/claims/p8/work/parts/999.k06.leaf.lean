set_option maxHeartbeats 4000000 in
set_option maxRecDepth 100000 in
theorem c_X10_isCell (l : Launch) (a : Int32)  : Met l yX10_isCell wsX10_isCell ({ frames := 0, cells := 0, slots := 0, locals := 0 } : Room) (va_Pc [.int a] (fun _ => True)) (vp_Si (fun r => r.toInt = 1 ∧ (0 ≤ a.toInt ∧ a.toInt < 108) ∨ r.toInt = 0 ∧ ¬ (0 ≤ a.toInt ∧ a.toInt < 108))) 0 0 (fun _ => False) := by
  refine Met.ofW (cc := cX10_isCell) (maxL := 1) (ret := (some .boolean)) (by decide) rfl ?_
  intro p e s m args below meth c s₁ B hml hv
  obtain ⟨rfl, -⟩ := hv
  have hx := B.exec
  have hb := B.bytes
  have hr := B.returns
  have hts := atoms_spec (ws := wsX10_isCell) B.pre
  have hown : s.vm.findClass RX10 = some m.cls := findClass_of_methodNamed B.named
  have hlocks := B.notSynchronized
  have hl := lv_entry ([.int a]) (n := 1) (Nat.le_of_ble_eq_true rfl)
  rw [lg_entry_eq]
  generalize (lg_sl ([.int a]) ++ List.replicate (1 - (lg_sl ([.int a])).length) Slot.unset).toArray = ls at hl ⊢
  have hl : lv_has ls 1 [(0, .int a)] := hl
  obtain ⟨Q, hQ⟩ : ∃ Q, Q = MQ below (vp_Si (fun r => r.toInt = 1 ∧ (0 ≤ a.toInt ∧ a.toInt < 108) ∨ r.toInt = 0 ∧ ¬ (0 ≤ a.toInt ∧ a.toInt < 108))) (([.int a] : List Value).toArray) s 0 0 (fun _ => False) := ⟨_, rfl⟩
  rw [← hQ]
  refine lv_iload_n hx hb dX10_isCell_0 rfl (lv_at hl 0 rfl) ?_
  refine lv_if_lt (tgt := 14) hx hb dX10_isCell_1 (by decide) (fun c_1 => ?_) (fun c_1 => ?_)
  · skip
    have q_1 : a.toInt < (0 : Int) := i_lt2 (rfl : a.toInt = a.toInt) (show (0 : Int32).toInt = (0 : Int) from rfl) c_1
    refine lv_iconst (v := 0) hx hb dX10_isCell_14 (by decide) ?_
    rw [hQ]
    exact W.zret (v := 0) hx hb hr rfl (fun t ht hW => ⟨0, rfl, by have z0 := i_l0; have z1 := i_l1; have zm := i_m1; have z2 := i_m2; omega, ht⟩) (fun q h => by cases h) dX10_isCell_15
  · skip
    have q_1 : (0 : Int) ≤ a.toInt := i_nlt2 (rfl : a.toInt = a.toInt) (show (0 : Int32).toInt = (0 : Int) from rfl) c_1
    refine lv_iload_n hx hb dX10_isCell_4 rfl (lv_at hl 0 rfl) ?_
    refine lv_bipush (v := 108) hx hb dX10_isCell_5 (by decide) ?_
    refine lv_icmp_ge (tgt := 14) hx hb dX10_isCell_7 (by decide) (fun c_2 => ?_) (fun c_2 => ?_)
    · skip
      have q_2 : (108 : Int) ≤ a.toInt := i_le2 (show (108 : Int32).toInt = (108 : Int) from rfl) (rfl : a.toInt = a.toInt) c_2
      refine lv_iconst (v := 0) hx hb dX10_isCell_14 (by decide) ?_
      rw [hQ]
      exact W.zret (v := 0) hx hb hr rfl (fun t ht hW => ⟨0, rfl, by have z0 := i_l0; have z1 := i_l1; have zm := i_m1; have z2 := i_m2; omega, ht⟩) (fun q h => by cases h) dX10_isCell_15
    · skip
      have q_2 : a.toInt < (108 : Int) := i_nle2 (show (108 : Int32).toInt = (108 : Int) from rfl) (rfl : a.toInt = a.toInt) c_2
      refine lv_iconst (v := 1) hx hb dX10_isCell_10 (by decide) ?_
      refine lv_goto (tgt := 15) hx hb dX10_isCell_11 (by decide) ?_
      rw [hQ]
      exact W.zret (v := 1) hx hb hr rfl (fun t ht hW => ⟨1, rfl, by have z0 := i_l0; have z1 := i_l1; have zm := i_m1; have z2 := i_m2; omega, ht⟩) (fun q h => by cases h) dX10_isCell_15
set_option maxHeartbeats 4000000 in
set_option maxRecDepth 100000 in
theorem c_X10_isLayer (l : Launch) (a : Int32)  : Met l yX10_isLayer wsX10_isLayer ({ frames := 0, cells := 0, slots := 0, locals := 0 } : Room) (va_Pc [.int a] (fun _ => True)) (vp_Si (fun r => r.toInt = 1 ∧ (0 ≤ a.toInt ∧ a.toInt < 3) ∨ r.toInt = 0 ∧ ¬ (0 ≤ a.toInt ∧ a.toInt < 3))) 0 0 (fun _ => False) := by
  refine Met.ofW (cc := cX10_isLayer) (maxL := 1) (ret := (some .boolean)) (by decide) rfl ?_
  intro p e s m args below meth c s₁ B hml hv
  obtain ⟨rfl, -⟩ := hv
  have hx := B.exec
  have hb := B.bytes
  have hr := B.returns
  have hts := atoms_spec (ws := wsX10_isLayer) B.pre
  have hown : s.vm.findClass RX10 = some m.cls := findClass_of_methodNamed B.named
  have hlocks := B.notSynchronized
  have hl := lv_entry ([.int a]) (n := 1) (Nat.le_of_ble_eq_true rfl)
  rw [lg_entry_eq]
  generalize (lg_sl ([.int a]) ++ List.replicate (1 - (lg_sl ([.int a])).length) Slot.unset).toArray = ls at hl ⊢
  have hl : lv_has ls 1 [(0, .int a)] := hl
  obtain ⟨Q, hQ⟩ : ∃ Q, Q = MQ below (vp_Si (fun r => r.toInt = 1 ∧ (0 ≤ a.toInt ∧ a.toInt < 3) ∨ r.toInt = 0 ∧ ¬ (0 ≤ a.toInt ∧ a.toInt < 3))) (([.int a] : List Value).toArray) s 0 0 (fun _ => False) := ⟨_, rfl⟩
  rw [← hQ]
  refine lv_iload_n hx hb dX10_isLayer_0 rfl (lv_at hl 0 rfl) ?_
  refine lv_if_lt (tgt := 13) hx hb dX10_isLayer_1 (by decide) (fun c_1 => ?_) (fun c_1 => ?_)
  · skip
    have q_1 : a.toInt < (0 : Int) := i_lt2 (rfl : a.toInt = a.toInt) (show (0 : Int32).toInt = (0 : Int) from rfl) c_1
    refine lv_iconst (v := 0) hx hb dX10_isLayer_13 (by decide) ?_
    rw [hQ]
    exact W.zret (v := 0) hx hb hr rfl (fun t ht hW => ⟨0, rfl, by have z0 := i_l0; have z1 := i_l1; have zm := i_m1; have z2 := i_m2; omega, ht⟩) (fun q h => by cases h) dX10_isLayer_14
  · skip
    have q_1 : (0 : Int) ≤ a.toInt := i_nlt2 (rfl : a.toInt = a.toInt) (show (0 : Int32).toInt = (0 : Int) from rfl) c_1
    refine lv_iload_n hx hb dX10_isLayer_4 rfl (lv_at hl 0 rfl) ?_
    refine lv_iconst (v := 3) hx hb dX10_isLayer_5 (by decide) ?_
    refine lv_icmp_ge (tgt := 13) hx hb dX10_isLayer_6 (by decide) (fun c_2 => ?_) (fun c_2 => ?_)
    · skip
      have q_2 : (3 : Int) ≤ a.toInt := i_le2 (show (3 : Int32).toInt = (3 : Int) from rfl) (rfl : a.toInt = a.toInt) c_2
      refine lv_iconst (v := 0) hx hb dX10_isLayer_13 (by decide) ?_
      rw [hQ]
      exact W.zret (v := 0) hx hb hr rfl (fun t ht hW => ⟨0, rfl, by have z0 := i_l0; have z1 := i_l1; have zm := i_m1; have z2 := i_m2; omega, ht⟩) (fun q h => by cases h) dX10_isLayer_14
    · skip
      have q_2 : a.toInt < (3 : Int) := i_nle2 (show (3 : Int32).toInt = (3 : Int) from rfl) (rfl : a.toInt = a.toInt) c_2
      refine lv_iconst (v := 1) hx hb dX10_isLayer_9 (by decide) ?_
      refine lv_goto (tgt := 14) hx hb dX10_isLayer_10 (by decide) ?_
      rw [hQ]
      exact W.zret (v := 1) hx hb hr rfl (fun t ht hW => ⟨1, rfl, by have z0 := i_l0; have z1 := i_l1; have zm := i_m1; have z2 := i_m2; omega, ht⟩) (fun q h => by cases h) dX10_isLayer_14
set_option maxHeartbeats 4000000 in
set_option maxRecDepth 100000 in
theorem c_X10_isWind (l : Launch) (a : Int32)  : Met l yX10_isWind wsX10_isWind ({ frames := 0, cells := 0, slots := 0, locals := 0 } : Room) (va_Pc [.int a] (fun _ => True)) (vp_Si (fun r => r.toInt = 1 ∧ (0 ≤ a.toInt ∧ a.toInt < 5) ∨ r.toInt = 0 ∧ ¬ (0 ≤ a.toInt ∧ a.toInt < 5))) 0 0 (fun _ => False) := by
  refine Met.ofW (cc := cX10_isWind) (maxL := 1) (ret := (some .boolean)) (by decide) rfl ?_
  intro p e s m args below meth c s₁ B hml hv
  obtain ⟨rfl, -⟩ := hv
  have hx := B.exec
  have hb := B.bytes
  have hr := B.returns
  have hts := atoms_spec (ws := wsX10_isWind) B.pre
  have hown : s.vm.findClass RX10 = some m.cls := findClass_of_methodNamed B.named
  have hlocks := B.notSynchronized
  have hl := lv_entry ([.int a]) (n := 1) (Nat.le_of_ble_eq_true rfl)
  rw [lg_entry_eq]
  generalize (lg_sl ([.int a]) ++ List.replicate (1 - (lg_sl ([.int a])).length) Slot.unset).toArray = ls at hl ⊢
  have hl : lv_has ls 1 [(0, .int a)] := hl
  obtain ⟨Q, hQ⟩ : ∃ Q, Q = MQ below (vp_Si (fun r => r.toInt = 1 ∧ (0 ≤ a.toInt ∧ a.toInt < 5) ∨ r.toInt = 0 ∧ ¬ (0 ≤ a.toInt ∧ a.toInt < 5))) (([.int a] : List Value).toArray) s 0 0 (fun _ => False) := ⟨_, rfl⟩
  rw [← hQ]
  refine lv_iload_n hx hb dX10_isWind_0 rfl (lv_at hl 0 rfl) ?_
  refine lv_if_lt (tgt := 13) hx hb dX10_isWind_1 (by decide) (fun c_1 => ?_) (fun c_1 => ?_)
  · skip
    have q_1 : a.toInt < (0 : Int) := i_lt2 (rfl : a.toInt = a.toInt) (show (0 : Int32).toInt = (0 : Int) from rfl) c_1
    refine lv_iconst (v := 0) hx hb dX10_isWind_13 (by decide) ?_
    rw [hQ]
    exact W.zret (v := 0) hx hb hr rfl (fun t ht hW => ⟨0, rfl, by have z0 := i_l0; have z1 := i_l1; have zm := i_m1; have z2 := i_m2; omega, ht⟩) (fun q h => by cases h) dX10_isWind_14
  · skip
    have q_1 : (0 : Int) ≤ a.toInt := i_nlt2 (rfl : a.toInt = a.toInt) (show (0 : Int32).toInt = (0 : Int) from rfl) c_1
    refine lv_iload_n hx hb dX10_isWind_4 rfl (lv_at hl 0 rfl) ?_
    refine lv_iconst (v := 5) hx hb dX10_isWind_5 (by decide) ?_
    refine lv_icmp_ge (tgt := 13) hx hb dX10_isWind_6 (by decide) (fun c_2 => ?_) (fun c_2 => ?_)
    · skip
      have q_2 : (5 : Int) ≤ a.toInt := i_le2 (show (5 : Int32).toInt = (5 : Int) from rfl) (rfl : a.toInt = a.toInt) c_2
      refine lv_iconst (v := 0) hx hb dX10_isWind_13 (by decide) ?_
      rw [hQ]
      exact W.zret (v := 0) hx hb hr rfl (fun t ht hW => ⟨0, rfl, by have z0 := i_l0; have z1 := i_l1; have zm := i_m1; have z2 := i_m2; omega, ht⟩) (fun q h => by cases h) dX10_isWind_14
    · skip
      have q_2 : a.toInt < (5 : Int) := i_nle2 (show (5 : Int32).toInt = (5 : Int) from rfl) (rfl : a.toInt = a.toInt) c_2
      refine lv_iconst (v := 1) hx hb dX10_isWind_9 (by decide) ?_
      refine lv_goto (tgt := 14) hx hb dX10_isWind_10 (by decide) ?_
      rw [hQ]
      exact W.zret (v := 1) hx hb hr rfl (fun t ht hW => ⟨1, rfl, by have z0 := i_l0; have z1 := i_l1; have zm := i_m1; have z2 := i_m2; omega, ht⟩) (fun q h => by cases h) dX10_isWind_14
set_option maxHeartbeats 4000000 in
set_option maxRecDepth 100000 in
theorem c_X10_isAction (l : Launch) (a : Int32)  : Met l yX10_isAction wsX10_isAction ({ frames := 0, cells := 0, slots := 0, locals := 0 } : Room) (va_Pc [.int a] (fun _ => True)) (vp_Si (fun r => r.toInt = 1 ∧ (0 ≤ a.toInt ∧ a.toInt < 7) ∨ r.toInt = 0 ∧ ¬ (0 ≤ a.toInt ∧ a.toInt < 7))) 0 0 (fun _ => False) := by
  refine Met.ofW (cc := cX10_isAction) (maxL := 1) (ret := (some .boolean)) (by decide) rfl ?_
  intro p e s m args below meth c s₁ B hml hv
  obtain ⟨rfl, -⟩ := hv
  have hx := B.exec
  have hb := B.bytes
  have hr := B.returns
  have hts := atoms_spec (ws := wsX10_isAction) B.pre
  have hown : s.vm.findClass RX10 = some m.cls := findClass_of_methodNamed B.named
  have hlocks := B.notSynchronized
  have hl := lv_entry ([.int a]) (n := 1) (Nat.le_of_ble_eq_true rfl)
  rw [lg_entry_eq]
  generalize (lg_sl ([.int a]) ++ List.replicate (1 - (lg_sl ([.int a])).length) Slot.unset).toArray = ls at hl ⊢
  have hl : lv_has ls 1 [(0, .int a)] := hl
  obtain ⟨Q, hQ⟩ : ∃ Q, Q = MQ below (vp_Si (fun r => r.toInt = 1 ∧ (0 ≤ a.toInt ∧ a.toInt < 7) ∨ r.toInt = 0 ∧ ¬ (0 ≤ a.toInt ∧ a.toInt < 7))) (([.int a] : List Value).toArray) s 0 0 (fun _ => False) := ⟨_, rfl⟩
  rw [← hQ]
  refine lv_iload_n hx hb dX10_isAction_0 rfl (lv_at hl 0 rfl) ?_
  refine lv_if_lt (tgt := 14) hx hb dX10_isAction_1 (by decide) (fun c_1 => ?_) (fun c_1 => ?_)
  · skip
    have q_1 : a.toInt < (0 : Int) := i_lt2 (rfl : a.toInt = a.toInt) (show (0 : Int32).toInt = (0 : Int) from rfl) c_1
    refine lv_iconst (v := 0) hx hb dX10_isAction_14 (by decide) ?_
    rw [hQ]
    exact W.zret (v := 0) hx hb hr rfl (fun t ht hW => ⟨0, rfl, by have z0 := i_l0; have z1 := i_l1; have zm := i_m1; have z2 := i_m2; omega, ht⟩) (fun q h => by cases h) dX10_isAction_15
  · skip
    have q_1 : (0 : Int) ≤ a.toInt := i_nlt2 (rfl : a.toInt = a.toInt) (show (0 : Int32).toInt = (0 : Int) from rfl) c_1
    refine lv_iload_n hx hb dX10_isAction_4 rfl (lv_at hl 0 rfl) ?_
    refine lv_bipush (v := 7) hx hb dX10_isAction_5 (by decide) ?_
    refine lv_icmp_ge (tgt := 14) hx hb dX10_isAction_7 (by decide) (fun c_2 => ?_) (fun c_2 => ?_)
    · skip
      have q_2 : (7 : Int) ≤ a.toInt := i_le2 (show (7 : Int32).toInt = (7 : Int) from rfl) (rfl : a.toInt = a.toInt) c_2
      refine lv_iconst (v := 0) hx hb dX10_isAction_14 (by decide) ?_
      rw [hQ]
      exact W.zret (v := 0) hx hb hr rfl (fun t ht hW => ⟨0, rfl, by have z0 := i_l0; have z1 := i_l1; have zm := i_m1; have z2 := i_m2; omega, ht⟩) (fun q h => by cases h) dX10_isAction_15
    · skip
      have q_2 : a.toInt < (7 : Int) := i_nle2 (show (7 : Int32).toInt = (7 : Int) from rfl) (rfl : a.toInt = a.toInt) c_2
      refine lv_iconst (v := 1) hx hb dX10_isAction_10 (by decide) ?_
      refine lv_goto (tgt := 15) hx hb dX10_isAction_11 (by decide) ?_
      rw [hQ]
      exact W.zret (v := 1) hx hb hr rfl (fun t ht hW => ⟨1, rfl, by have z0 := i_l0; have z1 := i_l1; have zm := i_m1; have z2 := i_m2; omega, ht⟩) (fun q h => by cases h) dX10_isAction_15
set_option maxHeartbeats 4000000 in
set_option maxRecDepth 100000 in
theorem c_X5_has (l : Launch) (D : va_G) (cy : Nat → ClassId) (ad : Nat → Nat) (hI : gInj ad) (sz : Nat) (iv : gIv) (ar : gAr) (k : Nat) (hk : k < 135) (hd : kd k = 5) (a : Int32)  : Met l yX5_has wsX5_has ({ frames := 0, cells := 0, slots := 0, locals := 0 } : Room) (va_Pc [.ref (ad k), .int a] (gPre D cy ad sz iv ar)) (vp_Si (fun r => r.toInt = 1 ∧ (0 ≤ a.toInt ∧ a.toInt < (iv k 1).toInt ∧ a.toInt < 6) ∨ r.toInt = 0 ∧ ¬ (0 ≤ a.toInt ∧ a.toInt < (iv k 1).toInt ∧ a.toInt < 6))) 0 0 (fun _ => False) := by
  refine Met.ofW (cc := cX5_has) (maxL := 2) (ret := (some .boolean)) (by decide) rfl ?_
  intro p e s m args below meth c s₁ B hml hv
  obtain ⟨rfl, rfl, hP, hK, hSt, hNw⟩ := hv
  have hx := B.exec
  have hb := B.bytes
  have hr := B.returns
  have hts := atoms_spec (ws := wsX5_has) B.pre
  have hown : s.vm.findClass RX5 = some m.cls := findClass_of_methodNamed B.named
  have hlocks := B.notSynchronized
  have hS : va_S (gA ad s.heap.size) s.heap s.heap [] := va_S.rf
  have inX5 : ∀ w ∈ u_ws RX5 TX5 2, w ∈ wsX5_has := by decide +kernel
  have lk0 := hts (.fieldLink RX5 15 "FormationPlanner$Places" "size" "I") (by decide +kernel)
  have hl := lv_entry ([.ref (ad k), .int a]) (n := 2) (Nat.le_of_ble_eq_true rfl)
  rw [lg_entry_eq]
  generalize (lg_sl ([.ref (ad k), .int a]) ++ List.replicate (2 - (lg_sl ([.ref (ad k), .int a])).length) Slot.unset).toArray = ls at hl ⊢
  have hl : lv_has ls 2 [(0, .ref (ad k)), (1, .int a)] := hl
  obtain ⟨Q, hQ⟩ : ∃ Q, Q = MQ below (vp_Si (fun r => r.toInt = 1 ∧ (0 ≤ a.toInt ∧ a.toInt < (iv k 1).toInt ∧ a.toInt < 6) ∨ r.toInt = 0 ∧ ¬ (0 ≤ a.toInt ∧ a.toInt < (iv k 1).toInt ∧ a.toInt < 6))) (([.ref (ad k), .int a] : List Value).toArray) s 0 0 (fun _ => False) := ⟨_, rfl⟩
  rw [← hQ]
  refine lv_iload_n hx hb dX5_has_0 rfl (lv_at hl 1 rfl) ?_
  refine lv_if_lt (tgt := 22) hx hb dX5_has_1 (by decide) (fun c_1 => ?_) (fun c_1 => ?_)
  · skip
    have q_1 : a.toInt < (0 : Int) := i_lt2 (rfl : a.toInt = a.toInt) (show (0 : Int32).toInt = (0 : Int) from rfl) c_1
    refine lv_iconst (v := 0) hx hb dX5_has_22 (by decide) ?_
    rw [hQ]
    exact W.zret (v := 0) hx hb hr rfl (fun t ht hW => ⟨0, rfl, by have z0 := i_l0; have z1 := i_l1; have zm := i_m1; have z2 := i_m2; omega, ht⟩) (fun q h => by cases h) dX5_has_23
  · skip
    have q_1 : (0 : Int) ≤ a.toInt := i_nlt2 (rfl : a.toInt = a.toInt) (show (0 : Int32).toInt = (0 : Int) from rfl) c_1
    refine lv_iload_n hx hb dX5_has_4 rfl (lv_at hl 1 rfl) ?_
    refine lv_aload_n hx hb dX5_has_5 rfl (lv_at hl 0 rfl) ?_
    refine va_get (D := D) (ci := 5) (v := .int (iv k 1)) (C := RX5) (T := TX5) (N := 2) hx hb hts inX5 hown hK hP k (g_at5 hk hd) rfl 1 (by decide) lk0 (fun _ h9 => h9) rfl dX5_has_6 ?_
    refine lv_icmp_ge (tgt := 22) hx hb dX5_has_9 (by decide) (fun c_2 => ?_) (fun c_2 => ?_)
    · skip
      have q_2 : (iv k 1).toInt ≤ a.toInt := i_le2 (rfl : (iv k 1).toInt = (iv k 1).toInt) (rfl : a.toInt = a.toInt) c_2
      refine lv_iconst (v := 0) hx hb dX5_has_22 (by decide) ?_
      rw [hQ]
      exact W.zret (v := 0) hx hb hr rfl (fun t ht hW => ⟨0, rfl, by have z0 := i_l0; have z1 := i_l1; have zm := i_m1; have z2 := i_m2; omega, ht⟩) (fun q h => by cases h) dX5_has_23
    · skip
      have q_2 : a.toInt < (iv k 1).toInt := i_nle2 (rfl : (iv k 1).toInt = (iv k 1).toInt) (rfl : a.toInt = a.toInt) c_2
      refine lv_iload_n hx hb dX5_has_12 rfl (lv_at hl 1 rfl) ?_
      refine lv_bipush (v := 6) hx hb dX5_has_13 (by decide) ?_
      refine lv_icmp_ge (tgt := 22) hx hb dX5_has_15 (by decide) (fun c_3 => ?_) (fun c_3 => ?_)
      · skip
        have q_3 : (6 : Int) ≤ a.toInt := i_le2 (show (6 : Int32).toInt = (6 : Int) from rfl) (rfl : a.toInt = a.toInt) c_3
        refine lv_iconst (v := 0) hx hb dX5_has_22 (by decide) ?_
        rw [hQ]
        exact W.zret (v := 0) hx hb hr rfl (fun t ht hW => ⟨0, rfl, by have z0 := i_l0; have z1 := i_l1; have zm := i_m1; have z2 := i_m2; omega, ht⟩) (fun q h => by cases h) dX5_has_23
      · skip
        have q_3 : a.toInt < (6 : Int) := i_nle2 (show (6 : Int32).toInt = (6 : Int) from rfl) (rfl : a.toInt = a.toInt) c_3
        refine lv_iconst (v := 1) hx hb dX5_has_18 (by decide) ?_
        refine lv_goto (tgt := 23) hx hb dX5_has_19 (by decide) ?_
        rw [hQ]
        exact W.zret (v := 1) hx hb hr rfl (fun t ht hW => ⟨1, rfl, by have z0 := i_l0; have z1 := i_l1; have zm := i_m1; have z2 := i_m2; omega, ht⟩) (fun q h => by cases h) dX5_has_23
set_option maxHeartbeats 4000000 in
set_option maxRecDepth 100000 in
theorem c_X5_cellAt (l : Launch) (D : va_G) (cy : Nat → ClassId) (ad : Nat → Nat) (hI : gInj ad) (sz : Nat) (iv : gIv) (ar : gAr) (k : Nat) (hk : k < 135) (hd : kd k = 5) (a : Int32)  : Met l yX5_cellAt wsX5_cellAt ({ frames := 1, cells := 0, slots := 0, locals := 21 } : Room) (va_Pc [.ref (ad k), .int a] (gPre D cy ad sz iv ar)) (vp_Si (fun r => (0 ≤ a.toInt ∧ a.toInt < (iv k 1).toInt ∧ a.toInt < 6) ∧ r = ar (k + 1) a.toNatClampNeg ∨ ¬ (0 ≤ a.toInt ∧ a.toInt < (iv k 1).toInt ∧ a.toInt < 6) ∧ r = -1)) 0 0 (fun _ => False) := by
  refine Met.ofW (cc := cX5_cellAt) (maxL := 2) (ret := (some .int)) (by decide) rfl ?_
  intro p e s m args below meth c s₁ B hml hv
  obtain ⟨rfl, rfl, hP, hK, hSt, hNw⟩ := hv
  have hx := B.exec
  have hb := B.bytes
  have hr := B.returns
  have hts := atoms_spec (ws := wsX5_cellAt) B.pre
  have hown : s.vm.findClass RX5 = some m.cls := findClass_of_methodNamed B.named
  have hlocks := B.notSynchronized
  have hS : va_S (gA ad s.heap.size) s.heap s.heap [] := va_S.rf
  have inX5 : ∀ w ∈ u_ws RX5 TX5 2, w ∈ wsX5_cellAt := by decide +kernel
  have lk0 := hts (.fieldLink RX5 9 "FormationPlanner$Places" "cells" "[I") (by decide +kernel)
  have hl := lv_entry ([.ref (ad k), .int a]) (n := 2) (Nat.le_of_ble_eq_true rfl)
  rw [lg_entry_eq]
  generalize (lg_sl ([.ref (ad k), .int a]) ++ List.replicate (2 - (lg_sl ([.ref (ad k), .int a])).length) Slot.unset).toArray = ls at hl ⊢
  have hl : lv_has ls 2 [(0, .ref (ad k)), (1, .int a)] := hl
  obtain ⟨Q, hQ⟩ : ∃ Q, Q = MQ below (vp_Si (fun r => (0 ≤ a.toInt ∧ a.toInt < (iv k 1).toInt ∧ a.toInt < 6) ∧ r = ar (k + 1) a.toNatClampNeg ∨ ¬ (0 ≤ a.toInt ∧ a.toInt < (iv k 1).toInt ∧ a.toInt < 6) ∧ r = -1)) (([.ref (ad k), .int a] : List Value).toArray) s 0 0 (fun _ => False) := ⟨_, rfl⟩
  rw [← hQ]
  refine lv_aload_n hx hb dX5_cellAt_0 rfl (lv_at hl 0 rfl) ?_
  refine lv_iload_n hx hb dX5_cellAt_1 rfl (lv_at hl 1 rfl) ?_
  refine g_callSi (va_runV (As := [.int a]) (rest := []) ⟨hx, hb, hml, hown, hts⟩ (c_X5_has l D cy ad hI _ iv ar k hk hd a) (cwV 1 hts gX5_cellAt_X5_has rfl rfl rfl (by decide +kernel) ⟨Nat.le_of_ble_eq_true rfl, Nat.le_of_ble_eq_true rfl⟩) (g_preV hP hK hSt hNw hS (g_at5 hk hd) rfl) rfl rfl hl.1 rfl (lv_room (Nat.le_of_ble_eq_true rfl)) dX5_cellAt_2 ⟨Nat.zero_le _, Nat.zero_le _⟩) (fun r_1 w_1 => ?_)
  try dsimp only at w_1
  refine lv_if_eq (tgt := 17) hx hb dX5_cellAt_5 (by decide) (fun c_2 => ?_) (fun c_2 => ?_)
  · skip
    have q_2 : r_1.toInt = (0 : Int) := i_eq2 (rfl : r_1.toInt = r_1.toInt) (show (0 : Int32).toInt = (0 : Int) from rfl) c_2
    refine lv_iconst (v := (-1)) hx hb dX5_cellAt_17 (by decide) ?_
    rw [hQ]
    exact W.iret (v := (-1)) hx hb hr (fun t ht hW => ⟨(-1), rfl, Or.inr ⟨by omega, rfl⟩, ht⟩) (fun q h => by cases h) dX5_cellAt_18
  · skip
    have q_2 : r_1.toInt ≠ (0 : Int) := i_ne2 (rfl : r_1.toInt = r_1.toInt) (show (0 : Int32).toInt = (0 : Int) from rfl) c_2
    refine lv_aload_n hx hb dX5_cellAt_8 rfl (lv_at hl 0 rfl) ?_
    refine va_get (D := D) (ci := 5) (v := .ref (ad (k + 1))) (C := RX5) (T := TX5) (N := 2) hx hb hts inX5 hown hK hP k (g_at5 hk hd) rfl 0 (by decide) lk0 (fun _ h9 => h9) rfl dX5_cellAt_9 ?_
    refine lv_iload_n hx hb dX5_cellAt_12 rfl (lv_at hl 1 rfl) ?_
    refine va_iald hx hb hK hP (k + 1) 0 (g_at12 (g_k5_0 hk hd).1 (g_k5_0 hk hd).2) rfl (g_in (N := 6) (rfl : a.toInt = a.toInt) (g_l5_0 hk hd) (by omega) (by omega)) dX5_cellAt_13 ?_
    refine lv_topi (fun v_3 ev_3 => ?_)
    refine lv_goto (tgt := 18) hx hb dX5_cellAt_14 (by decide) ?_
    rw [hQ]
    exact W.iret (v := v_3) hx hb hr (fun t ht hW => ⟨v_3, rfl, Or.inl ⟨by omega, ev_3⟩, ht⟩) (fun q h => by cases h) dX5_cellAt_18
set_option maxHeartbeats 4000000 in
set_option maxRecDepth 100000 in
theorem c_X5_find (l : Launch) (D : va_G) (cy : Nat → ClassId) (ad : Nat → Nat) (hI : gInj ad) (sz : Nat) (iv : gIv) (ar : gAr) (k : Nat) (hk : k < 135) (hd : kd k = 5) (a : Int32)  : Met l yX5_find wsX5_find ({ frames := 0, cells := 0, slots := 0, locals := 0 } : Room) (va_Pc [.ref (ad k), .int a] (gPre D cy ad sz iv ar)) (vp_Si (fun r => (r.toInt = -1 ∧ ∀ j : Nat, j < 6 → (j : Int) < (iv k 1).toInt → ar (k + 1) j ≠ a) ∨ (0 ≤ r.toInt ∧ r.toInt < (iv k 1).toInt ∧ r.toInt < 6 ∧ ar (k + 1) r.toNatClampNeg = a))) 0 0 (fun _ => False) := by
  refine Met.ofW (cc := cX5_find) (maxL := 3) (ret := (some .int)) (by decide) rfl ?_
  intro p e s m args below meth c s₁ B hml hv
  obtain ⟨rfl, rfl, hP, hK, hSt, hNw⟩ := hv
  have hx := B.exec
  have hb := B.bytes
  have hr := B.returns
  have hts := atoms_spec (ws := wsX5_find) B.pre
  have hown : s.vm.findClass RX5 = some m.cls := findClass_of_methodNamed B.named
  have hlocks := B.notSynchronized
  have hS : va_S (gA ad s.heap.size) s.heap s.heap [] := va_S.rf
  have inX5 : ∀ w ∈ u_ws RX5 TX5 2, w ∈ wsX5_find := by decide +kernel
  have lk0 := hts (.fieldLink RX5 15 "FormationPlanner$Places" "size" "I") (by decide +kernel)
  have lk1 := hts (.fieldLink RX5 9 "FormationPlanner$Places" "cells" "[I") (by decide +kernel)
  have hl := lv_entry ([.ref (ad k), .int a]) (n := 3) (Nat.le_of_ble_eq_true rfl)
  rw [lg_entry_eq]
  generalize (lg_sl ([.ref (ad k), .int a]) ++ List.replicate (3 - (lg_sl ([.ref (ad k), .int a])).length) Slot.unset).toArray = ls at hl ⊢
  have hl : lv_has ls 3 [(0, .ref (ad k)), (1, .int a)] := hl
  obtain ⟨Q, hQ⟩ : ∃ Q, Q = MQ below (vp_Si (fun r => (r.toInt = -1 ∧ ∀ j : Nat, j < 6 → (j : Int) < (iv k 1).toInt → ar (k + 1) j ≠ a) ∨ (0 ≤ r.toInt ∧ r.toInt < (iv k 1).toInt ∧ r.toInt < 6 ∧ ar (k + 1) r.toNatClampNeg = a))) (([.ref (ad k), .int a] : List Value).toArray) s 0 0 (fun _ => False) := ⟨_, rfl⟩
  rw [← hQ]
  refine lv_iconst (v := 0) hx hb dX5_find_0 (by decide) ?_
  refine lv_istore_n (lv' := [(2, .int 0), (0, .ref (ad k)), (1, .int a)]) hx hb dX5_find_1 rfl hl (by decide) rfl (fun ls hl => ?_)
  have loop2 : ∀ (n : Nat) (x2_1 : Int32) (ls : Array Slot), ((6 - (x2_1.toInt)).toNat) < n → (0 ≤ (x2_1.toInt) ∧ (x2_1.toInt) ≤ 6) → (∀ j : Nat, (j : Int) < (x2_1.toInt) → ar (k + 1) j ≠ a) → lv_has ls 3 [(2, .int x2_1), (0, .ref (ad k)), (1, .int a)] → W p l e (headSpec wsX5_find (({ frames := 0, cells := 0, slots := 0, locals := 0 } : Room))).room s m (([.ref (ad k), .int a] : List Value).toArray) below meth c s.heap [] 0 0 Q (F0 m 2 ls []) := by
    intro n
    induction n with
    | zero => intro x2_1 ls hm; omega
    | succ n ih2 =>
      intro x2_1 ls hm hg0 hg1 hl
      refine lv_iload_n hx hb dX5_find_2 rfl (lv_at hl 0 rfl) ?_
      refine lv_aload_n hx hb dX5_find_3 rfl (lv_at hl 1 rfl) ?_
      refine va_get (D := D) (ci := 5) (v := .int (iv k 1)) (C := RX5) (T := TX5) (N := 2) hx hb hts inX5 hown hK hP k (g_at5 hk hd) rfl 1 (by decide) lk0 (fun _ h9 => h9) rfl dX5_find_4 ?_
      refine lv_icmp_ge (tgt := 34) hx hb dX5_find_7 (by decide) (fun c_3 => ?_) (fun c_3 => ?_)
      · skip
        have q_3 : (iv k 1).toInt ≤ x2_1.toInt := i_le2 (rfl : (iv k 1).toInt = (iv k 1).toInt) (rfl : x2_1.toInt = x2_1.toInt) c_3
        refine lv_iconst (v := (-1)) hx hb dX5_find_34 (by decide) ?_
        rw [hQ]
        exact W.iret (v := (-1)) hx hb hr (fun t ht hW => ⟨(-1), rfl, Or.inl ⟨rfl, fun j h6 hj => hg1 j (by omega)⟩, ht⟩) (fun q h => by cases h) dX5_find_35
      · skip
        have q_3 : x2_1.toInt < (iv k 1).toInt := i_nle2 (rfl : (iv k 1).toInt = (iv k 1).toInt) (rfl : x2_1.toInt = x2_1.toInt) c_3
        refine lv_iload_n hx hb dX5_find_10 rfl (lv_at hl 0 rfl) ?_
        refine lv_bipush (v := 6) hx hb dX5_find_11 (by decide) ?_
        refine lv_icmp_ge (tgt := 34) hx hb dX5_find_13 (by decide) (fun c_4 => ?_) (fun c_4 => ?_)
        · skip
          have q_4 : (6 : Int) ≤ x2_1.toInt := i_le2 (show (6 : Int32).toInt = (6 : Int) from rfl) (rfl : x2_1.toInt = x2_1.toInt) c_4
          refine lv_iconst (v := (-1)) hx hb dX5_find_34 (by decide) ?_
          rw [hQ]
          exact W.iret (v := (-1)) hx hb hr (fun t ht hW => ⟨(-1), rfl, Or.inl ⟨rfl, fun j h6 hj => hg1 j (by omega)⟩, ht⟩) (fun q h => by cases h) dX5_find_35
        · skip
          have q_4 : x2_1.toInt < (6 : Int) := i_nle2 (show (6 : Int32).toInt = (6 : Int) from rfl) (rfl : x2_1.toInt = x2_1.toInt) c_4
          refine lv_aload_n hx hb dX5_find_16 rfl (lv_at hl 1 rfl) ?_
          refine va_get (D := D) (ci := 5) (v := .ref (ad (k + 1))) (C := RX5) (T := TX5) (N := 2) hx hb hts inX5 hown hK hP k (g_at5 hk hd) rfl 0 (by decide) lk1 (fun _ h9 => h9) rfl dX5_find_17 ?_
          refine lv_iload_n hx hb dX5_find_20 rfl (lv_at hl 0 rfl) ?_
          refine va_iald hx hb hK hP (k + 1) 0 (g_at12 (g_k5_0 hk hd).1 (g_k5_0 hk hd).2) rfl (g_in (N := 6) (rfl : x2_1.toInt = x2_1.toInt) (g_l5_0 hk hd) (by omega) (by omega)) dX5_find_21 ?_
          refine lv_topi (fun v_5 ev_5 => ?_)
          have hev := ev_5
          refine lv_iload_n hx hb dX5_find_22 rfl (lv_at hl 2 rfl) ?_
          refine lv_icmp_ne (tgt := 28) hx hb dX5_find_23 (by decide) (fun c_6 => ?_) (fun c_6 => ?_)
          · skip
            have q_6 : v_5.toInt ≠ a.toInt := i_ne2 (rfl : v_5.toInt = v_5.toInt) (rfl : a.toInt = a.toInt) c_6
            have hfx : ∀ j : Nat, (j : Int) < (x2_1.toInt) + 1 → ar (k + 1) j ≠ a := fun j hj => by
              by_cases hh : (j : Int) < (x2_1.toInt)
              · exact hg1 j hh
              · intro hq
                exact c_6 (hev.trans ((congrArg (ar (k + 1)) (show x2_1.toNatClampNeg = j from by rw [g_cN (rfl : x2_1.toInt = _)]; omega)).trans hq))
            obtain ⟨x2_7, ex2_7⟩ : ∃ y : Int32, y = x2_1 + 1 := ⟨_, rfl⟩
            have tx2_7 : x2_7.toInt = x2_1.toInt + (1 : Int) := i_add (rfl : x2_1.toInt = x2_1.toInt) (show (1 : Int32).toInt = (1 : Int) from rfl) (by omega) (by omega) ex2_7
            refine lv_iinc (v := x2_7) (lv' := [(2, .int x2_7), (0, .ref (ad k)), (1, .int a)]) hx hb dX5_find_28 hl (k := 0) rfl (by rw [ex2_7]; rfl) (by decide) rfl (fun ls hl => ?_)
            refine lv_goto (tgt := 2) hx hb dX5_find_31 (by decide) ?_
            exact ih2 x2_7 _ (by omega) (by omega) (fun j hj => hfx j (by omega)) (lv_sub hl [0, 1, 2] rfl)
          · skip
            have q_6 : v_5.toInt = a.toInt := i_eq2 (rfl : v_5.toInt = v_5.toInt) (rfl : a.toInt = a.toInt) c_6
            have heq := c_6
            refine lv_iload_n hx hb dX5_find_26 rfl (lv_at hl 0 rfl) ?_
            rw [hQ]
            exact W.iret (v := x2_1) hx hb hr (fun t ht hW => ⟨x2_1, rfl, Or.inr ⟨by omega, by omega, by omega, hev.symm.trans heq⟩, ht⟩) (fun q h => by cases h) dX5_find_27
  have zl_8 : (0 : Int32).toInt = (0 : Int) := rfl
  exact loop2 (((6 - ((0 : Int))).toNat) + 1) 0 _ (by omega) (by omega) (fun j hj => by exfalso; omega) (lv_sub hl [0, 1, 2] rfl)
set_option maxHeartbeats 4000000 in
set_option maxRecDepth 100000 in
theorem c_X5_move (l : Launch) (D : va_G) (cy : Nat → ClassId) (ad : Nat → Nat) (hI : gInj ad) (sz : Nat) (iv : gIv) (ar : gAr) (k : Nat) (hk : k < 135) (hd : kd k = 5) (a : Int32) (b : Int32)  : Met l yX5_move wsX5_move ({ frames := 1, cells := 0, slots := 0, locals := 21 } : Room) (va_Pc [.ref (ad k), .int a, .int b] (gPre D cy ad sz iv ar)) (va_Qv (fun (u : gIv × gAr) => u.1 = iv ∧ (∀ j, j ≠ k + 1 → u.2 j = ar j)) (gPost D cy ad) (gA ad sz)) 0 0 (gA ad sz) := by
  refine Met.ofW (cc := cX5_move) (maxL := 3) (ret := none) (by decide) rfl ?_
  intro p e s m args below meth c s₁ B hml hv
  obtain ⟨rfl, rfl, hP, hK, hSt, hNw⟩ := hv
  have hx := B.exec
  have hb := B.bytes
  have hr := B.returns
  have hts := atoms_spec (ws := wsX5_move) B.pre
  have hown : s.vm.findClass RX5 = some m.cls := findClass_of_methodNamed B.named
  have hlocks := B.notSynchronized
  have hS : va_S (gA ad s.heap.size) s.heap s.heap [] := va_S.rf
  have inX5 : ∀ w ∈ u_ws RX5 TX5 2, w ∈ wsX5_move := by decide +kernel
  have lk0 := hts (.fieldLink RX5 9 "FormationPlanner$Places" "cells" "[I") (by decide +kernel)
  have hl := lv_entry ([.ref (ad k), .int a, .int b]) (n := 3) (Nat.le_of_ble_eq_true rfl)
  rw [lg_entry_eq]
  generalize (lg_sl ([.ref (ad k), .int a, .int b]) ++ List.replicate (3 - (lg_sl ([.ref (ad k), .int a, .int b])).length) Slot.unset).toArray = ls at hl ⊢
  have hl : lv_has ls 3 [(0, .ref (ad k)), (1, .int a), (2, .int b)] := hl
  obtain ⟨Q, hQ⟩ : ∃ Q, Q = MQ below (va_Qv (fun (u : gIv × gAr) => u.1 = iv ∧ (∀ j, j ≠ k + 1 → u.2 j = ar j)) (gPost D cy ad) (gA ad s.heap.size)) (([.ref (ad k), .int a, .int b] : List Value).toArray) s 0 0 (gA ad s.heap.size) := ⟨_, rfl⟩
  rw [← hQ]
  refine lv_aload_n hx hb dX5_move_0 rfl (lv_at hl 0 rfl) ?_
  refine lv_iload_n hx hb dX5_move_1 rfl (lv_at hl 1 rfl) ?_
  refine g_callSi (va_runV (As := [.int a]) (rest := []) ⟨hx, hb, hml, hown, hts⟩ (c_X5_has l D cy ad hI _ iv ar k hk hd a) (cwV 1 hts gX5_move_X5_has rfl rfl rfl (by decide +kernel) ⟨Nat.le_of_ble_eq_true rfl, Nat.le_of_ble_eq_true rfl⟩) (g_preV hP hK hSt hNw hS (g_at5 hk hd) rfl) rfl rfl hl.1 rfl (lv_room (Nat.le_of_ble_eq_true rfl)) dX5_move_2 ⟨Nat.zero_le _, Nat.zero_le _⟩) (fun r_1 w_1 => ?_)
  try dsimp only at w_1
  refine lv_if_eq (tgt := 15) hx hb dX5_move_5 (by decide) (fun c_2 => ?_) (fun c_2 => ?_)
  · skip
    have q_2 : r_1.toInt = (0 : Int) := i_eq2 (rfl : r_1.toInt = r_1.toInt) (show (0 : Int32).toInt = (0 : Int) from rfl) c_2
    rw [hQ]
    exact W.vret hx hb hr (fun t ht hW => ⟨⟨(iv, ar), rfl, ⟨rfl, fun j hj => by rfl⟩, by show va_P _ _ _ _; rw [ht]; exact hP⟩, hS.F ht⟩) hS.2.2 dX5_move_15
  · skip
    have q_2 : r_1.toInt ≠ (0 : Int) := i_ne2 (rfl : r_1.toInt = r_1.toInt) (show (0 : Int32).toInt = (0 : Int) from rfl) c_2
    refine lv_aload_n hx hb dX5_move_8 rfl (lv_at hl 0 rfl) ?_
    refine va_get (D := D) (ci := 5) (v := .ref (ad (k + 1))) (C := RX5) (T := TX5) (N := 2) hx hb hts inX5 hown hK hP k (g_at5 hk hd) rfl 0 (by decide) lk0 (fun _ h9 => h9) rfl dX5_move_9 ?_
    refine lv_iload_n hx hb dX5_move_12 rfl (lv_at hl 1 rfl) ?_
    refine lv_iload_n hx hb dX5_move_13 rfl (lv_at hl 2 rfl) ?_
    refine va_iast hx hb hK hP (gD hI) hS (k + 1) 0 (g_at12 (g_k5_0 hk hd).1 (g_k5_0 hk hd).2) rfl (g_in (N := 6) (rfl : a.toInt = a.toInt) (g_l5_0 hk hd) (by omega) (by omega)) dX5_move_14 (fun H locs hP _ hS => ?_)
    rw [g_pt12 (g_k5_0 hk hd).1 (g_k5_0 hk hd).2] at hP
    obtain ⟨ar_3, ear_3⟩ : ∃ z : gAr, z = va_up ar (k + 1) (upd (ar (k + 1)) a.toNatClampNeg b) := ⟨_, rfl⟩
    rw [← ear_3] at hP
    rw [hQ]
    exact W.vret hx hb hr (fun t ht hW => ⟨⟨(iv, ar_3), rfl, ⟨rfl, fun j hj => by show ar_3 j = ar j; rw [ear_3, ua_o hj]⟩, by show va_P _ _ _ _; rw [ht]; exact hP⟩, hS.F ht⟩) hS.2.2 dX5_move_15
set_option maxHeartbeats 4000000 in
set_option maxRecDepth 100000 in
theorem c_X5_clear (l : Launch) (D : va_G) (cy : Nat → ClassId) (ad : Nat → Nat) (hI : gInj ad) (sz : Nat) (iv : gIv) (ar : gAr) (k : Nat) (hk : k < 135) (hd : kd k = 5)  : Met l yX5_clear wsX5_clear ({ frames := 0, cells := 0, slots := 0, locals := 0 } : Room) (va_Pc [.ref (ad k)] (gPre D cy ad sz iv ar)) (va_Qv (fun (u : gIv × gAr) => u.1 = u2 iv k 1 0 ∧ u.2 = ar) (gPost D cy ad) (gA ad sz)) 0 0 (gA ad sz) := by
  refine Met.ofW (cc := cX5_clear) (maxL := 1) (ret := none) (by decide) rfl ?_
  intro p e s m args below meth c s₁ B hml hv
  obtain ⟨rfl, rfl, hP, hK, hSt, hNw⟩ := hv
  have hx := B.exec
  have hb := B.bytes
  have hr := B.returns
  have hts := atoms_spec (ws := wsX5_clear) B.pre
  have hown : s.vm.findClass RX5 = some m.cls := findClass_of_methodNamed B.named
  have hlocks := B.notSynchronized
  have hS : va_S (gA ad s.heap.size) s.heap s.heap [] := va_S.rf
  have inX5 : ∀ w ∈ u_ws RX5 TX5 2, w ∈ wsX5_clear := by decide +kernel
  have lk0 := hts (.fieldLink RX5 15 "FormationPlanner$Places" "size" "I") (by decide +kernel)
  have hl := lv_entry ([.ref (ad k)]) (n := 1) (Nat.le_of_ble_eq_true rfl)
  rw [lg_entry_eq]
  generalize (lg_sl ([.ref (ad k)]) ++ List.replicate (1 - (lg_sl ([.ref (ad k)])).length) Slot.unset).toArray = ls at hl ⊢
  have hl : lv_has ls 1 [(0, .ref (ad k))] := hl
  obtain ⟨Q, hQ⟩ : ∃ Q, Q = MQ below (va_Qv (fun (u : gIv × gAr) => u.1 = u2 iv k 1 0 ∧ u.2 = ar) (gPost D cy ad) (gA ad s.heap.size)) (([.ref (ad k)] : List Value).toArray) s 0 0 (gA ad s.heap.size) := ⟨_, rfl⟩
  rw [← hQ]
  refine lv_aload_n hx hb dX5_clear_0 rfl (lv_at hl 0 rfl) ?_
  refine lv_iconst (v := 0) hx hb dX5_clear_1 (by decide) ?_
  refine va_put (D := D) (ci := 5) (v := .int 0) (ty := .int) (C := RX5) (T := TX5) (N := 2) hx hb hts inX5 tyX5 tyX5_ok nmX5 hown hK hP (gD hI) hS k (g_at5 hk hd) rfl 1 (by decide) lk0 (fun _ h9 => h9) rfl (by decide +kernel) rfl rfl (Nat.le_of_ble_eq_true rfl) dX5_clear_2 (fun H locs hP _ hS => ?_)
  have hP : va_P D vwCl (GW cy ad (u2 iv k 1 0) ar) H := by rw [← g_pt5_1 hk hd]; exact hP
  obtain ⟨iv_1, eiv_1⟩ : ∃ z : gIv, z = u2 iv k 1 0 := ⟨_, rfl⟩
  rw [← eiv_1] at hP
  rw [hQ]
  exact W.vret hx hb hr (fun t ht hW => ⟨⟨(iv_1, ar), rfl, ⟨eiv_1, rfl⟩, by show va_P _ _ _ _; rw [ht]; exact hP⟩, hS.F ht⟩) hS.2.2 dX5_clear_5
set_option maxHeartbeats 4000000 in
set_option maxRecDepth 100000 in
theorem c_X5_add (l : Launch) (D : va_G) (cy : Nat → ClassId) (ad : Nat → Nat) (hI : gInj ad) (sz : Nat) (iv : gIv) (ar : gAr) (k : Nat) (hk : k < 135) (hd : kd k = 5) (a : Int32)  : Met l yX5_add wsX5_add ({ frames := 0, cells := 0, slots := 0, locals := 0 } : Room) (va_Pc [.ref (ad k), .int a] (gPre D cy ad sz iv ar)) (va_Qv (fun (u : gIv × gAr) => ((¬ (0 ≤ (iv k 1).toInt ∧ (iv k 1).toInt < 6) ∧ u = (iv, ar)) ∨ (0 ≤ (iv k 1).toInt ∧ (iv k 1).toInt < 6 ∧ ∃ x : Int32, x.toInt = (iv k 1).toInt + 1 ∧ u = (u2 iv k 1 x, va_up ar (k + 1) (upd (ar (k + 1)) (iv k 1).toNatClampNeg a))))) (gPost D cy ad) (gA ad sz)) 0 0 (gA ad sz) := by
  refine Met.ofW (cc := cX5_add) (maxL := 2) (ret := none) (by decide) rfl ?_
  intro p e s m args below meth c s₁ B hml hv
  obtain ⟨rfl, rfl, hP, hK, hSt, hNw⟩ := hv
  have hx := B.exec
  have hb := B.bytes
  have hr := B.returns
  have hts := atoms_spec (ws := wsX5_add) B.pre
  have hown : s.vm.findClass RX5 = some m.cls := findClass_of_methodNamed B.named
  have hlocks := B.notSynchronized
  have hS : va_S (gA ad s.heap.size) s.heap s.heap [] := va_S.rf
  have inX5 : ∀ w ∈ u_ws RX5 TX5 2, w ∈ wsX5_add := by decide +kernel
  have lk0 := hts (.fieldLink RX5 15 "FormationPlanner$Places" "size" "I") (by decide +kernel)
  have lk1 := hts (.fieldLink RX5 9 "FormationPlanner$Places" "cells" "[I") (by decide +kernel)
  have hl := lv_entry ([.ref (ad k), .int a]) (n := 2) (Nat.le_of_ble_eq_true rfl)
  rw [lg_entry_eq]
  generalize (lg_sl ([.ref (ad k), .int a]) ++ List.replicate (2 - (lg_sl ([.ref (ad k), .int a])).length) Slot.unset).toArray = ls at hl ⊢
  have hl : lv_has ls 2 [(0, .ref (ad k)), (1, .int a)] := hl
  obtain ⟨Q, hQ⟩ : ∃ Q, Q = MQ below (va_Qv (fun (u : gIv × gAr) => ((¬ (0 ≤ (iv k 1).toInt ∧ (iv k 1).toInt < 6) ∧ u = (iv, ar)) ∨ (0 ≤ (iv k 1).toInt ∧ (iv k 1).toInt < 6 ∧ ∃ x : Int32, x.toInt = (iv k 1).toInt + 1 ∧ u = (u2 iv k 1 x, va_up ar (k + 1) (upd (ar (k + 1)) (iv k 1).toNatClampNeg a))))) (gPost D cy ad) (gA ad s.heap.size)) (([.ref (ad k), .int a] : List Value).toArray) s 0 0 (gA ad s.heap.size) := ⟨_, rfl⟩
  rw [← hQ]
  refine lv_aload_n hx hb dX5_add_0 rfl (lv_at hl 0 rfl) ?_
  refine va_get (D := D) (ci := 5) (v := .int (iv k 1)) (C := RX5) (T := TX5) (N := 2) hx hb hts inX5 hown hK hP k (g_at5 hk hd) rfl 1 (by decide) lk0 (fun _ h9 => h9) rfl dX5_add_1 ?_
  refine lv_if_lt (tgt := 36) hx hb dX5_add_4 (by decide) (fun c_1 => ?_) (fun c_1 => ?_)
  · skip
    have q_1 : (iv k 1).toInt < (0 : Int) := i_lt2 (rfl : (iv k 1).toInt = (iv k 1).toInt) (show (0 : Int32).toInt = (0 : Int) from rfl) c_1
    rw [hQ]
    exact W.vret hx hb hr (fun t ht hW => ⟨⟨(iv, ar), rfl, Or.inl ⟨by omega, rfl⟩, by show va_P _ _ _ _; rw [ht]; exact hP⟩, hS.F ht⟩) hS.2.2 dX5_add_36
  · skip
    have q_1 : (0 : Int) ≤ (iv k 1).toInt := i_nlt2 (rfl : (iv k 1).toInt = (iv k 1).toInt) (show (0 : Int32).toInt = (0 : Int) from rfl) c_1
    refine lv_aload_n hx hb dX5_add_7 rfl (lv_at hl 0 rfl) ?_
    refine va_get (D := D) (ci := 5) (v := .int (iv k 1)) (C := RX5) (T := TX5) (N := 2) hx hb hts inX5 hown hK hP k (g_at5 hk hd) rfl 1 (by decide) lk0 (fun _ h9 => h9) rfl dX5_add_8 ?_
    refine lv_bipush (v := 6) hx hb dX5_add_11 (by decide) ?_
    refine lv_icmp_ge (tgt := 36) hx hb dX5_add_13 (by decide) (fun c_2 => ?_) (fun c_2 => ?_)
    · skip
      have q_2 : (6 : Int) ≤ (iv k 1).toInt := i_le2 (show (6 : Int32).toInt = (6 : Int) from rfl) (rfl : (iv k 1).toInt = (iv k 1).toInt) c_2
      rw [hQ]
      exact W.vret hx hb hr (fun t ht hW => ⟨⟨(iv, ar), rfl, Or.inl ⟨by omega, rfl⟩, by show va_P _ _ _ _; rw [ht]; exact hP⟩, hS.F ht⟩) hS.2.2 dX5_add_36
    · skip
      have q_2 : (iv k 1).toInt < (6 : Int) := i_nle2 (show (6 : Int32).toInt = (6 : Int) from rfl) (rfl : (iv k 1).toInt = (iv k 1).toInt) c_2
      refine lv_aload_n hx hb dX5_add_16 rfl (lv_at hl 0 rfl) ?_
      refine va_get (D := D) (ci := 5) (v := .ref (ad (k + 1))) (C := RX5) (T := TX5) (N := 2) hx hb hts inX5 hown hK hP k (g_at5 hk hd) rfl 0 (by decide) lk1 (fun _ h9 => h9) rfl dX5_add_17 ?_
      refine lv_aload_n hx hb dX5_add_20 rfl (lv_at hl 0 rfl) ?_
      refine va_get (D := D) (ci := 5) (v := .int (iv k 1)) (C := RX5) (T := TX5) (N := 2) hx hb hts inX5 hown hK hP k (g_at5 hk hd) rfl 1 (by decide) lk0 (fun _ h9 => h9) rfl dX5_add_21 ?_
      refine lv_iload_n hx hb dX5_add_24 rfl (lv_at hl 1 rfl) ?_
      refine va_iast hx hb hK hP (gD hI) hS (k + 1) 0 (g_at12 (g_k5_0 hk hd).1 (g_k5_0 hk hd).2) rfl (g_in (N := 6) (rfl : (iv k 1).toInt = (iv k 1).toInt) (g_l5_0 hk hd) (by omega) (by omega)) dX5_add_25 (fun H locs hP _ hS => ?_)
      rw [g_pt12 (g_k5_0 hk hd).1 (g_k5_0 hk hd).2] at hP
      obtain ⟨ar_3, ear_3⟩ : ∃ z : gAr, z = va_up ar (k + 1) (upd (ar (k + 1)) (iv k 1).toNatClampNeg a) := ⟨_, rfl⟩
      rw [← ear_3] at hP
      refine lv_aload_n hx hb dX5_add_26 rfl (lv_at hl 0 rfl) ?_
      refine lv_dup hx hb dX5_add_27 rfl ?_
      refine va_get (D := D) (ci := 5) (v := .int (iv k 1)) (C := RX5) (T := TX5) (N := 2) hx hb hts inX5 hown hK hP k (g_at5 hk hd) rfl 1 (by decide) lk0 (fun _ h9 => h9) rfl dX5_add_28 ?_
      refine lv_iconst (v := 1) hx hb dX5_add_31 (by decide) ?_
      refine lv_iadd hx hb dX5_add_32 ?_
      refine lv_topi (fun v_4 ev_4 => ?_)
      have rg_5 := i_rng (iv k 1)
      have tv_4 : v_4.toInt = ((iv k 1).toInt) + (1 : Int) := i_add (rfl : (iv k 1).toInt = (iv k 1).toInt) (show (1 : Int32).toInt = (1 : Int) from rfl) (by omega) (by omega) ev_4
      refine va_put (D := D) (ci := 5) (v := .int v_4) (ty := .int) (C := RX5) (T := TX5) (N := 2) hx hb hts inX5 tyX5 tyX5_ok nmX5 hown hK hP (gD hI) hS k (g_at5 hk hd) rfl 1 (by decide) lk0 (fun _ h9 => h9) rfl (by decide +kernel) rfl rfl (Nat.le_of_ble_eq_true rfl) dX5_add_33 (fun H locs hP _ hS => ?_)
      have hP : va_P D vwCl (GW cy ad (u2 iv k 1 v_4) ar_3) H := by rw [← g_pt5_1 hk hd]; exact hP
      obtain ⟨iv_6, eiv_6⟩ : ∃ z : gIv, z = u2 iv k 1 v_4 := ⟨_, rfl⟩
      rw [← eiv_6] at hP
      rw [hQ]
      exact W.vret hx hb hr (fun t ht hW => ⟨⟨(iv_6, ar_3), rfl, Or.inr ⟨by omega, by omega, _, tv_4, by rw [eiv_6, ear_3]⟩, by show va_P _ _ _ _; rw [ht]; exact hP⟩, hS.F ht⟩) hS.2.2 dX5_add_36
