set_option maxHeartbeats 4000000 in
set_option maxRecDepth 100000 in
theorem c_X1_cellAt (l : Launch) (D : va_G) (cy : Nat → ClassId) (ad : Nat → Nat) (hI : gInj ad) (sz : Nat) (iv : gIv) (ar : gAr) (k : Nat) (hk : k < 135) (hd : kd k = 1) (a : Int32)  : Met l yX1_cellAt wsX1_cellAt ({ frames := 1, cells := 0, slots := 0, locals := 15 } : Room) (va_Pc [.ref (ad k), .int a] (gPre D cy ad sz iv ar)) (vp_Si (fun r => True)) 0 0 (fun _ => False) := by
  refine Met.ofW (cc := cX1_cellAt) (maxL := 2) (ret := (some .int)) (by decide) rfl ?_
  intro p e s m args below meth c s₁ B hml hv
  obtain ⟨rfl, rfl, hP, hK, hSt, hNw⟩ := hv
  have hx := B.exec
  have hb := B.bytes
  have hr := B.returns
  have hts := atoms_spec (ws := wsX1_cellAt) B.pre
  have hown : s.vm.findClass RX1 = some m.cls := findClass_of_methodNamed B.named
  have hlocks := B.notSynchronized
  have hS : va_S (gA ad s.heap.size) s.heap s.heap [] := va_S.rf
  have inX1 : ∀ w ∈ u_ws RX1 TX1 5, w ∈ wsX1_cellAt := by decide +kernel
  have lk0 := hts (.fieldLink RX1 9 "FormationPlanner$Flight" "cells" "[I") (by decide +kernel)
  have lk1 := hts (.methodLink RX1 34 Lib.Math.min.name) (by decide +kernel)
  have lk2 := hts (.static Lib.Math.min.name) (by decide +kernel)
  have lk3 := hts (.initialized "java/lang/Math") (by decide +kernel)
  have lk4 := hts (.code Lib.Math.min.name Lib.Math.min.code 2 (some .int)) (by decide +kernel)
  have lk5 := hts (.methodLink RX1 28 Lib.Math.max.name) (by decide +kernel)
  have lk6 := hts (.static Lib.Math.max.name) (by decide +kernel)
  have lk7 := hts (.code Lib.Math.max.name Lib.Math.max.code 2 (some .int)) (by decide +kernel)
  have hl := lv_entry ([.ref (ad k), .int a]) (n := 2) (Nat.le_of_ble_eq_true rfl)
  rw [lg_entry_eq]
  generalize (lg_sl ([.ref (ad k), .int a]) ++ List.replicate (2 - (lg_sl ([.ref (ad k), .int a])).length) Slot.unset).toArray = ls at hl ⊢
  have hl : lv_has ls 2 [(0, .ref (ad k)), (1, .int a)] := hl
  obtain ⟨Q, hQ⟩ : ∃ Q, Q = MQ below (vp_Si (fun r => True)) (([.ref (ad k), .int a] : List Value).toArray) s 0 0 (fun _ => False) := ⟨_, rfl⟩
  rw [← hQ]
  refine lv_aload_n hx hb dX1_cellAt_0 rfl (lv_at hl 0 rfl) ?_
  refine va_get (D := D) (ci := 1) (v := .ref (ad (k + 1))) (C := RX1) (T := TX1) (N := 5) hx hb hts inX1 hown hK hP k (g_at1 hk hd) rfl 0 (by decide) lk0 (fun _ h9 => h9) rfl dX1_cellAt_1 ?_
  refine lv_iconst (v := 0) hx hb dX1_cellAt_4 (by decide) ?_
  refine lv_iload_n hx hb dX1_cellAt_5 rfl (lv_at hl 1 rfl) ?_
  refine lv_bipush (v := 60) hx hb dX1_cellAt_6 (by decide) ?_
  refine va_mmin (rest := [.int 0, .ref (ad (k + 1))]) hx hb (hml.trans hl.1.symm) hown lk1 lk2 lk3 lk4 (Nat.le_of_ble_eq_true rfl) (Nat.le_of_ble_eq_true rfl) (Nat.zero_le _) (Nat.zero_le _) dX1_cellAt_8 ?_
  refine lv_topi (fun v_1 ev_1 => ?_)
  have tv_1 : v_1.toInt = min a.toInt (60 : Int) := i_min (rfl : a.toInt = a.toInt) (show (60 : Int32).toInt = (60 : Int) from rfl) ev_1
  refine va_mmax (rest := [.ref (ad (k + 1))]) hx hb (hml.trans hl.1.symm) hown lk5 lk6 lk3 lk7 (Nat.le_of_ble_eq_true rfl) (Nat.le_of_ble_eq_true rfl) (Nat.zero_le _) (Nat.zero_le _) dX1_cellAt_11 ?_
  refine lv_topi (fun v_2 ev_2 => ?_)
  have tv_2 : v_2.toInt = max (0 : Int) v_1.toInt := i_max (show (0 : Int32).toInt = (0 : Int) from rfl) (rfl : v_1.toInt = v_1.toInt) ev_2
  refine va_iald hx hb hK hP (k + 1) 0 (g_at12 (g_k1_0 hk hd).1 (g_k1_0 hk hd).2) rfl (g_in (N := 61) (rfl : v_2.toInt = v_2.toInt) (g_l1_0 hk hd) (by omega) (by omega)) dX1_cellAt_14 ?_
  refine lv_topi (fun v_3 ev_3 => ?_)
  rw [hQ]
  exact W.iret (v := v_3) hx hb hr (fun t ht hW => ⟨v_3, rfl, trivial, ht⟩) (fun q h => by cases h) dX1_cellAt_15
set_option maxHeartbeats 4000000 in
set_option maxRecDepth 100000 in
theorem c_X1_actionAt (l : Launch) (D : va_G) (cy : Nat → ClassId) (ad : Nat → Nat) (hI : gInj ad) (sz : Nat) (iv : gIv) (ar : gAr) (k : Nat) (hk : k < 135) (hd : kd k = 1) (a : Int32)  : Met l yX1_actionAt wsX1_actionAt ({ frames := 0, cells := 0, slots := 0, locals := 0 } : Room) (va_Pc [.ref (ad k), .int a] (gPre D cy ad sz iv ar)) (vp_Si (fun r => True)) 0 0 (fun _ => False) := by
  refine Met.ofW (cc := cX1_actionAt) (maxL := 2) (ret := (some .int)) (by decide) rfl ?_
  intro p e s m args below meth c s₁ B hml hv
  obtain ⟨rfl, rfl, hP, hK, hSt, hNw⟩ := hv
  have hx := B.exec
  have hb := B.bytes
  have hr := B.returns
  have hts := atoms_spec (ws := wsX1_actionAt) B.pre
  have hown : s.vm.findClass RX1 = some m.cls := findClass_of_methodNamed B.named
  have hlocks := B.notSynchronized
  have hS : va_S (gA ad s.heap.size) s.heap s.heap [] := va_S.rf
  have inX1 : ∀ w ∈ u_ws RX1 TX1 5, w ∈ wsX1_actionAt := by decide +kernel
  have lk0 := hts (.fieldLink RX1 18 "FormationPlanner$Flight" "arrival" "I") (by decide +kernel)
  have lk1 := hts (.fieldLink RX1 15 "FormationPlanner$Flight" "actions" "[I") (by decide +kernel)
  have hl := lv_entry ([.ref (ad k), .int a]) (n := 2) (Nat.le_of_ble_eq_true rfl)
  rw [lg_entry_eq]
  generalize (lg_sl ([.ref (ad k), .int a]) ++ List.replicate (2 - (lg_sl ([.ref (ad k), .int a])).length) Slot.unset).toArray = ls at hl ⊢
  have hl : lv_has ls 2 [(0, .ref (ad k)), (1, .int a)] := hl
  obtain ⟨Q, hQ⟩ : ∃ Q, Q = MQ below (vp_Si (fun r => True)) (([.ref (ad k), .int a] : List Value).toArray) s 0 0 (fun _ => False) := ⟨_, rfl⟩
  rw [← hQ]
  refine lv_iload_n hx hb dX1_actionAt_0 rfl (lv_at hl 1 rfl) ?_
  refine lv_if_lt (tgt := 27) hx hb dX1_actionAt_1 (by decide) (fun c_1 => ?_) (fun c_1 => ?_)
  · skip
    have q_1 : a.toInt < (0 : Int) := i_lt2 (rfl : a.toInt = a.toInt) (show (0 : Int32).toInt = (0 : Int) from rfl) c_1
    refine lv_iconst (v := 0) hx hb dX1_actionAt_27 (by decide) ?_
    rw [hQ]
    exact W.iret (v := 0) hx hb hr (fun t ht hW => ⟨0, rfl, trivial, ht⟩) (fun q h => by cases h) dX1_actionAt_28
  · skip
    have q_1 : (0 : Int) ≤ a.toInt := i_nlt2 (rfl : a.toInt = a.toInt) (show (0 : Int32).toInt = (0 : Int) from rfl) c_1
    refine lv_iload_n hx hb dX1_actionAt_4 rfl (lv_at hl 1 rfl) ?_
    refine lv_aload_n hx hb dX1_actionAt_5 rfl (lv_at hl 0 rfl) ?_
    refine va_get (D := D) (ci := 1) (v := .int (iv k 2)) (C := RX1) (T := TX1) (N := 5) hx hb hts inX1 hown hK hP k (g_at1 hk hd) rfl 2 (by decide) lk0 (fun _ h9 => h9) rfl dX1_actionAt_6 ?_
    refine lv_icmp_ge (tgt := 27) hx hb dX1_actionAt_9 (by decide) (fun c_2 => ?_) (fun c_2 => ?_)
    · skip
      have q_2 : (iv k 2).toInt ≤ a.toInt := i_le2 (rfl : (iv k 2).toInt = (iv k 2).toInt) (rfl : a.toInt = a.toInt) c_2
      refine lv_iconst (v := 0) hx hb dX1_actionAt_27 (by decide) ?_
      rw [hQ]
      exact W.iret (v := 0) hx hb hr (fun t ht hW => ⟨0, rfl, trivial, ht⟩) (fun q h => by cases h) dX1_actionAt_28
    · skip
      have q_2 : a.toInt < (iv k 2).toInt := i_nle2 (rfl : (iv k 2).toInt = (iv k 2).toInt) (rfl : a.toInt = a.toInt) c_2
      refine lv_iload_n hx hb dX1_actionAt_12 rfl (lv_at hl 1 rfl) ?_
      refine lv_bipush (v := 60) hx hb dX1_actionAt_13 (by decide) ?_
      refine lv_icmp_ge (tgt := 27) hx hb dX1_actionAt_15 (by decide) (fun c_3 => ?_) (fun c_3 => ?_)
      · skip
        have q_3 : (60 : Int) ≤ a.toInt := i_le2 (show (60 : Int32).toInt = (60 : Int) from rfl) (rfl : a.toInt = a.toInt) c_3
        refine lv_iconst (v := 0) hx hb dX1_actionAt_27 (by decide) ?_
        rw [hQ]
        exact W.iret (v := 0) hx hb hr (fun t ht hW => ⟨0, rfl, trivial, ht⟩) (fun q h => by cases h) dX1_actionAt_28
      · skip
        have q_3 : a.toInt < (60 : Int) := i_nle2 (show (60 : Int32).toInt = (60 : Int) from rfl) (rfl : a.toInt = a.toInt) c_3
        refine lv_aload_n hx hb dX1_actionAt_18 rfl (lv_at hl 0 rfl) ?_
        refine va_get (D := D) (ci := 1) (v := .ref (ad (k + 2))) (C := RX1) (T := TX1) (N := 5) hx hb hts inX1 hown hK hP k (g_at1 hk hd) rfl 1 (by decide) lk1 (fun _ h9 => h9) rfl dX1_actionAt_19 ?_
        refine lv_iload_n hx hb dX1_actionAt_22 rfl (lv_at hl 1 rfl) ?_
        refine va_iald hx hb hK hP (k + 2) 0 (g_at12 (g_k1_1 hk hd).1 (g_k1_1 hk hd).2) rfl (g_in (N := 61) (rfl : a.toInt = a.toInt) (g_l1_1 hk hd) (by omega) (by omega)) dX1_actionAt_23 ?_
        refine lv_topi (fun v_4 ev_4 => ?_)
        refine lv_goto (tgt := 28) hx hb dX1_actionAt_24 (by decide) ?_
        rw [hQ]
        exact W.iret (v := v_4) hx hb hr (fun t ht hW => ⟨v_4, rfl, trivial, ht⟩) (fun q h => by cases h) dX1_actionAt_28
set_option maxHeartbeats 4000000 in
set_option maxRecDepth 100000 in
theorem c_X1_begin (l : Launch) (D : va_G) (cy : Nat → ClassId) (ad : Nat → Nat) (hI : gInj ad) (sz : Nat) (iv : gIv) (ar : gAr) (k : Nat) (hk : k < 135) (hd : kd k = 1) (a : Int32)  : Met l yX1_begin wsX1_begin ({ frames := 1, cells := 0, slots := 0, locals := 23 } : Room) (va_Pc [.ref (ad k), .int a] (gPre D cy ad sz iv ar)) (va_Qv (fun (u : gIv × gAr) => FK iv u.1) (gPost D cy ad) (gA ad sz)) 0 0 (gA ad sz) := by
  refine Met.ofW (cc := cX1_begin) (maxL := 2) (ret := none) (by decide) rfl ?_
  intro p e s m args below meth c s₁ B hml hv
  obtain ⟨rfl, rfl, hP, hK, hSt, hNw⟩ := hv
  have hx := B.exec
  have hb := B.bytes
  have hr := B.returns
  have hts := atoms_spec (ws := wsX1_begin) B.pre
  have hown : s.vm.findClass RX1 = some m.cls := findClass_of_methodNamed B.named
  have hlocks := B.notSynchronized
  have hS : va_S (gA ad s.heap.size) s.heap s.heap [] := va_S.rf
  have inX1 : ∀ w ∈ u_ws RX1 TX1 5, w ∈ wsX1_begin := by decide +kernel
  have lk0 := hts (.fieldLink RX1 18 "FormationPlanner$Flight" "arrival" "I") (by decide +kernel)
  have lk1 := hts (.fieldLink RX1 9 "FormationPlanner$Flight" "cells" "[I") (by decide +kernel)
  have lk2 := hts (.fieldLink RX1 15 "FormationPlanner$Flight" "actions" "[I") (by decide +kernel)
  have hl := lv_entry ([.ref (ad k), .int a]) (n := 2) (Nat.le_of_ble_eq_true rfl)
  rw [lg_entry_eq]
  generalize (lg_sl ([.ref (ad k), .int a]) ++ List.replicate (2 - (lg_sl ([.ref (ad k), .int a])).length) Slot.unset).toArray = ls at hl ⊢
  have hl : lv_has ls 2 [(0, .ref (ad k)), (1, .int a)] := hl
  obtain ⟨Q, hQ⟩ : ∃ Q, Q = MQ below (va_Qv (fun (u : gIv × gAr) => FK iv u.1) (gPost D cy ad) (gA ad s.heap.size)) (([.ref (ad k), .int a] : List Value).toArray) s 0 0 (gA ad s.heap.size) := ⟨_, rfl⟩
  rw [← hQ]
  have fk0 : FK iv iv := FK.rf
  refine lv_aload_n hx hb dX1_begin_0 rfl (lv_at hl 0 rfl) ?_
  refine lv_iconst (v := 0) hx hb dX1_begin_1 (by decide) ?_
  refine va_put (D := D) (ci := 1) (v := .int 0) (ty := .int) (C := RX1) (T := TX1) (N := 5) hx hb hts inX1 tyX1 tyX1_ok nmX1 hown hK hP (gD hI) hS k (g_at1 hk hd) rfl 2 (by decide) lk0 (fun _ h9 => h9) rfl (by decide +kernel) rfl rfl (Nat.le_of_ble_eq_true rfl) dX1_begin_2 (fun H locs hP _ hS => ?_)
  have hP : va_P D vwCl (GW cy ad (u2 iv k 2 0) ar) H := by rw [← g_pt1_2 hk hd]; exact hP
  obtain ⟨iv_1, eiv_1⟩ : ∃ z : gIv, z = u2 iv k 2 0 := ⟨_, rfl⟩
  rw [← eiv_1] at hP
  have fk_1 : FK iv iv_1 := by rw [eiv_1]; exact fk0.up (by rw [hd]; decide) (fun q => by have h9 := hd; rw [q] at h9; exact absurd h9 (by decide))
  refine lv_aload_n hx hb dX1_begin_5 rfl (lv_at hl 0 rfl) ?_
  refine va_get (D := D) (ci := 1) (v := .ref (ad (k + 1))) (C := RX1) (T := TX1) (N := 5) hx hb hts inX1 hown hK hP k (g_at1 hk hd) rfl 0 (by decide) lk1 (fun _ h9 => h9) rfl dX1_begin_6 ?_
  refine lv_iload_n hx hb dX1_begin_9 rfl (lv_at hl 1 rfl) ?_
  refine g_callv (va_runS (As := [.ref (ad (k + 1)), .int a]) (rest := []) ⟨hx, hb, hml, hown, hts⟩ (c_J7_fill_53178 l D cy ad hI _ iv_1 ar (k + 1) (g_k1_0 hk hd).1 (g_k1_0 hk hd).2 a) (va_cwS 2 hts gX1_begin_J7_fill_53178 rfl rfl rfl (by decide +kernel) ⟨Nat.le_of_ble_eq_true rfl, Nat.le_of_ble_eq_true rfl⟩) (g_preS hP hK hSt hNw hS) rfl rfl hl.1 rfl (lv_room (Nat.le_of_ble_eq_true rfl)) dX1_begin_10 ⟨Nat.zero_le _, Nat.zero_le _⟩) hS (fun iv_2 ar_2 H locs w_2 hP hS => ?_)
  try dsimp only at w_2
  have wi_2 := (w_2).symm
  subst wi_2
  refine lv_aload_n hx hb dX1_begin_13 rfl (lv_at hl 0 rfl) ?_
  refine va_get (D := D) (ci := 1) (v := .ref (ad (k + 2))) (C := RX1) (T := TX1) (N := 5) hx hb hts inX1 hown hK hP k (g_at1 hk hd) rfl 1 (by decide) lk2 (fun _ h9 => h9) rfl dX1_begin_14 ?_
  refine lv_iconst (v := 0) hx hb dX1_begin_17 (by decide) ?_
  have zl_3 : (0 : Int32).toInt = (0 : Int) := rfl
  refine g_callv (va_runS (As := [.ref (ad (k + 2)), .int 0]) (rest := []) ⟨hx, hb, hml, hown, hts⟩ (c_J7_fill_53178 l D cy ad hI _ iv_1 ar_2 (k + 2) (g_k1_1 hk hd).1 (g_k1_1 hk hd).2 0) (va_cwS 2 hts gX1_begin_J7_fill_53178 rfl rfl rfl (by decide +kernel) ⟨Nat.le_of_ble_eq_true rfl, Nat.le_of_ble_eq_true rfl⟩) (g_preS hP hK hSt hNw hS) rfl rfl hl.1 rfl (lv_room (Nat.le_of_ble_eq_true rfl)) dX1_begin_18 ⟨Nat.zero_le _, Nat.zero_le _⟩) hS (fun iv_4 ar_4 H locs w_4 hP hS => ?_)
  try dsimp only at w_4
  have wi_4 := (w_4).symm
  subst wi_4
  rw [hQ]
  exact W.vret hx hb hr (fun t ht hW => ⟨⟨(iv_1, ar_4), rfl, fk_1, by show va_P _ _ _ _; rw [ht]; exact hP⟩, hS.F ht⟩) hS.2.2 dX1_begin_21
set_option maxHeartbeats 4000000 in
set_option maxRecDepth 100000 in
theorem c_X1_add (l : Launch) (D : va_G) (cy : Nat → ClassId) (ad : Nat → Nat) (hI : gInj ad) (sz : Nat) (iv : gIv) (ar : gAr) (k : Nat) (hk : k < 135) (hd : kd k = 1) (a : Int32) (b : Int32) (d : Int32)  : Met l yX1_add wsX1_add ({ frames := 1, cells := 0, slots := 0, locals := 13 } : Room) (va_Pc [.ref (ad k), .int a, .int b, .int d] (gPre D cy ad sz iv ar)) (va_Qv (fun (u : gIv × gAr) => FK iv u.1) (gPost D cy ad) (gA ad sz)) 0 0 (gA ad sz) := by
  refine Met.ofW (cc := cX1_add) (maxL := 5) (ret := none) (by decide) rfl ?_
  intro p e s m args below meth c s₁ B hml hv
  obtain ⟨rfl, rfl, hP, hK, hSt, hNw⟩ := hv
  have hx := B.exec
  have hb := B.bytes
  have hr := B.returns
  have hts := atoms_spec (ws := wsX1_add) B.pre
  have hown : s.vm.findClass RX1 = some m.cls := findClass_of_methodNamed B.named
  have hlocks := B.notSynchronized
  have hS : va_S (gA ad s.heap.size) s.heap s.heap [] := va_S.rf
  have inX1 : ∀ w ∈ u_ws RX1 TX1 5, w ∈ wsX1_add := by decide +kernel
  have lk0 := hts (.fieldLink RX1 18 "FormationPlanner$Flight" "arrival" "I") (by decide +kernel)
  have lk1 := hts (.methodLink RX1 28 Lib.Math.max.name) (by decide +kernel)
  have lk2 := hts (.static Lib.Math.max.name) (by decide +kernel)
  have lk3 := hts (.initialized "java/lang/Math") (by decide +kernel)
  have lk4 := hts (.code Lib.Math.max.name Lib.Math.max.code 2 (some .int)) (by decide +kernel)
  have lk5 := hts (.fieldLink RX1 9 "FormationPlanner$Flight" "cells" "[I") (by decide +kernel)
  have lk6 := hts (.fieldLink RX1 15 "FormationPlanner$Flight" "actions" "[I") (by decide +kernel)
  have hl := lv_entry ([.ref (ad k), .int a, .int b, .int d]) (n := 5) (Nat.le_of_ble_eq_true rfl)
  rw [lg_entry_eq]
  generalize (lg_sl ([.ref (ad k), .int a, .int b, .int d]) ++ List.replicate (5 - (lg_sl ([.ref (ad k), .int a, .int b, .int d])).length) Slot.unset).toArray = ls at hl ⊢
  have hl : lv_has ls 5 [(0, .ref (ad k)), (1, .int a), (2, .int b), (3, .int d)] := hl
  obtain ⟨Q, hQ⟩ : ∃ Q, Q = MQ below (va_Qv (fun (u : gIv × gAr) => FK iv u.1) (gPost D cy ad) (gA ad s.heap.size)) (([.ref (ad k), .int a, .int b, .int d] : List Value).toArray) s 0 0 (gA ad s.heap.size) := ⟨_, rfl⟩
  rw [← hQ]
  have fk0 : FK iv iv := FK.rf
  have hrb := i_rng b
  refine lv_iconst (v := 0) hx hb dX1_add_0 (by decide) ?_
  refine lv_istore (lv' := [(4, .int 0), (0, .ref (ad k)), (1, .int a), (2, .int b), (3, .int d)]) hx hb dX1_add_1 hl (by decide) rfl (fun ls hl => ?_)
  have loop3 : ∀ (n : Nat) (x4_1 : Int32) (iv_2 : gIv) (ar_2 : gAr) (H : Heap) (locs : List Loc) (ls : Array Slot), ((b.toInt - (x4_1.toInt)).toNat) < n → (FK iv iv_2) → (0 ≤ (x4_1.toInt)) → va_P D vwCl (GW cy ad iv_2 ar_2) H → va_S (gA ad s.heap.size) s.heap H locs → lv_has ls 5 [(4, .int x4_1), (0, .ref (ad k)), (1, .int a), (2, .int b), (3, .int d)] → W p l e (headSpec wsX1_add (({ frames := 1, cells := 0, slots := 0, locals := 13 } : Room))).room s m (([.ref (ad k), .int a, .int b, .int d] : List Value).toArray) below meth c H locs 0 0 Q (F0 m 3 ls []) := by
    intro n
    induction n with
    | zero => intro x4_1 iv_2 ar_2 H locs ls hm; omega
    | succ n ih3 =>
      intro x4_1 iv_2 ar_2 H locs ls hm hfk hg0 hP hS hl
      refine lv_iload hx hb dX1_add_3 (lv_at hl 0 rfl) ?_
      refine lv_iload_n hx hb dX1_add_5 rfl (lv_at hl 3 rfl) ?_
      refine lv_icmp_ge (tgt := 51) hx hb dX1_add_6 (by decide) (fun c_4 => ?_) (fun c_4 => ?_)
      · skip
        have q_4 : b.toInt ≤ x4_1.toInt := i_le2 (rfl : b.toInt = b.toInt) (rfl : x4_1.toInt = x4_1.toInt) c_4
        refine lv_aload_n hx hb dX1_add_51 rfl (lv_at hl 1 rfl) ?_
        refine va_get (D := D) (ci := 1) (v := .int (iv_2 k 2)) (C := RX1) (T := TX1) (N := 5) hx hb hts inX1 hown hK hP k (g_at1 hk hd) rfl 2 (by decide) lk0 (fun _ h9 => h9) rfl dX1_add_52 ?_
        refine lv_iconst (v := 0) hx hb dX1_add_55 (by decide) ?_
        refine va_mmax (rest := []) hx hb (hml.trans hl.1.symm) hown lk1 lk2 lk3 lk4 (Nat.le_of_ble_eq_true rfl) (Nat.le_of_ble_eq_true rfl) (Nat.zero_le _) (Nat.zero_le _) dX1_add_56 ?_
        refine lv_topi (fun v_5 ev_5 => ?_)
        have tv_5 : v_5.toInt = max ((iv_2 k 2).toInt) (0 : Int) := i_max (rfl : (iv_2 k 2).toInt = (iv_2 k 2).toInt) (show (0 : Int32).toInt = (0 : Int) from rfl) ev_5
        refine lv_istore (lv' := [(4, .int v_5), (0, .ref (ad k)), (1, .int a), (2, .int b), (3, .int d)]) hx hb dX1_add_59 hl (by decide) rfl (fun ls hl => ?_)
        have loop8 : ∀ (n : Nat) (x4_6 : Int32) (ar_7 : gAr) (H : Heap) (locs : List Loc) (ls : Array Slot), ((61 - (x4_6.toInt)).toNat) < n → (0 ≤ (x4_6.toInt)) → va_P D vwCl (GW cy ad iv_2 ar_7) H → va_S (gA ad s.heap.size) s.heap H locs → lv_has ls 5 [(4, .int x4_6), (0, .ref (ad k)), (1, .int a), (2, .int b), (3, .int d)] → W p l e (headSpec wsX1_add (({ frames := 1, cells := 0, slots := 0, locals := 13 } : Room))).room s m (([.ref (ad k), .int a, .int b, .int d] : List Value).toArray) below meth c H locs 0 0 Q (F0 m 61 ls []) := by
          intro n
          induction n with
          | zero => intro x4_6 ar_7 H locs ls hm; omega
          | succ n ih8 =>
            intro x4_6 ar_7 H locs ls hm hk0 hP hS hl
            refine lv_iload hx hb dX1_add_61 (lv_at hl 0 rfl) ?_
            refine lv_bipush (v := 61) hx hb dX1_add_63 (by decide) ?_
            refine lv_icmp_ge (tgt := 82) hx hb dX1_add_65 (by decide) (fun c_9 => ?_) (fun c_9 => ?_)
            · skip
              have q_9 : (61 : Int) ≤ x4_6.toInt := i_le2 (show (61 : Int32).toInt = (61 : Int) from rfl) (rfl : x4_6.toInt = x4_6.toInt) c_9
              rw [hQ]
              exact W.vret hx hb hr (fun t ht hW => ⟨⟨(iv_2, ar_7), rfl, hfk, by show va_P _ _ _ _; rw [ht]; exact hP⟩, hS.F ht⟩) hS.2.2 dX1_add_82
            · skip
              have q_9 : x4_6.toInt < (61 : Int) := i_nle2 (show (61 : Int32).toInt = (61 : Int) from rfl) (rfl : x4_6.toInt = x4_6.toInt) c_9
              refine lv_aload_n hx hb dX1_add_68 rfl (lv_at hl 1 rfl) ?_
              refine va_get (D := D) (ci := 1) (v := .ref (ad (k + 1))) (C := RX1) (T := TX1) (N := 5) hx hb hts inX1 hown hK hP k (g_at1 hk hd) rfl 0 (by decide) lk5 (fun _ h9 => h9) rfl dX1_add_69 ?_
              refine lv_iload hx hb dX1_add_72 (lv_at hl 0 rfl) ?_
              refine lv_iload_n hx hb dX1_add_74 rfl (lv_at hl 4 rfl) ?_
              refine va_iast hx hb hK hP (gD hI) hS (k + 1) 0 (g_at12 (g_k1_0 hk hd).1 (g_k1_0 hk hd).2) rfl (g_in (N := 61) (rfl : x4_6.toInt = x4_6.toInt) (g_l1_0 hk hd) (by omega) (by omega)) dX1_add_75 (fun H locs hP _ hS => ?_)
              rw [g_pt12 (g_k1_0 hk hd).1 (g_k1_0 hk hd).2] at hP
              obtain ⟨ar_10, ear_10⟩ : ∃ z : gAr, z = va_up ar_7 (k + 1) (upd (ar_7 (k + 1)) x4_6.toNatClampNeg d) := ⟨_, rfl⟩
              rw [← ear_10] at hP
              obtain ⟨x4_11, ex4_11⟩ : ∃ y : Int32, y = x4_6 + 1 := ⟨_, rfl⟩
              have tx4_11 : x4_11.toInt = x4_6.toInt + (1 : Int) := i_add (rfl : x4_6.toInt = x4_6.toInt) (show (1 : Int32).toInt = (1 : Int) from rfl) (by omega) (by omega) ex4_11
              refine lv_iinc (v := x4_11) (lv' := [(4, .int x4_11), (0, .ref (ad k)), (1, .int a), (2, .int b), (3, .int d)]) hx hb dX1_add_76 hl (k := 0) rfl (by rw [ex4_11]; rfl) (by decide) rfl (fun ls hl => ?_)
              refine lv_goto (tgt := 61) hx hb dX1_add_79 (by decide) ?_
              exact ih8 x4_11 ar_10 _ _ _ (by omega) (by omega) hP hS (lv_sub hl [0, 1, 2, 3, 4] rfl)
        exact loop8 (((61 - (v_5.toInt)).toNat) + 1) v_5 ar_2 _ _ _ (by omega) (by omega) hP hS (lv_sub hl [0, 1, 2, 3, 4] rfl)
      · skip
        have q_4 : x4_1.toInt < b.toInt := i_nle2 (rfl : b.toInt = b.toInt) (rfl : x4_1.toInt = x4_1.toInt) c_4
        refine lv_aload_n hx hb dX1_add_9 rfl (lv_at hl 1 rfl) ?_
        refine va_get (D := D) (ci := 1) (v := .int (iv_2 k 2)) (C := RX1) (T := TX1) (N := 5) hx hb hts inX1 hown hK hP k (g_at1 hk hd) rfl 2 (by decide) lk0 (fun _ h9 => h9) rfl dX1_add_10 ?_
        refine lv_if_lt (tgt := 51) hx hb dX1_add_13 (by decide) (fun c_12 => ?_) (fun c_12 => ?_)
        · skip
          have q_12 : (iv_2 k 2).toInt < (0 : Int) := i_lt2 (rfl : (iv_2 k 2).toInt = (iv_2 k 2).toInt) (show (0 : Int32).toInt = (0 : Int) from rfl) c_12
          refine lv_aload_n hx hb dX1_add_51 rfl (lv_at hl 1 rfl) ?_
          refine va_get (D := D) (ci := 1) (v := .int (iv_2 k 2)) (C := RX1) (T := TX1) (N := 5) hx hb hts inX1 hown hK hP k (g_at1 hk hd) rfl 2 (by decide) lk0 (fun _ h9 => h9) rfl dX1_add_52 ?_
          refine lv_iconst (v := 0) hx hb dX1_add_55 (by decide) ?_
          refine va_mmax (rest := []) hx hb (hml.trans hl.1.symm) hown lk1 lk2 lk3 lk4 (Nat.le_of_ble_eq_true rfl) (Nat.le_of_ble_eq_true rfl) (Nat.zero_le _) (Nat.zero_le _) dX1_add_56 ?_
          refine lv_topi (fun v_13 ev_13 => ?_)
          have tv_13 : v_13.toInt = max ((iv_2 k 2).toInt) (0 : Int) := i_max (rfl : (iv_2 k 2).toInt = (iv_2 k 2).toInt) (show (0 : Int32).toInt = (0 : Int) from rfl) ev_13
          refine lv_istore (lv' := [(4, .int v_13), (0, .ref (ad k)), (1, .int a), (2, .int b), (3, .int d)]) hx hb dX1_add_59 hl (by decide) rfl (fun ls hl => ?_)
          have loop16 : ∀ (n : Nat) (x4_14 : Int32) (ar_15 : gAr) (H : Heap) (locs : List Loc) (ls : Array Slot), ((61 - (x4_14.toInt)).toNat) < n → (0 ≤ (x4_14.toInt)) → va_P D vwCl (GW cy ad iv_2 ar_15) H → va_S (gA ad s.heap.size) s.heap H locs → lv_has ls 5 [(4, .int x4_14), (0, .ref (ad k)), (1, .int a), (2, .int b), (3, .int d)] → W p l e (headSpec wsX1_add (({ frames := 1, cells := 0, slots := 0, locals := 13 } : Room))).room s m (([.ref (ad k), .int a, .int b, .int d] : List Value).toArray) below meth c H locs 0 0 Q (F0 m 61 ls []) := by
            intro n
            induction n with
            | zero => intro x4_14 ar_15 H locs ls hm; omega
            | succ n ih16 =>
              intro x4_14 ar_15 H locs ls hm hk0 hP hS hl
              refine lv_iload hx hb dX1_add_61 (lv_at hl 0 rfl) ?_
              refine lv_bipush (v := 61) hx hb dX1_add_63 (by decide) ?_
              refine lv_icmp_ge (tgt := 82) hx hb dX1_add_65 (by decide) (fun c_17 => ?_) (fun c_17 => ?_)
              · skip
                have q_17 : (61 : Int) ≤ x4_14.toInt := i_le2 (show (61 : Int32).toInt = (61 : Int) from rfl) (rfl : x4_14.toInt = x4_14.toInt) c_17
                rw [hQ]
                exact W.vret hx hb hr (fun t ht hW => ⟨⟨(iv_2, ar_15), rfl, hfk, by show va_P _ _ _ _; rw [ht]; exact hP⟩, hS.F ht⟩) hS.2.2 dX1_add_82
              · skip
                have q_17 : x4_14.toInt < (61 : Int) := i_nle2 (show (61 : Int32).toInt = (61 : Int) from rfl) (rfl : x4_14.toInt = x4_14.toInt) c_17
                refine lv_aload_n hx hb dX1_add_68 rfl (lv_at hl 1 rfl) ?_
                refine va_get (D := D) (ci := 1) (v := .ref (ad (k + 1))) (C := RX1) (T := TX1) (N := 5) hx hb hts inX1 hown hK hP k (g_at1 hk hd) rfl 0 (by decide) lk5 (fun _ h9 => h9) rfl dX1_add_69 ?_
                refine lv_iload hx hb dX1_add_72 (lv_at hl 0 rfl) ?_
                refine lv_iload_n hx hb dX1_add_74 rfl (lv_at hl 4 rfl) ?_
                refine va_iast hx hb hK hP (gD hI) hS (k + 1) 0 (g_at12 (g_k1_0 hk hd).1 (g_k1_0 hk hd).2) rfl (g_in (N := 61) (rfl : x4_14.toInt = x4_14.toInt) (g_l1_0 hk hd) (by omega) (by omega)) dX1_add_75 (fun H locs hP _ hS => ?_)
                rw [g_pt12 (g_k1_0 hk hd).1 (g_k1_0 hk hd).2] at hP
                obtain ⟨ar_18, ear_18⟩ : ∃ z : gAr, z = va_up ar_15 (k + 1) (upd (ar_15 (k + 1)) x4_14.toNatClampNeg d) := ⟨_, rfl⟩
                rw [← ear_18] at hP
                obtain ⟨x4_19, ex4_19⟩ : ∃ y : Int32, y = x4_14 + 1 := ⟨_, rfl⟩
                have tx4_19 : x4_19.toInt = x4_14.toInt + (1 : Int) := i_add (rfl : x4_14.toInt = x4_14.toInt) (show (1 : Int32).toInt = (1 : Int) from rfl) (by omega) (by omega) ex4_19
                refine lv_iinc (v := x4_19) (lv' := [(4, .int x4_19), (0, .ref (ad k)), (1, .int a), (2, .int b), (3, .int d)]) hx hb dX1_add_76 hl (k := 0) rfl (by rw [ex4_19]; rfl) (by decide) rfl (fun ls hl => ?_)
                refine lv_goto (tgt := 61) hx hb dX1_add_79 (by decide) ?_
                exact ih16 x4_19 ar_18 _ _ _ (by omega) (by omega) hP hS (lv_sub hl [0, 1, 2, 3, 4] rfl)
          exact loop16 (((61 - (v_13.toInt)).toNat) + 1) v_13 ar_2 _ _ _ (by omega) (by omega) hP hS (lv_sub hl [0, 1, 2, 3, 4] rfl)
        · skip
          have q_12 : (0 : Int) ≤ (iv_2 k 2).toInt := i_nlt2 (rfl : (iv_2 k 2).toInt = (iv_2 k 2).toInt) (show (0 : Int32).toInt = (0 : Int) from rfl) c_12
          refine lv_aload_n hx hb dX1_add_16 rfl (lv_at hl 1 rfl) ?_
          refine va_get (D := D) (ci := 1) (v := .int (iv_2 k 2)) (C := RX1) (T := TX1) (N := 5) hx hb hts inX1 hown hK hP k (g_at1 hk hd) rfl 2 (by decide) lk0 (fun _ h9 => h9) rfl dX1_add_17 ?_
          refine lv_bipush (v := 60) hx hb dX1_add_20 (by decide) ?_
          refine lv_icmp_ge (tgt := 51) hx hb dX1_add_22 (by decide) (fun c_20 => ?_) (fun c_20 => ?_)
          · skip
            have q_20 : (60 : Int) ≤ (iv_2 k 2).toInt := i_le2 (show (60 : Int32).toInt = (60 : Int) from rfl) (rfl : (iv_2 k 2).toInt = (iv_2 k 2).toInt) c_20
            refine lv_aload_n hx hb dX1_add_51 rfl (lv_at hl 1 rfl) ?_
            refine va_get (D := D) (ci := 1) (v := .int (iv_2 k 2)) (C := RX1) (T := TX1) (N := 5) hx hb hts inX1 hown hK hP k (g_at1 hk hd) rfl 2 (by decide) lk0 (fun _ h9 => h9) rfl dX1_add_52 ?_
            refine lv_iconst (v := 0) hx hb dX1_add_55 (by decide) ?_
            refine va_mmax (rest := []) hx hb (hml.trans hl.1.symm) hown lk1 lk2 lk3 lk4 (Nat.le_of_ble_eq_true rfl) (Nat.le_of_ble_eq_true rfl) (Nat.zero_le _) (Nat.zero_le _) dX1_add_56 ?_
            refine lv_topi (fun v_21 ev_21 => ?_)
            have tv_21 : v_21.toInt = max ((iv_2 k 2).toInt) (0 : Int) := i_max (rfl : (iv_2 k 2).toInt = (iv_2 k 2).toInt) (show (0 : Int32).toInt = (0 : Int) from rfl) ev_21
            refine lv_istore (lv' := [(4, .int v_21), (0, .ref (ad k)), (1, .int a), (2, .int b), (3, .int d)]) hx hb dX1_add_59 hl (by decide) rfl (fun ls hl => ?_)
            have loop24 : ∀ (n : Nat) (x4_22 : Int32) (ar_23 : gAr) (H : Heap) (locs : List Loc) (ls : Array Slot), ((61 - (x4_22.toInt)).toNat) < n → (0 ≤ (x4_22.toInt)) → va_P D vwCl (GW cy ad iv_2 ar_23) H → va_S (gA ad s.heap.size) s.heap H locs → lv_has ls 5 [(4, .int x4_22), (0, .ref (ad k)), (1, .int a), (2, .int b), (3, .int d)] → W p l e (headSpec wsX1_add (({ frames := 1, cells := 0, slots := 0, locals := 13 } : Room))).room s m (([.ref (ad k), .int a, .int b, .int d] : List Value).toArray) below meth c H locs 0 0 Q (F0 m 61 ls []) := by
              intro n
              induction n with
              | zero => intro x4_22 ar_23 H locs ls hm; omega
              | succ n ih24 =>
                intro x4_22 ar_23 H locs ls hm hk0 hP hS hl
                refine lv_iload hx hb dX1_add_61 (lv_at hl 0 rfl) ?_
                refine lv_bipush (v := 61) hx hb dX1_add_63 (by decide) ?_
                refine lv_icmp_ge (tgt := 82) hx hb dX1_add_65 (by decide) (fun c_25 => ?_) (fun c_25 => ?_)
                · skip
                  have q_25 : (61 : Int) ≤ x4_22.toInt := i_le2 (show (61 : Int32).toInt = (61 : Int) from rfl) (rfl : x4_22.toInt = x4_22.toInt) c_25
                  rw [hQ]
                  exact W.vret hx hb hr (fun t ht hW => ⟨⟨(iv_2, ar_23), rfl, hfk, by show va_P _ _ _ _; rw [ht]; exact hP⟩, hS.F ht⟩) hS.2.2 dX1_add_82
                · skip
                  have q_25 : x4_22.toInt < (61 : Int) := i_nle2 (show (61 : Int32).toInt = (61 : Int) from rfl) (rfl : x4_22.toInt = x4_22.toInt) c_25
                  refine lv_aload_n hx hb dX1_add_68 rfl (lv_at hl 1 rfl) ?_
                  refine va_get (D := D) (ci := 1) (v := .ref (ad (k + 1))) (C := RX1) (T := TX1) (N := 5) hx hb hts inX1 hown hK hP k (g_at1 hk hd) rfl 0 (by decide) lk5 (fun _ h9 => h9) rfl dX1_add_69 ?_
                  refine lv_iload hx hb dX1_add_72 (lv_at hl 0 rfl) ?_
                  refine lv_iload_n hx hb dX1_add_74 rfl (lv_at hl 4 rfl) ?_
                  refine va_iast hx hb hK hP (gD hI) hS (k + 1) 0 (g_at12 (g_k1_0 hk hd).1 (g_k1_0 hk hd).2) rfl (g_in (N := 61) (rfl : x4_22.toInt = x4_22.toInt) (g_l1_0 hk hd) (by omega) (by omega)) dX1_add_75 (fun H locs hP _ hS => ?_)
                  rw [g_pt12 (g_k1_0 hk hd).1 (g_k1_0 hk hd).2] at hP
                  obtain ⟨ar_26, ear_26⟩ : ∃ z : gAr, z = va_up ar_23 (k + 1) (upd (ar_23 (k + 1)) x4_22.toNatClampNeg d) := ⟨_, rfl⟩
                  rw [← ear_26] at hP
                  obtain ⟨x4_27, ex4_27⟩ : ∃ y : Int32, y = x4_22 + 1 := ⟨_, rfl⟩
                  have tx4_27 : x4_27.toInt = x4_22.toInt + (1 : Int) := i_add (rfl : x4_22.toInt = x4_22.toInt) (show (1 : Int32).toInt = (1 : Int) from rfl) (by omega) (by omega) ex4_27
                  refine lv_iinc (v := x4_27) (lv' := [(4, .int x4_27), (0, .ref (ad k)), (1, .int a), (2, .int b), (3, .int d)]) hx hb dX1_add_76 hl (k := 0) rfl (by rw [ex4_27]; rfl) (by decide) rfl (fun ls hl => ?_)
                  refine lv_goto (tgt := 61) hx hb dX1_add_79 (by decide) ?_
                  exact ih24 x4_27 ar_26 _ _ _ (by omega) (by omega) hP hS (lv_sub hl [0, 1, 2, 3, 4] rfl)
            exact loop24 (((61 - (v_21.toInt)).toNat) + 1) v_21 ar_2 _ _ _ (by omega) (by omega) hP hS (lv_sub hl [0, 1, 2, 3, 4] rfl)
          · skip
            have q_20 : (iv_2 k 2).toInt < (60 : Int) := i_nle2 (show (60 : Int32).toInt = (60 : Int) from rfl) (rfl : (iv_2 k 2).toInt = (iv_2 k 2).toInt) c_20
            refine lv_aload_n hx hb dX1_add_25 rfl (lv_at hl 1 rfl) ?_
            refine va_get (D := D) (ci := 1) (v := .ref (ad (k + 2))) (C := RX1) (T := TX1) (N := 5) hx hb hts inX1 hown hK hP k (g_at1 hk hd) rfl 1 (by decide) lk6 (fun _ h9 => h9) rfl dX1_add_26 ?_
            refine lv_aload_n hx hb dX1_add_29 rfl (lv_at hl 1 rfl) ?_
            refine va_get (D := D) (ci := 1) (v := .int (iv_2 k 2)) (C := RX1) (T := TX1) (N := 5) hx hb hts inX1 hown hK hP k (g_at1 hk hd) rfl 2 (by decide) lk0 (fun _ h9 => h9) rfl dX1_add_30 ?_
            refine lv_iload_n hx hb dX1_add_33 rfl (lv_at hl 2 rfl) ?_
            refine va_iast hx hb hK hP (gD hI) hS (k + 2) 0 (g_at12 (g_k1_1 hk hd).1 (g_k1_1 hk hd).2) rfl (g_in (N := 61) (rfl : (iv_2 k 2).toInt = (iv_2 k 2).toInt) (g_l1_1 hk hd) (by omega) (by omega)) dX1_add_34 (fun H locs hP _ hS => ?_)
            rw [g_pt12 (g_k1_1 hk hd).1 (g_k1_1 hk hd).2] at hP
            obtain ⟨ar_28, ear_28⟩ : ∃ z : gAr, z = va_up ar_2 (k + 2) (upd (ar_2 (k + 2)) (iv_2 k 2).toNatClampNeg a) := ⟨_, rfl⟩
            rw [← ear_28] at hP
            refine lv_aload_n hx hb dX1_add_35 rfl (lv_at hl 1 rfl) ?_
            refine lv_dup hx hb dX1_add_36 rfl ?_
            refine va_get (D := D) (ci := 1) (v := .int (iv_2 k 2)) (C := RX1) (T := TX1) (N := 5) hx hb hts inX1 hown hK hP k (g_at1 hk hd) rfl 2 (by decide) lk0 (fun _ h9 => h9) rfl dX1_add_37 ?_
            refine lv_iconst (v := 1) hx hb dX1_add_40 (by decide) ?_
            refine lv_iadd hx hb dX1_add_41 ?_
            refine lv_topi (fun v_29 ev_29 => ?_)
            have rg_30 := i_rng (iv_2 k 2)
            have tv_29 : v_29.toInt = ((iv_2 k 2).toInt) + (1 : Int) := i_add (rfl : (iv_2 k 2).toInt = (iv_2 k 2).toInt) (show (1 : Int32).toInt = (1 : Int) from rfl) (by omega) (by omega) ev_29
            refine va_put (D := D) (ci := 1) (v := .int v_29) (ty := .int) (C := RX1) (T := TX1) (N := 5) hx hb hts inX1 tyX1 tyX1_ok nmX1 hown hK hP (gD hI) hS k (g_at1 hk hd) rfl 2 (by decide) lk0 (fun _ h9 => h9) rfl (by decide +kernel) rfl rfl (Nat.le_of_ble_eq_true rfl) dX1_add_42 (fun H locs hP _ hS => ?_)
            have hP : va_P D vwCl (GW cy ad (u2 iv_2 k 2 v_29) ar_28) H := by rw [← g_pt1_2 hk hd]; exact hP
            obtain ⟨iv_31, eiv_31⟩ : ∃ z : gIv, z = u2 iv_2 k 2 v_29 := ⟨_, rfl⟩
            rw [← eiv_31] at hP
            have fk_31 : FK iv iv_31 := by rw [eiv_31]; exact hfk.up (by rw [hd]; decide) (fun q => by have h9 := hd; rw [q] at h9; exact absurd h9 (by decide))
            obtain ⟨x4_32, ex4_32⟩ : ∃ y : Int32, y = x4_1 + 1 := ⟨_, rfl⟩
            have tx4_32 : x4_32.toInt = x4_1.toInt + (1 : Int) := i_add (rfl : x4_1.toInt = x4_1.toInt) (show (1 : Int32).toInt = (1 : Int) from rfl) (by omega) (by omega) ex4_32
            refine lv_iinc (v := x4_32) (lv' := [(4, .int x4_32), (0, .ref (ad k)), (1, .int a), (2, .int b), (3, .int d)]) hx hb dX1_add_45 hl (k := 0) rfl (by rw [ex4_32]; rfl) (by decide) rfl (fun ls hl => ?_)
            refine lv_goto (tgt := 3) hx hb dX1_add_48 (by decide) ?_
            exact ih3 x4_32 iv_31 ar_28 _ _ _ (by omega) fk_31 (by omega) hP hS (lv_sub hl [0, 1, 2, 3, 4] rfl)
  have zl_33 : (0 : Int32).toInt = (0 : Int) := rfl
  exact loop3 (((b.toInt - ((0 : Int))).toNat) + 1) 0 iv ar _ _ _ (by omega) fk0 (by omega) hP hS (lv_sub hl [0, 1, 2, 3, 4] rfl)
set_option maxHeartbeats 4000000 in
set_option maxRecDepth 100000 in
theorem c_X1_meets (l : Launch) (D : va_G) (cy : Nat → ClassId) (ad : Nat → Nat) (hI : gInj ad) (sz : Nat) (iv : gIv) (ar : gAr) (k : Nat) (hk : k < 135) (hd : kd k = 1) (k2 : Nat) (hk_k2 : k2 < 135) (hd_k2 : kd k2 = 1)  : Met l yX1_meets wsX1_meets ({ frames := 2, cells := 0, slots := 0, locals := 36 } : Room) (va_Pc [.ref (ad k), .ref (ad k2)] (gPre D cy ad sz iv ar)) (vp_Si (fun r => True)) 0 0 (fun _ => False) := by
  refine Met.ofW (cc := cX1_meets) (maxL := 4) (ret := (some .boolean)) (by decide) rfl ?_
  intro p e s m args below meth c s₁ B hml hv
  obtain ⟨rfl, rfl, hP, hK, hSt, hNw⟩ := hv
  have hx := B.exec
  have hb := B.bytes
  have hr := B.returns
  have hts := atoms_spec (ws := wsX1_meets) B.pre
  have hown : s.vm.findClass RX1 = some m.cls := findClass_of_methodNamed B.named
  have hlocks := B.notSynchronized
  have hS : va_S (gA ad s.heap.size) s.heap s.heap [] := va_S.rf
  have hl := lv_entry ([.ref (ad k), .ref (ad k2)]) (n := 4) (Nat.le_of_ble_eq_true rfl)
  rw [lg_entry_eq]
  generalize (lg_sl ([.ref (ad k), .ref (ad k2)]) ++ List.replicate (4 - (lg_sl ([.ref (ad k), .ref (ad k2)])).length) Slot.unset).toArray = ls at hl ⊢
  have hl : lv_has ls 4 [(0, .ref (ad k)), (1, .ref (ad k2))] := hl
  obtain ⟨Q, hQ⟩ : ∃ Q, Q = MQ below (vp_Si (fun r => True)) (([.ref (ad k), .ref (ad k2)] : List Value).toArray) s 0 0 (fun _ => False) := ⟨_, rfl⟩
  rw [← hQ]
  refine lv_iconst (v := 0) hx hb dX1_meets_0 (by decide) ?_
  refine lv_istore_n (lv' := [(2, .int 0), (0, .ref (ad k)), (1, .ref (ad k2))]) hx hb dX1_meets_1 rfl hl (by decide) rfl (fun ls hl => ?_)
  have loop2 : ∀ (n : Nat) (x2_1 : Int32) (ls : Array Slot), ((61 - (x2_1.toInt)).toNat) < n → (0 ≤ (x2_1.toInt) ∧ (x2_1.toInt) ≤ 61) → lv_has ls 4 [(2, .int x2_1), (0, .ref (ad k)), (1, .ref (ad k2))] → W p l e (headSpec wsX1_meets (({ frames := 2, cells := 0, slots := 0, locals := 36 } : Room))).room s m (([.ref (ad k), .ref (ad k2)] : List Value).toArray) below meth c s.heap [] 0 0 Q (F0 m 2 ls []) := by
    intro n
    induction n with
    | zero => intro x2_1 ls hm; omega
    | succ n ih2 =>
      intro x2_1 ls hm hg0 hl
      refine lv_iload_n hx hb dX1_meets_2 rfl (lv_at hl 0 rfl) ?_
      refine lv_bipush (v := 60) hx hb dX1_meets_3 (by decide) ?_
      refine lv_icmp_gt (tgt := 71) hx hb dX1_meets_5 (by decide) (fun c_3 => ?_) (fun c_3 => ?_)
      · skip
        have q_3 : (60 : Int) < x2_1.toInt := i_lt2 (show (60 : Int32).toInt = (60 : Int) from rfl) (rfl : x2_1.toInt = x2_1.toInt) c_3
        refine lv_iconst (v := 0) hx hb dX1_meets_71 (by decide) ?_
        rw [hQ]
        exact W.zret (v := 0) hx hb hr rfl (fun t ht hW => ⟨0, rfl, trivial, ht⟩) (fun q h => by cases h) dX1_meets_72
      · skip
        have q_3 : x2_1.toInt ≤ (60 : Int) := i_nlt2 (show (60 : Int32).toInt = (60 : Int) from rfl) (rfl : x2_1.toInt = x2_1.toInt) c_3
        refine lv_aload_n hx hb dX1_meets_8 rfl (lv_at hl 1 rfl) ?_
        refine lv_iload_n hx hb dX1_meets_9 rfl (lv_at hl 0 rfl) ?_
        refine g_callSi (va_runV (As := [.int x2_1]) (rest := []) ⟨hx, hb, hml, hown, hts⟩ (c_X1_cellAt l D cy ad hI _ iv ar k hk hd x2_1) (cwV 1 hts gX1_meets_X1_cellAt rfl rfl rfl (by decide +kernel) ⟨Nat.le_of_ble_eq_true rfl, Nat.le_of_ble_eq_true rfl⟩) (g_preV hP hK hSt hNw hS (g_at1 hk hd) rfl) rfl rfl hl.1 rfl (lv_room (Nat.le_of_ble_eq_true rfl)) dX1_meets_10 ⟨Nat.zero_le _, Nat.zero_le _⟩) (fun r_4 w_4 => ?_)
        try dsimp only at w_4
        refine lv_aload_n hx hb dX1_meets_13 rfl (lv_at hl 2 rfl) ?_
        refine lv_iload_n hx hb dX1_meets_14 rfl (lv_at hl 0 rfl) ?_
        refine g_callSi (va_runV (As := [.int x2_1]) (rest := [.int r_4]) ⟨hx, hb, hml, hown, hts⟩ (c_X1_cellAt l D cy ad hI _ iv ar k2 hk_k2 hd_k2 x2_1) (cwV 1 hts gX1_meets_X1_cellAt rfl rfl rfl (by decide +kernel) ⟨Nat.le_of_ble_eq_true rfl, Nat.le_of_ble_eq_true rfl⟩) (g_preV hP hK hSt hNw hS (g_at1 hk_k2 hd_k2) rfl) rfl rfl hl.1 rfl (lv_room (Nat.le_of_ble_eq_true rfl)) dX1_meets_15 ⟨Nat.zero_le _, Nat.zero_le _⟩) (fun r_5 w_5 => ?_)
        try dsimp only at w_5
        refine lv_icmp_ne (tgt := 23) hx hb dX1_meets_18 (by decide) (fun c_6 => ?_) (fun c_6 => ?_)
        · skip
          have q_6 : r_4.toInt ≠ r_5.toInt := i_ne2 (rfl : r_4.toInt = r_4.toInt) (rfl : r_5.toInt = r_5.toInt) c_6
          refine lv_aload_n hx hb dX1_meets_23 rfl (lv_at hl 1 rfl) ?_
          refine lv_iload_n hx hb dX1_meets_24 rfl (lv_at hl 0 rfl) ?_
          refine lv_iconst (v := 1) hx hb dX1_meets_25 (by decide) ?_
          refine lv_iadd hx hb dX1_meets_26 ?_
          refine lv_topi (fun v_7 ev_7 => ?_)
          have tv_7 : v_7.toInt = x2_1.toInt + (1 : Int) := i_add (rfl : x2_1.toInt = x2_1.toInt) (show (1 : Int32).toInt = (1 : Int) from rfl) (by omega) (by omega) ev_7
          refine g_callSi (va_runV (As := [.int v_7]) (rest := []) ⟨hx, hb, hml, hown, hts⟩ (c_X1_cellAt l D cy ad hI _ iv ar k hk hd v_7) (cwV 1 hts gX1_meets_X1_cellAt rfl rfl rfl (by decide +kernel) ⟨Nat.le_of_ble_eq_true rfl, Nat.le_of_ble_eq_true rfl⟩) (g_preV hP hK hSt hNw hS (g_at1 hk hd) rfl) rfl rfl hl.1 rfl (lv_room (Nat.le_of_ble_eq_true rfl)) dX1_meets_27 ⟨Nat.zero_le _, Nat.zero_le _⟩) (fun r_8 w_8 => ?_)
          try dsimp only at w_8
          refine lv_aload_n hx hb dX1_meets_30 rfl (lv_at hl 2 rfl) ?_
          refine lv_iload_n hx hb dX1_meets_31 rfl (lv_at hl 0 rfl) ?_
          refine g_callSi (va_runV (As := [.int x2_1]) (rest := [.int r_8]) ⟨hx, hb, hml, hown, hts⟩ (c_X1_cellAt l D cy ad hI _ iv ar k2 hk_k2 hd_k2 x2_1) (cwV 1 hts gX1_meets_X1_cellAt rfl rfl rfl (by decide +kernel) ⟨Nat.le_of_ble_eq_true rfl, Nat.le_of_ble_eq_true rfl⟩) (g_preV hP hK hSt hNw hS (g_at1 hk_k2 hd_k2) rfl) rfl rfl hl.1 rfl (lv_room (Nat.le_of_ble_eq_true rfl)) dX1_meets_32 ⟨Nat.zero_le _, Nat.zero_le _⟩) (fun r_9 w_9 => ?_)
          try dsimp only at w_9
          refine lv_icmp_ne (tgt := 42) hx hb dX1_meets_35 (by decide) (fun c_10 => ?_) (fun c_10 => ?_)
          · skip
            have q_10 : r_8.toInt ≠ r_9.toInt := i_ne2 (rfl : r_8.toInt = r_8.toInt) (rfl : r_9.toInt = r_9.toInt) c_10
            refine lv_iconst (v := 0) hx hb dX1_meets_42 (by decide) ?_
            refine lv_istore_n (lv' := [(3, .int 0), (2, .int x2_1), (0, .ref (ad k)), (1, .ref (ad k2))]) hx hb dX1_meets_43 rfl hl (by decide) rfl (fun ls hl => ?_)
            refine lv_iload_n hx hb dX1_meets_44 rfl (lv_at hl 0 rfl) ?_
            refine lv_if_eq (tgt := 65) hx hb dX1_meets_45 (by decide) (fun c_11 => ?_) (fun c_11 => ?_)
            · skip
              have q_11 : (0 : Int) = (0 : Int) := i_eq2 (show (0 : Int32).toInt = (0 : Int) from rfl) (show (0 : Int32).toInt = (0 : Int) from rfl) c_11
              obtain ⟨x2_12, ex2_12⟩ : ∃ y : Int32, y = x2_1 + 1 := ⟨_, rfl⟩
              have tx2_12 : x2_12.toInt = x2_1.toInt + (1 : Int) := i_add (rfl : x2_1.toInt = x2_1.toInt) (show (1 : Int32).toInt = (1 : Int) from rfl) (by omega) (by omega) ex2_12
              refine lv_iinc (v := x2_12) (lv' := [(2, .int x2_12), (3, .int 0), (0, .ref (ad k)), (1, .ref (ad k2))]) hx hb dX1_meets_65 hl (k := 1) rfl (by rw [ex2_12]; rfl) (by decide) rfl (fun ls hl => ?_)
              refine lv_goto (tgt := 2) hx hb dX1_meets_68 (by decide) ?_
              exact ih2 x2_12 _ (by omega) (by omega) (lv_sub hl [0, 2, 3] rfl)
            · skip
              have q_11 : (0 : Int) ≠ (0 : Int) := i_ne2 (show (0 : Int32).toInt = (0 : Int) from rfl) (show (0 : Int32).toInt = (0 : Int) from rfl) c_11
              exfalso; omega
          · skip
            have q_10 : r_8.toInt = r_9.toInt := i_eq2 (rfl : r_8.toInt = r_8.toInt) (rfl : r_9.toInt = r_9.toInt) c_10
            refine lv_iconst (v := 1) hx hb dX1_meets_38 (by decide) ?_
            refine lv_goto (tgt := 43) hx hb dX1_meets_39 (by decide) ?_
            refine lv_istore_n (lv' := [(3, .int 1), (2, .int x2_1), (0, .ref (ad k)), (1, .ref (ad k2))]) hx hb dX1_meets_43 rfl hl (by decide) rfl (fun ls hl => ?_)
            refine lv_iload_n hx hb dX1_meets_44 rfl (lv_at hl 0 rfl) ?_
            refine lv_if_eq (tgt := 65) hx hb dX1_meets_45 (by decide) (fun c_13 => ?_) (fun c_13 => ?_)
            · skip
              have q_13 : (1 : Int) = (0 : Int) := i_eq2 (show (1 : Int32).toInt = (1 : Int) from rfl) (show (0 : Int32).toInt = (0 : Int) from rfl) c_13
              exfalso; omega
            · skip
              have q_13 : (1 : Int) ≠ (0 : Int) := i_ne2 (show (1 : Int32).toInt = (1 : Int) from rfl) (show (0 : Int32).toInt = (0 : Int) from rfl) c_13
              refine lv_aload_n hx hb dX1_meets_48 rfl (lv_at hl 2 rfl) ?_
              refine lv_iload_n hx hb dX1_meets_49 rfl (lv_at hl 1 rfl) ?_
              refine g_callSi (va_runV (As := [.int x2_1]) (rest := []) ⟨hx, hb, hml, hown, hts⟩ (c_X1_cellAt l D cy ad hI _ iv ar k hk hd x2_1) (cwV 1 hts gX1_meets_X1_cellAt rfl rfl rfl (by decide +kernel) ⟨Nat.le_of_ble_eq_true rfl, Nat.le_of_ble_eq_true rfl⟩) (g_preV hP hK hSt hNw hS (g_at1 hk hd) rfl) rfl rfl hl.1 rfl (lv_room (Nat.le_of_ble_eq_true rfl)) dX1_meets_50 ⟨Nat.zero_le _, Nat.zero_le _⟩) (fun r_14 w_14 => ?_)
              try dsimp only at w_14
              refine lv_aload_n hx hb dX1_meets_53 rfl (lv_at hl 3 rfl) ?_
              refine lv_iload_n hx hb dX1_meets_54 rfl (lv_at hl 1 rfl) ?_
              refine lv_iconst (v := 1) hx hb dX1_meets_55 (by decide) ?_
              refine lv_iadd hx hb dX1_meets_56 ?_
              refine lv_topi (fun v_15 ev_15 => ?_)
              have tv_15 : v_15.toInt = x2_1.toInt + (1 : Int) := i_add (rfl : x2_1.toInt = x2_1.toInt) (show (1 : Int32).toInt = (1 : Int) from rfl) (by omega) (by omega) ev_15
              refine g_callSi (va_runV (As := [.int v_15]) (rest := [.int r_14]) ⟨hx, hb, hml, hown, hts⟩ (c_X1_cellAt l D cy ad hI _ iv ar k2 hk_k2 hd_k2 v_15) (cwV 1 hts gX1_meets_X1_cellAt rfl rfl rfl (by decide +kernel) ⟨Nat.le_of_ble_eq_true rfl, Nat.le_of_ble_eq_true rfl⟩) (g_preV hP hK hSt hNw hS (g_at1 hk_k2 hd_k2) rfl) rfl rfl hl.1 rfl (lv_room (Nat.le_of_ble_eq_true rfl)) dX1_meets_57 ⟨Nat.zero_le _, Nat.zero_le _⟩) (fun r_16 w_16 => ?_)
              try dsimp only at w_16
              refine lv_icmp_ne (tgt := 65) hx hb dX1_meets_60 (by decide) (fun c_17 => ?_) (fun c_17 => ?_)
              · skip
                have q_17 : r_14.toInt ≠ r_16.toInt := i_ne2 (rfl : r_14.toInt = r_14.toInt) (rfl : r_16.toInt = r_16.toInt) c_17
                obtain ⟨x2_18, ex2_18⟩ : ∃ y : Int32, y = x2_1 + 1 := ⟨_, rfl⟩
                have tx2_18 : x2_18.toInt = x2_1.toInt + (1 : Int) := i_add (rfl : x2_1.toInt = x2_1.toInt) (show (1 : Int32).toInt = (1 : Int) from rfl) (by omega) (by omega) ex2_18
                refine lv_iinc (v := x2_18) (lv' := [(2, .int x2_18), (3, .int 1), (0, .ref (ad k)), (1, .ref (ad k2))]) hx hb dX1_meets_65 hl (k := 1) rfl (by rw [ex2_18]; rfl) (by decide) rfl (fun ls hl => ?_)
                refine lv_goto (tgt := 2) hx hb dX1_meets_68 (by decide) ?_
                exact ih2 x2_18 _ (by omega) (by omega) (lv_sub hl [0, 2, 3] rfl)
              · skip
                have q_17 : r_14.toInt = r_16.toInt := i_eq2 (rfl : r_14.toInt = r_14.toInt) (rfl : r_16.toInt = r_16.toInt) c_17
                refine lv_iconst (v := 1) hx hb dX1_meets_63 (by decide) ?_
                rw [hQ]
                exact W.zret (v := 1) hx hb hr rfl (fun t ht hW => ⟨1, rfl, trivial, ht⟩) (fun q h => by cases h) dX1_meets_64
        · skip
          have q_6 : r_4.toInt = r_5.toInt := i_eq2 (rfl : r_4.toInt = r_4.toInt) (rfl : r_5.toInt = r_5.toInt) c_6
          refine lv_iconst (v := 1) hx hb dX1_meets_21 (by decide) ?_
          rw [hQ]
          exact W.zret (v := 1) hx hb hr rfl (fun t ht hW => ⟨1, rfl, trivial, ht⟩) (fun q h => by cases h) dX1_meets_22
  have zl_19 : (0 : Int32).toInt = (0 : Int) := rfl
  exact loop2 (((61 - ((0 : Int))).toNat) + 1) 0 _ (by omega) (by omega) (lv_sub hl [0, 1, 2] rfl)
set_option maxHeartbeats 4000000 in
set_option maxRecDepth 100000 in
theorem c_X7_spot (l : Launch) (D : va_G) (cy : Nat → ClassId) (ad : Nat → Nat) (hI : gInj ad) (sz : Nat) (iv : gIv) (ar : gAr) (a : Int32) (b : Int32)  : Met l yX7_spot wsX7_spot ({ frames := 1, cells := 0, slots := 0, locals := 20 } : Room) (va_Pc [.int a, .int b] (gPre D cy ad sz iv ar)) (vp_Si (fun r => r.toInt = -1 ∨ 0 ≤ r.toInt ∧ r.toInt < 6588)) 0 0 (fun _ => False) := by
  refine Met.ofW (cc := cX7_spot) (maxL := 2) (ret := (some .int)) (by decide) rfl ?_
  intro p e s m args below meth c s₁ B hml hv
  obtain ⟨rfl, rfl, hP, hK, hSt, hNw⟩ := hv
  have hx := B.exec
  have hb := B.bytes
  have hr := B.returns
  have hts := atoms_spec (ws := wsX7_spot) B.pre
  have hown : s.vm.findClass RX7 = some m.cls := findClass_of_methodNamed B.named
  have hlocks := B.notSynchronized
  have hS : va_S (gA ad s.heap.size) s.heap s.heap [] := va_S.rf
  have lk0 := hts (.initialized RX10) (by decide +kernel)
  have lk1 := hts (.static yX10_isCell) (by decide +kernel)
  have hl := lv_entry ([.int a, .int b]) (n := 2) (Nat.le_of_ble_eq_true rfl)
  rw [lg_entry_eq]
  generalize (lg_sl ([.int a, .int b]) ++ List.replicate (2 - (lg_sl ([.int a, .int b])).length) Slot.unset).toArray = ls at hl ⊢
  have hl : lv_has ls 2 [(0, .int a), (1, .int b)] := hl
  obtain ⟨Q, hQ⟩ : ∃ Q, Q = MQ below (vp_Si (fun r => r.toInt = -1 ∨ 0 ≤ r.toInt ∧ r.toInt < 6588)) (([.int a, .int b] : List Value).toArray) s 0 0 (fun _ => False) := ⟨_, rfl⟩
  rw [← hQ]
  refine lv_iload_n hx hb dX7_spot_0 rfl (lv_at hl 0 rfl) ?_
  refine lv_if_lt (tgt := 26) hx hb dX7_spot_1 (by decide) (fun c_1 => ?_) (fun c_1 => ?_)
  · skip
    have q_1 : a.toInt < (0 : Int) := i_lt2 (rfl : a.toInt = a.toInt) (show (0 : Int32).toInt = (0 : Int) from rfl) c_1
    refine lv_iconst (v := (-1)) hx hb dX7_spot_26 (by decide) ?_
    rw [hQ]
    exact W.iret (v := (-1)) hx hb hr (fun t ht hW => ⟨(-1), rfl, by have zm := i_m1; omega, ht⟩) (fun q h => by cases h) dX7_spot_27
  · skip
    have q_1 : (0 : Int) ≤ a.toInt := i_nlt2 (rfl : a.toInt = a.toInt) (show (0 : Int32).toInt = (0 : Int) from rfl) c_1
    refine lv_iload_n hx hb dX7_spot_4 rfl (lv_at hl 0 rfl) ?_
    refine lv_bipush (v := 61) hx hb dX7_spot_5 (by decide) ?_
    refine lv_icmp_ge (tgt := 26) hx hb dX7_spot_7 (by decide) (fun c_2 => ?_) (fun c_2 => ?_)
    · skip
      have q_2 : (61 : Int) ≤ a.toInt := i_le2 (show (61 : Int32).toInt = (61 : Int) from rfl) (rfl : a.toInt = a.toInt) c_2
      refine lv_iconst (v := (-1)) hx hb dX7_spot_26 (by decide) ?_
      rw [hQ]
      exact W.iret (v := (-1)) hx hb hr (fun t ht hW => ⟨(-1), rfl, by have zm := i_m1; omega, ht⟩) (fun q h => by cases h) dX7_spot_27
    · skip
      have q_2 : a.toInt < (61 : Int) := i_nle2 (show (61 : Int32).toInt = (61 : Int) from rfl) (rfl : a.toInt = a.toInt) c_2
      refine lv_iload_n hx hb dX7_spot_10 rfl (lv_at hl 1 rfl) ?_
      refine g_callSi (va_runSN (As := [.int b]) (rest := []) ⟨hx, hb, hml, hown, hts⟩ (c_X10_isCell l b) ⟨va_cnB 1 hts gX7_spot_X10_isCell_n83 rfl rfl rfl (hNw (.methodLinkNest RX7 83 yX10_isCell "FormationPlanner") (by decide +kernel)) lk0 (by decide +kernel) ⟨Nat.le_of_ble_eq_true rfl, Nat.le_of_ble_eq_true rfl⟩, lk1, trivial⟩ (g_preT) rfl rfl hl.1 rfl (lv_room (Nat.le_of_ble_eq_true rfl)) dX7_spot_11 ⟨Nat.zero_le _, Nat.zero_le _⟩) (fun r_3 w_3 => ?_)
      try dsimp only at w_3
      refine lv_if_eq (tgt := 26) hx hb dX7_spot_14 (by decide) (fun c_4 => ?_) (fun c_4 => ?_)
      · skip
        have q_4 : r_3.toInt = (0 : Int) := i_eq2 (rfl : r_3.toInt = r_3.toInt) (show (0 : Int32).toInt = (0 : Int) from rfl) c_4
        refine lv_iconst (v := (-1)) hx hb dX7_spot_26 (by decide) ?_
        rw [hQ]
        exact W.iret (v := (-1)) hx hb hr (fun t ht hW => ⟨(-1), rfl, by have zm := i_m1; omega, ht⟩) (fun q h => by cases h) dX7_spot_27
      · skip
        have q_4 : r_3.toInt ≠ (0 : Int) := i_ne2 (rfl : r_3.toInt = r_3.toInt) (show (0 : Int32).toInt = (0 : Int) from rfl) c_4
        refine lv_iload_n hx hb dX7_spot_17 rfl (lv_at hl 0 rfl) ?_
        refine lv_bipush (v := 108) hx hb dX7_spot_18 (by decide) ?_
        refine lv_imul hx hb dX7_spot_20 ?_
        refine lv_topi (fun v_5 ev_5 => ?_)
        have tv_5 : v_5.toInt = a.toInt * (108 : Int) := i_mul (rfl : a.toInt = a.toInt) (show (108 : Int32).toInt = (108 : Int) from rfl) (by omega) (by omega) ev_5
        refine lv_iload_n hx hb dX7_spot_21 rfl (lv_at hl 1 rfl) ?_
        refine lv_iadd hx hb dX7_spot_22 ?_
        refine lv_topi (fun v_6 ev_6 => ?_)
        have rg_7 := i_rng b
        have tv_6 : v_6.toInt = v_5.toInt + b.toInt := i_add (rfl : v_5.toInt = v_5.toInt) (rfl : b.toInt = b.toInt) (by omega) (by omega) ev_6
        refine lv_goto (tgt := 27) hx hb dX7_spot_23 (by decide) ?_
        rw [hQ]
        exact W.iret (v := v_6) hx hb hr (fun t ht hW => ⟨v_6, rfl, by have zm := i_m1; omega, ht⟩) (fun q h => by cases h) dX7_spot_27
set_option maxHeartbeats 4000000 in
set_option maxRecDepth 100000 in
theorem c_X7_isUsable (l : Launch) (D : va_G) (cy : Nat → ClassId) (ad : Nat → Nat) (hI : gInj ad) (sz : Nat) (iv : gIv) (ar : gAr) (a : Int32)  : Met l yX7_isUsable wsX7_isUsable ({ frames := 0, cells := 0, slots := 0, locals := 0 } : Room) (va_Pc [.ref (ad 93), .int a] (gPre D cy ad sz iv ar)) (vp_Si (fun r => True)) 0 0 (fun _ => False) := by
  refine Met.ofW (cc := cX7_isUsable) (maxL := 2) (ret := (some .boolean)) (by decide) rfl ?_
  intro p e s m args below meth c s₁ B hml hv
  obtain ⟨rfl, rfl, hP, hK, hSt, hNw⟩ := hv
  have hx := B.exec
  have hb := B.bytes
  have hr := B.returns
  have hts := atoms_spec (ws := wsX7_isUsable) B.pre
  have hown : s.vm.findClass RX7 = some m.cls := findClass_of_methodNamed B.named
  have hlocks := B.notSynchronized
  have hS : va_S (gA ad s.heap.size) s.heap s.heap [] := va_S.rf
  have inX7 : ∀ w ∈ u_ws RX7 TX7 3, w ∈ wsX7_isUsable := by decide +kernel
  have lk0 := hts (.fieldLink RX7 15 "FormationPlanner$Router" "usable" "[I") (by decide +kernel)
  have hl := lv_entry ([.ref (ad 93), .int a]) (n := 2) (Nat.le_of_ble_eq_true rfl)
  rw [lg_entry_eq]
  generalize (lg_sl ([.ref (ad 93), .int a]) ++ List.replicate (2 - (lg_sl ([.ref (ad 93), .int a])).length) Slot.unset).toArray = ls at hl ⊢
  have hl : lv_has ls 2 [(0, .ref (ad 93)), (1, .int a)] := hl
  obtain ⟨Q, hQ⟩ : ∃ Q, Q = MQ below (vp_Si (fun r => True)) (([.ref (ad 93), .int a] : List Value).toArray) s 0 0 (fun _ => False) := ⟨_, rfl⟩
  rw [← hQ]
  refine lv_iload_n hx hb dX7_isUsable_0 rfl (lv_at hl 1 rfl) ?_
  refine lv_if_lt (tgt := 24) hx hb dX7_isUsable_1 (by decide) (fun c_1 => ?_) (fun c_1 => ?_)
  · skip
    have q_1 : a.toInt < (0 : Int) := i_lt2 (rfl : a.toInt = a.toInt) (show (0 : Int32).toInt = (0 : Int) from rfl) c_1
    refine lv_iconst (v := 0) hx hb dX7_isUsable_24 (by decide) ?_
    rw [hQ]
    exact W.zret (v := 0) hx hb hr rfl (fun t ht hW => ⟨0, rfl, trivial, ht⟩) (fun q h => by cases h) dX7_isUsable_25
  · skip
    have q_1 : (0 : Int) ≤ a.toInt := i_nlt2 (rfl : a.toInt = a.toInt) (show (0 : Int32).toInt = (0 : Int) from rfl) c_1
    refine lv_iload_n hx hb dX7_isUsable_4 rfl (lv_at hl 1 rfl) ?_
    refine lv_sipush (v := 6588) hx hb dX7_isUsable_5 (by decide) ?_
    refine lv_icmp_ge (tgt := 24) hx hb dX7_isUsable_8 (by decide) (fun c_2 => ?_) (fun c_2 => ?_)
    · skip
      have q_2 : (6588 : Int) ≤ a.toInt := i_le2 (show (6588 : Int32).toInt = (6588 : Int) from rfl) (rfl : a.toInt = a.toInt) c_2
      refine lv_iconst (v := 0) hx hb dX7_isUsable_24 (by decide) ?_
      rw [hQ]
      exact W.zret (v := 0) hx hb hr rfl (fun t ht hW => ⟨0, rfl, trivial, ht⟩) (fun q h => by cases h) dX7_isUsable_25
    · skip
      have q_2 : a.toInt < (6588 : Int) := i_nle2 (show (6588 : Int32).toInt = (6588 : Int) from rfl) (rfl : a.toInt = a.toInt) c_2
      refine lv_aload_n hx hb dX7_isUsable_11 rfl (lv_at hl 0 rfl) ?_
      refine va_get (D := D) (ci := 7) (v := .ref (ad 95)) (C := RX7) (T := TX7) (N := 3) hx hb hts inX7 hown hK hP 93 (g_at7 (Nat.le_of_ble_eq_true rfl) rfl) rfl 2 (by decide) lk0 (fun _ h9 => h9) rfl dX7_isUsable_12 ?_
      refine lv_iload_n hx hb dX7_isUsable_15 rfl (lv_at hl 1 rfl) ?_
      refine va_iald hx hb hK hP 95 0 (g_at12 (Nat.le_of_ble_eq_true rfl) rfl) rfl (g_in (N := 6588) (rfl : a.toInt = a.toInt) rfl (by omega) (by omega)) dX7_isUsable_16 ?_
      refine lv_topi (fun v_3 ev_3 => ?_)
      refine lv_if_eq (tgt := 24) hx hb dX7_isUsable_17 (by decide) (fun c_4 => ?_) (fun c_4 => ?_)
      · skip
        have q_4 : v_3.toInt = (0 : Int) := i_eq2 (rfl : v_3.toInt = v_3.toInt) (show (0 : Int32).toInt = (0 : Int) from rfl) c_4
        refine lv_iconst (v := 0) hx hb dX7_isUsable_24 (by decide) ?_
        rw [hQ]
        exact W.zret (v := 0) hx hb hr rfl (fun t ht hW => ⟨0, rfl, trivial, ht⟩) (fun q h => by cases h) dX7_isUsable_25
      · skip
        have q_4 : v_3.toInt ≠ (0 : Int) := i_ne2 (rfl : v_3.toInt = v_3.toInt) (show (0 : Int32).toInt = (0 : Int) from rfl) c_4
        refine lv_iconst (v := 1) hx hb dX7_isUsable_20 (by decide) ?_
        refine lv_goto (tgt := 25) hx hb dX7_isUsable_21 (by decide) ?_
        rw [hQ]
        exact W.zret (v := 1) hx hb hr rfl (fun t ht hW => ⟨1, rfl, trivial, ht⟩) (fun q h => by cases h) dX7_isUsable_25
set_option maxHeartbeats 4000000 in
set_option maxRecDepth 100000 in
theorem c_X7_mark (l : Launch) (D : va_G) (cy : Nat → ClassId) (ad : Nat → Nat) (hI : gInj ad) (sz : Nat) (iv : gIv) (ar : gAr) (a : Int32) (b : Int32)  : Met l yX7_mark wsX7_mark ({ frames := 0, cells := 0, slots := 0, locals := 0 } : Room) (va_Pc [.ref (ad 93), .int a, .int b] (gPre D cy ad sz iv ar)) (va_Qv (fun (u : gIv × gAr) => u.1 = iv) (gPost D cy ad) (gA ad sz)) 0 0 (gA ad sz) := by
  refine Met.ofW (cc := cX7_mark) (maxL := 3) (ret := none) (by decide) rfl ?_
  intro p e s m args below meth c s₁ B hml hv
  obtain ⟨rfl, rfl, hP, hK, hSt, hNw⟩ := hv
  have hx := B.exec
  have hb := B.bytes
  have hr := B.returns
  have hts := atoms_spec (ws := wsX7_mark) B.pre
  have hown : s.vm.findClass RX7 = some m.cls := findClass_of_methodNamed B.named
  have hlocks := B.notSynchronized
  have hS : va_S (gA ad s.heap.size) s.heap s.heap [] := va_S.rf
  have inX7 : ∀ w ∈ u_ws RX7 TX7 3, w ∈ wsX7_mark := by decide +kernel
  have lk0 := hts (.fieldLink RX7 15 "FormationPlanner$Router" "usable" "[I") (by decide +kernel)
  have hl := lv_entry ([.ref (ad 93), .int a, .int b]) (n := 3) (Nat.le_of_ble_eq_true rfl)
  rw [lg_entry_eq]
  generalize (lg_sl ([.ref (ad 93), .int a, .int b]) ++ List.replicate (3 - (lg_sl ([.ref (ad 93), .int a, .int b])).length) Slot.unset).toArray = ls at hl ⊢
  have hl : lv_has ls 3 [(0, .ref (ad 93)), (1, .int a), (2, .int b)] := hl
  obtain ⟨Q, hQ⟩ : ∃ Q, Q = MQ below (va_Qv (fun (u : gIv × gAr) => u.1 = iv) (gPost D cy ad) (gA ad s.heap.size)) (([.ref (ad 93), .int a, .int b] : List Value).toArray) s 0 0 (gA ad s.heap.size) := ⟨_, rfl⟩
  rw [← hQ]
  refine lv_iload_n hx hb dX7_mark_0 rfl (lv_at hl 1 rfl) ?_
  refine lv_if_lt (tgt := 18) hx hb dX7_mark_1 (by decide) (fun c_1 => ?_) (fun c_1 => ?_)
  · skip
    have q_1 : a.toInt < (0 : Int) := i_lt2 (rfl : a.toInt = a.toInt) (show (0 : Int32).toInt = (0 : Int) from rfl) c_1
    rw [hQ]
    exact W.vret hx hb hr (fun t ht hW => ⟨⟨(iv, ar), rfl, rfl, by show va_P _ _ _ _; rw [ht]; exact hP⟩, hS.F ht⟩) hS.2.2 dX7_mark_18
  · skip
    have q_1 : (0 : Int) ≤ a.toInt := i_nlt2 (rfl : a.toInt = a.toInt) (show (0 : Int32).toInt = (0 : Int) from rfl) c_1
    refine lv_iload_n hx hb dX7_mark_4 rfl (lv_at hl 1 rfl) ?_
    refine lv_sipush (v := 6588) hx hb dX7_mark_5 (by decide) ?_
    refine lv_icmp_ge (tgt := 18) hx hb dX7_mark_8 (by decide) (fun c_2 => ?_) (fun c_2 => ?_)
    · skip
      have q_2 : (6588 : Int) ≤ a.toInt := i_le2 (show (6588 : Int32).toInt = (6588 : Int) from rfl) (rfl : a.toInt = a.toInt) c_2
      rw [hQ]
      exact W.vret hx hb hr (fun t ht hW => ⟨⟨(iv, ar), rfl, rfl, by show va_P _ _ _ _; rw [ht]; exact hP⟩, hS.F ht⟩) hS.2.2 dX7_mark_18
    · skip
      have q_2 : a.toInt < (6588 : Int) := i_nle2 (show (6588 : Int32).toInt = (6588 : Int) from rfl) (rfl : a.toInt = a.toInt) c_2
      refine lv_aload_n hx hb dX7_mark_11 rfl (lv_at hl 0 rfl) ?_
      refine va_get (D := D) (ci := 7) (v := .ref (ad 95)) (C := RX7) (T := TX7) (N := 3) hx hb hts inX7 hown hK hP 93 (g_at7 (Nat.le_of_ble_eq_true rfl) rfl) rfl 2 (by decide) lk0 (fun _ h9 => h9) rfl dX7_mark_12 ?_
      refine lv_iload_n hx hb dX7_mark_15 rfl (lv_at hl 1 rfl) ?_
      refine lv_iload_n hx hb dX7_mark_16 rfl (lv_at hl 2 rfl) ?_
      refine va_iast hx hb hK hP (gD hI) hS 95 0 (g_at12 (Nat.le_of_ble_eq_true rfl) rfl) rfl (g_in (N := 6588) (rfl : a.toInt = a.toInt) rfl (by omega) (by omega)) dX7_mark_17 (fun H locs hP _ hS => ?_)
      rw [g_pt12 (Nat.le_of_ble_eq_true rfl) rfl] at hP
      obtain ⟨ar_3, ear_3⟩ : ∃ z : gAr, z = va_up ar 95 (upd (ar 95) a.toNatClampNeg b) := ⟨_, rfl⟩
      rw [← ear_3] at hP
      rw [hQ]
      exact W.vret hx hb hr (fun t ht hW => ⟨⟨(iv, ar_3), rfl, rfl, by show va_P _ _ _ _; rw [ht]; exact hP⟩, hS.F ht⟩) hS.2.2 dX7_mark_18
set_option maxHeartbeats 4000000 in
set_option maxRecDepth 100000 in
theorem c_X7_canStep (l : Launch) (D : va_G) (cy : Nat → ClassId) (ad : Nat → Nat) (hI : gInj ad) (sz : Nat) (iv : gIv) (ar : gAr) (a : Int32) (b : Int32) (d : Int32)  : Met l yX7_canStep wsX7_canStep ({ frames := 1, cells := 0, slots := 0, locals := 20 } : Room) (va_Pc [.ref (ad 93), .int a, .int b, .int d] (gPre D cy ad sz iv ar)) (vp_Si (fun r => True)) 0 0 (fun _ => False) := by
  refine Met.ofW (cc := cX7_canStep) (maxL := 7) (ret := (some .boolean)) (by decide) rfl ?_
  intro p e s m args below meth c s₁ B hml hv
  obtain ⟨rfl, rfl, hP, hK, hSt, hNw⟩ := hv
  have hx := B.exec
  have hb := B.bytes
  have hr := B.returns
  have hts := atoms_spec (ws := wsX7_canStep) B.pre
  have hown : s.vm.findClass RX7 = some m.cls := findClass_of_methodNamed B.named
  have hlocks := B.notSynchronized
  have hS : va_S (gA ad s.heap.size) s.heap s.heap [] := va_S.rf
  have inX7 : ∀ w ∈ u_ws RX7 TX7 3, w ∈ wsX7_canStep := by decide +kernel
  have lk0 := hts (.initialized RX10) (by decide +kernel)
  have lk1 := hts (.static yX10_isCell) (by decide +kernel)
  have lk2 := hts (.fieldLink RX7 9 "FormationPlanner$Router" "holders" "[I") (by decide +kernel)
  have hl := lv_entry ([.ref (ad 93), .int a, .int b, .int d]) (n := 7) (Nat.le_of_ble_eq_true rfl)
  rw [lg_entry_eq]
  generalize (lg_sl ([.ref (ad 93), .int a, .int b, .int d]) ++ List.replicate (7 - (lg_sl ([.ref (ad 93), .int a, .int b, .int d])).length) Slot.unset).toArray = ls at hl ⊢
  have hl : lv_has ls 7 [(0, .ref (ad 93)), (1, .int a), (2, .int b), (3, .int d)] := hl
  obtain ⟨Q, hQ⟩ : ∃ Q, Q = MQ below (vp_Si (fun r => True)) (([.ref (ad 93), .int a, .int b, .int d] : List Value).toArray) s 0 0 (fun _ => False) := ⟨_, rfl⟩
  rw [← hQ]
  refine lv_iload_n hx hb dX7_canStep_0 rfl (lv_at hl 1 rfl) ?_
  refine lv_if_lt (tgt := 24) hx hb dX7_canStep_1 (by decide) (fun c_1 => ?_) (fun c_1 => ?_)
  · skip
    have q_1 : a.toInt < (0 : Int) := i_lt2 (rfl : a.toInt = a.toInt) (show (0 : Int32).toInt = (0 : Int) from rfl) c_1
    refine lv_iconst (v := 0) hx hb dX7_canStep_24 (by decide) ?_
    rw [hQ]
    exact W.zret (v := 0) hx hb hr rfl (fun t ht hW => ⟨0, rfl, trivial, ht⟩) (fun q h => by cases h) dX7_canStep_25
  · skip
    have q_1 : (0 : Int) ≤ a.toInt := i_nlt2 (rfl : a.toInt = a.toInt) (show (0 : Int32).toInt = (0 : Int) from rfl) c_1
    refine lv_iload_n hx hb dX7_canStep_4 rfl (lv_at hl 1 rfl) ?_
    refine lv_bipush (v := 60) hx hb dX7_canStep_5 (by decide) ?_
    refine lv_icmp_ge (tgt := 24) hx hb dX7_canStep_7 (by decide) (fun c_2 => ?_) (fun c_2 => ?_)
    · skip
      have q_2 : (60 : Int) ≤ a.toInt := i_le2 (show (60 : Int32).toInt = (60 : Int) from rfl) (rfl : a.toInt = a.toInt) c_2
      refine lv_iconst (v := 0) hx hb dX7_canStep_24 (by decide) ?_
      rw [hQ]
      exact W.zret (v := 0) hx hb hr rfl (fun t ht hW => ⟨0, rfl, trivial, ht⟩) (fun q h => by cases h) dX7_canStep_25
    · skip
      have q_2 : a.toInt < (60 : Int) := i_nle2 (show (60 : Int32).toInt = (60 : Int) from rfl) (rfl : a.toInt = a.toInt) c_2
      refine lv_iload_n hx hb dX7_canStep_10 rfl (lv_at hl 2 rfl) ?_
      refine g_callSi (va_runSN (As := [.int b]) (rest := []) ⟨hx, hb, hml, hown, hts⟩ (c_X10_isCell l b) ⟨va_cnB 1 hts gX7_canStep_X10_isCell_n83 rfl rfl rfl (hNw (.methodLinkNest RX7 83 yX10_isCell "FormationPlanner") (by decide +kernel)) lk0 (by decide +kernel) ⟨Nat.le_of_ble_eq_true rfl, Nat.le_of_ble_eq_true rfl⟩, lk1, trivial⟩ (g_preT) rfl rfl hl.1 rfl (lv_room (Nat.le_of_ble_eq_true rfl)) dX7_canStep_11 ⟨Nat.zero_le _, Nat.zero_le _⟩) (fun r_3 w_3 => ?_)
      try dsimp only at w_3
      refine lv_if_eq (tgt := 24) hx hb dX7_canStep_14 (by decide) (fun c_4 => ?_) (fun c_4 => ?_)
      · skip
        have q_4 : r_3.toInt = (0 : Int) := i_eq2 (rfl : r_3.toInt = r_3.toInt) (show (0 : Int32).toInt = (0 : Int) from rfl) c_4
        refine lv_iconst (v := 0) hx hb dX7_canStep_24 (by decide) ?_
        rw [hQ]
        exact W.zret (v := 0) hx hb hr rfl (fun t ht hW => ⟨0, rfl, trivial, ht⟩) (fun q h => by cases h) dX7_canStep_25
      · skip
        have q_4 : r_3.toInt ≠ (0 : Int) := i_ne2 (rfl : r_3.toInt = r_3.toInt) (show (0 : Int32).toInt = (0 : Int) from rfl) c_4
        refine lv_iload_n hx hb dX7_canStep_17 rfl (lv_at hl 3 rfl) ?_
        refine g_callSi (va_runSN (As := [.int d]) (rest := []) ⟨hx, hb, hml, hown, hts⟩ (c_X10_isCell l d) ⟨va_cnB 1 hts gX7_canStep_X10_isCell_n83 rfl rfl rfl (hNw (.methodLinkNest RX7 83 yX10_isCell "FormationPlanner") (by decide +kernel)) lk0 (by decide +kernel) ⟨Nat.le_of_ble_eq_true rfl, Nat.le_of_ble_eq_true rfl⟩, lk1, trivial⟩ (g_preT) rfl rfl hl.1 rfl (lv_room (Nat.le_of_ble_eq_true rfl)) dX7_canStep_18 ⟨Nat.zero_le _, Nat.zero_le _⟩) (fun r_5 w_5 => ?_)
        try dsimp only at w_5
        refine lv_if_ne (tgt := 26) hx hb dX7_canStep_21 (by decide) (fun c_6 => ?_) (fun c_6 => ?_)
        · skip
          have q_6 : r_5.toInt ≠ (0 : Int) := i_ne2 (rfl : r_5.toInt = r_5.toInt) (show (0 : Int32).toInt = (0 : Int) from rfl) c_6
          refine lv_iload_n hx hb dX7_canStep_26 rfl (lv_at hl 1 rfl) ?_
          refine lv_bipush (v := 108) hx hb dX7_canStep_27 (by decide) ?_
          refine lv_imul hx hb dX7_canStep_29 ?_
          refine lv_topi (fun v_7 ev_7 => ?_)
          have tv_7 : v_7.toInt = a.toInt * (108 : Int) := i_mul (rfl : a.toInt = a.toInt) (show (108 : Int32).toInt = (108 : Int) from rfl) (by omega) (by omega) ev_7
          refine lv_istore (lv' := [(4, .int v_7), (0, .ref (ad 93)), (1, .int a), (2, .int b), (3, .int d)]) hx hb dX7_canStep_30 hl (by decide) rfl (fun ls hl => ?_)
          refine lv_iload hx hb dX7_canStep_32 (lv_at hl 0 rfl) ?_
          refine lv_bipush (v := 108) hx hb dX7_canStep_34 (by decide) ?_
          refine lv_iadd hx hb dX7_canStep_36 ?_
          refine lv_topi (fun v_8 ev_8 => ?_)
          have tv_8 : v_8.toInt = v_7.toInt + (108 : Int) := i_add (rfl : v_7.toInt = v_7.toInt) (show (108 : Int32).toInt = (108 : Int) from rfl) (by omega) (by omega) ev_8
          refine lv_istore (lv' := [(5, .int v_8), (4, .int v_7), (0, .ref (ad 93)), (1, .int a), (2, .int b), (3, .int d)]) hx hb dX7_canStep_37 hl (by decide) rfl (fun ls hl => ?_)
          refine lv_aload_n hx hb dX7_canStep_39 rfl (lv_at hl 2 rfl) ?_
          refine va_get (D := D) (ci := 7) (v := .ref (ad 94)) (C := RX7) (T := TX7) (N := 3) hx hb hts inX7 hown hK hP 93 (g_at7 (Nat.le_of_ble_eq_true rfl) rfl) rfl 1 (by decide) lk2 (fun _ h9 => h9) rfl dX7_canStep_40 ?_
          refine lv_iload hx hb dX7_canStep_43 (lv_at hl 0 rfl) ?_
          refine lv_iload_n hx hb dX7_canStep_45 rfl (lv_at hl 5 rfl) ?_
          refine lv_iadd hx hb dX7_canStep_46 ?_
          refine lv_topi (fun v_9 ev_9 => ?_)
          have rg_10 := i_rng d
          have tv_9 : v_9.toInt = v_8.toInt + d.toInt := i_add (rfl : v_8.toInt = v_8.toInt) (rfl : d.toInt = d.toInt) (by omega) (by omega) ev_9
          refine va_iald hx hb hK hP 94 0 (g_at12 (Nat.le_of_ble_eq_true rfl) rfl) rfl (g_in (N := 6588) (rfl : v_9.toInt = v_9.toInt) rfl (by omega) (by omega)) dX7_canStep_47 ?_
          refine lv_topi (fun v_11 ev_11 => ?_)
          refine lv_if_eq (tgt := 53) hx hb dX7_canStep_48 (by decide) (fun c_12 => ?_) (fun c_12 => ?_)
          · skip
            have q_12 : v_11.toInt = (0 : Int) := i_eq2 (rfl : v_11.toInt = v_11.toInt) (show (0 : Int32).toInt = (0 : Int) from rfl) c_12
            refine lv_aload_n hx hb dX7_canStep_53 rfl (lv_at hl 2 rfl) ?_
            refine va_get (D := D) (ci := 7) (v := .ref (ad 94)) (C := RX7) (T := TX7) (N := 3) hx hb hts inX7 hown hK hP 93 (g_at7 (Nat.le_of_ble_eq_true rfl) rfl) rfl 1 (by decide) lk2 (fun _ h9 => h9) rfl dX7_canStep_54 ?_
            refine lv_iload hx hb dX7_canStep_57 (lv_at hl 1 rfl) ?_
            refine lv_iload_n hx hb dX7_canStep_59 rfl (lv_at hl 5 rfl) ?_
            refine lv_iadd hx hb dX7_canStep_60 ?_
            refine lv_topi (fun v_13 ev_13 => ?_)
            have rg_14 := i_rng d
            have tv_13 : v_13.toInt = v_7.toInt + d.toInt := i_add (rfl : v_7.toInt = v_7.toInt) (rfl : d.toInt = d.toInt) (by omega) (by omega) ev_13
            refine va_iald hx hb hK hP 94 0 (g_at12 (Nat.le_of_ble_eq_true rfl) rfl) rfl (g_in (N := 6588) (rfl : v_13.toInt = v_13.toInt) rfl (by omega) (by omega)) dX7_canStep_61 ?_
            refine lv_topi (fun v_15 ev_15 => ?_)
            refine lv_istore (lv' := [(6, .int v_15), (5, .int v_8), (4, .int v_7), (0, .ref (ad 93)), (1, .int a), (2, .int b), (3, .int d)]) hx hb dX7_canStep_62 hl (by decide) rfl (fun ls hl => ?_)
            refine lv_iload hx hb dX7_canStep_64 (lv_at hl 0 rfl) ?_
            refine lv_if_eq (tgt := 83) hx hb dX7_canStep_66 (by decide) (fun c_16 => ?_) (fun c_16 => ?_)
            · skip
              have q_16 : v_15.toInt = (0 : Int) := i_eq2 (rfl : v_15.toInt = v_15.toInt) (show (0 : Int32).toInt = (0 : Int) from rfl) c_16
              refine lv_iconst (v := 1) hx hb dX7_canStep_83 (by decide) ?_
              refine lv_goto (tgt := 88) hx hb dX7_canStep_84 (by decide) ?_
              rw [hQ]
              exact W.zret (v := 1) hx hb hr rfl (fun t ht hW => ⟨1, rfl, trivial, ht⟩) (fun q h => by cases h) dX7_canStep_88
            · skip
              have q_16 : v_15.toInt ≠ (0 : Int) := i_ne2 (rfl : v_15.toInt = v_15.toInt) (show (0 : Int32).toInt = (0 : Int) from rfl) c_16
              refine lv_aload_n hx hb dX7_canStep_69 rfl (lv_at hl 3 rfl) ?_
              refine va_get (D := D) (ci := 7) (v := .ref (ad 94)) (C := RX7) (T := TX7) (N := 3) hx hb hts inX7 hown hK hP 93 (g_at7 (Nat.le_of_ble_eq_true rfl) rfl) rfl 1 (by decide) lk2 (fun _ h9 => h9) rfl dX7_canStep_70 ?_
              refine lv_iload hx hb dX7_canStep_73 (lv_at hl 1 rfl) ?_
              refine lv_iload_n hx hb dX7_canStep_75 rfl (lv_at hl 5 rfl) ?_
              refine lv_iadd hx hb dX7_canStep_76 ?_
              refine lv_topi (fun v_17 ev_17 => ?_)
              have rg_18 := i_rng b
              have tv_17 : v_17.toInt = v_8.toInt + b.toInt := i_add (rfl : v_8.toInt = v_8.toInt) (rfl : b.toInt = b.toInt) (by omega) (by omega) ev_17
              refine va_iald hx hb hK hP 94 0 (g_at12 (Nat.le_of_ble_eq_true rfl) rfl) rfl (g_in (N := 6588) (rfl : v_17.toInt = v_17.toInt) rfl (by omega) (by omega)) dX7_canStep_77 ?_
              refine lv_topi (fun v_19 ev_19 => ?_)
              refine lv_iload hx hb dX7_canStep_78 (lv_at hl 0 rfl) ?_
              refine lv_icmp_eq (tgt := 87) hx hb dX7_canStep_80 (by decide) (fun c_20 => ?_) (fun c_20 => ?_)
              · skip
                have q_20 : v_19.toInt = v_15.toInt := i_eq2 (rfl : v_19.toInt = v_19.toInt) (rfl : v_15.toInt = v_15.toInt) c_20
                refine lv_iconst (v := 0) hx hb dX7_canStep_87 (by decide) ?_
                rw [hQ]
                exact W.zret (v := 0) hx hb hr rfl (fun t ht hW => ⟨0, rfl, trivial, ht⟩) (fun q h => by cases h) dX7_canStep_88
              · skip
                have q_20 : v_19.toInt ≠ v_15.toInt := i_ne2 (rfl : v_19.toInt = v_19.toInt) (rfl : v_15.toInt = v_15.toInt) c_20
                refine lv_iconst (v := 1) hx hb dX7_canStep_83 (by decide) ?_
                refine lv_goto (tgt := 88) hx hb dX7_canStep_84 (by decide) ?_
                rw [hQ]
                exact W.zret (v := 1) hx hb hr rfl (fun t ht hW => ⟨1, rfl, trivial, ht⟩) (fun q h => by cases h) dX7_canStep_88
          · skip
            have q_12 : v_11.toInt ≠ (0 : Int) := i_ne2 (rfl : v_11.toInt = v_11.toInt) (show (0 : Int32).toInt = (0 : Int) from rfl) c_12
            refine lv_iconst (v := 0) hx hb dX7_canStep_51 (by decide) ?_
            rw [hQ]
            exact W.zret (v := 0) hx hb hr rfl (fun t ht hW => ⟨0, rfl, trivial, ht⟩) (fun q h => by cases h) dX7_canStep_52
        · skip
          have q_6 : r_5.toInt = (0 : Int) := i_eq2 (rfl : r_5.toInt = r_5.toInt) (show (0 : Int32).toInt = (0 : Int) from rfl) c_6
          refine lv_iconst (v := 0) hx hb dX7_canStep_24 (by decide) ?_
          rw [hQ]
          exact W.zret (v := 0) hx hb hr rfl (fun t ht hW => ⟨0, rfl, trivial, ht⟩) (fun q h => by cases h) dX7_canStep_25
set_option maxHeartbeats 4000000 in
set_option maxRecDepth 100000 in
theorem c_X7_landing (l : Launch) (D : va_G) (cy : Nat → ClassId) (ad : Nat → Nat) (hI : gInj ad) (sz : Nat) (iv : gIv) (ar : gAr) (a : Int32) (b : Int32) (d : Int32)  : Met l yX7_landing wsX7_landing ({ frames := 2, cells := 0, slots := 0, locals := 46 } : Room) (va_Pc [.ref (ad 93), .int a, .int b, .int d] (gPre D cy ad sz iv ar)) (vp_Si (fun r => True)) 0 0 (fun _ => False) := by
  refine Met.ofW (cc := cX7_landing) (maxL := 6) (ret := (some .int)) (by decide) rfl ?_
  intro p e s m args below meth c s₁ B hml hv
  obtain ⟨rfl, rfl, hP, hK, hSt, hNw⟩ := hv
  have hx := B.exec
  have hb := B.bytes
  have hr := B.returns
  have hts := atoms_spec (ws := wsX7_landing) B.pre
  have hown : s.vm.findClass RX7 = some m.cls := findClass_of_methodNamed B.named
  have hlocks := B.notSynchronized
  have hS : va_S (gA ad s.heap.size) s.heap s.heap [] := va_S.rf
  have inX7 : ∀ w ∈ u_ws RX7 TX7 3, w ∈ wsX7_landing := by decide +kernel
  have lk0 := hts (.fieldLink RX7 18 "FormationPlanner$Router" "lattice" "LFormationPlanner$Lattice;") (by decide +kernel)
  have hl := lv_entry ([.ref (ad 93), .int a, .int b, .int d]) (n := 6) (Nat.le_of_ble_eq_true rfl)
  rw [lg_entry_eq]
  generalize (lg_sl ([.ref (ad 93), .int a, .int b, .int d]) ++ List.replicate (6 - (lg_sl ([.ref (ad 93), .int a, .int b, .int d])).length) Slot.unset).toArray = ls at hl ⊢
  have hl : lv_has ls 6 [(0, .ref (ad 93)), (1, .int a), (2, .int b), (3, .int d)] := hl
  obtain ⟨Q, hQ⟩ : ∃ Q, Q = MQ below (vp_Si (fun r => True)) (([.ref (ad 93), .int a, .int b, .int d] : List Value).toArray) s 0 0 (fun _ => False) := ⟨_, rfl⟩
  rw [← hQ]
  refine lv_aload_n hx hb dX7_landing_0 rfl (lv_at hl 0 rfl) ?_
  refine va_get (D := D) (ci := 7) (v := .ref (ad 70)) (C := RX7) (T := TX7) (N := 3) hx hb hts inX7 hown hK hP 93 (g_at7 (Nat.le_of_ble_eq_true rfl) rfl) rfl 0 (by decide) lk0 (fun _ h9 => h9) rfl dX7_landing_1 ?_
  refine lv_iload_n hx hb dX7_landing_4 rfl (lv_at hl 2 rfl) ?_
  refine lv_iload_n hx hb dX7_landing_5 rfl (lv_at hl 3 rfl) ?_
  refine g_callSi (va_runV (As := [.int b, .int d]) (rest := []) ⟨hx, hb, hml, hown, hts⟩ (c_X4_next l D cy ad hI _ iv ar b d) (cwV 2 hts gX7_landing_X4_next rfl rfl rfl (by decide +kernel) ⟨Nat.le_of_ble_eq_true rfl, Nat.le_of_ble_eq_true rfl⟩) (g_preV hP hK hSt hNw hS (g_at4 (Nat.le_of_ble_eq_true rfl) rfl) rfl) rfl rfl hl.1 rfl (lv_room (Nat.le_of_ble_eq_true rfl)) dX7_landing_6 ⟨Nat.zero_le _, Nat.zero_le _⟩) (fun r_1 w_1 => ?_)
  try dsimp only at w_1
  refine lv_istore (lv' := [(4, .int r_1), (0, .ref (ad 93)), (1, .int a), (2, .int b), (3, .int d)]) hx hb dX7_landing_9 hl (by decide) rfl (fun ls hl => ?_)
  refine lv_iload hx hb dX7_landing_11 (lv_at hl 0 rfl) ?_
  refine lv_iconst (v := (-1)) hx hb dX7_landing_13 (by decide) ?_
  refine lv_icmp_ne (tgt := 19) hx hb dX7_landing_14 (by decide) (fun c_2 => ?_) (fun c_2 => ?_)
  · skip
    have q_2 : r_1.toInt ≠ (-1 : Int) := i_ne2 (rfl : r_1.toInt = r_1.toInt) (show ((-1) : Int32).toInt = (-1 : Int) from rfl) c_2
    refine lv_aload_n hx hb dX7_landing_19 rfl (lv_at hl 1 rfl) ?_
    refine va_get (D := D) (ci := 7) (v := .ref (ad 70)) (C := RX7) (T := TX7) (N := 3) hx hb hts inX7 hown hK hP 93 (g_at7 (Nat.le_of_ble_eq_true rfl) rfl) rfl 0 (by decide) lk0 (fun _ h9 => h9) rfl dX7_landing_20 ?_
    refine lv_iload_n hx hb dX7_landing_23 rfl (lv_at hl 3 rfl) ?_
    refine lv_iload_n hx hb dX7_landing_24 rfl (lv_at hl 4 rfl) ?_
    refine g_callSi (va_runV (As := [.int b, .int d]) (rest := []) ⟨hx, hb, hml, hown, hts⟩ (c_X4_ticks l D cy ad hI _ iv ar b d) (cwV 2 hts gX7_landing_X4_ticks rfl rfl rfl (by decide +kernel) ⟨Nat.le_of_ble_eq_true rfl, Nat.le_of_ble_eq_true rfl⟩) (g_preV hP hK hSt hNw hS (g_at4 (Nat.le_of_ble_eq_true rfl) rfl) rfl) rfl rfl hl.1 rfl (lv_room (Nat.le_of_ble_eq_true rfl)) dX7_landing_25 ⟨Nat.zero_le _, Nat.zero_le _⟩) (fun r_3 w_3 => ?_)
    try dsimp only at w_3
    refine lv_iconst (v := 1) hx hb dX7_landing_28 (by decide) ?_
    refine lv_icmp_ne (tgt := 56) hx hb dX7_landing_29 (by decide) (fun c_4 => ?_) (fun c_4 => ?_)
    · skip
      have q_4 : r_3.toInt ≠ (1 : Int) := i_ne2 (rfl : r_3.toInt = r_3.toInt) (show (1 : Int32).toInt = (1 : Int) from rfl) c_4
      have join6 : ∀ (x5_5 : Int32) (ls : Array Slot), lv_has ls 6 [(5, .int x5_5), (4, .int r_1), (0, .ref (ad 93)), (1, .int a), (2, .int b), (3, .int d)] → W p l e (headSpec wsX7_landing (({ frames := 2, cells := 0, slots := 0, locals := 46 } : Room))).room s m (([.ref (ad 93), .int a, .int b, .int d] : List Value).toArray) below meth c s.heap [] 0 0 Q (F0 m 86 ls []) := by
        intro x5_5 ls  hl
        refine lv_iload hx hb dX7_landing_86 (lv_at hl 0 rfl) ?_
        refine lv_if_eq (tgt := 102) hx hb dX7_landing_88 (by decide) (fun c_7 => ?_) (fun c_7 => ?_)
        · skip
          have q_7 : x5_5.toInt = (0 : Int) := i_eq2 (rfl : x5_5.toInt = x5_5.toInt) (show (0 : Int32).toInt = (0 : Int) from rfl) c_7
          refine lv_iconst (v := (-1)) hx hb dX7_landing_102 (by decide) ?_
          rw [hQ]
          exact W.iret (v := (-1)) hx hb hr (fun t ht hW => ⟨(-1), rfl, trivial, ht⟩) (fun q h => by cases h) dX7_landing_103
        · skip
          have q_7 : x5_5.toInt ≠ (0 : Int) := i_ne2 (rfl : x5_5.toInt = x5_5.toInt) (show (0 : Int32).toInt = (0 : Int) from rfl) c_7
          refine lv_iload_n hx hb dX7_landing_91 rfl (lv_at hl 3 rfl) ?_
          refine lv_iconst (v := 2) hx hb dX7_landing_92 (by decide) ?_
          refine lv_iadd hx hb dX7_landing_93 ?_
          refine lv_topi (fun v_8 ev_8 => ?_)
          refine lv_iload hx hb dX7_landing_94 (lv_at hl 1 rfl) ?_
          refine g_callSi (va_runS (As := [.int v_8, .int r_1]) (rest := []) ⟨hx, hb, hml, hown, hts⟩ (c_X7_spot l D cy ad hI _ iv ar v_8 r_1) (va_cwS 2 hts gX7_landing_X7_spot rfl rfl rfl (by decide +kernel) ⟨Nat.le_of_ble_eq_true rfl, Nat.le_of_ble_eq_true rfl⟩) (g_preS hP hK hSt hNw hS) rfl rfl hl.1 rfl (lv_room (Nat.le_of_ble_eq_true rfl)) dX7_landing_96 ⟨Nat.zero_le _, Nat.zero_le _⟩) (fun r_9 w_9 => ?_)
          try dsimp only at w_9
          refine lv_goto (tgt := 103) hx hb dX7_landing_99 (by decide) ?_
          rw [hQ]
          exact W.iret (v := r_9) hx hb hr (fun t ht hW => ⟨r_9, rfl, trivial, ht⟩) (fun q h => by cases h) dX7_landing_103
      refine lv_aload_n hx hb dX7_landing_56 rfl (lv_at hl 1 rfl) ?_
      refine lv_iload_n hx hb dX7_landing_57 rfl (lv_at hl 2 rfl) ?_
      refine lv_iload_n hx hb dX7_landing_58 rfl (lv_at hl 3 rfl) ?_
      refine lv_iload_n hx hb dX7_landing_59 rfl (lv_at hl 3 rfl) ?_
      refine g_callSi (va_runV (As := [.int a, .int b, .int b]) (rest := []) ⟨hx, hb, hml, hown, hts⟩ (c_X7_canStep l D cy ad hI _ iv ar a b b) (cwV 3 hts gX7_landing_X7_canStep rfl rfl rfl (by decide +kernel) ⟨Nat.le_of_ble_eq_true rfl, Nat.le_of_ble_eq_true rfl⟩) (g_preV hP hK hSt hNw hS (g_at7 (Nat.le_of_ble_eq_true rfl) rfl) rfl) rfl rfl hl.1 rfl (lv_room (Nat.le_of_ble_eq_true rfl)) dX7_landing_60 ⟨Nat.zero_le _, Nat.zero_le _⟩) (fun r_10 w_10 => ?_)
      try dsimp only at w_10
      refine lv_if_eq (tgt := 83) hx hb dX7_landing_63 (by decide) (fun c_11 => ?_) (fun c_11 => ?_)
      · skip
        have q_11 : r_10.toInt = (0 : Int) := i_eq2 (rfl : r_10.toInt = r_10.toInt) (show (0 : Int32).toInt = (0 : Int) from rfl) c_11
        refine lv_iconst (v := 0) hx hb dX7_landing_83 (by decide) ?_
        refine lv_istore (lv' := [(5, .int 0), (4, .int r_1), (0, .ref (ad 93)), (1, .int a), (2, .int b), (3, .int d)]) hx hb dX7_landing_84 hl (by decide) rfl (fun ls hl => ?_)
        have zl_12 : (0 : Int32).toInt = (0 : Int) := rfl
        exact join6 0 _ (lv_sub hl [0, 1, 2, 3, 4, 5] rfl)
      · skip
        have q_11 : r_10.toInt ≠ (0 : Int) := i_ne2 (rfl : r_10.toInt = r_10.toInt) (show (0 : Int32).toInt = (0 : Int) from rfl) c_11
        refine lv_aload_n hx hb dX7_landing_66 rfl (lv_at hl 1 rfl) ?_
        refine lv_iload_n hx hb dX7_landing_67 rfl (lv_at hl 2 rfl) ?_
        refine lv_iconst (v := 1) hx hb dX7_landing_68 (by decide) ?_
        refine lv_iadd hx hb dX7_landing_69 ?_
        refine lv_topi (fun v_13 ev_13 => ?_)
        refine lv_iload_n hx hb dX7_landing_70 rfl (lv_at hl 3 rfl) ?_
        refine lv_iload hx hb dX7_landing_71 (lv_at hl 0 rfl) ?_
        refine g_callSi (va_runV (As := [.int v_13, .int b, .int r_1]) (rest := []) ⟨hx, hb, hml, hown, hts⟩ (c_X7_canStep l D cy ad hI _ iv ar v_13 b r_1) (cwV 3 hts gX7_landing_X7_canStep rfl rfl rfl (by decide +kernel) ⟨Nat.le_of_ble_eq_true rfl, Nat.le_of_ble_eq_true rfl⟩) (g_preV hP hK hSt hNw hS (g_at7 (Nat.le_of_ble_eq_true rfl) rfl) rfl) rfl rfl hl.1 rfl (lv_room (Nat.le_of_ble_eq_true rfl)) dX7_landing_73 ⟨Nat.zero_le _, Nat.zero_le _⟩) (fun r_14 w_14 => ?_)
        try dsimp only at w_14
        refine lv_if_eq (tgt := 83) hx hb dX7_landing_76 (by decide) (fun c_15 => ?_) (fun c_15 => ?_)
        · skip
          have q_15 : r_14.toInt = (0 : Int) := i_eq2 (rfl : r_14.toInt = r_14.toInt) (show (0 : Int32).toInt = (0 : Int) from rfl) c_15
          refine lv_iconst (v := 0) hx hb dX7_landing_83 (by decide) ?_
          refine lv_istore (lv' := [(5, .int 0), (4, .int r_1), (0, .ref (ad 93)), (1, .int a), (2, .int b), (3, .int d)]) hx hb dX7_landing_84 hl (by decide) rfl (fun ls hl => ?_)
          have zl_16 : (0 : Int32).toInt = (0 : Int) := rfl
          exact join6 0 _ (lv_sub hl [0, 1, 2, 3, 4, 5] rfl)
        · skip
          have q_15 : r_14.toInt ≠ (0 : Int) := i_ne2 (rfl : r_14.toInt = r_14.toInt) (show (0 : Int32).toInt = (0 : Int) from rfl) c_15
          refine lv_iconst (v := 1) hx hb dX7_landing_79 (by decide) ?_
          refine lv_goto (tgt := 84) hx hb dX7_landing_80 (by decide) ?_
          refine lv_istore (lv' := [(5, .int 1), (4, .int r_1), (0, .ref (ad 93)), (1, .int a), (2, .int b), (3, .int d)]) hx hb dX7_landing_84 hl (by decide) rfl (fun ls hl => ?_)
          have zl_17 : (1 : Int32).toInt = (1 : Int) := rfl
          exact join6 1 _ (lv_sub hl [0, 1, 2, 3, 4, 5] rfl)
    · skip
      have q_4 : r_3.toInt = (1 : Int) := i_eq2 (rfl : r_3.toInt = r_3.toInt) (show (1 : Int32).toInt = (1 : Int) from rfl) c_4
      refine lv_aload_n hx hb dX7_landing_32 rfl (lv_at hl 1 rfl) ?_
      refine lv_iload_n hx hb dX7_landing_33 rfl (lv_at hl 2 rfl) ?_
      refine lv_iload_n hx hb dX7_landing_34 rfl (lv_at hl 3 rfl) ?_
      refine lv_iload hx hb dX7_landing_35 (lv_at hl 0 rfl) ?_
      refine g_callSi (va_runV (As := [.int a, .int b, .int r_1]) (rest := []) ⟨hx, hb, hml, hown, hts⟩ (c_X7_canStep l D cy ad hI _ iv ar a b r_1) (cwV 3 hts gX7_landing_X7_canStep rfl rfl rfl (by decide +kernel) ⟨Nat.le_of_ble_eq_true rfl, Nat.le_of_ble_eq_true rfl⟩) (g_preV hP hK hSt hNw hS (g_at7 (Nat.le_of_ble_eq_true rfl) rfl) rfl) rfl rfl hl.1 rfl (lv_room (Nat.le_of_ble_eq_true rfl)) dX7_landing_37 ⟨Nat.zero_le _, Nat.zero_le _⟩) (fun r_18 w_18 => ?_)
      try dsimp only at w_18
      refine lv_if_eq (tgt := 54) hx hb dX7_landing_40 (by decide) (fun c_19 => ?_) (fun c_19 => ?_)
      · skip
        have q_19 : r_18.toInt = (0 : Int) := i_eq2 (rfl : r_18.toInt = r_18.toInt) (show (0 : Int32).toInt = (0 : Int) from rfl) c_19
        refine lv_iconst (v := (-1)) hx hb dX7_landing_54 (by decide) ?_
        rw [hQ]
        exact W.iret (v := (-1)) hx hb hr (fun t ht hW => ⟨(-1), rfl, trivial, ht⟩) (fun q h => by cases h) dX7_landing_55
      · skip
        have q_19 : r_18.toInt ≠ (0 : Int) := i_ne2 (rfl : r_18.toInt = r_18.toInt) (show (0 : Int32).toInt = (0 : Int) from rfl) c_19
        refine lv_iload_n hx hb dX7_landing_43 rfl (lv_at hl 2 rfl) ?_
        refine lv_iconst (v := 1) hx hb dX7_landing_44 (by decide) ?_
        refine lv_iadd hx hb dX7_landing_45 ?_
        refine lv_topi (fun v_20 ev_20 => ?_)
        refine lv_iload hx hb dX7_landing_46 (lv_at hl 0 rfl) ?_
        refine g_callSi (va_runS (As := [.int v_20, .int r_1]) (rest := []) ⟨hx, hb, hml, hown, hts⟩ (c_X7_spot l D cy ad hI _ iv ar v_20 r_1) (va_cwS 2 hts gX7_landing_X7_spot rfl rfl rfl (by decide +kernel) ⟨Nat.le_of_ble_eq_true rfl, Nat.le_of_ble_eq_true rfl⟩) (g_preS hP hK hSt hNw hS) rfl rfl hl.1 rfl (lv_room (Nat.le_of_ble_eq_true rfl)) dX7_landing_48 ⟨Nat.zero_le _, Nat.zero_le _⟩) (fun r_21 w_21 => ?_)
        try dsimp only at w_21
        refine lv_goto (tgt := 55) hx hb dX7_landing_51 (by decide) ?_
        rw [hQ]
        exact W.iret (v := r_21) hx hb hr (fun t ht hW => ⟨r_21, rfl, trivial, ht⟩) (fun q h => by cases h) dX7_landing_55
  · skip
    have q_2 : r_1.toInt = (-1 : Int) := i_eq2 (rfl : r_1.toInt = r_1.toInt) (show ((-1) : Int32).toInt = (-1 : Int) from rfl) c_2
    refine lv_iconst (v := (-1)) hx hb dX7_landing_17 (by decide) ?_
    rw [hQ]
    exact W.iret (v := (-1)) hx hb hr (fun t ht hW => ⟨(-1), rfl, trivial, ht⟩) (fun q h => by cases h) dX7_landing_18
set_option maxHeartbeats 4000000 in
set_option maxRecDepth 100000 in
theorem c_X7_leastAction (l : Launch) (D : va_G) (cy : Nat → ClassId) (ad : Nat → Nat) (hI : gInj ad) (sz : Nat) (iv : gIv) (ar : gAr) (a : Int32) (b : Int32)  : Met l yX7_leastAction wsX7_leastAction ({ frames := 3, cells := 0, slots := 0, locals := 71 } : Room) (va_Pc [.ref (ad 93), .int a, .int b] (gPre D cy ad sz iv ar)) (vp_Si (fun r => True)) 0 0 (fun _ => False) := by
  refine Met.ofW (cc := cX7_leastAction) (maxL := 4) (ret := (some .int)) (by decide) rfl ?_
  intro p e s m args below meth c s₁ B hml hv
  obtain ⟨rfl, rfl, hP, hK, hSt, hNw⟩ := hv
  have hx := B.exec
  have hb := B.bytes
  have hr := B.returns
  have hts := atoms_spec (ws := wsX7_leastAction) B.pre
  have hown : s.vm.findClass RX7 = some m.cls := findClass_of_methodNamed B.named
  have hlocks := B.notSynchronized
  have hS : va_S (gA ad s.heap.size) s.heap s.heap [] := va_S.rf
  have hl := lv_entry ([.ref (ad 93), .int a, .int b]) (n := 4) (Nat.le_of_ble_eq_true rfl)
  rw [lg_entry_eq]
  generalize (lg_sl ([.ref (ad 93), .int a, .int b]) ++ List.replicate (4 - (lg_sl ([.ref (ad 93), .int a, .int b])).length) Slot.unset).toArray = ls at hl ⊢
  have hl : lv_has ls 4 [(0, .ref (ad 93)), (1, .int a), (2, .int b)] := hl
  obtain ⟨Q, hQ⟩ : ∃ Q, Q = MQ below (vp_Si (fun r => True)) (([.ref (ad 93), .int a, .int b] : List Value).toArray) s 0 0 (fun _ => False) := ⟨_, rfl⟩
  rw [← hQ]
  refine lv_iconst (v := 0) hx hb dX7_leastAction_0 (by decide) ?_
  refine lv_istore_n (lv' := [(3, .int 0), (0, .ref (ad 93)), (1, .int a), (2, .int b)]) hx hb dX7_leastAction_1 rfl hl (by decide) rfl (fun ls hl => ?_)
  have loop2 : ∀ (n : Nat) (x3_1 : Int32) (ls : Array Slot), ((7 - (x3_1.toInt)).toNat) < n → (0 ≤ (x3_1.toInt) ∧ (x3_1.toInt) ≤ 7) → lv_has ls 4 [(3, .int x3_1), (0, .ref (ad 93)), (1, .int a), (2, .int b)] → W p l e (headSpec wsX7_leastAction (({ frames := 3, cells := 0, slots := 0, locals := 71 } : Room))).room s m (([.ref (ad 93), .int a, .int b] : List Value).toArray) below meth c s.heap [] 0 0 Q (F0 m 2 ls []) := by
    intro n
    induction n with
    | zero => intro x3_1 ls hm; omega
    | succ n ih2 =>
      intro x3_1 ls hm hg0 hl
      refine lv_iload_n hx hb dX7_leastAction_2 rfl (lv_at hl 0 rfl) ?_
      refine lv_bipush (v := 7) hx hb dX7_leastAction_3 (by decide) ?_
      refine lv_icmp_ge (tgt := 30) hx hb dX7_leastAction_5 (by decide) (fun c_3 => ?_) (fun c_3 => ?_)
      · skip
        have q_3 : (7 : Int) ≤ x3_1.toInt := i_le2 (show (7 : Int32).toInt = (7 : Int) from rfl) (rfl : x3_1.toInt = x3_1.toInt) c_3
        refine lv_iconst (v := (-1)) hx hb dX7_leastAction_30 (by decide) ?_
        rw [hQ]
        exact W.iret (v := (-1)) hx hb hr (fun t ht hW => ⟨(-1), rfl, trivial, ht⟩) (fun q h => by cases h) dX7_leastAction_31
      · skip
        have q_3 : x3_1.toInt < (7 : Int) := i_nle2 (show (7 : Int32).toInt = (7 : Int) from rfl) (rfl : x3_1.toInt = x3_1.toInt) c_3
        refine lv_aload_n hx hb dX7_leastAction_8 rfl (lv_at hl 1 rfl) ?_
        refine lv_aload_n hx hb dX7_leastAction_9 rfl (lv_at hl 1 rfl) ?_
        refine lv_iload_n hx hb dX7_leastAction_10 rfl (lv_at hl 2 rfl) ?_
        refine lv_iload_n hx hb dX7_leastAction_11 rfl (lv_at hl 3 rfl) ?_
        refine lv_iload_n hx hb dX7_leastAction_12 rfl (lv_at hl 0 rfl) ?_
        refine g_callSi (va_runV (As := [.int a, .int b, .int x3_1]) (rest := [.ref (ad 93)]) ⟨hx, hb, hml, hown, hts⟩ (c_X7_landing l D cy ad hI _ iv ar a b x3_1) (cwV 3 hts gX7_leastAction_X7_landing rfl rfl rfl (by decide +kernel) ⟨Nat.le_of_ble_eq_true rfl, Nat.le_of_ble_eq_true rfl⟩) (g_preV hP hK hSt hNw hS (g_at7 (Nat.le_of_ble_eq_true rfl) rfl) rfl) rfl rfl hl.1 rfl (lv_room (Nat.le_of_ble_eq_true rfl)) dX7_leastAction_13 ⟨Nat.zero_le _, Nat.zero_le _⟩) (fun r_4 w_4 => ?_)
        try dsimp only at w_4
        refine g_callSi (va_runV (As := [.int r_4]) (rest := []) ⟨hx, hb, hml, hown, hts⟩ (c_X7_isUsable l D cy ad hI _ iv ar r_4) (cwV 1 hts gX7_leastAction_X7_isUsable rfl rfl rfl (by decide +kernel) ⟨Nat.le_of_ble_eq_true rfl, Nat.le_of_ble_eq_true rfl⟩) (g_preV hP hK hSt hNw hS (g_at7 (Nat.le_of_ble_eq_true rfl) rfl) rfl) rfl rfl hl.1 rfl (lv_room (Nat.le_of_ble_eq_true rfl)) dX7_leastAction_16 ⟨Nat.zero_le _, Nat.zero_le _⟩) (fun r_5 w_5 => ?_)
        try dsimp only at w_5
        refine lv_if_eq (tgt := 24) hx hb dX7_leastAction_19 (by decide) (fun c_6 => ?_) (fun c_6 => ?_)
        · skip
          have q_6 : r_5.toInt = (0 : Int) := i_eq2 (rfl : r_5.toInt = r_5.toInt) (show (0 : Int32).toInt = (0 : Int) from rfl) c_6
          obtain ⟨x3_7, ex3_7⟩ : ∃ y : Int32, y = x3_1 + 1 := ⟨_, rfl⟩
          have tx3_7 : x3_7.toInt = x3_1.toInt + (1 : Int) := i_add (rfl : x3_1.toInt = x3_1.toInt) (show (1 : Int32).toInt = (1 : Int) from rfl) (by omega) (by omega) ex3_7
          refine lv_iinc (v := x3_7) (lv' := [(3, .int x3_7), (0, .ref (ad 93)), (1, .int a), (2, .int b)]) hx hb dX7_leastAction_24 hl (k := 0) rfl (by rw [ex3_7]; rfl) (by decide) rfl (fun ls hl => ?_)
          refine lv_goto (tgt := 2) hx hb dX7_leastAction_27 (by decide) ?_
          exact ih2 x3_7 _ (by omega) (by omega) (lv_sub hl [0, 1, 2, 3] rfl)
        · skip
          have q_6 : r_5.toInt ≠ (0 : Int) := i_ne2 (rfl : r_5.toInt = r_5.toInt) (show (0 : Int32).toInt = (0 : Int) from rfl) c_6
          refine lv_iload_n hx hb dX7_leastAction_22 rfl (lv_at hl 0 rfl) ?_
          rw [hQ]
          exact W.iret (v := x3_1) hx hb hr (fun t ht hW => ⟨x3_1, rfl, trivial, ht⟩) (fun q h => by cases h) dX7_leastAction_23
  have zl_8 : (0 : Int32).toInt = (0 : Int) := rfl
  exact loop2 (((7 - ((0 : Int))).toNat) + 1) 0 _ (by omega) (by omega) (lv_sub hl [0, 1, 2, 3] rfl)
set_option maxHeartbeats 4000000 in
set_option maxRecDepth 100000 in
theorem c_X7_spread (l : Launch) (D : va_G) (cy : Nat → ClassId) (ad : Nat → Nat) (hI : gInj ad) (sz : Nat) (iv : gIv) (ar : gAr) (a : Int32) (b : Int32)  : Met l yX7_spread wsX7_spread ({ frames := 3, cells := 0, slots := 0, locals := 71 } : Room) (va_Pc [.ref (ad 93), .int a, .int b] (gPre D cy ad sz iv ar)) (va_Qv (fun (u : gIv × gAr) => u.1 = iv) (gPost D cy ad) (gA ad sz)) 0 0 (gA ad sz) := by
  refine Met.ofW (cc := cX7_spread) (maxL := 4) (ret := none) (by decide) rfl ?_
  intro p e s m args below meth c s₁ B hml hv
  obtain ⟨rfl, rfl, hP, hK, hSt, hNw⟩ := hv
  have hx := B.exec
  have hb := B.bytes
  have hr := B.returns
  have hts := atoms_spec (ws := wsX7_spread) B.pre
  have hown : s.vm.findClass RX7 = some m.cls := findClass_of_methodNamed B.named
  have hlocks := B.notSynchronized
  have hS : va_S (gA ad s.heap.size) s.heap s.heap [] := va_S.rf
  have hl := lv_entry ([.ref (ad 93), .int a, .int b]) (n := 4) (Nat.le_of_ble_eq_true rfl)
  rw [lg_entry_eq]
  generalize (lg_sl ([.ref (ad 93), .int a, .int b]) ++ List.replicate (4 - (lg_sl ([.ref (ad 93), .int a, .int b])).length) Slot.unset).toArray = ls at hl ⊢
  have hl : lv_has ls 4 [(0, .ref (ad 93)), (1, .int a), (2, .int b)] := hl
  obtain ⟨Q, hQ⟩ : ∃ Q, Q = MQ below (va_Qv (fun (u : gIv × gAr) => u.1 = iv) (gPost D cy ad) (gA ad s.heap.size)) (([.ref (ad 93), .int a, .int b] : List Value).toArray) s 0 0 (gA ad s.heap.size) := ⟨_, rfl⟩
  rw [← hQ]
  refine lv_iconst (v := 0) hx hb dX7_spread_0 (by decide) ?_
  refine lv_istore_n (lv' := [(3, .int 0), (0, .ref (ad 93)), (1, .int a), (2, .int b)]) hx hb dX7_spread_1 rfl hl (by decide) rfl (fun ls hl => ?_)
  have loop3 : ∀ (n : Nat) (x3_1 : Int32) (ar_2 : gAr) (H : Heap) (locs : List Loc) (ls : Array Slot), ((7 - (x3_1.toInt)).toNat) < n → (0 ≤ (x3_1.toInt) ∧ (x3_1.toInt) ≤ 7) → va_P D vwCl (GW cy ad iv ar_2) H → va_S (gA ad s.heap.size) s.heap H locs → lv_has ls 4 [(3, .int x3_1), (0, .ref (ad 93)), (1, .int a), (2, .int b)] → W p l e (headSpec wsX7_spread (({ frames := 3, cells := 0, slots := 0, locals := 71 } : Room))).room s m (([.ref (ad 93), .int a, .int b] : List Value).toArray) below meth c H locs 0 0 Q (F0 m 2 ls []) := by
    intro n
    induction n with
    | zero => intro x3_1 ar_2 H locs ls hm; omega
    | succ n ih3 =>
      intro x3_1 ar_2 H locs ls hm hg0 hP hS hl
      refine lv_iload_n hx hb dX7_spread_2 rfl (lv_at hl 0 rfl) ?_
      refine lv_bipush (v := 7) hx hb dX7_spread_3 (by decide) ?_
      refine lv_icmp_ge (tgt := 26) hx hb dX7_spread_5 (by decide) (fun c_4 => ?_) (fun c_4 => ?_)
      · skip
        have q_4 : (7 : Int) ≤ x3_1.toInt := i_le2 (show (7 : Int32).toInt = (7 : Int) from rfl) (rfl : x3_1.toInt = x3_1.toInt) c_4
        rw [hQ]
        exact W.vret hx hb hr (fun t ht hW => ⟨⟨(iv, ar_2), rfl, rfl, by show va_P _ _ _ _; rw [ht]; exact hP⟩, hS.F ht⟩) hS.2.2 dX7_spread_26
      · skip
        have q_4 : x3_1.toInt < (7 : Int) := i_nle2 (show (7 : Int32).toInt = (7 : Int) from rfl) (rfl : x3_1.toInt = x3_1.toInt) c_4
        refine lv_aload_n hx hb dX7_spread_8 rfl (lv_at hl 1 rfl) ?_
        refine lv_aload_n hx hb dX7_spread_9 rfl (lv_at hl 1 rfl) ?_
        refine lv_iload_n hx hb dX7_spread_10 rfl (lv_at hl 2 rfl) ?_
        refine lv_iload_n hx hb dX7_spread_11 rfl (lv_at hl 3 rfl) ?_
        refine lv_iload_n hx hb dX7_spread_12 rfl (lv_at hl 0 rfl) ?_
        refine g_callSi (va_runV (As := [.int a, .int b, .int x3_1]) (rest := [.ref (ad 93)]) ⟨hx, hb, hml, hown, hts⟩ (c_X7_landing l D cy ad hI _ iv ar_2 a b x3_1) (cwV 3 hts gX7_spread_X7_landing rfl rfl rfl (by decide +kernel) ⟨Nat.le_of_ble_eq_true rfl, Nat.le_of_ble_eq_true rfl⟩) (g_preV hP hK hSt hNw hS (g_at7 (Nat.le_of_ble_eq_true rfl) rfl) rfl) rfl rfl hl.1 rfl (lv_room (Nat.le_of_ble_eq_true rfl)) dX7_spread_13 ⟨Nat.zero_le _, Nat.zero_le _⟩) (fun r_5 w_5 => ?_)
        try dsimp only at w_5
        refine lv_iconst (v := 1) hx hb dX7_spread_16 (by decide) ?_
        have zl_6 : (1 : Int32).toInt = (1 : Int) := rfl
        refine g_callv (va_runV (As := [.int r_5, .int 1]) (rest := []) ⟨hx, hb, hml, hown, hts⟩ (c_X7_mark l D cy ad hI _ iv ar_2 r_5 1) (cwV 2 hts gX7_spread_X7_mark rfl rfl rfl (by decide +kernel) ⟨Nat.le_of_ble_eq_true rfl, Nat.le_of_ble_eq_true rfl⟩) (g_preV hP hK hSt hNw hS (g_at7 (Nat.le_of_ble_eq_true rfl) rfl) rfl) rfl rfl hl.1 rfl (lv_room (Nat.le_of_ble_eq_true rfl)) dX7_spread_17 ⟨Nat.zero_le _, Nat.zero_le _⟩) hS (fun iv_7 ar_7 H locs w_7 hP hS => ?_)
        try dsimp only at w_7
        have wi_7 := (w_7).symm
        subst wi_7
        obtain ⟨x3_8, ex3_8⟩ : ∃ y : Int32, y = x3_1 + 1 := ⟨_, rfl⟩
        have tx3_8 : x3_8.toInt = x3_1.toInt + (1 : Int) := i_add (rfl : x3_1.toInt = x3_1.toInt) (show (1 : Int32).toInt = (1 : Int) from rfl) (by omega) (by omega) ex3_8
        refine lv_iinc (v := x3_8) (lv' := [(3, .int x3_8), (0, .ref (ad 93)), (1, .int a), (2, .int b)]) hx hb dX7_spread_20 hl (k := 0) rfl (by rw [ex3_8]; rfl) (by decide) rfl (fun ls hl => ?_)
        refine lv_goto (tgt := 2) hx hb dX7_spread_23 (by decide) ?_
        exact ih3 x3_8 ar_7 _ _ _ (by omega) (by omega) hP hS (lv_sub hl [0, 1, 2, 3] rfl)
  have zl_9 : (0 : Int32).toInt = (0 : Int) := rfl
  exact loop3 (((7 - ((0 : Int))).toNat) + 1) 0 ar _ _ _ (by omega) (by omega) hP hS (lv_sub hl [0, 1, 2, 3] rfl)
set_option maxHeartbeats 4000000 in
set_option maxRecDepth 100000 in
theorem c_X7_freeFrom (l : Launch) (D : va_G) (cy : Nat → ClassId) (ad : Nat → Nat) (hI : gInj ad) (sz : Nat) (iv : gIv) (ar : gAr) (a : Int32)  : Met l yX7_freeFrom wsX7_freeFrom ({ frames := 2, cells := 0, slots := 0, locals := 41 } : Room) (va_Pc [.ref (ad 93), .int a] (gPre D cy ad sz iv ar)) (vp_Si (fun r => True)) 0 0 (fun _ => False) := by
  refine Met.ofW (cc := cX7_freeFrom) (maxL := 5) (ret := (some .int)) (by decide) rfl ?_
  intro p e s m args below meth c s₁ B hml hv
  obtain ⟨rfl, rfl, hP, hK, hSt, hNw⟩ := hv
  have hx := B.exec
  have hb := B.bytes
  have hr := B.returns
  have hts := atoms_spec (ws := wsX7_freeFrom) B.pre
  have hown : s.vm.findClass RX7 = some m.cls := findClass_of_methodNamed B.named
  have hlocks := B.notSynchronized
  have hS : va_S (gA ad s.heap.size) s.heap s.heap [] := va_S.rf
  have inX7 : ∀ w ∈ u_ws RX7 TX7 3, w ∈ wsX7_freeFrom := by decide +kernel
  have lk0 := hts (.fieldLink RX7 9 "FormationPlanner$Router" "holders" "[I") (by decide +kernel)
  have hl := lv_entry ([.ref (ad 93), .int a]) (n := 5) (Nat.le_of_ble_eq_true rfl)
  rw [lg_entry_eq]
  generalize (lg_sl ([.ref (ad 93), .int a]) ++ List.replicate (5 - (lg_sl ([.ref (ad 93), .int a])).length) Slot.unset).toArray = ls at hl ⊢
  have hl : lv_has ls 5 [(0, .ref (ad 93)), (1, .int a)] := hl
  obtain ⟨Q, hQ⟩ : ∃ Q, Q = MQ below (vp_Si (fun r => True)) (([.ref (ad 93), .int a] : List Value).toArray) s 0 0 (fun _ => False) := ⟨_, rfl⟩
  rw [← hQ]
  refine lv_iconst (v := 0) hx hb dX7_freeFrom_0 (by decide) ?_
  refine lv_istore_n (lv' := [(2, .int 0), (0, .ref (ad 93)), (1, .int a)]) hx hb dX7_freeFrom_1 rfl hl (by decide) rfl (fun ls hl => ?_)
  refine lv_iconst (v := 0) hx hb dX7_freeFrom_2 (by decide) ?_
  refine lv_istore_n (lv' := [(3, .int 0), (2, .int 0), (0, .ref (ad 93)), (1, .int a)]) hx hb dX7_freeFrom_3 rfl hl (by decide) rfl (fun ls hl => ?_)
  have loop3 : ∀ (n : Nat) (x3_1 : Int32) (x2_2 : Int32) (ls : Array Slot), ((61 - (x3_1.toInt)).toNat) < n → (0 ≤ (x3_1.toInt) ∧ (x3_1.toInt) ≤ 61) → lv_has ls 5 [(3, .int x3_1), (2, .int x2_2), (0, .ref (ad 93)), (1, .int a)] → W p l e (headSpec wsX7_freeFrom (({ frames := 2, cells := 0, slots := 0, locals := 41 } : Room))).room s m (([.ref (ad 93), .int a] : List Value).toArray) below meth c s.heap [] 0 0 Q (F0 m 4 ls []) := by
    intro n
    induction n with
    | zero => intro x3_1 x2_2 ls hm; omega
    | succ n ih3 =>
      intro x3_1 x2_2 ls hm hg0 hl
      refine lv_iload_n hx hb dX7_freeFrom_4 rfl (lv_at hl 0 rfl) ?_
      refine lv_bipush (v := 60) hx hb dX7_freeFrom_5 (by decide) ?_
      refine lv_icmp_gt (tgt := 43) hx hb dX7_freeFrom_7 (by decide) (fun c_4 => ?_) (fun c_4 => ?_)
      · skip
        have q_4 : (60 : Int) < x3_1.toInt := i_lt2 (show (60 : Int32).toInt = (60 : Int) from rfl) (rfl : x3_1.toInt = x3_1.toInt) c_4
        refine lv_iload_n hx hb dX7_freeFrom_43 rfl (lv_at hl 1 rfl) ?_
        rw [hQ]
        exact W.iret (v := x2_2) hx hb hr (fun t ht hW => ⟨x2_2, rfl, trivial, ht⟩) (fun q h => by cases h) dX7_freeFrom_44
      · skip
        have q_4 : x3_1.toInt ≤ (60 : Int) := i_nlt2 (show (60 : Int32).toInt = (60 : Int) from rfl) (rfl : x3_1.toInt = x3_1.toInt) c_4
        refine lv_iload_n hx hb dX7_freeFrom_10 rfl (lv_at hl 0 rfl) ?_
        refine lv_iload_n hx hb dX7_freeFrom_11 rfl (lv_at hl 3 rfl) ?_
        refine g_callSi (va_runS (As := [.int x3_1, .int a]) (rest := []) ⟨hx, hb, hml, hown, hts⟩ (c_X7_spot l D cy ad hI _ iv ar x3_1 a) (va_cwS 2 hts gX7_freeFrom_X7_spot rfl rfl rfl (by decide +kernel) ⟨Nat.le_of_ble_eq_true rfl, Nat.le_of_ble_eq_true rfl⟩) (g_preS hP hK hSt hNw hS) rfl rfl hl.1 rfl (lv_room (Nat.le_of_ble_eq_true rfl)) dX7_freeFrom_12 ⟨Nat.zero_le _, Nat.zero_le _⟩) (fun r_5 w_5 => ?_)
        try dsimp only at w_5
        refine lv_istore (lv' := [(4, .int r_5), (3, .int x3_1), (2, .int x2_2), (0, .ref (ad 93)), (1, .int a)]) hx hb dX7_freeFrom_15 hl (by decide) rfl (fun ls hl => ?_)
        refine lv_iload hx hb dX7_freeFrom_17 (lv_at hl 0 rfl) ?_
        refine lv_iconst (v := (-1)) hx hb dX7_freeFrom_19 (by decide) ?_
        refine lv_icmp_eq (tgt := 37) hx hb dX7_freeFrom_20 (by decide) (fun c_6 => ?_) (fun c_6 => ?_)
        · skip
          have q_6 : r_5.toInt = (-1 : Int) := i_eq2 (rfl : r_5.toInt = r_5.toInt) (show ((-1) : Int32).toInt = (-1 : Int) from rfl) c_6
          obtain ⟨x3_7, ex3_7⟩ : ∃ y : Int32, y = x3_1 + 1 := ⟨_, rfl⟩
          have tx3_7 : x3_7.toInt = x3_1.toInt + (1 : Int) := i_add (rfl : x3_1.toInt = x3_1.toInt) (show (1 : Int32).toInt = (1 : Int) from rfl) (by omega) (by omega) ex3_7
          refine lv_iinc (v := x3_7) (lv' := [(3, .int x3_7), (4, .int r_5), (2, .int x2_2), (0, .ref (ad 93)), (1, .int a)]) hx hb dX7_freeFrom_37 hl (k := 1) rfl (by rw [ex3_7]; rfl) (by decide) rfl (fun ls hl => ?_)
          refine lv_goto (tgt := 4) hx hb dX7_freeFrom_40 (by decide) ?_
          exact ih3 x3_7 x2_2 _ (by omega) (by omega) (lv_sub hl [0, 2, 3, 4] rfl)
        · skip
          have q_6 : r_5.toInt ≠ (-1 : Int) := i_ne2 (rfl : r_5.toInt = r_5.toInt) (show ((-1) : Int32).toInt = (-1 : Int) from rfl) c_6
          refine lv_aload_n hx hb dX7_freeFrom_23 rfl (lv_at hl 3 rfl) ?_
          refine va_get (D := D) (ci := 7) (v := .ref (ad 94)) (C := RX7) (T := TX7) (N := 3) hx hb hts inX7 hown hK hP 93 (g_at7 (Nat.le_of_ble_eq_true rfl) rfl) rfl 1 (by decide) lk0 (fun _ h9 => h9) rfl dX7_freeFrom_24 ?_
          refine lv_iload hx hb dX7_freeFrom_27 (lv_at hl 0 rfl) ?_
          refine va_iald hx hb hK hP 94 0 (g_at12 (Nat.le_of_ble_eq_true rfl) rfl) rfl (g_in (N := 6588) (rfl : r_5.toInt = r_5.toInt) rfl (by omega) (by omega)) dX7_freeFrom_29 ?_
          refine lv_topi (fun v_8 ev_8 => ?_)
          refine lv_if_eq (tgt := 37) hx hb dX7_freeFrom_30 (by decide) (fun c_9 => ?_) (fun c_9 => ?_)
          · skip
            have q_9 : v_8.toInt = (0 : Int) := i_eq2 (rfl : v_8.toInt = v_8.toInt) (show (0 : Int32).toInt = (0 : Int) from rfl) c_9
            obtain ⟨x3_10, ex3_10⟩ : ∃ y : Int32, y = x3_1 + 1 := ⟨_, rfl⟩
            have tx3_10 : x3_10.toInt = x3_1.toInt + (1 : Int) := i_add (rfl : x3_1.toInt = x3_1.toInt) (show (1 : Int32).toInt = (1 : Int) from rfl) (by omega) (by omega) ex3_10
            refine lv_iinc (v := x3_10) (lv' := [(3, .int x3_10), (4, .int r_5), (2, .int x2_2), (0, .ref (ad 93)), (1, .int a)]) hx hb dX7_freeFrom_37 hl (k := 1) rfl (by rw [ex3_10]; rfl) (by decide) rfl (fun ls hl => ?_)
            refine lv_goto (tgt := 4) hx hb dX7_freeFrom_40 (by decide) ?_
            exact ih3 x3_10 x2_2 _ (by omega) (by omega) (lv_sub hl [0, 2, 3, 4] rfl)
          · skip
            have q_9 : v_8.toInt ≠ (0 : Int) := i_ne2 (rfl : v_8.toInt = v_8.toInt) (show (0 : Int32).toInt = (0 : Int) from rfl) c_9
            refine lv_iload_n hx hb dX7_freeFrom_33 rfl (lv_at hl 1 rfl) ?_
            refine lv_iconst (v := 1) hx hb dX7_freeFrom_34 (by decide) ?_
            refine lv_iadd hx hb dX7_freeFrom_35 ?_
            refine lv_topi (fun v_11 ev_11 => ?_)
            have tv_11 : v_11.toInt = x3_1.toInt + (1 : Int) := i_add (rfl : x3_1.toInt = x3_1.toInt) (show (1 : Int32).toInt = (1 : Int) from rfl) (by omega) (by omega) ev_11
            refine lv_istore_n (lv' := [(2, .int v_11), (4, .int r_5), (3, .int x3_1), (0, .ref (ad 93)), (1, .int a)]) hx hb dX7_freeFrom_36 rfl hl (by decide) rfl (fun ls hl => ?_)
            obtain ⟨x3_12, ex3_12⟩ : ∃ y : Int32, y = x3_1 + 1 := ⟨_, rfl⟩
            have tx3_12 : x3_12.toInt = x3_1.toInt + (1 : Int) := i_add (rfl : x3_1.toInt = x3_1.toInt) (show (1 : Int32).toInt = (1 : Int) from rfl) (by omega) (by omega) ex3_12
            refine lv_iinc (v := x3_12) (lv' := [(3, .int x3_12), (2, .int v_11), (4, .int r_5), (0, .ref (ad 93)), (1, .int a)]) hx hb dX7_freeFrom_37 hl (k := 2) rfl (by rw [ex3_12]; rfl) (by decide) rfl (fun ls hl => ?_)
            refine lv_goto (tgt := 4) hx hb dX7_freeFrom_40 (by decide) ?_
            exact ih3 x3_12 v_11 _ (by omega) (by omega) (lv_sub hl [0, 1, 3, 4] rfl)
  have zl_13 : (0 : Int32).toInt = (0 : Int) := rfl
  have zl_14 : (0 : Int32).toInt = (0 : Int) := rfl
  exact loop3 (((61 - ((0 : Int))).toNat) + 1) 0 0 _ (by omega) (by omega) (lv_sub hl [0, 1, 2, 3] rfl)
set_option maxHeartbeats 4000000 in
set_option maxRecDepth 100000 in
theorem c_X7_free (l : Launch) (D : va_G) (cy : Nat → ClassId) (ad : Nat → Nat) (hI : gInj ad) (sz : Nat) (iv : gIv) (ar : gAr)   : Met l yX7_free wsX7_free ({ frames := 1, cells := 0, slots := 0, locals := 23 } : Room) (va_Pc [.ref (ad 93)] (gPre D cy ad sz iv ar)) (va_Qv (fun (u : gIv × gAr) => u.1 = iv) (gPost D cy ad) (gA ad sz)) 0 0 (gA ad sz) := by
  refine Met.ofW (cc := cX7_free) (maxL := 1) (ret := none) (by decide) rfl ?_
  intro p e s m args below meth c s₁ B hml hv
  obtain ⟨rfl, rfl, hP, hK, hSt, hNw⟩ := hv
  have hx := B.exec
  have hb := B.bytes
  have hr := B.returns
  have hts := atoms_spec (ws := wsX7_free) B.pre
  have hown : s.vm.findClass RX7 = some m.cls := findClass_of_methodNamed B.named
  have hlocks := B.notSynchronized
  have hS : va_S (gA ad s.heap.size) s.heap s.heap [] := va_S.rf
  have inX7 : ∀ w ∈ u_ws RX7 TX7 3, w ∈ wsX7_free := by decide +kernel
  have lk0 := hts (.fieldLink RX7 9 "FormationPlanner$Router" "holders" "[I") (by decide +kernel)
  have hl := lv_entry ([.ref (ad 93)]) (n := 1) (Nat.le_of_ble_eq_true rfl)
  rw [lg_entry_eq]
  generalize (lg_sl ([.ref (ad 93)]) ++ List.replicate (1 - (lg_sl ([.ref (ad 93)])).length) Slot.unset).toArray = ls at hl ⊢
  have hl : lv_has ls 1 [(0, .ref (ad 93))] := hl
  obtain ⟨Q, hQ⟩ : ∃ Q, Q = MQ below (va_Qv (fun (u : gIv × gAr) => u.1 = iv) (gPost D cy ad) (gA ad s.heap.size)) (([.ref (ad 93)] : List Value).toArray) s 0 0 (gA ad s.heap.size) := ⟨_, rfl⟩
  rw [← hQ]
  refine lv_aload_n hx hb dX7_free_0 rfl (lv_at hl 0 rfl) ?_
  refine va_get (D := D) (ci := 7) (v := .ref (ad 94)) (C := RX7) (T := TX7) (N := 3) hx hb hts inX7 hown hK hP 93 (g_at7 (Nat.le_of_ble_eq_true rfl) rfl) rfl 1 (by decide) lk0 (fun _ h9 => h9) rfl dX7_free_1 ?_
  refine lv_iconst (v := 0) hx hb dX7_free_4 (by decide) ?_
  have zl_1 : (0 : Int32).toInt = (0 : Int) := rfl
  refine g_callv (va_runS (As := [.ref (ad 94), .int 0]) (rest := []) ⟨hx, hb, hml, hown, hts⟩ (c_J7_fill_53178 l D cy ad hI _ iv ar 94 (Nat.le_of_ble_eq_true rfl) rfl 0) (va_cwS 2 hts gX7_free_J7_fill_53178 rfl rfl rfl (by decide +kernel) ⟨Nat.le_of_ble_eq_true rfl, Nat.le_of_ble_eq_true rfl⟩) (g_preS hP hK hSt hNw hS) rfl rfl hl.1 rfl (lv_room (Nat.le_of_ble_eq_true rfl)) dX7_free_5 ⟨Nat.zero_le _, Nat.zero_le _⟩) hS (fun iv_2 ar_2 H locs w_2 hP hS => ?_)
  try dsimp only at w_2
  have wi_2 := (w_2).symm
  subst wi_2
  rw [hQ]
  exact W.vret hx hb hr (fun t ht hW => ⟨⟨(iv, ar_2), rfl, rfl, by show va_P _ _ _ _; rw [ht]; exact hP⟩, hS.F ht⟩) hS.2.2 dX7_free_8
set_option maxHeartbeats 4000000 in
set_option maxRecDepth 100000 in
theorem c_X7_hold (l : Launch) (D : va_G) (cy : Nat → ClassId) (ad : Nat → Nat) (hI : gInj ad) (sz : Nat) (iv : gIv) (ar : gAr) (k2 : Nat) (hk_k2 : k2 < 135) (hd_k2 : kd k2 = 1) (b : Int32)  : Met l yX7_hold wsX7_hold ({ frames := 2, cells := 0, slots := 0, locals := 41 } : Room) (va_Pc [.ref (ad 93), .ref (ad k2), .int b] (gPre D cy ad sz iv ar)) (va_Qv (fun (u : gIv × gAr) => u.1 = iv) (gPost D cy ad) (gA ad sz)) 0 0 (gA ad sz) := by
  refine Met.ofW (cc := cX7_hold) (maxL := 5) (ret := none) (by decide) rfl ?_
  intro p e s m args below meth c s₁ B hml hv
  obtain ⟨rfl, rfl, hP, hK, hSt, hNw⟩ := hv
  have hx := B.exec
  have hb := B.bytes
  have hr := B.returns
  have hts := atoms_spec (ws := wsX7_hold) B.pre
  have hown : s.vm.findClass RX7 = some m.cls := findClass_of_methodNamed B.named
  have hlocks := B.notSynchronized
  have hS : va_S (gA ad s.heap.size) s.heap s.heap [] := va_S.rf
  have inX7 : ∀ w ∈ u_ws RX7 TX7 3, w ∈ wsX7_hold := by decide +kernel
  have lk0 := hts (.fieldLink RX7 9 "FormationPlanner$Router" "holders" "[I") (by decide +kernel)
  have hl := lv_entry ([.ref (ad 93), .ref (ad k2), .int b]) (n := 5) (Nat.le_of_ble_eq_true rfl)
  rw [lg_entry_eq]
  generalize (lg_sl ([.ref (ad 93), .ref (ad k2), .int b]) ++ List.replicate (5 - (lg_sl ([.ref (ad 93), .ref (ad k2), .int b])).length) Slot.unset).toArray = ls at hl ⊢
  have hl : lv_has ls 5 [(0, .ref (ad 93)), (1, .ref (ad k2)), (2, .int b)] := hl
  obtain ⟨Q, hQ⟩ : ∃ Q, Q = MQ below (va_Qv (fun (u : gIv × gAr) => u.1 = iv) (gPost D cy ad) (gA ad s.heap.size)) (([.ref (ad 93), .ref (ad k2), .int b] : List Value).toArray) s 0 0 (gA ad s.heap.size) := ⟨_, rfl⟩
  rw [← hQ]
  refine lv_iconst (v := 0) hx hb dX7_hold_0 (by decide) ?_
  refine lv_istore_n (lv' := [(3, .int 0), (0, .ref (ad 93)), (1, .ref (ad k2)), (2, .int b)]) hx hb dX7_hold_1 rfl hl (by decide) rfl (fun ls hl => ?_)
  have loop3 : ∀ (n : Nat) (x3_1 : Int32) (ar_2 : gAr) (H : Heap) (locs : List Loc) (ls : Array Slot), ((61 - (x3_1.toInt)).toNat) < n → (0 ≤ (x3_1.toInt) ∧ (x3_1.toInt) ≤ 61) → va_P D vwCl (GW cy ad iv ar_2) H → va_S (gA ad s.heap.size) s.heap H locs → lv_has ls 5 [(3, .int x3_1), (0, .ref (ad 93)), (1, .ref (ad k2)), (2, .int b)] → W p l e (headSpec wsX7_hold (({ frames := 2, cells := 0, slots := 0, locals := 41 } : Room))).room s m (([.ref (ad 93), .ref (ad k2), .int b] : List Value).toArray) below meth c H locs 0 0 Q (F0 m 2 ls []) := by
    intro n
    induction n with
    | zero => intro x3_1 ar_2 H locs ls hm; omega
    | succ n ih3 =>
      intro x3_1 ar_2 H locs ls hm hg0 hP hS hl
      refine lv_iload_n hx hb dX7_hold_2 rfl (lv_at hl 0 rfl) ?_
      refine lv_bipush (v := 60) hx hb dX7_hold_3 (by decide) ?_
      refine lv_icmp_gt (tgt := 41) hx hb dX7_hold_5 (by decide) (fun c_4 => ?_) (fun c_4 => ?_)
      · skip
        have q_4 : (60 : Int) < x3_1.toInt := i_lt2 (show (60 : Int32).toInt = (60 : Int) from rfl) (rfl : x3_1.toInt = x3_1.toInt) c_4
        rw [hQ]
        exact W.vret hx hb hr (fun t ht hW => ⟨⟨(iv, ar_2), rfl, rfl, by show va_P _ _ _ _; rw [ht]; exact hP⟩, hS.F ht⟩) hS.2.2 dX7_hold_41
      · skip
        have q_4 : x3_1.toInt ≤ (60 : Int) := i_nlt2 (show (60 : Int32).toInt = (60 : Int) from rfl) (rfl : x3_1.toInt = x3_1.toInt) c_4
        refine lv_iload_n hx hb dX7_hold_8 rfl (lv_at hl 0 rfl) ?_
        refine lv_aload_n hx hb dX7_hold_9 rfl (lv_at hl 2 rfl) ?_
        refine lv_iload_n hx hb dX7_hold_10 rfl (lv_at hl 0 rfl) ?_
        refine g_callSi (va_runV (As := [.int x3_1]) (rest := [.int x3_1]) ⟨hx, hb, hml, hown, hts⟩ (c_X1_cellAt l D cy ad hI _ iv ar_2 k2 hk_k2 hd_k2 x3_1) (cwV 1 hts gX7_hold_X1_cellAt rfl rfl rfl (by decide +kernel) ⟨Nat.le_of_ble_eq_true rfl, Nat.le_of_ble_eq_true rfl⟩) (g_preV hP hK hSt hNw hS (g_at1 hk_k2 hd_k2) rfl) rfl rfl hl.1 rfl (lv_room (Nat.le_of_ble_eq_true rfl)) dX7_hold_11 ⟨Nat.zero_le _, Nat.zero_le _⟩) (fun r_5 w_5 => ?_)
        try dsimp only at w_5
        refine g_callSi (va_runS (As := [.int x3_1, .int r_5]) (rest := []) ⟨hx, hb, hml, hown, hts⟩ (c_X7_spot l D cy ad hI _ iv ar_2 x3_1 r_5) (va_cwS 2 hts gX7_hold_X7_spot rfl rfl rfl (by decide +kernel) ⟨Nat.le_of_ble_eq_true rfl, Nat.le_of_ble_eq_true rfl⟩) (g_preS hP hK hSt hNw hS) rfl rfl hl.1 rfl (lv_room (Nat.le_of_ble_eq_true rfl)) dX7_hold_14 ⟨Nat.zero_le _, Nat.zero_le _⟩) (fun r_6 w_6 => ?_)
        try dsimp only at w_6
        refine lv_istore (lv' := [(4, .int r_6), (3, .int x3_1), (0, .ref (ad 93)), (1, .ref (ad k2)), (2, .int b)]) hx hb dX7_hold_17 hl (by decide) rfl (fun ls hl => ?_)
        refine lv_iload hx hb dX7_hold_19 (lv_at hl 0 rfl) ?_
        refine lv_iconst (v := (-1)) hx hb dX7_hold_21 (by decide) ?_
        refine lv_icmp_eq (tgt := 35) hx hb dX7_hold_22 (by decide) (fun c_7 => ?_) (fun c_7 => ?_)
        · skip
          have q_7 : r_6.toInt = (-1 : Int) := i_eq2 (rfl : r_6.toInt = r_6.toInt) (show ((-1) : Int32).toInt = (-1 : Int) from rfl) c_7
          obtain ⟨x3_8, ex3_8⟩ : ∃ y : Int32, y = x3_1 + 1 := ⟨_, rfl⟩
          have tx3_8 : x3_8.toInt = x3_1.toInt + (1 : Int) := i_add (rfl : x3_1.toInt = x3_1.toInt) (show (1 : Int32).toInt = (1 : Int) from rfl) (by omega) (by omega) ex3_8
          refine lv_iinc (v := x3_8) (lv' := [(3, .int x3_8), (4, .int r_6), (0, .ref (ad 93)), (1, .ref (ad k2)), (2, .int b)]) hx hb dX7_hold_35 hl (k := 1) rfl (by rw [ex3_8]; rfl) (by decide) rfl (fun ls hl => ?_)
          refine lv_goto (tgt := 2) hx hb dX7_hold_38 (by decide) ?_
          exact ih3 x3_8 ar_2 _ _ _ (by omega) (by omega) hP hS (lv_sub hl [0, 2, 3, 4] rfl)
        · skip
          have q_7 : r_6.toInt ≠ (-1 : Int) := i_ne2 (rfl : r_6.toInt = r_6.toInt) (show ((-1) : Int32).toInt = (-1 : Int) from rfl) c_7
          refine lv_aload_n hx hb dX7_hold_25 rfl (lv_at hl 2 rfl) ?_
          refine va_get (D := D) (ci := 7) (v := .ref (ad 94)) (C := RX7) (T := TX7) (N := 3) hx hb hts inX7 hown hK hP 93 (g_at7 (Nat.le_of_ble_eq_true rfl) rfl) rfl 1 (by decide) lk0 (fun _ h9 => h9) rfl dX7_hold_26 ?_
          refine lv_iload hx hb dX7_hold_29 (lv_at hl 0 rfl) ?_
          refine lv_iload_n hx hb dX7_hold_31 rfl (lv_at hl 4 rfl) ?_
          refine lv_iconst (v := 1) hx hb dX7_hold_32 (by decide) ?_
          refine lv_iadd hx hb dX7_hold_33 ?_
          refine lv_topi (fun v_9 ev_9 => ?_)
          refine va_iast hx hb hK hP (gD hI) hS 94 0 (g_at12 (Nat.le_of_ble_eq_true rfl) rfl) rfl (g_in (N := 6588) (rfl : r_6.toInt = r_6.toInt) rfl (by omega) (by omega)) dX7_hold_34 (fun H locs hP _ hS => ?_)
          rw [g_pt12 (Nat.le_of_ble_eq_true rfl) rfl] at hP
          obtain ⟨ar_10, ear_10⟩ : ∃ z : gAr, z = va_up ar_2 94 (upd (ar_2 94) r_6.toNatClampNeg v_9) := ⟨_, rfl⟩
          rw [← ear_10] at hP
          obtain ⟨x3_11, ex3_11⟩ : ∃ y : Int32, y = x3_1 + 1 := ⟨_, rfl⟩
          have tx3_11 : x3_11.toInt = x3_1.toInt + (1 : Int) := i_add (rfl : x3_1.toInt = x3_1.toInt) (show (1 : Int32).toInt = (1 : Int) from rfl) (by omega) (by omega) ex3_11
          refine lv_iinc (v := x3_11) (lv' := [(3, .int x3_11), (4, .int r_6), (0, .ref (ad 93)), (1, .ref (ad k2)), (2, .int b)]) hx hb dX7_hold_35 hl (k := 1) rfl (by rw [ex3_11]; rfl) (by decide) rfl (fun ls hl => ?_)
          refine lv_goto (tgt := 2) hx hb dX7_hold_38 (by decide) ?_
          exact ih3 x3_11 ar_10 _ _ _ (by omega) (by omega) hP hS (lv_sub hl [0, 2, 3, 4] rfl)
  have zl_12 : (0 : Int32).toInt = (0 : Int) := rfl
  exact loop3 (((61 - ((0 : Int))).toNat) + 1) 0 ar _ _ _ (by omega) (by omega) hP hS (lv_sub hl [0, 1, 2, 3] rfl)
set_option maxHeartbeats 4000000 in
set_option maxRecDepth 100000 in
theorem c_X7_earliestArrival (l : Launch) (D : va_G) (cy : Nat → ClassId) (ad : Nat → Nat) (hI : gInj ad) (sz : Nat) (iv : gIv) (ar : gAr) (a : Int32) (b : Int32)  : Met l yX7_earliestArrival wsX7_earliestArrival ({ frames := 4, cells := 0, slots := 0, locals := 94 } : Room) (va_Pc [.ref (ad 93), .int a, .int b] (gPre D cy ad sz iv ar)) (va_Qi (fun (r : Int32) (u : gIv × gAr) => u.1 = iv) (gPost D cy ad) (gA ad sz)) 0 0 (gA ad sz) := by
  refine Met.ofW (cc := cX7_earliestArrival) (maxL := 6) (ret := (some .int)) (by decide) rfl ?_
  intro p e s m args below meth c s₁ B hml hv
  obtain ⟨rfl, rfl, hP, hK, hSt, hNw⟩ := hv
  have hx := B.exec
  have hb := B.bytes
  have hr := B.returns
  have hts := atoms_spec (ws := wsX7_earliestArrival) B.pre
  have hown : s.vm.findClass RX7 = some m.cls := findClass_of_methodNamed B.named
  have hlocks := B.notSynchronized
  have hS : va_S (gA ad s.heap.size) s.heap s.heap [] := va_S.rf
  have inX7 : ∀ w ∈ u_ws RX7 TX7 3, w ∈ wsX7_earliestArrival := by decide +kernel
  have lk0 := hts (.fieldLink RX7 15 "FormationPlanner$Router" "usable" "[I") (by decide +kernel)
  have hl := lv_entry ([.ref (ad 93), .int a, .int b]) (n := 6) (Nat.le_of_ble_eq_true rfl)
  rw [lg_entry_eq]
  generalize (lg_sl ([.ref (ad 93), .int a, .int b]) ++ List.replicate (6 - (lg_sl ([.ref (ad 93), .int a, .int b])).length) Slot.unset).toArray = ls at hl ⊢
  have hl : lv_has ls 6 [(0, .ref (ad 93)), (1, .int a), (2, .int b)] := hl
  obtain ⟨Q, hQ⟩ : ∃ Q, Q = MQ below (va_Qi (fun (r : Int32) (u : gIv × gAr) => u.1 = iv) (gPost D cy ad) (gA ad s.heap.size)) (([.ref (ad 93), .int a, .int b] : List Value).toArray) s 0 0 (gA ad s.heap.size) := ⟨_, rfl⟩
  rw [← hQ]
  refine lv_aload_n hx hb dX7_earliestArrival_0 rfl (lv_at hl 0 rfl) ?_
  refine va_get (D := D) (ci := 7) (v := .ref (ad 95)) (C := RX7) (T := TX7) (N := 3) hx hb hts inX7 hown hK hP 93 (g_at7 (Nat.le_of_ble_eq_true rfl) rfl) rfl 2 (by decide) lk0 (fun _ h9 => h9) rfl dX7_earliestArrival_1 ?_
  refine lv_iconst (v := 0) hx hb dX7_earliestArrival_4 (by decide) ?_
  have zl_1 : (0 : Int32).toInt = (0 : Int) := rfl
  refine g_callv (va_runS (As := [.ref (ad 95), .int 0]) (rest := []) ⟨hx, hb, hml, hown, hts⟩ (c_J7_fill_53178 l D cy ad hI _ iv ar 95 (Nat.le_of_ble_eq_true rfl) rfl 0) (va_cwS 2 hts gX7_earliestArrival_J7_fill_53178 rfl rfl rfl (by decide +kernel) ⟨Nat.le_of_ble_eq_true rfl, Nat.le_of_ble_eq_true rfl⟩) (g_preS hP hK hSt hNw hS) rfl rfl hl.1 rfl (lv_room (Nat.le_of_ble_eq_true rfl)) dX7_earliestArrival_5 ⟨Nat.zero_le _, Nat.zero_le _⟩) hS (fun iv_2 ar_2 H locs w_2 hP hS => ?_)
  try dsimp only at w_2
  have wi_2 := (w_2).symm
  subst wi_2
  refine lv_aload_n hx hb dX7_earliestArrival_8 rfl (lv_at hl 0 rfl) ?_
  refine lv_iconst (v := 0) hx hb dX7_earliestArrival_9 (by decide) ?_
  refine lv_iload_n hx hb dX7_earliestArrival_10 rfl (lv_at hl 1 rfl) ?_
  have zl_3 : (0 : Int32).toInt = (0 : Int) := rfl
  refine g_callSi (va_runS (As := [.int 0, .int a]) (rest := [.ref (ad 93)]) ⟨hx, hb, hml, hown, hts⟩ (c_X7_spot l D cy ad hI _ iv ar_2 0 a) (va_cwS 2 hts gX7_earliestArrival_X7_spot rfl rfl rfl (by decide +kernel) ⟨Nat.le_of_ble_eq_true rfl, Nat.le_of_ble_eq_true rfl⟩) (g_preS hP hK hSt hNw hS) rfl rfl hl.1 rfl (lv_room (Nat.le_of_ble_eq_true rfl)) dX7_earliestArrival_11 ⟨Nat.zero_le _, Nat.zero_le _⟩) (fun r_4 w_4 => ?_)
  try dsimp only at w_4
  refine lv_iconst (v := 1) hx hb dX7_earliestArrival_14 (by decide) ?_
  have zl_5 : (1 : Int32).toInt = (1 : Int) := rfl
  refine g_callv (va_runV (As := [.int r_4, .int 1]) (rest := []) ⟨hx, hb, hml, hown, hts⟩ (c_X7_mark l D cy ad hI _ iv ar_2 r_4 1) (cwV 2 hts gX7_earliestArrival_X7_mark rfl rfl rfl (by decide +kernel) ⟨Nat.le_of_ble_eq_true rfl, Nat.le_of_ble_eq_true rfl⟩) (g_preV hP hK hSt hNw hS (g_at7 (Nat.le_of_ble_eq_true rfl) rfl) rfl) rfl rfl hl.1 rfl (lv_room (Nat.le_of_ble_eq_true rfl)) dX7_earliestArrival_15 ⟨Nat.zero_le _, Nat.zero_le _⟩) hS (fun iv_6 ar_6 H locs w_6 hP hS => ?_)
  try dsimp only at w_6
  have wi_6 := (w_6).symm
  subst wi_6
  refine lv_aload_n hx hb dX7_earliestArrival_18 rfl (lv_at hl 0 rfl) ?_
  refine lv_iload_n hx hb dX7_earliestArrival_19 rfl (lv_at hl 2 rfl) ?_
  refine g_callSi (va_runV (As := [.int b]) (rest := []) ⟨hx, hb, hml, hown, hts⟩ (c_X7_freeFrom l D cy ad hI _ iv ar_6 b) (cwV 1 hts gX7_earliestArrival_X7_freeFrom rfl rfl rfl (by decide +kernel) ⟨Nat.le_of_ble_eq_true rfl, Nat.le_of_ble_eq_true rfl⟩) (g_preV hP hK hSt hNw hS (g_at7 (Nat.le_of_ble_eq_true rfl) rfl) rfl) rfl rfl hl.1 rfl (lv_room (Nat.le_of_ble_eq_true rfl)) dX7_earliestArrival_20 ⟨Nat.zero_le _, Nat.zero_le _⟩) (fun r_7 w_7 => ?_)
  try dsimp only at w_7
  refine lv_istore_n (lv' := [(3, .int r_7), (0, .ref (ad 93)), (1, .int a), (2, .int b)]) hx hb dX7_earliestArrival_23 rfl hl (by decide) rfl (fun ls hl => ?_)
  refine lv_iconst (v := 0) hx hb dX7_earliestArrival_24 (by decide) ?_
  refine lv_istore (lv' := [(4, .int 0), (3, .int r_7), (0, .ref (ad 93)), (1, .int a), (2, .int b)]) hx hb dX7_earliestArrival_25 hl (by decide) rfl (fun ls hl => ?_)
  have loop10 : ∀ (n : Nat) (x4_8 : Int32) (ar_9 : gAr) (H : Heap) (locs : List Loc) (ls : Array Slot), ((61 - (x4_8.toInt)).toNat) < n → (0 ≤ (x4_8.toInt) ∧ (x4_8.toInt) ≤ 61) → va_P D vwCl (GW cy ad iv ar_9) H → va_S (gA ad s.heap.size) s.heap H locs → lv_has ls 6 [(4, .int x4_8), (3, .int r_7), (0, .ref (ad 93)), (1, .int a), (2, .int b)] → W p l e (headSpec wsX7_earliestArrival (({ frames := 4, cells := 0, slots := 0, locals := 94 } : Room))).room s m (([.ref (ad 93), .int a, .int b] : List Value).toArray) below meth c H locs 0 0 Q (F0 m 27 ls []) := by
    intro n
    induction n with
    | zero => intro x4_8 ar_9 H locs ls hm; omega
    | succ n ih10 =>
      intro x4_8 ar_9 H locs ls hm hg0 hP hS hl
      refine lv_iload hx hb dX7_earliestArrival_27 (lv_at hl 0 rfl) ?_
      refine lv_bipush (v := 60) hx hb dX7_earliestArrival_29 (by decide) ?_
      refine lv_icmp_gt (tgt := 100) hx hb dX7_earliestArrival_31 (by decide) (fun c_11 => ?_) (fun c_11 => ?_)
      · skip
        have q_11 : (60 : Int) < x4_8.toInt := i_lt2 (show (60 : Int32).toInt = (60 : Int) from rfl) (rfl : x4_8.toInt = x4_8.toInt) c_11
        refine lv_iconst (v := (-1)) hx hb dX7_earliestArrival_100 (by decide) ?_
        rw [hQ]
        exact W.iret (v := (-1)) hx hb hr (fun t ht hW => ⟨⟨(-1), (iv, ar_9), rfl, rfl, by show va_P _ _ _ _; rw [ht]; exact hP⟩, hS.F ht⟩) hS.2.2 dX7_earliestArrival_101
      · skip
        have q_11 : x4_8.toInt ≤ (60 : Int) := i_nlt2 (show (60 : Int32).toInt = (60 : Int) from rfl) (rfl : x4_8.toInt = x4_8.toInt) c_11
        have join12 : ∀  (ls : Array Slot), lv_has ls 6 [(4, .int x4_8), (3, .int r_7), (0, .ref (ad 93)), (1, .int a), (2, .int b)] → W p l e (headSpec wsX7_earliestArrival (({ frames := 4, cells := 0, slots := 0, locals := 94 } : Room))).room s m (([.ref (ad 93), .int a, .int b] : List Value).toArray) below meth c H locs 0 0 Q (F0 m 56 ls []) := by
          intro  ls  hl
          refine lv_iconst (v := 0) hx hb dX7_earliestArrival_56 (by decide) ?_
          refine lv_istore (lv' := [(5, .int 0), (4, .int x4_8), (3, .int r_7), (0, .ref (ad 93)), (1, .int a), (2, .int b)]) hx hb dX7_earliestArrival_57 hl (by decide) rfl (fun ls hl => ?_)
          have loop15 : ∀ (n : Nat) (x5_13 : Int32) (ar_14 : gAr) (H : Heap) (locs : List Loc) (ls : Array Slot), ((108 - (x5_13.toInt)).toNat) < n → (0 ≤ (x5_13.toInt) ∧ (x5_13.toInt) ≤ 108) → va_P D vwCl (GW cy ad iv ar_14) H → va_S (gA ad s.heap.size) s.heap H locs → lv_has ls 6 [(5, .int x5_13), (4, .int x4_8), (3, .int r_7), (0, .ref (ad 93)), (1, .int a), (2, .int b)] → W p l e (headSpec wsX7_earliestArrival (({ frames := 4, cells := 0, slots := 0, locals := 94 } : Room))).room s m (([.ref (ad 93), .int a, .int b] : List Value).toArray) below meth c H locs 0 0 Q (F0 m 59 ls []) := by
            intro n
            induction n with
            | zero => intro x5_13 ar_14 H locs ls hm; omega
            | succ n ih15 =>
              intro x5_13 ar_14 H locs ls hm hk0 hP hS hl
              refine lv_iload hx hb dX7_earliestArrival_59 (lv_at hl 0 rfl) ?_
              refine lv_bipush (v := 108) hx hb dX7_earliestArrival_61 (by decide) ?_
              refine lv_icmp_ge (tgt := 94) hx hb dX7_earliestArrival_63 (by decide) (fun c_16 => ?_) (fun c_16 => ?_)
              · skip
                have q_16 : (108 : Int) ≤ x5_13.toInt := i_le2 (show (108 : Int32).toInt = (108 : Int) from rfl) (rfl : x5_13.toInt = x5_13.toInt) c_16
                obtain ⟨x4_17, ex4_17⟩ : ∃ y : Int32, y = x4_8 + 1 := ⟨_, rfl⟩
                have tx4_17 : x4_17.toInt = x4_8.toInt + (1 : Int) := i_add (rfl : x4_8.toInt = x4_8.toInt) (show (1 : Int32).toInt = (1 : Int) from rfl) (by omega) (by omega) ex4_17
                refine lv_iinc (v := x4_17) (lv' := [(4, .int x4_17), (5, .int x5_13), (3, .int r_7), (0, .ref (ad 93)), (1, .int a), (2, .int b)]) hx hb dX7_earliestArrival_94 hl (k := 1) rfl (by rw [ex4_17]; rfl) (by decide) rfl (fun ls hl => ?_)
                refine lv_goto (tgt := 27) hx hb dX7_earliestArrival_97 (by decide) ?_
                exact ih10 x4_17 ar_14 _ _ _ (by omega) (by omega) hP hS (lv_sub hl [0, 2, 3, 4, 5] rfl)
              · skip
                have q_16 : x5_13.toInt < (108 : Int) := i_nle2 (show (108 : Int32).toInt = (108 : Int) from rfl) (rfl : x5_13.toInt = x5_13.toInt) c_16
                refine lv_aload_n hx hb dX7_earliestArrival_66 rfl (lv_at hl 3 rfl) ?_
                refine lv_iload hx hb dX7_earliestArrival_67 (lv_at hl 1 rfl) ?_
                refine lv_iload hx hb dX7_earliestArrival_69 (lv_at hl 0 rfl) ?_
                refine g_callSi (va_runS (As := [.int x4_8, .int x5_13]) (rest := [.ref (ad 93)]) ⟨hx, hb, hml, hown, hts⟩ (c_X7_spot l D cy ad hI _ iv ar_14 x4_8 x5_13) (va_cwS 2 hts gX7_earliestArrival_X7_spot rfl rfl rfl (by decide +kernel) ⟨Nat.le_of_ble_eq_true rfl, Nat.le_of_ble_eq_true rfl⟩) (g_preS hP hK hSt hNw hS) rfl rfl hl.1 rfl (lv_room (Nat.le_of_ble_eq_true rfl)) dX7_earliestArrival_71 ⟨Nat.zero_le _, Nat.zero_le _⟩) (fun r_18 w_18 => ?_)
                try dsimp only at w_18
                refine g_callSi (va_runV (As := [.int r_18]) (rest := []) ⟨hx, hb, hml, hown, hts⟩ (c_X7_isUsable l D cy ad hI _ iv ar_14 r_18) (cwV 1 hts gX7_earliestArrival_X7_isUsable rfl rfl rfl (by decide +kernel) ⟨Nat.le_of_ble_eq_true rfl, Nat.le_of_ble_eq_true rfl⟩) (g_preV hP hK hSt hNw hS (g_at7 (Nat.le_of_ble_eq_true rfl) rfl) rfl) rfl rfl hl.1 rfl (lv_room (Nat.le_of_ble_eq_true rfl)) dX7_earliestArrival_74 ⟨Nat.zero_le _, Nat.zero_le _⟩) (fun r_19 w_19 => ?_)
                try dsimp only at w_19
                refine lv_if_eq (tgt := 88) hx hb dX7_earliestArrival_77 (by decide) (fun c_20 => ?_) (fun c_20 => ?_)
                · skip
                  have q_20 : r_19.toInt = (0 : Int) := i_eq2 (rfl : r_19.toInt = r_19.toInt) (show (0 : Int32).toInt = (0 : Int) from rfl) c_20
                  obtain ⟨x5_21, ex5_21⟩ : ∃ y : Int32, y = x5_13 + 1 := ⟨_, rfl⟩
                  have tx5_21 : x5_21.toInt = x5_13.toInt + (1 : Int) := i_add (rfl : x5_13.toInt = x5_13.toInt) (show (1 : Int32).toInt = (1 : Int) from rfl) (by omega) (by omega) ex5_21
                  refine lv_iinc (v := x5_21) (lv' := [(5, .int x5_21), (4, .int x4_8), (3, .int r_7), (0, .ref (ad 93)), (1, .int a), (2, .int b)]) hx hb dX7_earliestArrival_88 hl (k := 0) rfl (by rw [ex5_21]; rfl) (by decide) rfl (fun ls hl => ?_)
                  refine lv_goto (tgt := 59) hx hb dX7_earliestArrival_91 (by decide) ?_
                  exact ih15 x5_21 ar_14 _ _ _ (by omega) (by omega) hP hS (lv_sub hl [0, 1, 2, 3, 4, 5] rfl)
                · skip
                  have q_20 : r_19.toInt ≠ (0 : Int) := i_ne2 (rfl : r_19.toInt = r_19.toInt) (show (0 : Int32).toInt = (0 : Int) from rfl) c_20
                  refine lv_aload_n hx hb dX7_earliestArrival_80 rfl (lv_at hl 3 rfl) ?_
                  refine lv_iload hx hb dX7_earliestArrival_81 (lv_at hl 1 rfl) ?_
                  refine lv_iload hx hb dX7_earliestArrival_83 (lv_at hl 0 rfl) ?_
                  refine g_callv (va_runV (As := [.int x4_8, .int x5_13]) (rest := []) ⟨hx, hb, hml, hown, hts⟩ (c_X7_spread l D cy ad hI _ iv ar_14 x4_8 x5_13) (cwV 2 hts gX7_earliestArrival_X7_spread rfl rfl rfl (by decide +kernel) ⟨Nat.le_of_ble_eq_true rfl, Nat.le_of_ble_eq_true rfl⟩) (g_preV hP hK hSt hNw hS (g_at7 (Nat.le_of_ble_eq_true rfl) rfl) rfl) rfl rfl hl.1 rfl (lv_room (Nat.le_of_ble_eq_true rfl)) dX7_earliestArrival_85 ⟨Nat.zero_le _, Nat.zero_le _⟩) hS (fun iv_22 ar_22 H locs w_22 hP hS => ?_)
                  try dsimp only at w_22
                  have wi_22 := (w_22).symm
                  subst wi_22
                  obtain ⟨x5_23, ex5_23⟩ : ∃ y : Int32, y = x5_13 + 1 := ⟨_, rfl⟩
                  have tx5_23 : x5_23.toInt = x5_13.toInt + (1 : Int) := i_add (rfl : x5_13.toInt = x5_13.toInt) (show (1 : Int32).toInt = (1 : Int) from rfl) (by omega) (by omega) ex5_23
                  refine lv_iinc (v := x5_23) (lv' := [(5, .int x5_23), (4, .int x4_8), (3, .int r_7), (0, .ref (ad 93)), (1, .int a), (2, .int b)]) hx hb dX7_earliestArrival_88 hl (k := 0) rfl (by rw [ex5_23]; rfl) (by decide) rfl (fun ls hl => ?_)
                  refine lv_goto (tgt := 59) hx hb dX7_earliestArrival_91 (by decide) ?_
                  exact ih15 x5_23 ar_22 _ _ _ (by omega) (by omega) hP hS (lv_sub hl [0, 1, 2, 3, 4, 5] rfl)
          have zl_24 : (0 : Int32).toInt = (0 : Int) := rfl
          exact loop15 (((108 - ((0 : Int))).toNat) + 1) 0 ar_9 _ _ _ (by omega) (by omega) hP hS (lv_sub hl [0, 1, 2, 3, 4, 5] rfl)
        refine lv_iload hx hb dX7_earliestArrival_34 (lv_at hl 0 rfl) ?_
        refine lv_iload_n hx hb dX7_earliestArrival_36 rfl (lv_at hl 1 rfl) ?_
        refine lv_icmp_lt (tgt := 56) hx hb dX7_earliestArrival_37 (by decide) (fun c_25 => ?_) (fun c_25 => ?_)
        · skip
          have q_25 : x4_8.toInt < r_7.toInt := i_lt2 (rfl : x4_8.toInt = x4_8.toInt) (rfl : r_7.toInt = r_7.toInt) c_25
          exact join12 _ (lv_sub hl [0, 1, 2, 3, 4] rfl)
        · skip
          have q_25 : r_7.toInt ≤ x4_8.toInt := i_nlt2 (rfl : x4_8.toInt = x4_8.toInt) (rfl : r_7.toInt = r_7.toInt) c_25
          refine lv_aload_n hx hb dX7_earliestArrival_40 rfl (lv_at hl 2 rfl) ?_
          refine lv_iload hx hb dX7_earliestArrival_41 (lv_at hl 0 rfl) ?_
          refine lv_iload_n hx hb dX7_earliestArrival_43 rfl (lv_at hl 4 rfl) ?_
          refine g_callSi (va_runS (As := [.int x4_8, .int b]) (rest := [.ref (ad 93)]) ⟨hx, hb, hml, hown, hts⟩ (c_X7_spot l D cy ad hI _ iv ar_9 x4_8 b) (va_cwS 2 hts gX7_earliestArrival_X7_spot rfl rfl rfl (by decide +kernel) ⟨Nat.le_of_ble_eq_true rfl, Nat.le_of_ble_eq_true rfl⟩) (g_preS hP hK hSt hNw hS) rfl rfl hl.1 rfl (lv_room (Nat.le_of_ble_eq_true rfl)) dX7_earliestArrival_44 ⟨Nat.zero_le _, Nat.zero_le _⟩) (fun r_26 w_26 => ?_)
          try dsimp only at w_26
          refine g_callSi (va_runV (As := [.int r_26]) (rest := []) ⟨hx, hb, hml, hown, hts⟩ (c_X7_isUsable l D cy ad hI _ iv ar_9 r_26) (cwV 1 hts gX7_earliestArrival_X7_isUsable rfl rfl rfl (by decide +kernel) ⟨Nat.le_of_ble_eq_true rfl, Nat.le_of_ble_eq_true rfl⟩) (g_preV hP hK hSt hNw hS (g_at7 (Nat.le_of_ble_eq_true rfl) rfl) rfl) rfl rfl hl.1 rfl (lv_room (Nat.le_of_ble_eq_true rfl)) dX7_earliestArrival_47 ⟨Nat.zero_le _, Nat.zero_le _⟩) (fun r_27 w_27 => ?_)
          try dsimp only at w_27
          refine lv_if_eq (tgt := 56) hx hb dX7_earliestArrival_50 (by decide) (fun c_28 => ?_) (fun c_28 => ?_)
          · skip
            have q_28 : r_27.toInt = (0 : Int) := i_eq2 (rfl : r_27.toInt = r_27.toInt) (show (0 : Int32).toInt = (0 : Int) from rfl) c_28
            exact join12 _ (lv_sub hl [0, 1, 2, 3, 4] rfl)
          · skip
            have q_28 : r_27.toInt ≠ (0 : Int) := i_ne2 (rfl : r_27.toInt = r_27.toInt) (show (0 : Int32).toInt = (0 : Int) from rfl) c_28
            refine lv_iload hx hb dX7_earliestArrival_53 (lv_at hl 0 rfl) ?_
            rw [hQ]
            exact W.iret (v := x4_8) hx hb hr (fun t ht hW => ⟨⟨x4_8, (iv, ar_9), rfl, rfl, by show va_P _ _ _ _; rw [ht]; exact hP⟩, hS.F ht⟩) hS.2.2 dX7_earliestArrival_55
  have zl_29 : (0 : Int32).toInt = (0 : Int) := rfl
  exact loop10 (((61 - ((0 : Int))).toNat) + 1) 0 ar_6 _ _ _ (by omega) (by omega) hP hS (lv_sub hl [0, 1, 2, 3, 4] rfl)
set_option maxHeartbeats 4000000 in
set_option maxRecDepth 100000 in
theorem c_X7_prune (l : Launch) (D : va_G) (cy : Nat → ClassId) (ad : Nat → Nat) (hI : gInj ad) (sz : Nat) (iv : gIv) (ar : gAr) (a : Int32) (b : Int32)  : Met l yX7_prune wsX7_prune ({ frames := 4, cells := 0, slots := 0, locals := 94 } : Room) (va_Pc [.ref (ad 93), .int a, .int b] (gPre D cy ad sz iv ar)) (va_Qv (fun (u : gIv × gAr) => u.1 = iv) (gPost D cy ad) (gA ad sz)) 0 0 (gA ad sz) := by
  refine Met.ofW (cc := cX7_prune) (maxL := 7) (ret := none) (by decide) rfl ?_
  intro p e s m args below meth c s₁ B hml hv
  obtain ⟨rfl, rfl, hP, hK, hSt, hNw⟩ := hv
  have hx := B.exec
  have hb := B.bytes
  have hr := B.returns
  have hts := atoms_spec (ws := wsX7_prune) B.pre
  have hown : s.vm.findClass RX7 = some m.cls := findClass_of_methodNamed B.named
  have hlocks := B.notSynchronized
  have hS : va_S (gA ad s.heap.size) s.heap s.heap [] := va_S.rf
  have hl := lv_entry ([.ref (ad 93), .int a, .int b]) (n := 7) (Nat.le_of_ble_eq_true rfl)
  rw [lg_entry_eq]
  generalize (lg_sl ([.ref (ad 93), .int a, .int b]) ++ List.replicate (7 - (lg_sl ([.ref (ad 93), .int a, .int b])).length) Slot.unset).toArray = ls at hl ⊢
  have hl : lv_has ls 7 [(0, .ref (ad 93)), (1, .int a), (2, .int b)] := hl
  obtain ⟨Q, hQ⟩ : ∃ Q, Q = MQ below (va_Qv (fun (u : gIv × gAr) => u.1 = iv) (gPost D cy ad) (gA ad s.heap.size)) (([.ref (ad 93), .int a, .int b] : List Value).toArray) s 0 0 (gA ad s.heap.size) := ⟨_, rfl⟩
  rw [← hQ]
  refine lv_bipush (v := 60) hx hb dX7_prune_0 (by decide) ?_
  refine lv_istore_n (lv' := [(3, .int 60), (0, .ref (ad 93)), (1, .int a), (2, .int b)]) hx hb dX7_prune_2 rfl hl (by decide) rfl (fun ls hl => ?_)
  have loop3 : ∀ (n : Nat) (x3_1 : Int32) (ar_2 : gAr) (H : Heap) (locs : List Loc) (ls : Array Slot), (((x3_1.toInt) + 1).toNat) < n → (-1 ≤ (x3_1.toInt) ∧ (x3_1.toInt) ≤ 60) → va_P D vwCl (GW cy ad iv ar_2) H → va_S (gA ad s.heap.size) s.heap H locs → lv_has ls 7 [(3, .int x3_1), (0, .ref (ad 93)), (1, .int a), (2, .int b)] → W p l e (headSpec wsX7_prune (({ frames := 4, cells := 0, slots := 0, locals := 94 } : Room))).room s m (([.ref (ad 93), .int a, .int b] : List Value).toArray) below meth c H locs 0 0 Q (F0 m 3 ls []) := by
    intro n
    induction n with
    | zero => intro x3_1 ar_2 H locs ls hm; omega
    | succ n ih3 =>
      intro x3_1 ar_2 H locs ls hm hg0 hP hS hl
      refine lv_iload_n hx hb dX7_prune_3 rfl (lv_at hl 0 rfl) ?_
      refine lv_if_lt (tgt := 92) hx hb dX7_prune_4 (by decide) (fun c_4 => ?_) (fun c_4 => ?_)
      · skip
        have q_4 : x3_1.toInt < (0 : Int) := i_lt2 (rfl : x3_1.toInt = x3_1.toInt) (show (0 : Int32).toInt = (0 : Int) from rfl) c_4
        rw [hQ]
        exact W.vret hx hb hr (fun t ht hW => ⟨⟨(iv, ar_2), rfl, rfl, by show va_P _ _ _ _; rw [ht]; exact hP⟩, hS.F ht⟩) hS.2.2 dX7_prune_92
      · skip
        have q_4 : (0 : Int) ≤ x3_1.toInt := i_nlt2 (rfl : x3_1.toInt = x3_1.toInt) (show (0 : Int32).toInt = (0 : Int) from rfl) c_4
        refine lv_iconst (v := 0) hx hb dX7_prune_7 (by decide) ?_
        refine lv_istore (lv' := [(4, .int 0), (3, .int x3_1), (0, .ref (ad 93)), (1, .int a), (2, .int b)]) hx hb dX7_prune_8 hl (by decide) rfl (fun ls hl => ?_)
        have loop7 : ∀ (n : Nat) (x4_5 : Int32) (ar_6 : gAr) (H : Heap) (locs : List Loc) (ls : Array Slot), ((108 - (x4_5.toInt)).toNat) < n → (0 ≤ (x4_5.toInt) ∧ (x4_5.toInt) ≤ 108) → va_P D vwCl (GW cy ad iv ar_6) H → va_S (gA ad s.heap.size) s.heap H locs → lv_has ls 7 [(4, .int x4_5), (3, .int x3_1), (0, .ref (ad 93)), (1, .int a), (2, .int b)] → W p l e (headSpec wsX7_prune (({ frames := 4, cells := 0, slots := 0, locals := 94 } : Room))).room s m (([.ref (ad 93), .int a, .int b] : List Value).toArray) below meth c H locs 0 0 Q (F0 m 10 ls []) := by
          intro n
          induction n with
          | zero => intro x4_5 ar_6 H locs ls hm; omega
          | succ n ih7 =>
            intro x4_5 ar_6 H locs ls hm hk0 hP hS hl
            refine lv_iload hx hb dX7_prune_10 (lv_at hl 0 rfl) ?_
            refine lv_bipush (v := 108) hx hb dX7_prune_12 (by decide) ?_
            refine lv_icmp_ge (tgt := 86) hx hb dX7_prune_14 (by decide) (fun c_8 => ?_) (fun c_8 => ?_)
            · skip
              have q_8 : (108 : Int) ≤ x4_5.toInt := i_le2 (show (108 : Int32).toInt = (108 : Int) from rfl) (rfl : x4_5.toInt = x4_5.toInt) c_8
              obtain ⟨x3_9, ex3_9⟩ : ∃ y : Int32, y = x3_1 + (-1) := ⟨_, rfl⟩
              have tx3_9 : x3_9.toInt = x3_1.toInt + (-1 : Int) := i_add (rfl : x3_1.toInt = x3_1.toInt) (show ((-1) : Int32).toInt = (-1 : Int) from rfl) (by omega) (by omega) ex3_9
              refine lv_iinc (v := x3_9) (lv' := [(3, .int x3_9), (4, .int x4_5), (0, .ref (ad 93)), (1, .int a), (2, .int b)]) hx hb dX7_prune_86 hl (k := 1) rfl (by rw [ex3_9]; rfl) (by decide) rfl (fun ls hl => ?_)
              refine lv_goto (tgt := 3) hx hb dX7_prune_89 (by decide) ?_
              exact ih3 x3_9 ar_6 _ _ _ (by omega) (by omega) hP hS (lv_sub hl [0, 2, 3, 4] rfl)
            · skip
              have q_8 : x4_5.toInt < (108 : Int) := i_nle2 (show (108 : Int32).toInt = (108 : Int) from rfl) (rfl : x4_5.toInt = x4_5.toInt) c_8
              refine lv_iload_n hx hb dX7_prune_17 rfl (lv_at hl 1 rfl) ?_
              refine lv_iload hx hb dX7_prune_18 (lv_at hl 0 rfl) ?_
              refine g_callSi (va_runS (As := [.int x3_1, .int x4_5]) (rest := []) ⟨hx, hb, hml, hown, hts⟩ (c_X7_spot l D cy ad hI _ iv ar_6 x3_1 x4_5) (va_cwS 2 hts gX7_prune_X7_spot rfl rfl rfl (by decide +kernel) ⟨Nat.le_of_ble_eq_true rfl, Nat.le_of_ble_eq_true rfl⟩) (g_preS hP hK hSt hNw hS) rfl rfl hl.1 rfl (lv_room (Nat.le_of_ble_eq_true rfl)) dX7_prune_20 ⟨Nat.zero_le _, Nat.zero_le _⟩) (fun r_10 w_10 => ?_)
              try dsimp only at w_10
              refine lv_istore (lv' := [(5, .int r_10), (4, .int x4_5), (3, .int x3_1), (0, .ref (ad 93)), (1, .int a), (2, .int b)]) hx hb dX7_prune_23 hl (by decide) rfl (fun ls hl => ?_)
              have join12 : ∀ (x6_11 : Int32) (ls : Array Slot), lv_has ls 7 [(6, .int x6_11), (5, .int r_10), (4, .int x4_5), (3, .int x3_1), (0, .ref (ad 93)), (1, .int a), (2, .int b)] → W p l e (headSpec wsX7_prune (({ frames := 4, cells := 0, slots := 0, locals := 94 } : Room))).room s m (([.ref (ad 93), .int a, .int b] : List Value).toArray) below meth c H locs 0 0 Q (F0 m 43 ls []) := by
                intro x6_11 ls  hl
                refine lv_aload_n hx hb dX7_prune_43 rfl (lv_at hl 4 rfl) ?_
                refine lv_iload hx hb dX7_prune_44 (lv_at hl 1 rfl) ?_
                refine g_callSi (va_runV (As := [.int r_10]) (rest := []) ⟨hx, hb, hml, hown, hts⟩ (c_X7_isUsable l D cy ad hI _ iv ar_6 r_10) (cwV 1 hts gX7_prune_X7_isUsable rfl rfl rfl (by decide +kernel) ⟨Nat.le_of_ble_eq_true rfl, Nat.le_of_ble_eq_true rfl⟩) (g_preV hP hK hSt hNw hS (g_at7 (Nat.le_of_ble_eq_true rfl) rfl) rfl) rfl rfl hl.1 rfl (lv_room (Nat.le_of_ble_eq_true rfl)) dX7_prune_46 ⟨Nat.zero_le _, Nat.zero_le _⟩) (fun r_13 w_13 => ?_)
                try dsimp only at w_13
                refine lv_if_eq (tgt := 80) hx hb dX7_prune_49 (by decide) (fun c_14 => ?_) (fun c_14 => ?_)
                · skip
                  have q_14 : r_13.toInt = (0 : Int) := i_eq2 (rfl : r_13.toInt = r_13.toInt) (show (0 : Int32).toInt = (0 : Int) from rfl) c_14
                  obtain ⟨x4_15, ex4_15⟩ : ∃ y : Int32, y = x4_5 + 1 := ⟨_, rfl⟩
                  have tx4_15 : x4_15.toInt = x4_5.toInt + (1 : Int) := i_add (rfl : x4_5.toInt = x4_5.toInt) (show (1 : Int32).toInt = (1 : Int) from rfl) (by omega) (by omega) ex4_15
                  refine lv_iinc (v := x4_15) (lv' := [(4, .int x4_15), (6, .int x6_11), (5, .int r_10), (3, .int x3_1), (0, .ref (ad 93)), (1, .int a), (2, .int b)]) hx hb dX7_prune_80 hl (k := 2) rfl (by rw [ex4_15]; rfl) (by decide) rfl (fun ls hl => ?_)
                  refine lv_goto (tgt := 10) hx hb dX7_prune_83 (by decide) ?_
                  exact ih7 x4_15 ar_6 _ _ _ (by omega) (by omega) hP hS (lv_sub hl [0, 3, 4, 5, 6] rfl)
                · skip
                  have q_14 : r_13.toInt ≠ (0 : Int) := i_ne2 (rfl : r_13.toInt = r_13.toInt) (show (0 : Int32).toInt = (0 : Int) from rfl) c_14
                  refine lv_iload hx hb dX7_prune_52 (lv_at hl 0 rfl) ?_
                  refine lv_if_ne (tgt := 80) hx hb dX7_prune_54 (by decide) (fun c_16 => ?_) (fun c_16 => ?_)
                  · skip
                    have q_16 : x6_11.toInt ≠ (0 : Int) := i_ne2 (rfl : x6_11.toInt = x6_11.toInt) (show (0 : Int32).toInt = (0 : Int) from rfl) c_16
                    obtain ⟨x4_17, ex4_17⟩ : ∃ y : Int32, y = x4_5 + 1 := ⟨_, rfl⟩
                    have tx4_17 : x4_17.toInt = x4_5.toInt + (1 : Int) := i_add (rfl : x4_5.toInt = x4_5.toInt) (show (1 : Int32).toInt = (1 : Int) from rfl) (by omega) (by omega) ex4_17
                    refine lv_iinc (v := x4_17) (lv' := [(4, .int x4_17), (6, .int x6_11), (5, .int r_10), (3, .int x3_1), (0, .ref (ad 93)), (1, .int a), (2, .int b)]) hx hb dX7_prune_80 hl (k := 2) rfl (by rw [ex4_17]; rfl) (by decide) rfl (fun ls hl => ?_)
                    refine lv_goto (tgt := 10) hx hb dX7_prune_83 (by decide) ?_
                    exact ih7 x4_17 ar_6 _ _ _ (by omega) (by omega) hP hS (lv_sub hl [0, 3, 4, 5, 6] rfl)
                  · skip
                    have q_16 : x6_11.toInt = (0 : Int) := i_eq2 (rfl : x6_11.toInt = x6_11.toInt) (show (0 : Int32).toInt = (0 : Int) from rfl) c_16
                    refine lv_iload_n hx hb dX7_prune_57 rfl (lv_at hl 3 rfl) ?_
                    refine lv_iload_n hx hb dX7_prune_58 rfl (lv_at hl 5 rfl) ?_
                    refine lv_icmp_ge (tgt := 73) hx hb dX7_prune_59 (by decide) (fun c_18 => ?_) (fun c_18 => ?_)
                    · skip
                      have q_18 : a.toInt ≤ x3_1.toInt := i_le2 (rfl : a.toInt = a.toInt) (rfl : x3_1.toInt = x3_1.toInt) c_18
                      refine lv_aload_n hx hb dX7_prune_73 rfl (lv_at hl 4 rfl) ?_
                      refine lv_iload hx hb dX7_prune_74 (lv_at hl 1 rfl) ?_
                      refine lv_iconst (v := 0) hx hb dX7_prune_76 (by decide) ?_
                      have zl_19 : (0 : Int32).toInt = (0 : Int) := rfl
                      refine g_callv (va_runV (As := [.int r_10, .int 0]) (rest := []) ⟨hx, hb, hml, hown, hts⟩ (c_X7_mark l D cy ad hI _ iv ar_6 r_10 0) (cwV 2 hts gX7_prune_X7_mark rfl rfl rfl (by decide +kernel) ⟨Nat.le_of_ble_eq_true rfl, Nat.le_of_ble_eq_true rfl⟩) (g_preV hP hK hSt hNw hS (g_at7 (Nat.le_of_ble_eq_true rfl) rfl) rfl) rfl rfl hl.1 rfl (lv_room (Nat.le_of_ble_eq_true rfl)) dX7_prune_77 ⟨Nat.zero_le _, Nat.zero_le _⟩) hS (fun iv_20 ar_20 H locs w_20 hP hS => ?_)
                      try dsimp only at w_20
                      have wi_20 := (w_20).symm
                      subst wi_20
                      obtain ⟨x4_21, ex4_21⟩ : ∃ y : Int32, y = x4_5 + 1 := ⟨_, rfl⟩
                      have tx4_21 : x4_21.toInt = x4_5.toInt + (1 : Int) := i_add (rfl : x4_5.toInt = x4_5.toInt) (show (1 : Int32).toInt = (1 : Int) from rfl) (by omega) (by omega) ex4_21
                      refine lv_iinc (v := x4_21) (lv' := [(4, .int x4_21), (6, .int x6_11), (5, .int r_10), (3, .int x3_1), (0, .ref (ad 93)), (1, .int a), (2, .int b)]) hx hb dX7_prune_80 hl (k := 2) rfl (by rw [ex4_21]; rfl) (by decide) rfl (fun ls hl => ?_)
                      refine lv_goto (tgt := 10) hx hb dX7_prune_83 (by decide) ?_
                      exact ih7 x4_21 ar_20 _ _ _ (by omega) (by omega) hP hS (lv_sub hl [0, 3, 4, 5, 6] rfl)
                    · skip
                      have q_18 : x3_1.toInt < a.toInt := i_nle2 (rfl : a.toInt = a.toInt) (rfl : x3_1.toInt = x3_1.toInt) c_18
                      refine lv_aload_n hx hb dX7_prune_62 rfl (lv_at hl 4 rfl) ?_
                      refine lv_iload_n hx hb dX7_prune_63 rfl (lv_at hl 3 rfl) ?_
                      refine lv_iload hx hb dX7_prune_64 (lv_at hl 2 rfl) ?_
                      refine g_callSi (va_runV (As := [.int x3_1, .int x4_5]) (rest := []) ⟨hx, hb, hml, hown, hts⟩ (c_X7_leastAction l D cy ad hI _ iv ar_6 x3_1 x4_5) (cwV 2 hts gX7_prune_X7_leastAction rfl rfl rfl (by decide +kernel) ⟨Nat.le_of_ble_eq_true rfl, Nat.le_of_ble_eq_true rfl⟩) (g_preV hP hK hSt hNw hS (g_at7 (Nat.le_of_ble_eq_true rfl) rfl) rfl) rfl rfl hl.1 rfl (lv_room (Nat.le_of_ble_eq_true rfl)) dX7_prune_66 ⟨Nat.zero_le _, Nat.zero_le _⟩) (fun r_22 w_22 => ?_)
                      try dsimp only at w_22
                      refine lv_iconst (v := (-1)) hx hb dX7_prune_69 (by decide) ?_
                      refine lv_icmp_ne (tgt := 80) hx hb dX7_prune_70 (by decide) (fun c_23 => ?_) (fun c_23 => ?_)
                      · skip
                        have q_23 : r_22.toInt ≠ (-1 : Int) := i_ne2 (rfl : r_22.toInt = r_22.toInt) (show ((-1) : Int32).toInt = (-1 : Int) from rfl) c_23
                        obtain ⟨x4_24, ex4_24⟩ : ∃ y : Int32, y = x4_5 + 1 := ⟨_, rfl⟩
                        have tx4_24 : x4_24.toInt = x4_5.toInt + (1 : Int) := i_add (rfl : x4_5.toInt = x4_5.toInt) (show (1 : Int32).toInt = (1 : Int) from rfl) (by omega) (by omega) ex4_24
                        refine lv_iinc (v := x4_24) (lv' := [(4, .int x4_24), (6, .int x6_11), (5, .int r_10), (3, .int x3_1), (0, .ref (ad 93)), (1, .int a), (2, .int b)]) hx hb dX7_prune_80 hl (k := 2) rfl (by rw [ex4_24]; rfl) (by decide) rfl (fun ls hl => ?_)
                        refine lv_goto (tgt := 10) hx hb dX7_prune_83 (by decide) ?_
                        exact ih7 x4_24 ar_6 _ _ _ (by omega) (by omega) hP hS (lv_sub hl [0, 3, 4, 5, 6] rfl)
                      · skip
                        have q_23 : r_22.toInt = (-1 : Int) := i_eq2 (rfl : r_22.toInt = r_22.toInt) (show ((-1) : Int32).toInt = (-1 : Int) from rfl) c_23
                        refine lv_aload_n hx hb dX7_prune_73 rfl (lv_at hl 4 rfl) ?_
                        refine lv_iload hx hb dX7_prune_74 (lv_at hl 1 rfl) ?_
                        refine lv_iconst (v := 0) hx hb dX7_prune_76 (by decide) ?_
                        have zl_25 : (0 : Int32).toInt = (0 : Int) := rfl
                        refine g_callv (va_runV (As := [.int r_10, .int 0]) (rest := []) ⟨hx, hb, hml, hown, hts⟩ (c_X7_mark l D cy ad hI _ iv ar_6 r_10 0) (cwV 2 hts gX7_prune_X7_mark rfl rfl rfl (by decide +kernel) ⟨Nat.le_of_ble_eq_true rfl, Nat.le_of_ble_eq_true rfl⟩) (g_preV hP hK hSt hNw hS (g_at7 (Nat.le_of_ble_eq_true rfl) rfl) rfl) rfl rfl hl.1 rfl (lv_room (Nat.le_of_ble_eq_true rfl)) dX7_prune_77 ⟨Nat.zero_le _, Nat.zero_le _⟩) hS (fun iv_26 ar_26 H locs w_26 hP hS => ?_)
                        try dsimp only at w_26
                        have wi_26 := (w_26).symm
                        subst wi_26
                        obtain ⟨x4_27, ex4_27⟩ : ∃ y : Int32, y = x4_5 + 1 := ⟨_, rfl⟩
                        have tx4_27 : x4_27.toInt = x4_5.toInt + (1 : Int) := i_add (rfl : x4_5.toInt = x4_5.toInt) (show (1 : Int32).toInt = (1 : Int) from rfl) (by omega) (by omega) ex4_27
                        refine lv_iinc (v := x4_27) (lv' := [(4, .int x4_27), (6, .int x6_11), (5, .int r_10), (3, .int x3_1), (0, .ref (ad 93)), (1, .int a), (2, .int b)]) hx hb dX7_prune_80 hl (k := 2) rfl (by rw [ex4_27]; rfl) (by decide) rfl (fun ls hl => ?_)
                        refine lv_goto (tgt := 10) hx hb dX7_prune_83 (by decide) ?_
                        exact ih7 x4_27 ar_26 _ _ _ (by omega) (by omega) hP hS (lv_sub hl [0, 3, 4, 5, 6] rfl)
              refine lv_iload_n hx hb dX7_prune_25 rfl (lv_at hl 2 rfl) ?_
              refine lv_iload_n hx hb dX7_prune_26 rfl (lv_at hl 4 rfl) ?_
              refine lv_icmp_ne (tgt := 40) hx hb dX7_prune_27 (by decide) (fun c_28 => ?_) (fun c_28 => ?_)
              · skip
                have q_28 : x3_1.toInt ≠ a.toInt := i_ne2 (rfl : x3_1.toInt = x3_1.toInt) (rfl : a.toInt = a.toInt) c_28
                refine lv_iconst (v := 0) hx hb dX7_prune_40 (by decide) ?_
                refine lv_istore (lv' := [(6, .int 0), (5, .int r_10), (4, .int x4_5), (3, .int x3_1), (0, .ref (ad 93)), (1, .int a), (2, .int b)]) hx hb dX7_prune_41 hl (by decide) rfl (fun ls hl => ?_)
                have zl_29 : (0 : Int32).toInt = (0 : Int) := rfl
                exact join12 0 _ (lv_sub hl [0, 1, 2, 3, 4, 5, 6] rfl)
              · skip
                have q_28 : x3_1.toInt = a.toInt := i_eq2 (rfl : x3_1.toInt = x3_1.toInt) (rfl : a.toInt = a.toInt) c_28
                refine lv_iload hx hb dX7_prune_30 (lv_at hl 1 rfl) ?_
                refine lv_iload_n hx hb dX7_prune_32 rfl (lv_at hl 5 rfl) ?_
                refine lv_icmp_ne (tgt := 40) hx hb dX7_prune_33 (by decide) (fun c_30 => ?_) (fun c_30 => ?_)
                · skip
                  have q_30 : x4_5.toInt ≠ b.toInt := i_ne2 (rfl : x4_5.toInt = x4_5.toInt) (rfl : b.toInt = b.toInt) c_30
                  refine lv_iconst (v := 0) hx hb dX7_prune_40 (by decide) ?_
                  refine lv_istore (lv' := [(6, .int 0), (5, .int r_10), (4, .int x4_5), (3, .int x3_1), (0, .ref (ad 93)), (1, .int a), (2, .int b)]) hx hb dX7_prune_41 hl (by decide) rfl (fun ls hl => ?_)
                  have zl_31 : (0 : Int32).toInt = (0 : Int) := rfl
                  exact join12 0 _ (lv_sub hl [0, 1, 2, 3, 4, 5, 6] rfl)
                · skip
                  have q_30 : x4_5.toInt = b.toInt := i_eq2 (rfl : x4_5.toInt = x4_5.toInt) (rfl : b.toInt = b.toInt) c_30
                  refine lv_iconst (v := 1) hx hb dX7_prune_36 (by decide) ?_
                  refine lv_goto (tgt := 41) hx hb dX7_prune_37 (by decide) ?_
                  refine lv_istore (lv' := [(6, .int 1), (5, .int r_10), (4, .int x4_5), (3, .int x3_1), (0, .ref (ad 93)), (1, .int a), (2, .int b)]) hx hb dX7_prune_41 hl (by decide) rfl (fun ls hl => ?_)
                  have zl_32 : (1 : Int32).toInt = (1 : Int) := rfl
                  exact join12 1 _ (lv_sub hl [0, 1, 2, 3, 4, 5, 6] rfl)
        have zl_33 : (0 : Int32).toInt = (0 : Int) := rfl
        exact loop7 (((108 - ((0 : Int))).toNat) + 1) 0 ar_2 _ _ _ (by omega) (by omega) hP hS (lv_sub hl [0, 1, 2, 3, 4] rfl)
  have zl_34 : (60 : Int32).toInt = (60 : Int) := rfl
  exact loop3 (((((60 : Int)) + 1).toNat) + 1) 60 ar _ _ _ (by omega) (by omega) hP hS (lv_sub hl [0, 1, 2, 3] rfl)
set_option maxHeartbeats 4000000 in
set_option maxRecDepth 100000 in
theorem c_X7_follow (l : Launch) (D : va_G) (cy : Nat → ClassId) (ad : Nat → Nat) (hI : gInj ad) (sz : Nat) (iv : gIv) (ar : gAr) (k2 : Nat) (hk_k2 : k2 < 135) (hd_k2 : kd k2 = 1) (b : Int32) (d : Int32)  : Met l yX7_follow wsX7_follow ({ frames := 4, cells := 0, slots := 0, locals := 94 } : Room) (va_Pc [.ref (ad 93), .ref (ad k2), .int b, .int d] (gPre D cy ad sz iv ar)) (va_Qv (fun (u : gIv × gAr) => FK iv u.1) (gPost D cy ad) (gA ad sz)) 0 0 (gA ad sz) := by
  refine Met.ofW (cc := cX7_follow) (maxL := 8) (ret := none) (by decide) rfl ?_
  intro p e s m args below meth c s₁ B hml hv
  obtain ⟨rfl, rfl, hP, hK, hSt, hNw⟩ := hv
  have hx := B.exec
  have hb := B.bytes
  have hr := B.returns
  have hts := atoms_spec (ws := wsX7_follow) B.pre
  have hown : s.vm.findClass RX7 = some m.cls := findClass_of_methodNamed B.named
  have hlocks := B.notSynchronized
  have hS : va_S (gA ad s.heap.size) s.heap s.heap [] := va_S.rf
  have inX1 : ∀ w ∈ u_ws RX1 TX1 5, w ∈ wsX7_follow := by decide +kernel
  have inX7 : ∀ w ∈ u_ws RX7 TX7 3, w ∈ wsX7_follow := by decide +kernel
  have lk0 := hts (.fieldLink RX7 59 "FormationPlanner$Flight" "arrival" "I") (by decide +kernel)
  have lk1 := hts (.fieldLink RX7 18 "FormationPlanner$Router" "lattice" "LFormationPlanner$Lattice;") (by decide +kernel)
  have hl := lv_entry ([.ref (ad 93), .ref (ad k2), .int b, .int d]) (n := 8) (Nat.le_of_ble_eq_true rfl)
  rw [lg_entry_eq]
  generalize (lg_sl ([.ref (ad 93), .ref (ad k2), .int b, .int d]) ++ List.replicate (8 - (lg_sl ([.ref (ad 93), .ref (ad k2), .int b, .int d])).length) Slot.unset).toArray = ls at hl ⊢
  have hl : lv_has ls 8 [(0, .ref (ad 93)), (1, .ref (ad k2)), (2, .int b), (3, .int d)] := hl
  obtain ⟨Q, hQ⟩ : ∃ Q, Q = MQ below (va_Qv (fun (u : gIv × gAr) => FK iv u.1) (gPost D cy ad) (gA ad s.heap.size)) (([.ref (ad 93), .ref (ad k2), .int b, .int d] : List Value).toArray) s 0 0 (gA ad s.heap.size) := ⟨_, rfl⟩
  rw [← hQ]
  have fk0 : FK iv iv := FK.rf
  refine lv_aload_n hx hb dX7_follow_0 rfl (lv_at hl 1 rfl) ?_
  refine lv_iload_n hx hb dX7_follow_1 rfl (lv_at hl 2 rfl) ?_
  refine g_callv (va_runV (As := [.int b]) (rest := []) ⟨hx, hb, hml, hown, hts⟩ (c_X1_begin l D cy ad hI _ iv ar k2 hk_k2 hd_k2 b) (cwV 1 hts gX7_follow_X1_begin rfl rfl rfl (by decide +kernel) ⟨Nat.le_of_ble_eq_true rfl, Nat.le_of_ble_eq_true rfl⟩) (g_preV hP hK hSt hNw hS (g_at1 hk_k2 hd_k2) rfl) rfl rfl hl.1 rfl (lv_room (Nat.le_of_ble_eq_true rfl)) dX7_follow_2 ⟨Nat.zero_le _, Nat.zero_le _⟩) hS (fun iv_1 ar_1 H locs w_1 hP hS => ?_)
  try dsimp only at w_1
  have fk_1 : FK iv iv_1 := fk0.tr (w_1)
  refine lv_iload_n hx hb dX7_follow_5 rfl (lv_at hl 2 rfl) ?_
  refine lv_istore (lv' := [(4, .int b), (0, .ref (ad 93)), (1, .ref (ad k2)), (2, .int b), (3, .int d)]) hx hb dX7_follow_6 hl (by decide) rfl (fun ls hl => ?_)
  refine lv_iconst (v := 0) hx hb dX7_follow_8 (by decide) ?_
  refine lv_istore (lv' := [(5, .int 0), (4, .int b), (0, .ref (ad 93)), (1, .ref (ad k2)), (2, .int b), (3, .int d)]) hx hb dX7_follow_9 hl (by decide) rfl (fun ls hl => ?_)
  have loop5 : ∀ (n : Nat) (x5_2 : Int32) (x4_3 : Int32) (iv_4 : gIv) (ar_4 : gAr) (H : Heap) (locs : List Loc) (ls : Array Slot), ((60 - (x5_2.toInt)).toNat) < n → (FK iv iv_4) → (0 ≤ (x5_2.toInt) ∧ (x5_2.toInt) ≤ 60) → va_P D vwCl (GW cy ad iv_4 ar_4) H → va_S (gA ad s.heap.size) s.heap H locs → lv_has ls 8 [(5, .int x5_2), (4, .int x4_3), (0, .ref (ad 93)), (1, .ref (ad k2)), (2, .int b), (3, .int d)] → W p l e (headSpec wsX7_follow (({ frames := 4, cells := 0, slots := 0, locals := 94 } : Room))).room s m (([.ref (ad 93), .ref (ad k2), .int b, .int d] : List Value).toArray) below meth c H locs 0 0 Q (F0 m 11 ls []) := by
    intro n
    induction n with
    | zero => intro x5_2 x4_3 iv_4 ar_4 H locs ls hm; omega
    | succ n ih5 =>
      intro x5_2 x4_3 iv_4 ar_4 H locs ls hm hfk hg0 hP hS hl
      refine lv_iload hx hb dX7_follow_11 (lv_at hl 0 rfl) ?_
      refine lv_bipush (v := 60) hx hb dX7_follow_13 (by decide) ?_
      refine lv_icmp_ge (tgt := 80) hx hb dX7_follow_15 (by decide) (fun c_6 => ?_) (fun c_6 => ?_)
      · skip
        have q_6 : (60 : Int) ≤ x5_2.toInt := i_le2 (show (60 : Int32).toInt = (60 : Int) from rfl) (rfl : x5_2.toInt = x5_2.toInt) c_6
        rw [hQ]
        exact W.vret hx hb hr (fun t ht hW => ⟨⟨(iv_4, ar_4), rfl, hfk, by show va_P _ _ _ _; rw [ht]; exact hP⟩, hS.F ht⟩) hS.2.2 dX7_follow_80
      · skip
        have q_6 : x5_2.toInt < (60 : Int) := i_nle2 (show (60 : Int32).toInt = (60 : Int) from rfl) (rfl : x5_2.toInt = x5_2.toInt) c_6
        refine lv_aload_n hx hb dX7_follow_18 rfl (lv_at hl 3 rfl) ?_
        refine va_get (D := D) (ci := 1) (v := .int (iv_4 k2 2)) (C := RX1) (T := TX1) (N := 5) hx hb hts inX1 hown hK hP k2 (g_at1 hk_k2 hd_k2) rfl 2 (by decide) lk0 (fun _ h9 => h9) rfl dX7_follow_19 ?_
        refine lv_iload_n hx hb dX7_follow_22 rfl (lv_at hl 5 rfl) ?_
        refine lv_icmp_ge (tgt := 80) hx hb dX7_follow_23 (by decide) (fun c_7 => ?_) (fun c_7 => ?_)
        · skip
          have q_7 : d.toInt ≤ (iv_4 k2 2).toInt := i_le2 (rfl : d.toInt = d.toInt) (rfl : (iv_4 k2 2).toInt = (iv_4 k2 2).toInt) c_7
          rw [hQ]
          exact W.vret hx hb hr (fun t ht hW => ⟨⟨(iv_4, ar_4), rfl, hfk, by show va_P _ _ _ _; rw [ht]; exact hP⟩, hS.F ht⟩) hS.2.2 dX7_follow_80
        · skip
          have q_7 : (iv_4 k2 2).toInt < d.toInt := i_nle2 (rfl : d.toInt = d.toInt) (rfl : (iv_4 k2 2).toInt = (iv_4 k2 2).toInt) c_7
          refine lv_aload_n hx hb dX7_follow_26 rfl (lv_at hl 2 rfl) ?_
          refine lv_aload_n hx hb dX7_follow_27 rfl (lv_at hl 3 rfl) ?_
          refine va_get (D := D) (ci := 1) (v := .int (iv_4 k2 2)) (C := RX1) (T := TX1) (N := 5) hx hb hts inX1 hown hK hP k2 (g_at1 hk_k2 hd_k2) rfl 2 (by decide) lk0 (fun _ h9 => h9) rfl dX7_follow_28 ?_
          refine lv_iload hx hb dX7_follow_31 (lv_at hl 1 rfl) ?_
          refine g_callSi (va_runV (As := [.int (iv_4 k2 2), .int x4_3]) (rest := []) ⟨hx, hb, hml, hown, hts⟩ (c_X7_leastAction l D cy ad hI _ iv_4 ar_4 (iv_4 k2 2) x4_3) (cwV 2 hts gX7_follow_X7_leastAction rfl rfl rfl (by decide +kernel) ⟨Nat.le_of_ble_eq_true rfl, Nat.le_of_ble_eq_true rfl⟩) (g_preV hP hK hSt hNw hS (g_at7 (Nat.le_of_ble_eq_true rfl) rfl) rfl) rfl rfl hl.1 rfl (lv_room (Nat.le_of_ble_eq_true rfl)) dX7_follow_33 ⟨Nat.zero_le _, Nat.zero_le _⟩) (fun r_8 w_8 => ?_)
          try dsimp only at w_8
          refine lv_istore (lv' := [(6, .int r_8), (5, .int x5_2), (4, .int x4_3), (0, .ref (ad 93)), (1, .ref (ad k2)), (2, .int b), (3, .int d)]) hx hb dX7_follow_36 hl (by decide) rfl (fun ls hl => ?_)
          refine lv_aload_n hx hb dX7_follow_38 rfl (lv_at hl 3 rfl) ?_
          refine va_get (D := D) (ci := 7) (v := .ref (ad 70)) (C := RX7) (T := TX7) (N := 3) hx hb hts inX7 hown hK hP 93 (g_at7 (Nat.le_of_ble_eq_true rfl) rfl) rfl 0 (by decide) lk1 (fun _ h9 => h9) rfl dX7_follow_39 ?_
          refine lv_iload hx hb dX7_follow_42 (lv_at hl 2 rfl) ?_
          refine lv_iload hx hb dX7_follow_44 (lv_at hl 0 rfl) ?_
          refine g_callSi (va_runV (As := [.int x4_3, .int r_8]) (rest := []) ⟨hx, hb, hml, hown, hts⟩ (c_X4_next l D cy ad hI _ iv_4 ar_4 x4_3 r_8) (cwV 2 hts gX7_follow_X4_next rfl rfl rfl (by decide +kernel) ⟨Nat.le_of_ble_eq_true rfl, Nat.le_of_ble_eq_true rfl⟩) (g_preV hP hK hSt hNw hS (g_at4 (Nat.le_of_ble_eq_true rfl) rfl) rfl) rfl rfl hl.1 rfl (lv_room (Nat.le_of_ble_eq_true rfl)) dX7_follow_46 ⟨Nat.zero_le _, Nat.zero_le _⟩) (fun r_9 w_9 => ?_)
          try dsimp only at w_9
          refine lv_istore (lv' := [(7, .int r_9), (6, .int r_8), (5, .int x5_2), (4, .int x4_3), (0, .ref (ad 93)), (1, .ref (ad k2)), (2, .int b), (3, .int d)]) hx hb dX7_follow_49 hl (by decide) rfl (fun ls hl => ?_)
          refine lv_aload_n hx hb dX7_follow_51 rfl (lv_at hl 5 rfl) ?_
          refine lv_iload hx hb dX7_follow_52 (lv_at hl 1 rfl) ?_
          refine lv_aload_n hx hb dX7_follow_54 rfl (lv_at hl 4 rfl) ?_
          refine va_get (D := D) (ci := 7) (v := .ref (ad 70)) (C := RX7) (T := TX7) (N := 3) hx hb hts inX7 hown hK hP 93 (g_at7 (Nat.le_of_ble_eq_true rfl) rfl) rfl 0 (by decide) lk1 (fun _ h9 => h9) rfl dX7_follow_55 ?_
          refine lv_iload hx hb dX7_follow_58 (lv_at hl 3 rfl) ?_
          refine lv_iload hx hb dX7_follow_60 (lv_at hl 1 rfl) ?_
          refine g_callSi (va_runV (As := [.int x4_3, .int r_8]) (rest := [.int r_8, .ref (ad k2)]) ⟨hx, hb, hml, hown, hts⟩ (c_X4_ticks l D cy ad hI _ iv_4 ar_4 x4_3 r_8) (cwV 2 hts gX7_follow_X4_ticks rfl rfl rfl (by decide +kernel) ⟨Nat.le_of_ble_eq_true rfl, Nat.le_of_ble_eq_true rfl⟩) (g_preV hP hK hSt hNw hS (g_at4 (Nat.le_of_ble_eq_true rfl) rfl) rfl) rfl rfl hl.1 rfl (lv_room (Nat.le_of_ble_eq_true rfl)) dX7_follow_62 ⟨Nat.zero_le _, Nat.zero_le _⟩) (fun r_10 w_10 => ?_)
          try dsimp only at w_10
          refine lv_iload hx hb dX7_follow_65 (lv_at hl 0 rfl) ?_
          refine g_callv (va_runV (As := [.int r_8, .int r_10, .int r_9]) (rest := []) ⟨hx, hb, hml, hown, hts⟩ (c_X1_add l D cy ad hI _ iv_4 ar_4 k2 hk_k2 hd_k2 r_8 r_10 r_9) (cwV 3 hts gX7_follow_X1_add rfl rfl rfl (by decide +kernel) ⟨Nat.le_of_ble_eq_true rfl, Nat.le_of_ble_eq_true rfl⟩) (g_preV hP hK hSt hNw hS (g_at1 hk_k2 hd_k2) rfl) rfl rfl hl.1 rfl (lv_room (Nat.le_of_ble_eq_true rfl)) dX7_follow_67 ⟨Nat.zero_le _, Nat.zero_le _⟩) hS (fun iv_11 ar_11 H locs w_11 hP hS => ?_)
          try dsimp only at w_11
          have fk_11 : FK iv iv_11 := hfk.tr (w_11)
          refine lv_iload hx hb dX7_follow_70 (lv_at hl 0 rfl) ?_
          refine lv_istore (lv' := [(4, .int r_9), (7, .int r_9), (6, .int r_8), (5, .int x5_2), (0, .ref (ad 93)), (1, .ref (ad k2)), (2, .int b), (3, .int d)]) hx hb dX7_follow_72 hl (by decide) rfl (fun ls hl => ?_)
          obtain ⟨x5_12, ex5_12⟩ : ∃ y : Int32, y = x5_2 + 1 := ⟨_, rfl⟩
          have tx5_12 : x5_12.toInt = x5_2.toInt + (1 : Int) := i_add (rfl : x5_2.toInt = x5_2.toInt) (show (1 : Int32).toInt = (1 : Int) from rfl) (by omega) (by omega) ex5_12
          refine lv_iinc (v := x5_12) (lv' := [(5, .int x5_12), (4, .int r_9), (7, .int r_9), (6, .int r_8), (0, .ref (ad 93)), (1, .ref (ad k2)), (2, .int b), (3, .int d)]) hx hb dX7_follow_74 hl (k := 3) rfl (by rw [ex5_12]; rfl) (by decide) rfl (fun ls hl => ?_)
          refine lv_goto (tgt := 11) hx hb dX7_follow_77 (by decide) ?_
          exact ih5 x5_12 r_9 iv_11 ar_11 _ _ _ (by omega) fk_11 (by omega) hP hS (lv_sub hl [0, 1, 4, 5, 6, 7] rfl)
  have zl_13 : (0 : Int32).toInt = (0 : Int) := rfl
  exact loop5 (((60 - ((0 : Int))).toNat) + 1) 0 b iv_1 ar_1 _ _ _ (by omega) fk_1 (by omega) hP hS (lv_sub hl [0, 1, 2, 3, 4, 5] rfl)
