set_option maxHeartbeats 4000000 in
set_option maxRecDepth 100000 in
theorem c_X11_goesBack (l : Launch) (D : va_G) (cy : Nat → ClassId) (ad : Nat → Nat) (hI : mInj ad) (sz : Nat) (iv : gIv) (ar : gAr) (a : Int32) (hd : 0 ≤ a.toInt ∧ a.toInt < 6) (hL : 0 ≤ (ar 11 a.toInt.toNat).toInt ∧ (ar 11 a.toInt.toNat).toInt ≤ 60) (hg1 : 0 ≤ (ar 14 a.toInt.toNat).toInt ∧ (ar 14 a.toInt.toNat).toInt < 108) : Met l yX11_goesBack wsX11_goesBack ({ frames := 3, cells := 0, slots := 0, locals := 73 } : Room) (va_Pc [.ref (ad 0), .int a] (mPre D cy ad sz iv ar)) (va_Qv (fun (u : gIv × gAr) => u.1 = iv ∧ (∀ c, c ≠ 17 → u.2 c = ar c) ∧ CEN (ar 1) (ar 15) (ar 16) (u.2 17) ((ar 11 a.toInt.toNat).toInt.toNat) ((ar 14 a.toInt.toNat).toInt.toNat)) (mPost D cy ad) (mA ad sz)) 0 0 (mA ad sz) := by
  refine Met.ofW (cc := cX11_goesBack) (maxL := 7) (ret := none) (by decide) rfl ?_
  intro p e s m args below meth c s₁ B hml hv
  obtain ⟨rfl, rfl, hP, hK, hSt, hNw⟩ := hv
  have hx := B.exec
  have hb := B.bytes
  have hr := B.returns
  have hts := atoms_spec (ws := wsX11_goesBack) B.pre
  have hown : s.vm.findClass RX11 = some m.cls := findClass_of_methodNamed B.named
  have hlocks := B.notSynchronized
  have hS : va_S (mA ad s.heap.size) s.heap s.heap [] := va_S.rf
  have inX11 : ∀ w ∈ u_ws RX11 TX11 30, w ∈ wsX11_goesBack := by decide +kernel
  have lk0 := hts (.fieldLink RX11 45 "FormationPlannerModel" "arrival" "[I") (by decide +kernel)
  have lk1 := hts (.fieldLink RX11 63 "FormationPlannerModel" "canEnd" "[Z") (by decide +kernel)
  have lk2 := hts (.fieldLink RX11 54 "FormationPlannerModel" "goal" "[I") (by decide +kernel)
  have lk3 := hts (.fieldLink RX11 60 "FormationPlannerModel" "isReached" "[Z") (by decide +kernel)
  have hl := lv_entry ([.ref (ad 0), .int a]) (n := 7) (Nat.le_of_ble_eq_true rfl)
  rw [lg_entry_eq]
  generalize (lg_sl ([.ref (ad 0), .int a]) ++ List.replicate (7 - (lg_sl ([.ref (ad 0), .int a])).length) Slot.unset).toArray = ls at hl ⊢
  have hl : lv_has ls 7 [(0, .ref (ad 0)), (1, .int a)] := hl
  obtain ⟨Q, hQ⟩ : ∃ Q, Q = MQ below (va_Qv (fun (u : gIv × gAr) => u.1 = iv ∧ (∀ c, c ≠ 17 → u.2 c = ar c) ∧ CEN (ar 1) (ar 15) (ar 16) (u.2 17) ((ar 11 a.toInt.toNat).toInt.toNat) ((ar 14 a.toInt.toNat).toInt.toNat)) (mPost D cy ad) (mA ad s.heap.size)) (([.ref (ad 0), .int a] : List Value).toArray) s 0 0 (mA ad s.heap.size) := ⟨_, rfl⟩
  rw [← hQ]
  refine lv_aload_n hx hb dX11_goesBack_0 rfl (lv_at hl 0 rfl) ?_
  refine va_get (D := D) (ci := 11) (v := .ref (ad 11)) (C := RX11) (T := TX11) (N := 30) hx hb hts inX11 hown hK hP 0 (m_at11 (Nat.le_of_ble_eq_true rfl) rfl) rfl 21 (by decide) lk0 (fun _ h9 => h9) rfl dX11_goesBack_1 ?_
  refine lv_iload_n hx hb dX11_goesBack_4 rfl (lv_at hl 1 rfl) ?_
  refine va_iald hx hb hK hP 11 0 (m_at12 (Nat.le_of_ble_eq_true rfl) rfl) rfl (g_in (N := 6) (rfl : a.toInt = a.toInt) rfl (by omega) (by omega)) dX11_goesBack_5 ?_
  refine lv_topi (fun v_1 ev_1 => ?_)
  have hv1 : v_1.toInt = (ar 11 a.toInt.toNat).toInt := by rw [ev_1, g_cN (rfl : a.toInt = _)]
  refine lv_istore_n (lv' := [(2, .int v_1), (0, .ref (ad 0)), (1, .int a)]) hx hb dX11_goesBack_6 rfl hl (by decide) rfl (fun ls hl => ?_)
  refine lv_iconst (v := 0) hx hb dX11_goesBack_7 (by decide) ?_
  refine lv_istore_n (lv' := [(3, .int 0), (2, .int v_1), (0, .ref (ad 0)), (1, .int a)]) hx hb dX11_goesBack_8 rfl hl (by decide) rfl (fun ls hl => ?_)
  have loop4 : ∀ (n : Nat) (x3_2 : Int32) (ar_3 : gAr) (H : Heap) (locs : List Loc) (ls : Array Slot), ((6588 - (x3_2.toInt)).toNat) < n → (0 ≤ (x3_2.toInt) ∧ (x3_2.toInt) ≤ 6588) → (∀ c, c ≠ 17 → ar_3 c = ar c) → (∀ i : Nat, (i : Int) < (x3_2.toInt) → (ar_3 17 i).toInt = 0) → va_P D vwCl (MW cy ad iv ar_3) H → va_S (mA ad s.heap.size) s.heap H locs → lv_has ls 7 [(3, .int x3_2), (2, .int v_1), (0, .ref (ad 0)), (1, .int a)] → W p l e (headSpec wsX11_goesBack (({ frames := 3, cells := 0, slots := 0, locals := 73 } : Room))).room s m (([.ref (ad 0), .int a] : List Value).toArray) below meth c H locs 0 0 Q (F0 m 9 ls []) := by
    intro n
    induction n with
    | zero => intro x3_2 ar_3 H locs ls hm; omega
    | succ n ih4 =>
      intro x3_2 ar_3 H locs ls hm hz0 hza hzz hP hS hl
      refine lv_iload_n hx hb dX11_goesBack_9 rfl (lv_at hl 0 rfl) ?_
      refine lv_sipush (v := 6588) hx hb dX11_goesBack_10 (by decide) ?_
      refine lv_icmp_ge (tgt := 29) hx hb dX11_goesBack_13 (by decide) (fun c_5 => ?_) (fun c_5 => ?_)
      · skip
        have q_5 : (6588 : Int) ≤ x3_2.toInt := i_le2 (show (6588 : Int32).toInt = (6588 : Int) from rfl) (rfl : x3_2.toInt = x3_2.toInt) c_5
        refine lv_aload_n hx hb dX11_goesBack_29 rfl (lv_at hl 2 rfl) ?_
        refine va_get (D := D) (ci := 11) (v := .ref (ad 17)) (C := RX11) (T := TX11) (N := 30) hx hb hts inX11 hown hK hP 0 (m_at11 (Nat.le_of_ble_eq_true rfl) rfl) rfl 28 (by decide) lk1 (fun _ h9 => h9) rfl dX11_goesBack_30 ?_
        refine lv_bipush (v := 108) hx hb dX11_goesBack_33 (by decide) ?_
        refine lv_iload_n hx hb dX11_goesBack_35 rfl (lv_at hl 1 rfl) ?_
        refine lv_imul hx hb dX11_goesBack_36 ?_
        refine lv_topi (fun v_6 ev_6 => ?_)
        have tv_6 : v_6.toInt = (108 : Int) * v_1.toInt := i_mul (show (108 : Int32).toInt = (108 : Int) from rfl) (rfl : v_1.toInt = v_1.toInt) (by omega) (by omega) ev_6
        refine lv_aload_n hx hb dX11_goesBack_37 rfl (lv_at hl 2 rfl) ?_
        refine va_get (D := D) (ci := 11) (v := .ref (ad 14)) (C := RX11) (T := TX11) (N := 30) hx hb hts inX11 hown hK hP 0 (m_at11 (Nat.le_of_ble_eq_true rfl) rfl) rfl 24 (by decide) lk2 (fun _ h9 => h9) rfl dX11_goesBack_38 ?_
        refine lv_iload_n hx hb dX11_goesBack_41 rfl (lv_at hl 3 rfl) ?_
        refine va_iald hx hb hK hP 14 0 (m_at12 (Nat.le_of_ble_eq_true rfl) rfl) rfl (g_in (N := 6) (rfl : a.toInt = a.toInt) rfl (by omega) (by omega)) dX11_goesBack_42 ?_
        refine lv_topi (fun v_7 ev_7 => ?_)
        have hv2 : v_7.toInt = (ar 14 a.toInt.toNat).toInt := by rw [ev_7, g_cN (rfl : a.toInt = _), hza 14 (by omega)]
        refine lv_iadd hx hb dX11_goesBack_43 ?_
        refine lv_topi (fun v_8 ev_8 => ?_)
        have tv_8 : v_8.toInt = v_6.toInt + v_7.toInt := i_add (rfl : v_6.toInt = v_6.toInt) (rfl : v_7.toInt = v_7.toInt) (by omega) (by omega) ev_8
        refine lv_iconst (v := 1) hx hb dX11_goesBack_44 (by decide) ?_
        refine va_zast hx hb hK hP (mD hI) hS 17 1 (m_at13 (Nat.le_of_ble_eq_true rfl) rfl) rfl (g_in (N := 6588) (rfl : v_8.toInt = v_8.toInt) rfl (by omega) (by omega)) dX11_goesBack_45 (fun H locs hP _ hS => ?_)
        rw [m_pt13 (Nat.le_of_ble_eq_true rfl) rfl] at hP
        obtain ⟨ar_9, ear_9⟩ : ∃ z : gAr, z = va_up ar_3 17 (upd (ar_3 17) v_8.toNatClampNeg 1) := ⟨_, rfl⟩
        have hP : va_P D vwCl (MW cy ad iv ar_9) H := by rw [ear_9]; exact hP
        have hga0 : ∀ c, c ≠ 17 → ar_9 c = ar c := fun c h => by rw [ear_9, ua_o h]; exact hza c h
        have hge0 : ∀ t c : Nat, (ar 11 a.toInt.toNat).toInt ≤ (t : Int) → t ≤ 60 → c < 108 → EC (ar 1) (ar 15) (ar 16) (ar_9 17) ((ar 11 a.toInt.toNat).toInt.toNat) ((ar 14 a.toInt.toNat).toInt.toNat) t c := fun t c h1 h2 h3 => by
          refine EC.late (by omega) ?_
          rw [ear_9, ua_s, g_cN (rfl : v_8.toInt = _), show (v_8.toInt).toNat = 108 * (ar 11 a.toInt.toNat).toInt.toNat + (ar 14 a.toInt.toNat).toInt.toNat from by omega]
          by_cases e : 108 * t + c = 108 * (ar 11 a.toInt.toNat).toInt.toNat + (ar 14 a.toInt.toNat).toInt.toNat
          · rw [e, pk_us]; exact ⟨fun _ => ⟨by omega, by omega⟩, fun _ => by decide⟩
          · rw [pk_un e]; exact ⟨fun z => absurd (hzz _ (by omega)) z, fun z => absurd (by rw [z.1, z.2]) e⟩
        refine lv_iload_n hx hb dX11_goesBack_46 rfl (lv_at hl 1 rfl) ?_
        refine lv_iconst (v := 1) hx hb dX11_goesBack_47 (by decide) ?_
        refine lv_isub hx hb dX11_goesBack_48 ?_
        refine lv_topi (fun v_10 ev_10 => ?_)
        have tv_10 : v_10.toInt = v_1.toInt - (1 : Int) := i_sub (rfl : v_1.toInt = v_1.toInt) (show (1 : Int32).toInt = (1 : Int) from rfl) (by omega) (by omega) ev_10
        refine lv_istore_n (lv' := [(3, .int v_10), (2, .int v_1), (0, .ref (ad 0)), (1, .int a)]) hx hb dX11_goesBack_49 rfl hl (by decide) rfl (fun ls hl => ?_)
        have loop13 : ∀ (n : Nat) (x3_11 : Int32) (ar_12 : gAr) (H : Heap) (locs : List Loc) (ls : Array Slot), (((x3_11.toInt) + 1).toNat) < n → (-1 ≤ (x3_11.toInt) ∧ (x3_11.toInt) < (ar 11 a.toInt.toNat).toInt) → (∀ c, c ≠ 17 → ar_12 c = ar c) → (∀ t c : Nat, (x3_11.toInt) < (t : Int) → t ≤ 60 → c < 108 → EC (ar 1) (ar 15) (ar 16) (ar_12 17) ((ar 11 a.toInt.toNat).toInt.toNat) ((ar 14 a.toInt.toNat).toInt.toNat) t c) → va_P D vwCl (MW cy ad iv ar_12) H → va_S (mA ad s.heap.size) s.heap H locs → lv_has ls 7 [(3, .int x3_11), (2, .int v_1), (0, .ref (ad 0)), (1, .int a)] → W p l e (headSpec wsX11_goesBack (({ frames := 3, cells := 0, slots := 0, locals := 73 } : Room))).room s m (([.ref (ad 0), .int a] : List Value).toArray) below meth c H locs 0 0 Q (F0 m 50 ls []) := by
          intro n
          induction n with
          | zero => intro x3_11 ar_12 H locs ls hm; omega
          | succ n ih13 =>
            intro x3_11 ar_12 H locs ls hm hg0 hga hge hP hS hl
            refine lv_iload_n hx hb dX11_goesBack_50 rfl (lv_at hl 0 rfl) ?_
            refine lv_if_lt (tgt := 199) hx hb dX11_goesBack_51 (by decide) (fun c_14 => ?_) (fun c_14 => ?_)
            · skip
              have q_14 : x3_11.toInt < (0 : Int) := i_lt2 (rfl : x3_11.toInt = x3_11.toInt) (show (0 : Int32).toInt = (0 : Int) from rfl) c_14
              rw [hQ]
              exact W.vret hx hb hr (fun t ht hW => ⟨⟨(iv, ar_12), rfl, ⟨rfl, hga, fun t c h1 h2 => hge t c (by omega) h1 h2⟩, by show va_P _ _ _ _; rw [ht]; exact hP⟩, hS.F ht⟩) hS.2.2 dX11_goesBack_199
            · skip
              have q_14 : (0 : Int) ≤ x3_11.toInt := i_nlt2 (rfl : x3_11.toInt = x3_11.toInt) (show (0 : Int32).toInt = (0 : Int) from rfl) c_14
              refine lv_iconst (v := 0) hx hb dX11_goesBack_54 (by decide) ?_
              refine lv_istore (lv' := [(4, .int 0), (3, .int x3_11), (2, .int v_1), (0, .ref (ad 0)), (1, .int a)]) hx hb dX11_goesBack_55 hl (by decide) rfl (fun ls hl => ?_)
              have loop17 : ∀ (n : Nat) (x4_15 : Int32) (ar_16 : gAr) (H : Heap) (locs : List Loc) (ls : Array Slot), ((108 - (x4_15.toInt)).toNat) < n → (0 ≤ (x4_15.toInt) ∧ (x4_15.toInt) ≤ 108) → (∀ c, c ≠ 17 → ar_16 c = ar c) → (∀ t c : Nat, (x3_11.toInt) < (t : Int) → t ≤ 60 → c < 108 → EC (ar 1) (ar 15) (ar 16) (ar_16 17) ((ar 11 a.toInt.toNat).toInt.toNat) ((ar 14 a.toInt.toNat).toInt.toNat) t c) → (∀ c : Nat, (c : Int) < (x4_15.toInt) → c < 108 → EC (ar 1) (ar 15) (ar 16) (ar_16 17) ((ar 11 a.toInt.toNat).toInt.toNat) ((ar 14 a.toInt.toNat).toInt.toNat) (x3_11.toInt).toNat c) → va_P D vwCl (MW cy ad iv ar_16) H → va_S (mA ad s.heap.size) s.heap H locs → lv_has ls 7 [(4, .int x4_15), (3, .int x3_11), (2, .int v_1), (0, .ref (ad 0)), (1, .int a)] → W p l e (headSpec wsX11_goesBack (({ frames := 3, cells := 0, slots := 0, locals := 73 } : Room))).room s m (([.ref (ad 0), .int a] : List Value).toArray) below meth c H locs 0 0 Q (F0 m 57 ls []) := by
                intro n
                induction n with
                | zero => intro x4_15 ar_16 H locs ls hm; omega
                | succ n ih17 =>
                  intro x4_15 ar_16 H locs ls hm hn0 hna hne hnc hP hS hl
                  refine lv_iload hx hb dX11_goesBack_57 (lv_at hl 0 rfl) ?_
                  refine lv_bipush (v := 108) hx hb dX11_goesBack_59 (by decide) ?_
                  refine lv_icmp_ge (tgt := 193) hx hb dX11_goesBack_61 (by decide) (fun c_18 => ?_) (fun c_18 => ?_)
                  · skip
                    have q_18 : (108 : Int) ≤ x4_15.toInt := i_le2 (show (108 : Int32).toInt = (108 : Int) from rfl) (rfl : x4_15.toInt = x4_15.toInt) c_18
                    skip
                    obtain ⟨x3_19, ex3_19⟩ : ∃ y : Int32, y = x3_11 + (-1) := ⟨_, rfl⟩
                    have tx3_19 : x3_19.toInt = x3_11.toInt + (-1 : Int) := i_add (rfl : x3_11.toInt = x3_11.toInt) (show ((-1) : Int32).toInt = (-1 : Int) from rfl) (by omega) (by omega) ex3_19
                    refine lv_iinc (v := x3_19) (lv' := [(3, .int x3_19), (4, .int x4_15), (2, .int v_1), (0, .ref (ad 0)), (1, .int a)]) hx hb dX11_goesBack_193 hl (k := 1) rfl (by rw [ex3_19]; rfl) (by decide) rfl (fun ls hl => ?_)
                    refine lv_goto (tgt := 50) hx hb dX11_goesBack_196 (by decide) ?_
                    exact ih13 x3_19 ar_16 _ _ _ (by omega) (by omega) hna (fun t c h1 h2 h3 => (Classical.em ((t : Int) = (x3_11.toInt))).elim (fun e => by
                      have k := hnc c (by omega) h3
                      rw [show (x3_11.toInt).toNat = t from by omega] at k
                      exact k) (fun e => hne t c (by omega) h2 h3)) hP hS (lv_sub hl [0, 2, 3, 4] rfl)
                  · skip
                    have q_18 : x4_15.toInt < (108 : Int) := i_nle2 (show (108 : Int32).toInt = (108 : Int) from rfl) (rfl : x4_15.toInt = x4_15.toInt) c_18
                    refine lv_iconst (v := 0) hx hb dX11_goesBack_64 (by decide) ?_
                    refine lv_istore (lv' := [(5, .int 0), (4, .int x4_15), (3, .int x3_11), (2, .int v_1), (0, .ref (ad 0)), (1, .int a)]) hx hb dX11_goesBack_65 hl (by decide) rfl (fun ls hl => ?_)
                    refine lv_iconst (v := 0) hx hb dX11_goesBack_67 (by decide) ?_
                    refine lv_istore (lv' := [(6, .int 0), (5, .int 0), (4, .int x4_15), (3, .int x3_11), (2, .int v_1), (0, .ref (ad 0)), (1, .int a)]) hx hb dX11_goesBack_68 hl (by decide) rfl (fun ls hl => ?_)
                    have loop22 : ∀ (n : Nat) (x6_20 : Int32) (x5_21 : Int32) (ls : Array Slot), ((7 - (x6_20.toInt)).toNat) < n → (0 ≤ (x6_20.toInt) ∧ (x6_20.toInt) ≤ 7 ∧ 0 ≤ (x5_21.toInt) ∧ (x5_21.toInt) ≤ 1) → (QI (ar 1) (ar 15) (ar 16) (ar_16 17) ((ar 11 a.toInt.toNat).toInt.toNat) (x3_11.toInt).toNat (x4_15.toInt).toNat (x5_21.toInt) (x6_20.toInt)) → lv_has ls 7 [(6, .int x6_20), (5, .int x5_21), (4, .int x4_15), (3, .int x3_11), (2, .int v_1), (0, .ref (ad 0)), (1, .int a)] → W p l e (headSpec wsX11_goesBack (({ frames := 3, cells := 0, slots := 0, locals := 73 } : Room))).room s m (([.ref (ad 0), .int a] : List Value).toArray) below meth c H locs 0 0 Q (F0 m 70 ls []) := by
                      intro n
                      induction n with
                      | zero => intro x6_20 x5_21 ls hm; omega
                      | succ n ih22 =>
                        intro x6_20 x5_21 ls hm hq0 hqi hl
                        refine lv_iload hx hb dX11_goesBack_70 (lv_at hl 0 rfl) ?_
                        refine lv_bipush (v := 7) hx hb dX11_goesBack_72 (by decide) ?_
                        refine lv_icmp_ge (tgt := 173) hx hb dX11_goesBack_74 (by decide) (fun c_23 => ?_) (fun c_23 => ?_)
                        · skip
                          have q_23 : (7 : Int) ≤ x6_20.toInt := i_le2 (show (7 : Int32).toInt = (7 : Int) from rfl) (rfl : x6_20.toInt = x6_20.toInt) c_23
                          have hfin := hqi.fin (by omega)
                          refine lv_aload_n hx hb dX11_goesBack_173 rfl (lv_at hl 5 rfl) ?_
                          refine va_get (D := D) (ci := 11) (v := .ref (ad 17)) (C := RX11) (T := TX11) (N := 30) hx hb hts inX11 hown hK hP 0 (m_at11 (Nat.le_of_ble_eq_true rfl) rfl) rfl 28 (by decide) lk1 (fun _ h9 => h9) rfl dX11_goesBack_174 ?_
                          refine lv_bipush (v := 108) hx hb dX11_goesBack_177 (by decide) ?_
                          refine lv_iload_n hx hb dX11_goesBack_179 rfl (lv_at hl 3 rfl) ?_
                          refine lv_imul hx hb dX11_goesBack_180 ?_
                          refine lv_topi (fun v_24 ev_24 => ?_)
                          have tv_24 : v_24.toInt = (108 : Int) * x3_11.toInt := i_mul (show (108 : Int32).toInt = (108 : Int) from rfl) (rfl : x3_11.toInt = x3_11.toInt) (by omega) (by omega) ev_24
                          refine lv_iload hx hb dX11_goesBack_181 (lv_at hl 2 rfl) ?_
                          refine lv_iadd hx hb dX11_goesBack_183 ?_
                          refine lv_topi (fun v_25 ev_25 => ?_)
                          have tv_25 : v_25.toInt = v_24.toInt + x4_15.toInt := i_add (rfl : v_24.toInt = v_24.toInt) (rfl : x4_15.toInt = x4_15.toInt) (by omega) (by omega) ev_25
                          refine lv_iload hx hb dX11_goesBack_184 (lv_at hl 1 rfl) ?_
                          refine va_zast hx hb hK hP (mD hI) hS 17 1 (m_at13 (Nat.le_of_ble_eq_true rfl) rfl) rfl (g_in (N := 6588) (rfl : v_25.toInt = v_25.toInt) rfl (by omega) (by omega)) dX11_goesBack_186 (fun H locs hP _ hS => ?_)
                          rw [m_pt13 (Nat.le_of_ble_eq_true rfl) rfl] at hP
                          obtain ⟨ar_26, ear_26⟩ : ∃ z : gAr, z = va_up ar_16 17 (upd (ar_16 17) v_25.toNatClampNeg x5_21) := ⟨_, rfl⟩
                          rw [nar01 (by omega)] at hP
                          have hP : va_P D vwCl (MW cy ad iv ar_26) H := by rw [ear_26]; exact hP
                          have har : ar_26 17 = upd (ar_16 17) (108 * (x3_11.toInt).toNat + (x4_15.toInt).toNat) x5_21 := by rw [ear_26, ua_s, g_cN (rfl : v_25.toInt = _), show (v_25.toInt).toNat = 108 * (x3_11.toInt).toNat + (x4_15.toInt).toNat from by omega]
                          have hna2 : ∀ c, c ≠ 17 → ar_26 c = ar c := fun c h => by rw [ear_26, ua_o h]; exact hna c h
                          have hne2 : ∀ t c : Nat, (x3_11.toInt) < (t : Int) → t ≤ 60 → c < 108 → EC (ar 1) (ar 15) (ar 16) (ar_26 17) ((ar 11 a.toInt.toNat).toInt.toNat) ((ar 14 a.toInt.toNat).toInt.toNat) t c := fun t c h1 h2 h3 => by
                            rw [har]
                            exact (hne t c h1 h2 h3).oth h3 (by omega) (Or.inl (by omega))
                          have hnc2 : ∀ c : Nat, (c : Int) < (x4_15.toInt) + 1 → c < 108 → EC (ar 1) (ar 15) (ar 16) (ar_26 17) ((ar 11 a.toInt.toNat).toInt.toNat) ((ar 14 a.toInt.toNat).toInt.toNat) (x3_11.toInt).toNat c := fun c h1 h2 => by
                            rw [har]
                            by_cases e : c = (x4_15.toInt).toNat
                            · rw [e]; exact EC.set (by omega) hfin (by omega)
                            · exact (hnc c (by omega) h2).oth h2 (by omega) (Or.inr ⟨rfl, by omega⟩)
                          clear hfin
                          obtain ⟨x4_27, ex4_27⟩ : ∃ y : Int32, y = x4_15 + 1 := ⟨_, rfl⟩
                          have tx4_27 : x4_27.toInt = x4_15.toInt + (1 : Int) := i_add (rfl : x4_15.toInt = x4_15.toInt) (show (1 : Int32).toInt = (1 : Int) from rfl) (by omega) (by omega) ex4_27
                          refine lv_iinc (v := x4_27) (lv' := [(4, .int x4_27), (6, .int x6_20), (5, .int x5_21), (3, .int x3_11), (2, .int v_1), (0, .ref (ad 0)), (1, .int a)]) hx hb dX11_goesBack_187 hl (k := 2) rfl (by rw [ex4_27]; rfl) (by decide) rfl (fun ls hl => ?_)
                          refine lv_goto (tgt := 57) hx hb dX11_goesBack_190 (by decide) ?_
                          exact ih17 x4_27 ar_26 _ _ _ (by omega) (by omega) hna2 hne2 (fun c hc => hnc2 c (by omega)) hP hS (lv_sub hl [0, 3, 4, 5, 6] rfl)
                        · skip
                          have q_23 : x6_20.toInt < (7 : Int) := i_nle2 (show (7 : Int32).toInt = (7 : Int) from rfl) (rfl : x6_20.toInt = x6_20.toInt) c_23
                          refine lv_aload_n hx hb dX11_goesBack_77 rfl (lv_at hl 5 rfl) ?_
                          refine va_get (D := D) (ci := 11) (v := .ref (ad 16)) (C := RX11) (T := TX11) (N := 30) hx hb hts inX11 hown hK hP 0 (m_at11 (Nat.le_of_ble_eq_true rfl) rfl) rfl 27 (by decide) lk3 (fun _ h9 => h9) rfl dX11_goesBack_78 ?_
                          refine lv_bipush (v := 108) hx hb dX11_goesBack_81 (by decide) ?_
                          refine lv_iload_n hx hb dX11_goesBack_83 rfl (lv_at hl 3 rfl) ?_
                          refine lv_imul hx hb dX11_goesBack_84 ?_
                          refine lv_topi (fun v_28 ev_28 => ?_)
                          have tv_28 : v_28.toInt = (108 : Int) * x3_11.toInt := i_mul (show (108 : Int32).toInt = (108 : Int) from rfl) (rfl : x3_11.toInt = x3_11.toInt) (by omega) (by omega) ev_28
                          refine lv_iload hx hb dX11_goesBack_85 (lv_at hl 2 rfl) ?_
                          refine lv_iadd hx hb dX11_goesBack_87 ?_
                          refine lv_topi (fun v_29 ev_29 => ?_)
                          have tv_29 : v_29.toInt = v_28.toInt + x4_15.toInt := i_add (rfl : v_28.toInt = v_28.toInt) (rfl : x4_15.toInt = x4_15.toInt) (by omega) (by omega) ev_29
                          refine va_zald hx hb hK hP 16 1 (m_at13 (Nat.le_of_ble_eq_true rfl) rfl) rfl (g_in (N := 6588) (rfl : v_29.toInt = v_29.toInt) rfl (by omega) (by omega)) dX11_goesBack_88 ?_
                          refine lv_topi (fun v_30 ev_30 => ?_)
                          have hv5 : v_30.toInt = (ar 16 (108 * (x3_11.toInt).toNat + (x4_15.toInt).toNat)).toInt := by rw [ev_30, g_cN (rfl : v_29.toInt = _), hna 16 (by omega), show (v_29.toInt).toNat = 108 * (x3_11.toInt).toNat + (x4_15.toInt).toNat from by omega]
                          refine lv_if_eq (tgt := 173) hx hb dX11_goesBack_89 (by decide) (fun c_31 => ?_) (fun c_31 => ?_)
                          · skip
                            have q_31 : v_30.toInt = (0 : Int) := i_eq2 (rfl : v_30.toInt = v_30.toInt) (show (0 : Int32).toInt = (0 : Int) from rfl) c_31
                            have hfin := hqi.fin (by omega)
                            refine lv_aload_n hx hb dX11_goesBack_173 rfl (lv_at hl 5 rfl) ?_
                            refine va_get (D := D) (ci := 11) (v := .ref (ad 17)) (C := RX11) (T := TX11) (N := 30) hx hb hts inX11 hown hK hP 0 (m_at11 (Nat.le_of_ble_eq_true rfl) rfl) rfl 28 (by decide) lk1 (fun _ h9 => h9) rfl dX11_goesBack_174 ?_
                            refine lv_bipush (v := 108) hx hb dX11_goesBack_177 (by decide) ?_
                            refine lv_iload_n hx hb dX11_goesBack_179 rfl (lv_at hl 3 rfl) ?_
                            refine lv_imul hx hb dX11_goesBack_180 ?_
                            refine lv_topi (fun v_32 ev_32 => ?_)
                            have tv_32 : v_32.toInt = (108 : Int) * x3_11.toInt := i_mul (show (108 : Int32).toInt = (108 : Int) from rfl) (rfl : x3_11.toInt = x3_11.toInt) (by omega) (by omega) ev_32
                            refine lv_iload hx hb dX11_goesBack_181 (lv_at hl 2 rfl) ?_
                            refine lv_iadd hx hb dX11_goesBack_183 ?_
                            refine lv_topi (fun v_33 ev_33 => ?_)
                            have tv_33 : v_33.toInt = v_32.toInt + x4_15.toInt := i_add (rfl : v_32.toInt = v_32.toInt) (rfl : x4_15.toInt = x4_15.toInt) (by omega) (by omega) ev_33
                            refine lv_iload hx hb dX11_goesBack_184 (lv_at hl 1 rfl) ?_
                            refine va_zast hx hb hK hP (mD hI) hS 17 1 (m_at13 (Nat.le_of_ble_eq_true rfl) rfl) rfl (g_in (N := 6588) (rfl : v_33.toInt = v_33.toInt) rfl (by omega) (by omega)) dX11_goesBack_186 (fun H locs hP _ hS => ?_)
                            rw [m_pt13 (Nat.le_of_ble_eq_true rfl) rfl] at hP
                            obtain ⟨ar_34, ear_34⟩ : ∃ z : gAr, z = va_up ar_16 17 (upd (ar_16 17) v_33.toNatClampNeg x5_21) := ⟨_, rfl⟩
                            rw [nar01 (by omega)] at hP
                            have hP : va_P D vwCl (MW cy ad iv ar_34) H := by rw [ear_34]; exact hP
                            have har : ar_34 17 = upd (ar_16 17) (108 * (x3_11.toInt).toNat + (x4_15.toInt).toNat) x5_21 := by rw [ear_34, ua_s, g_cN (rfl : v_33.toInt = _), show (v_33.toInt).toNat = 108 * (x3_11.toInt).toNat + (x4_15.toInt).toNat from by omega]
                            have hna2 : ∀ c, c ≠ 17 → ar_34 c = ar c := fun c h => by rw [ear_34, ua_o h]; exact hna c h
                            have hne2 : ∀ t c : Nat, (x3_11.toInt) < (t : Int) → t ≤ 60 → c < 108 → EC (ar 1) (ar 15) (ar 16) (ar_34 17) ((ar 11 a.toInt.toNat).toInt.toNat) ((ar 14 a.toInt.toNat).toInt.toNat) t c := fun t c h1 h2 h3 => by
                              rw [har]
                              exact (hne t c h1 h2 h3).oth h3 (by omega) (Or.inl (by omega))
                            have hnc2 : ∀ c : Nat, (c : Int) < (x4_15.toInt) + 1 → c < 108 → EC (ar 1) (ar 15) (ar 16) (ar_34 17) ((ar 11 a.toInt.toNat).toInt.toNat) ((ar 14 a.toInt.toNat).toInt.toNat) (x3_11.toInt).toNat c := fun c h1 h2 => by
                              rw [har]
                              by_cases e : c = (x4_15.toInt).toNat
                              · rw [e]; exact EC.set (by omega) hfin (by omega)
                              · exact (hnc c (by omega) h2).oth h2 (by omega) (Or.inr ⟨rfl, by omega⟩)
                            clear hfin
                            obtain ⟨x4_35, ex4_35⟩ : ∃ y : Int32, y = x4_15 + 1 := ⟨_, rfl⟩
                            have tx4_35 : x4_35.toInt = x4_15.toInt + (1 : Int) := i_add (rfl : x4_15.toInt = x4_15.toInt) (show (1 : Int32).toInt = (1 : Int) from rfl) (by omega) (by omega) ex4_35
                            refine lv_iinc (v := x4_35) (lv' := [(4, .int x4_35), (6, .int x6_20), (5, .int x5_21), (3, .int x3_11), (2, .int v_1), (0, .ref (ad 0)), (1, .int a)]) hx hb dX11_goesBack_187 hl (k := 2) rfl (by rw [ex4_35]; rfl) (by decide) rfl (fun ls hl => ?_)
                            refine lv_goto (tgt := 57) hx hb dX11_goesBack_190 (by decide) ?_
                            exact ih17 x4_35 ar_34 _ _ _ (by omega) (by omega) hna2 hne2 (fun c hc => hnc2 c (by omega)) hP hS (lv_sub hl [0, 3, 4, 5, 6] rfl)
                          · skip
                            have q_31 : v_30.toInt ≠ (0 : Int) := i_ne2 (rfl : v_30.toInt = v_30.toInt) (show (0 : Int32).toInt = (0 : Int) from rfl) c_31
                            refine lv_iload hx hb dX11_goesBack_92 (lv_at hl 1 rfl) ?_
                            refine lv_if_ne (tgt := 173) hx hb dX11_goesBack_94 (by decide) (fun c_36 => ?_) (fun c_36 => ?_)
                            · skip
                              have q_36 : x5_21.toInt ≠ (0 : Int) := i_ne2 (rfl : x5_21.toInt = x5_21.toInt) (show (0 : Int32).toInt = (0 : Int) from rfl) c_36
                              have hfin := hqi.fin (by omega)
                              refine lv_aload_n hx hb dX11_goesBack_173 rfl (lv_at hl 5 rfl) ?_
                              refine va_get (D := D) (ci := 11) (v := .ref (ad 17)) (C := RX11) (T := TX11) (N := 30) hx hb hts inX11 hown hK hP 0 (m_at11 (Nat.le_of_ble_eq_true rfl) rfl) rfl 28 (by decide) lk1 (fun _ h9 => h9) rfl dX11_goesBack_174 ?_
                              refine lv_bipush (v := 108) hx hb dX11_goesBack_177 (by decide) ?_
                              refine lv_iload_n hx hb dX11_goesBack_179 rfl (lv_at hl 3 rfl) ?_
                              refine lv_imul hx hb dX11_goesBack_180 ?_
                              refine lv_topi (fun v_37 ev_37 => ?_)
                              have tv_37 : v_37.toInt = (108 : Int) * x3_11.toInt := i_mul (show (108 : Int32).toInt = (108 : Int) from rfl) (rfl : x3_11.toInt = x3_11.toInt) (by omega) (by omega) ev_37
                              refine lv_iload hx hb dX11_goesBack_181 (lv_at hl 2 rfl) ?_
                              refine lv_iadd hx hb dX11_goesBack_183 ?_
                              refine lv_topi (fun v_38 ev_38 => ?_)
                              have tv_38 : v_38.toInt = v_37.toInt + x4_15.toInt := i_add (rfl : v_37.toInt = v_37.toInt) (rfl : x4_15.toInt = x4_15.toInt) (by omega) (by omega) ev_38
                              refine lv_iload hx hb dX11_goesBack_184 (lv_at hl 1 rfl) ?_
                              refine va_zast hx hb hK hP (mD hI) hS 17 1 (m_at13 (Nat.le_of_ble_eq_true rfl) rfl) rfl (g_in (N := 6588) (rfl : v_38.toInt = v_38.toInt) rfl (by omega) (by omega)) dX11_goesBack_186 (fun H locs hP _ hS => ?_)
                              rw [m_pt13 (Nat.le_of_ble_eq_true rfl) rfl] at hP
                              obtain ⟨ar_39, ear_39⟩ : ∃ z : gAr, z = va_up ar_16 17 (upd (ar_16 17) v_38.toNatClampNeg x5_21) := ⟨_, rfl⟩
                              rw [nar01 (by omega)] at hP
                              have hP : va_P D vwCl (MW cy ad iv ar_39) H := by rw [ear_39]; exact hP
                              have har : ar_39 17 = upd (ar_16 17) (108 * (x3_11.toInt).toNat + (x4_15.toInt).toNat) x5_21 := by rw [ear_39, ua_s, g_cN (rfl : v_38.toInt = _), show (v_38.toInt).toNat = 108 * (x3_11.toInt).toNat + (x4_15.toInt).toNat from by omega]
                              have hna2 : ∀ c, c ≠ 17 → ar_39 c = ar c := fun c h => by rw [ear_39, ua_o h]; exact hna c h
                              have hne2 : ∀ t c : Nat, (x3_11.toInt) < (t : Int) → t ≤ 60 → c < 108 → EC (ar 1) (ar 15) (ar 16) (ar_39 17) ((ar 11 a.toInt.toNat).toInt.toNat) ((ar 14 a.toInt.toNat).toInt.toNat) t c := fun t c h1 h2 h3 => by
                                rw [har]
                                exact (hne t c h1 h2 h3).oth h3 (by omega) (Or.inl (by omega))
                              have hnc2 : ∀ c : Nat, (c : Int) < (x4_15.toInt) + 1 → c < 108 → EC (ar 1) (ar 15) (ar 16) (ar_39 17) ((ar 11 a.toInt.toNat).toInt.toNat) ((ar 14 a.toInt.toNat).toInt.toNat) (x3_11.toInt).toNat c := fun c h1 h2 => by
                                rw [har]
                                by_cases e : c = (x4_15.toInt).toNat
                                · rw [e]; exact EC.set (by omega) hfin (by omega)
                                · exact (hnc c (by omega) h2).oth h2 (by omega) (Or.inr ⟨rfl, by omega⟩)
                              clear hfin
                              obtain ⟨x4_40, ex4_40⟩ : ∃ y : Int32, y = x4_15 + 1 := ⟨_, rfl⟩
                              have tx4_40 : x4_40.toInt = x4_15.toInt + (1 : Int) := i_add (rfl : x4_15.toInt = x4_15.toInt) (show (1 : Int32).toInt = (1 : Int) from rfl) (by omega) (by omega) ex4_40
                              refine lv_iinc (v := x4_40) (lv' := [(4, .int x4_40), (6, .int x6_20), (5, .int x5_21), (3, .int x3_11), (2, .int v_1), (0, .ref (ad 0)), (1, .int a)]) hx hb dX11_goesBack_187 hl (k := 2) rfl (by rw [ex4_40]; rfl) (by decide) rfl (fun ls hl => ?_)
                              refine lv_goto (tgt := 57) hx hb dX11_goesBack_190 (by decide) ?_
                              exact ih17 x4_40 ar_39 _ _ _ (by omega) (by omega) hna2 hne2 (fun c hc => hnc2 c (by omega)) hP hS (lv_sub hl [0, 3, 4, 5, 6] rfl)
                            · skip
                              have q_36 : x5_21.toInt = (0 : Int) := i_eq2 (rfl : x5_21.toInt = x5_21.toInt) (show (0 : Int32).toInt = (0 : Int) from rfl) c_36
                              refine lv_iload_n hx hb dX11_goesBack_97 rfl (lv_at hl 3 rfl) ?_
                              refine lv_aload_n hx hb dX11_goesBack_98 rfl (lv_at hl 5 rfl) ?_
                              refine lv_iload hx hb dX11_goesBack_99 (lv_at hl 2 rfl) ?_
                              refine lv_iload hx hb dX11_goesBack_101 (lv_at hl 0 rfl) ?_
                              refine g_callSi (va_runV (As := [.int x4_15, .int x6_20]) (rest := [.int x3_11]) ⟨hx, hb, hml, hown, hts⟩ (c_X11_ticks l D cy ad hI _ iv ar_16 x4_15 x6_20 (by omega) (by omega)) (cwV 2 hts gX11_goesBack_X11_ticks rfl rfl rfl (by decide +kernel) ⟨Nat.le_of_ble_eq_true rfl, Nat.le_of_ble_eq_true rfl⟩) (m_preV hP hK hSt hNw hS (m_at11 (Nat.le_of_ble_eq_true rfl) rfl) rfl) rfl rfl hl.1 rfl (lv_room (Nat.le_of_ble_eq_true rfl)) dX11_goesBack_103 ⟨Nat.zero_le _, Nat.zero_le _⟩) (fun r_41 w_41 => ?_)
                              try dsimp only at w_41
                              have htk := w_41
                              rw [hna 1 (by omega)] at htk
                              have htb := TK_b (f := ar 1) (c := (x4_15.toInt).toNat) (q := (x6_20.toInt).toNat)
                              refine lv_iadd hx hb dX11_goesBack_106 ?_
                              refine lv_topi (fun v_42 ev_42 => ?_)
                              have tv_42 : v_42.toInt = x3_11.toInt + r_41.toInt := i_add (rfl : x3_11.toInt = x3_11.toInt) (rfl : r_41.toInt = r_41.toInt) (by omega) (by omega) ev_42
                              refine lv_iload_n hx hb dX11_goesBack_107 rfl (lv_at hl 4 rfl) ?_
                              refine lv_icmp_gt (tgt := 164) hx hb dX11_goesBack_108 (by decide) (fun c_43 => ?_) (fun c_43 => ?_)
                              · skip
                                have q_43 : v_1.toInt < v_42.toInt := i_lt2 (rfl : v_1.toInt = v_1.toInt) (rfl : v_42.toInt = v_42.toInt) c_43
                                refine lv_iconst (v := 0) hx hb dX11_goesBack_164 (by decide) ?_
                                have hq2 : QI (ar 1) (ar 15) (ar 16) (ar_16 17) ((ar 11 a.toInt.toNat).toInt.toNat) (x3_11.toInt).toNat (x4_15.toInt).toNat 0 ((x6_20.toInt) + 1) := QI.no hqi (by omega) (by omega) (fun z => by
                                  obtain ⟨z1, z2, z3⟩ := z
                                  first
                                  | exact hmn z1
                                  | (rw [← hv6] at z3; exact z3 hv7)
                                  | (exfalso; omega))
                                refine lv_istore (lv' := [(5, .int 0), (6, .int x6_20), (4, .int x4_15), (3, .int x3_11), (2, .int v_1), (0, .ref (ad 0)), (1, .int a)]) hx hb dX11_goesBack_165 hl (by decide) rfl (fun ls hl => ?_)
                                obtain ⟨x6_44, ex6_44⟩ : ∃ y : Int32, y = x6_20 + 1 := ⟨_, rfl⟩
                                have tx6_44 : x6_44.toInt = x6_20.toInt + (1 : Int) := i_add (rfl : x6_20.toInt = x6_20.toInt) (show (1 : Int32).toInt = (1 : Int) from rfl) (by omega) (by omega) ex6_44
                                refine lv_iinc (v := x6_44) (lv' := [(6, .int x6_44), (5, .int 0), (4, .int x4_15), (3, .int x3_11), (2, .int v_1), (0, .ref (ad 0)), (1, .int a)]) hx hb dX11_goesBack_167 hl (k := 1) rfl (by rw [ex6_44]; rfl) (by decide) rfl (fun ls hl => ?_)
                                refine lv_goto (tgt := 70) hx hb dX11_goesBack_170 (by decide) ?_
                                have zl_45 : (0 : Int32).toInt = (0 : Int) := rfl
                                exact ih22 x6_44 0 _ (by omega) (by omega) (by rw [show (x6_44.toInt) = (x6_20.toInt) + 1 from by omega]; exact hq2) (lv_sub hl [0, 1, 2, 3, 4, 5, 6] rfl)
                              · skip
                                have q_43 : v_42.toInt ≤ v_1.toInt := i_nlt2 (rfl : v_1.toInt = v_1.toInt) (rfl : v_42.toInt = v_42.toInt) c_43
                                refine lv_aload_n hx hb dX11_goesBack_111 rfl (lv_at hl 5 rfl) ?_
                                refine lv_iload hx hb dX11_goesBack_112 (lv_at hl 2 rfl) ?_
                                refine lv_iload hx hb dX11_goesBack_114 (lv_at hl 0 rfl) ?_
                                refine lv_iload_n hx hb dX11_goesBack_116 rfl (lv_at hl 3 rfl) ?_
                                refine g_callSi (va_runV (As := [.int x4_15, .int x6_20, .int x3_11]) (rest := []) ⟨hx, hb, hml, hown, hts⟩ (c_X11_mayDo l D cy ad hI _ iv ar_16 x4_15 x6_20 x3_11 (by omega) (by omega) (by omega)) (cwV 3 hts gX11_goesBack_X11_mayDo rfl rfl rfl (by decide +kernel) ⟨Nat.le_of_ble_eq_true rfl, Nat.le_of_ble_eq_true rfl⟩) (m_preV hP hK hSt hNw hS (m_at11 (Nat.le_of_ble_eq_true rfl) rfl) rfl) rfl rfl hl.1 rfl (lv_room (Nat.le_of_ble_eq_true rfl)) dX11_goesBack_117 ⟨Nat.zero_le _, Nat.zero_le _⟩) (fun r_46 w_46 => ?_)
                                try dsimp only at w_46
                                have hmd0 := w_46
                                rw [hna 1 (by omega), hna 15 (by omega), show (x3_11.toInt) = (((x3_11.toInt).toNat : Nat) : Int) from by omega] at hmd0
                                refine lv_if_eq (tgt := 164) hx hb dX11_goesBack_120 (by decide) (fun c_47 => ?_) (fun c_47 => ?_)
                                · skip
                                  have q_47 : r_46.toInt = (0 : Int) := i_eq2 (rfl : r_46.toInt = r_46.toInt) (show (0 : Int32).toInt = (0 : Int) from rfl) c_47
                                  have hmn : ¬ MD (ar 1) (ar 15) (x4_15.toInt).toNat (x6_20.toInt).toNat ((x3_11.toInt).toNat : Int) := by
                                    rcases hmd0 with ⟨z, -⟩ | ⟨-, z⟩
                                    · exfalso; omega
                                    · exact z
                                  refine lv_iconst (v := 0) hx hb dX11_goesBack_164 (by decide) ?_
                                  have hq2 : QI (ar 1) (ar 15) (ar 16) (ar_16 17) ((ar 11 a.toInt.toNat).toInt.toNat) (x3_11.toInt).toNat (x4_15.toInt).toNat 0 ((x6_20.toInt) + 1) := QI.no hqi (by omega) (by omega) (fun z => by
                                    obtain ⟨z1, z2, z3⟩ := z
                                    first
                                    | exact hmn z1
                                    | (rw [← hv6] at z3; exact z3 hv7)
                                    | (exfalso; omega))
                                  refine lv_istore (lv' := [(5, .int 0), (6, .int x6_20), (4, .int x4_15), (3, .int x3_11), (2, .int v_1), (0, .ref (ad 0)), (1, .int a)]) hx hb dX11_goesBack_165 hl (by decide) rfl (fun ls hl => ?_)
                                  obtain ⟨x6_48, ex6_48⟩ : ∃ y : Int32, y = x6_20 + 1 := ⟨_, rfl⟩
                                  have tx6_48 : x6_48.toInt = x6_20.toInt + (1 : Int) := i_add (rfl : x6_20.toInt = x6_20.toInt) (show (1 : Int32).toInt = (1 : Int) from rfl) (by omega) (by omega) ex6_48
                                  refine lv_iinc (v := x6_48) (lv' := [(6, .int x6_48), (5, .int 0), (4, .int x4_15), (3, .int x3_11), (2, .int v_1), (0, .ref (ad 0)), (1, .int a)]) hx hb dX11_goesBack_167 hl (k := 1) rfl (by rw [ex6_48]; rfl) (by decide) rfl (fun ls hl => ?_)
                                  refine lv_goto (tgt := 70) hx hb dX11_goesBack_170 (by decide) ?_
                                  have zl_49 : (0 : Int32).toInt = (0 : Int) := rfl
                                  exact ih22 x6_48 0 _ (by omega) (by omega) (by rw [show (x6_48.toInt) = (x6_20.toInt) + 1 from by omega]; exact hq2) (lv_sub hl [0, 1, 2, 3, 4, 5, 6] rfl)
                                · skip
                                  have q_47 : r_46.toInt ≠ (0 : Int) := i_ne2 (rfl : r_46.toInt = r_46.toInt) (show (0 : Int32).toInt = (0 : Int) from rfl) c_47
                                  have hmd : MD (ar 1) (ar 15) (x4_15.toInt).toNat (x6_20.toInt).toNat ((x3_11.toInt).toNat : Int) := by
                                    rcases hmd0 with ⟨-, z⟩ | ⟨z, -⟩
                                    · exact z
                                    · exfalso; omega
                                  have hmb := hmd.b (by omega) (by omega)
                                  refine lv_aload_n hx hb dX11_goesBack_123 rfl (lv_at hl 5 rfl) ?_
                                  refine va_get (D := D) (ci := 11) (v := .ref (ad 17)) (C := RX11) (T := TX11) (N := 30) hx hb hts inX11 hown hK hP 0 (m_at11 (Nat.le_of_ble_eq_true rfl) rfl) rfl 28 (by decide) lk1 (fun _ h9 => h9) rfl dX11_goesBack_124 ?_
                                  refine lv_bipush (v := 108) hx hb dX11_goesBack_127 (by decide) ?_
                                  refine lv_iload_n hx hb dX11_goesBack_129 rfl (lv_at hl 3 rfl) ?_
                                  refine lv_aload_n hx hb dX11_goesBack_130 rfl (lv_at hl 5 rfl) ?_
                                  refine lv_iload hx hb dX11_goesBack_131 (lv_at hl 2 rfl) ?_
                                  refine lv_iload hx hb dX11_goesBack_133 (lv_at hl 0 rfl) ?_
                                  refine g_callSi (va_runV (As := [.int x4_15, .int x6_20]) (rest := [.int x3_11, .int 108, .ref (ad 17)]) ⟨hx, hb, hml, hown, hts⟩ (c_X11_ticks l D cy ad hI _ iv ar_16 x4_15 x6_20 (by omega) (by omega)) (cwV 2 hts gX11_goesBack_X11_ticks rfl rfl rfl (by decide +kernel) ⟨Nat.le_of_ble_eq_true rfl, Nat.le_of_ble_eq_true rfl⟩) (m_preV hP hK hSt hNw hS (m_at11 (Nat.le_of_ble_eq_true rfl) rfl) rfl) rfl rfl hl.1 rfl (lv_room (Nat.le_of_ble_eq_true rfl)) dX11_goesBack_135 ⟨Nat.zero_le _, Nat.zero_le _⟩) (fun r_50 w_50 => ?_)
                                  try dsimp only at w_50
                                  have htk2 := w_50
                                  rw [hna 1 (by omega)] at htk2
                                  refine lv_iadd hx hb dX11_goesBack_138 ?_
                                  refine lv_topi (fun v_51 ev_51 => ?_)
                                  have tv_51 : v_51.toInt = x3_11.toInt + r_50.toInt := i_add (rfl : x3_11.toInt = x3_11.toInt) (rfl : r_50.toInt = r_50.toInt) (by omega) (by omega) ev_51
                                  refine lv_imul hx hb dX11_goesBack_139 ?_
                                  refine lv_topi (fun v_52 ev_52 => ?_)
                                  have tv_52 : v_52.toInt = (108 : Int) * v_51.toInt := i_mul (show (108 : Int32).toInt = (108 : Int) from rfl) (rfl : v_51.toInt = v_51.toInt) (by omega) (by omega) ev_52
                                  refine lv_iload hx hb dX11_goesBack_140 (lv_at hl 2 rfl) ?_
                                  refine lv_iload hx hb dX11_goesBack_142 (lv_at hl 0 rfl) ?_
                                  refine lv_aload_n hx hb dX11_goesBack_144 rfl (lv_at hl 5 rfl) ?_
                                  refine lv_iload hx hb dX11_goesBack_145 (lv_at hl 2 rfl) ?_
                                  refine lv_iload hx hb dX11_goesBack_147 (lv_at hl 0 rfl) ?_
                                  refine g_callSi (va_runV (As := [.int x4_15, .int x6_20]) (rest := [.int x6_20, .int x4_15, .int v_52, .ref (ad 17)]) ⟨hx, hb, hml, hown, hts⟩ (c_X11_next l D cy ad hI _ iv ar_16 x4_15 x6_20 (by omega) (by omega)) (cwV 2 hts gX11_goesBack_X11_next rfl rfl rfl (by decide +kernel) ⟨Nat.le_of_ble_eq_true rfl, Nat.le_of_ble_eq_true rfl⟩) (m_preV hP hK hSt hNw hS (m_at11 (Nat.le_of_ble_eq_true rfl) rfl) rfl) rfl rfl hl.1 rfl (lv_room (Nat.le_of_ble_eq_true rfl)) dX11_goesBack_149 ⟨Nat.zero_le _, Nat.zero_le _⟩) (fun r_53 w_53 => ?_)
                                  try dsimp only at w_53
                                  have hnx := w_53
                                  rw [hna 1 (by omega)] at hnx
                                  refine g_callSi (va_runS (As := [.int x4_15, .int x6_20, .int r_53]) (rest := [.int v_52, .ref (ad 17)]) ⟨hx, hb, hml, hown, hts⟩ (c_X11_where l x4_15 x6_20 r_53) (va_cwS 3 hts gX11_goesBack_X11_where rfl rfl rfl (by decide +kernel) ⟨Nat.le_of_ble_eq_true rfl, Nat.le_of_ble_eq_true rfl⟩) (g_preT) rfl rfl hl.1 rfl (lv_room (Nat.le_of_ble_eq_true rfl)) dX11_goesBack_152 ⟨Nat.zero_le _, Nat.zero_le _⟩) (fun r_54 w_54 => ?_)
                                  try dsimp only at w_54
                                  have hwh : r_54.toInt.toNat = WH (ar 1) (x4_15.toInt).toNat (x6_20.toInt).toNat := by
                                    unfold WH
                                    rw [w_54]
                                    by_cases e : (x6_20.toInt) = 0
                                    · rw [if_pos e, if_pos (by omega)]
                                    · rw [if_neg e, if_neg (by omega), hnx]
                                  have hwb : 0 ≤ r_54.toInt := by
                                    rw [w_54]
                                    rcases hmd with ⟨e, -⟩ | ⟨e, e2, -⟩
                                    · rw [if_pos (by omega)]; omega
                                    · rw [if_neg (by omega), hnx]; exact e2
                                  refine lv_iadd hx hb dX11_goesBack_155 ?_
                                  refine lv_topi (fun v_55 ev_55 => ?_)
                                  have rg_56 := i_rng r_54
                                  have tv_55 : v_55.toInt = v_52.toInt + r_54.toInt := i_add (rfl : v_52.toInt = v_52.toInt) (rfl : r_54.toInt = r_54.toInt) (by omega) (by omega) ev_55
                                  refine va_zald hx hb hK hP 17 1 (m_at13 (Nat.le_of_ble_eq_true rfl) rfl) rfl (g_in (N := 6588) (rfl : v_55.toInt = v_55.toInt) rfl (by omega) (by omega)) dX11_goesBack_156 ?_
                                  refine lv_topi (fun v_57 ev_57 => ?_)
                                  have hv6 : v_57 = ar_16 17 (108 * ((x3_11.toInt).toNat + (TK (ar 1) (x4_15.toInt).toNat (x6_20.toInt).toNat).toNat) + WH (ar 1) (x4_15.toInt).toNat (x6_20.toInt).toNat) := by rw [ev_57, g_cN (rfl : v_55.toInt = _), show (v_55.toInt).toNat = 108 * ((x3_11.toInt).toNat + (TK (ar 1) (x4_15.toInt).toNat (x6_20.toInt).toNat).toNat) + WH (ar 1) (x4_15.toInt).toNat (x6_20.toInt).toNat from by rw [← hwh]; omega]
                                  refine lv_if_eq (tgt := 164) hx hb dX11_goesBack_157 (by decide) (fun c_58 => ?_) (fun c_58 => ?_)
                                  · skip
                                    have q_58 : v_57.toInt = (0 : Int) := i_eq2 (rfl : v_57.toInt = v_57.toInt) (show (0 : Int32).toInt = (0 : Int) from rfl) c_58
                                    have hv7 := q_58
                                    refine lv_iconst (v := 0) hx hb dX11_goesBack_164 (by decide) ?_
                                    have hq2 : QI (ar 1) (ar 15) (ar 16) (ar_16 17) ((ar 11 a.toInt.toNat).toInt.toNat) (x3_11.toInt).toNat (x4_15.toInt).toNat 0 ((x6_20.toInt) + 1) := QI.no hqi (by omega) (by omega) (fun z => by
                                      obtain ⟨z1, z2, z3⟩ := z
                                      first
                                      | exact hmn z1
                                      | (rw [← hv6] at z3; exact z3 hv7)
                                      | (exfalso; omega))
                                    refine lv_istore (lv' := [(5, .int 0), (6, .int x6_20), (4, .int x4_15), (3, .int x3_11), (2, .int v_1), (0, .ref (ad 0)), (1, .int a)]) hx hb dX11_goesBack_165 hl (by decide) rfl (fun ls hl => ?_)
                                    obtain ⟨x6_59, ex6_59⟩ : ∃ y : Int32, y = x6_20 + 1 := ⟨_, rfl⟩
                                    have tx6_59 : x6_59.toInt = x6_20.toInt + (1 : Int) := i_add (rfl : x6_20.toInt = x6_20.toInt) (show (1 : Int32).toInt = (1 : Int) from rfl) (by omega) (by omega) ex6_59
                                    refine lv_iinc (v := x6_59) (lv' := [(6, .int x6_59), (5, .int 0), (4, .int x4_15), (3, .int x3_11), (2, .int v_1), (0, .ref (ad 0)), (1, .int a)]) hx hb dX11_goesBack_167 hl (k := 1) rfl (by rw [ex6_59]; rfl) (by decide) rfl (fun ls hl => ?_)
                                    refine lv_goto (tgt := 70) hx hb dX11_goesBack_170 (by decide) ?_
                                    have zl_60 : (0 : Int32).toInt = (0 : Int) := rfl
                                    exact ih22 x6_59 0 _ (by omega) (by omega) (by rw [show (x6_59.toInt) = (x6_20.toInt) + 1 from by omega]; exact hq2) (lv_sub hl [0, 1, 2, 3, 4, 5, 6] rfl)
                                  · skip
                                    have q_58 : v_57.toInt ≠ (0 : Int) := i_ne2 (rfl : v_57.toInt = v_57.toInt) (show (0 : Int32).toInt = (0 : Int) from rfl) c_58
                                    have hv7 := q_58
                                    refine lv_iconst (v := 1) hx hb dX11_goesBack_160 (by decide) ?_
                                    refine lv_goto (tgt := 165) hx hb dX11_goesBack_161 (by decide) ?_
                                    have hq2 : QI (ar 1) (ar 15) (ar 16) (ar_16 17) ((ar 11 a.toInt.toNat).toInt.toNat) (x3_11.toInt).toNat (x4_15.toInt).toNat 1 ((x6_20.toInt) + 1) := QI.yes (by omega) (by omega) ⟨hmd, by omega, by rw [← hv6]; exact hv7⟩
                                    refine lv_istore (lv' := [(5, .int 1), (6, .int x6_20), (4, .int x4_15), (3, .int x3_11), (2, .int v_1), (0, .ref (ad 0)), (1, .int a)]) hx hb dX11_goesBack_165 hl (by decide) rfl (fun ls hl => ?_)
                                    obtain ⟨x6_61, ex6_61⟩ : ∃ y : Int32, y = x6_20 + 1 := ⟨_, rfl⟩
                                    have tx6_61 : x6_61.toInt = x6_20.toInt + (1 : Int) := i_add (rfl : x6_20.toInt = x6_20.toInt) (show (1 : Int32).toInt = (1 : Int) from rfl) (by omega) (by omega) ex6_61
                                    refine lv_iinc (v := x6_61) (lv' := [(6, .int x6_61), (5, .int 1), (4, .int x4_15), (3, .int x3_11), (2, .int v_1), (0, .ref (ad 0)), (1, .int a)]) hx hb dX11_goesBack_167 hl (k := 1) rfl (by rw [ex6_61]; rfl) (by decide) rfl (fun ls hl => ?_)
                                    refine lv_goto (tgt := 70) hx hb dX11_goesBack_170 (by decide) ?_
                                    have zl_62 : (1 : Int32).toInt = (1 : Int) := rfl
                                    exact ih22 x6_61 1 _ (by omega) (by omega) (by rw [show (x6_61.toInt) = (x6_20.toInt) + 1 from by omega]; exact hq2) (lv_sub hl [0, 1, 2, 3, 4, 5, 6] rfl)
                    have zl_63 : (0 : Int32).toInt = (0 : Int) := rfl
                    have zl_64 : (0 : Int32).toInt = (0 : Int) := rfl
                    exact loop22 (((7 - ((0 : Int))).toNat) + 1) 0 0 _ (by omega) (by omega) QI.init (lv_sub hl [0, 1, 2, 3, 4, 5, 6] rfl)
              have zl_65 : (0 : Int32).toInt = (0 : Int) := rfl
              exact loop17 (((108 - ((0 : Int))).toNat) + 1) 0 ar_12 _ _ _ (by omega) (by omega) hga hge (fun c hc => by exfalso; omega) hP hS (lv_sub hl [0, 1, 2, 3, 4] rfl)
        exact loop13 ((((v_10.toInt) + 1).toNat) + 1) v_10 ar_9 _ _ _ (by omega) (by omega) hga0 (fun t c h1 => hge0 t c (by omega)) hP hS (lv_sub hl [0, 1, 2, 3] rfl)
      · skip
        have q_5 : x3_2.toInt < (6588 : Int) := i_nle2 (show (6588 : Int32).toInt = (6588 : Int) from rfl) (rfl : x3_2.toInt = x3_2.toInt) c_5
        refine lv_aload_n hx hb dX11_goesBack_16 rfl (lv_at hl 2 rfl) ?_
        refine va_get (D := D) (ci := 11) (v := .ref (ad 17)) (C := RX11) (T := TX11) (N := 30) hx hb hts inX11 hown hK hP 0 (m_at11 (Nat.le_of_ble_eq_true rfl) rfl) rfl 28 (by decide) lk1 (fun _ h9 => h9) rfl dX11_goesBack_17 ?_
        refine lv_iload_n hx hb dX11_goesBack_20 rfl (lv_at hl 0 rfl) ?_
        refine lv_iconst (v := 0) hx hb dX11_goesBack_21 (by decide) ?_
        refine va_zast hx hb hK hP (mD hI) hS 17 1 (m_at13 (Nat.le_of_ble_eq_true rfl) rfl) rfl (g_in (N := 6588) (rfl : x3_2.toInt = x3_2.toInt) rfl (by omega) (by omega)) dX11_goesBack_22 (fun H locs hP _ hS => ?_)
        rw [m_pt13 (Nat.le_of_ble_eq_true rfl) rfl] at hP
        obtain ⟨ar_66, ear_66⟩ : ∃ z : gAr, z = va_up ar_3 17 (upd (ar_3 17) x3_2.toNatClampNeg 0) := ⟨_, rfl⟩
        have hP : va_P D vwCl (MW cy ad iv ar_66) H := by rw [ear_66]; exact hP
        have hza2 : ∀ c, c ≠ 17 → ar_66 c = ar c := fun c h => by rw [ear_66, ua_o h]; exact hza c h
        have hzz2 : ∀ i : Nat, (i : Int) < (x3_2.toInt) + 1 → (ar_66 17 i).toInt = 0 := fun i hi => by
          rw [ear_66, ua_s, g_cN (rfl : x3_2.toInt = _)]
          by_cases e : i = (x3_2.toInt).toNat
          · rw [e, pk_us]; rfl
          · rw [pk_un e]; exact hzz i (by omega)
        obtain ⟨x3_67, ex3_67⟩ : ∃ y : Int32, y = x3_2 + 1 := ⟨_, rfl⟩
        have tx3_67 : x3_67.toInt = x3_2.toInt + (1 : Int) := i_add (rfl : x3_2.toInt = x3_2.toInt) (show (1 : Int32).toInt = (1 : Int) from rfl) (by omega) (by omega) ex3_67
        refine lv_iinc (v := x3_67) (lv' := [(3, .int x3_67), (2, .int v_1), (0, .ref (ad 0)), (1, .int a)]) hx hb dX11_goesBack_23 hl (k := 0) rfl (by rw [ex3_67]; rfl) (by decide) rfl (fun ls hl => ?_)
        refine lv_goto (tgt := 9) hx hb dX11_goesBack_26 (by decide) ?_
        exact ih4 x3_67 ar_66 _ _ _ (by omega) (by omega) hza2 (fun i hi => hzz2 i (by omega)) hP hS (lv_sub hl [0, 1, 2, 3] rfl)
  have zl_68 : (0 : Int32).toInt = (0 : Int) := rfl
  exact loop4 (((6588 - ((0 : Int))).toNat) + 1) 0 ar _ _ _ (by omega) (by omega) (fun _ _ => rfl) (fun i hi => by exfalso; omega) hP hS (lv_sub hl [0, 1, 2, 3] rfl)
set_option maxHeartbeats 4000000 in
set_option maxRecDepth 100000 in
theorem c_X11_writes (l : Launch) (D : va_G) (cy : Nat → ClassId) (ad : Nat → Nat) (hI : mInj ad) (sz : Nat) (iv : gIv) (ar : gAr) (a : Int32) (hd : 0 ≤ a.toInt ∧ a.toInt < 6) (hL : 0 ≤ (ar 11 a.toInt.toNat).toInt ∧ (ar 11 a.toInt.toNat).toInt ≤ 60) (hg1 : 0 ≤ (ar 14 a.toInt.toNat).toInt ∧ (ar 14 a.toInt.toNat).toInt < 108) (hst : 0 ≤ (ar 1 (112 + a.toInt.toNat)).toInt ∧ (ar 1 (112 + a.toInt.toNat)).toInt < 108) (hce : CEN (ar 1) (ar 15) (ar 16) (ar 17) ((ar 11 a.toInt.toNat).toInt.toNat) ((ar 14 a.toInt.toNat).toInt.toNat)) (hrc : RCH (ar 1) (ar 15) (ar 16) ((ar 1 (112 + a.toInt.toNat)).toInt.toNat)) (hmk : (ar 16 (108 * (ar 11 a.toInt.toNat).toInt.toNat + (ar 14 a.toInt.toNat).toInt.toNat)).toInt ≠ 0) : Met l yX11_writes wsX11_writes ({ frames := 3, cells := 0, slots := 0, locals := 73 } : Room) (va_Pc [.ref (ad 0), .int a] (mPre D cy ad sz iv ar)) (va_Qv (fun (u : gIv × gAr) => u.1 = iv ∧ (∀ c, c ≠ 9 → c ≠ 10 → u.2 c = ar c) ∧ (∀ i : Nat, ¬ (61 * a.toInt.toNat ≤ i ∧ i < 61 * a.toInt.toNat + 61) → u.2 9 i = ar 9 i) ∧ ∀ i : Nat, i < 61 → GD (ar 1) ((ar 14 a.toInt.toNat).toInt.toNat) (u.2 9 (61 * a.toInt.toNat + i))) (mPost D cy ad) (mA ad sz)) 0 0 (mA ad sz) := by
  refine Met.ofW (cc := cX11_writes) (maxL := 8) (ret := none) (by decide) rfl ?_
  intro p e s m args below meth c s₁ B hml hv
  obtain ⟨rfl, rfl, hP, hK, hSt, hNw⟩ := hv
  have hx := B.exec
  have hb := B.bytes
  have hr := B.returns
  have hts := atoms_spec (ws := wsX11_writes) B.pre
  have hown : s.vm.findClass RX11 = some m.cls := findClass_of_methodNamed B.named
  have hlocks := B.notSynchronized
  have hS : va_S (mA ad s.heap.size) s.heap s.heap [] := va_S.rf
  have inX11 : ∀ w ∈ u_ws RX11 TX11 30, w ∈ wsX11_writes := by decide +kernel
  have lk0 := hts (.fieldLink RX11 45 "FormationPlannerModel" "arrival" "[I") (by decide +kernel)
  have lk1 := hts (.fieldLink RX11 9 "FormationPlannerModel" "s" "[I") (by decide +kernel)
  have lk2 := hts (.fieldLink RX11 63 "FormationPlannerModel" "canEnd" "[Z") (by decide +kernel)
  have hl := lv_entry ([.ref (ad 0), .int a]) (n := 8) (Nat.le_of_ble_eq_true rfl)
  rw [lg_entry_eq]
  generalize (lg_sl ([.ref (ad 0), .int a]) ++ List.replicate (8 - (lg_sl ([.ref (ad 0), .int a])).length) Slot.unset).toArray = ls at hl ⊢
  have hl : lv_has ls 8 [(0, .ref (ad 0)), (1, .int a)] := hl
  obtain ⟨Q, hQ⟩ : ∃ Q, Q = MQ below (va_Qv (fun (u : gIv × gAr) => u.1 = iv ∧ (∀ c, c ≠ 9 → c ≠ 10 → u.2 c = ar c) ∧ (∀ i : Nat, ¬ (61 * a.toInt.toNat ≤ i ∧ i < 61 * a.toInt.toNat + 61) → u.2 9 i = ar 9 i) ∧ ∀ i : Nat, i < 61 → GD (ar 1) ((ar 14 a.toInt.toNat).toInt.toNat) (u.2 9 (61 * a.toInt.toNat + i))) (mPost D cy ad) (mA ad s.heap.size)) (([.ref (ad 0), .int a] : List Value).toArray) s 0 0 (mA ad s.heap.size) := ⟨_, rfl⟩
  rw [← hQ]
  have hob := (hrc ((ar 11 a.toInt.toNat).toInt.toNat) ((ar 14 a.toInt.toNat).toInt.toNat) (by omega) (by omega) hmk).1
  have hE0 := hce.start hrc (by omega) (by omega) hmk
  have hdb := hce.db hrc (by omega) (by omega) hob ((ar 11 a.toInt.toNat).toInt.toNat)
  refine lv_aload_n hx hb dX11_writes_0 rfl (lv_at hl 0 rfl) ?_
  refine va_get (D := D) (ci := 11) (v := .ref (ad 11)) (C := RX11) (T := TX11) (N := 30) hx hb hts inX11 hown hK hP 0 (m_at11 (Nat.le_of_ble_eq_true rfl) rfl) rfl 21 (by decide) lk0 (fun _ h9 => h9) rfl dX11_writes_1 ?_
  refine lv_iload_n hx hb dX11_writes_4 rfl (lv_at hl 1 rfl) ?_
  refine va_iald hx hb hK hP 11 0 (m_at12 (Nat.le_of_ble_eq_true rfl) rfl) rfl (g_in (N := 6) (rfl : a.toInt = a.toInt) rfl (by omega) (by omega)) dX11_writes_5 ?_
  refine lv_topi (fun v_1 ev_1 => ?_)
  have hv1 : v_1.toInt = (ar 11 a.toInt.toNat).toInt := by rw [ev_1, g_cN (rfl : a.toInt = _)]
  refine lv_istore_n (lv' := [(2, .int v_1), (0, .ref (ad 0)), (1, .int a)]) hx hb dX11_writes_6 rfl hl (by decide) rfl (fun ls hl => ?_)
  refine lv_aload_n hx hb dX11_writes_7 rfl (lv_at hl 1 rfl) ?_
  refine va_get (D := D) (ci := 11) (v := .ref (ad 1)) (C := RX11) (T := TX11) (N := 30) hx hb hts inX11 hown hK hP 0 (m_at11 (Nat.le_of_ble_eq_true rfl) rfl) rfl 0 (by decide) lk1 (fun _ h9 => h9) rfl dX11_writes_8 ?_
  refine lv_bipush (v := 112) hx hb dX11_writes_11 (by decide) ?_
  refine lv_iload_n hx hb dX11_writes_13 rfl (lv_at hl 2 rfl) ?_
  refine lv_iadd hx hb dX11_writes_14 ?_
  refine lv_topi (fun v_2 ev_2 => ?_)
  have tv_2 : v_2.toInt = (112 : Int) + a.toInt := i_add (show (112 : Int32).toInt = (112 : Int) from rfl) (rfl : a.toInt = a.toInt) (by omega) (by omega) ev_2
  refine va_iald hx hb hK hP 1 0 (m_at12 (Nat.le_of_ble_eq_true rfl) rfl) rfl (g_in (N := 126) (rfl : v_2.toInt = v_2.toInt) rfl (by omega) (by omega)) dX11_writes_15 ?_
  refine lv_topi (fun v_3 ev_3 => ?_)
  have hv2 : v_3.toInt = (ar 1 (112 + a.toInt.toNat)).toInt := by rw [ev_3, g_cN (rfl : v_2.toInt = _), show (v_2.toInt).toNat = 112 + a.toInt.toNat from by omega]
  refine lv_istore_n (lv' := [(3, .int v_3), (2, .int v_1), (0, .ref (ad 0)), (1, .int a)]) hx hb dX11_writes_16 rfl hl (by decide) rfl (fun ls hl => ?_)
  refine lv_iconst (v := 0) hx hb dX11_writes_17 (by decide) ?_
  refine lv_istore (lv' := [(4, .int 0), (3, .int v_3), (2, .int v_1), (0, .ref (ad 0)), (1, .int a)]) hx hb dX11_writes_18 hl (by decide) rfl (fun ls hl => ?_)
  have loop7 : ∀ (n : Nat) (x4_4 : Int32) (x3_5 : Int32) (ar_6 : gAr) (H : Heap) (locs : List Loc) (ls : Array Slot), (((v_1.toInt) - (x4_4.toInt)).toNat) < n → (0 ≤ (x4_4.toInt) ∧ (x4_4.toInt) ≤ (v_1.toInt) ∧ 0 ≤ (x3_5.toInt) ∧ (x3_5.toInt) < 108) → ((ar 17 (108 * (x4_4.toInt).toNat + (x3_5.toInt).toNat)).toInt ≠ 0) → (∀ c, c ≠ 9 → c ≠ 10 → ar_6 c = ar c) → (∀ i : Nat, (i : Int) < (x4_4.toInt) → GD (ar 1) ((ar 14 a.toInt.toNat).toInt.toNat) (ar_6 9 (61 * a.toInt.toNat + i))) → (∀ i : Nat, ¬ (61 * a.toInt.toNat ≤ i ∧ i < 61 * a.toInt.toNat + 61) → ar_6 9 i = ar 9 i) → va_P D vwCl (MW cy ad iv ar_6) H → va_S (mA ad s.heap.size) s.heap H locs → lv_has ls 8 [(4, .int x4_4), (3, .int x3_5), (2, .int v_1), (0, .ref (ad 0)), (1, .int a)] → W p l e (headSpec wsX11_writes (({ frames := 3, cells := 0, slots := 0, locals := 73 } : Room))).room s m (([.ref (ad 0), .int a] : List Value).toArray) below meth c H locs 0 0 Q (F0 m 20 ls []) := by
    intro n
    induction n with
    | zero => intro x4_4 x3_5 ar_6 H locs ls hm; omega
    | succ n ih7 =>
      intro x4_4 x3_5 ar_6 H locs ls hm hg0 hgE hga hgw hgo hP hS hl
      refine lv_iload hx hb dX11_writes_20 (lv_at hl 0 rfl) ?_
      refine lv_iload_n hx hb dX11_writes_22 rfl (lv_at hl 2 rfl) ?_
      refine lv_icmp_ge (tgt := 158) hx hb dX11_writes_23 (by decide) (fun c_8 => ?_) (fun c_8 => ?_)
      · skip
        have q_8 : v_1.toInt ≤ x4_4.toInt := i_le2 (rfl : v_1.toInt = v_1.toInt) (rfl : x4_4.toInt = x4_4.toInt) c_8
        have hcg : (x3_5.toInt) = (ar 14 a.toInt.toNat).toInt := by
          rcases (hce (x4_4.toInt).toNat (x3_5.toInt).toNat (by omega) (by omega)).mp hgE with ⟨-, z⟩ | ⟨z, -⟩
          · omega
          · exfalso; omega
        have hgd : GD (ar 1) ((ar 14 a.toInt.toNat).toInt.toNat) x3_5 := ⟨by omega, by omega, (hdb (x4_4.toInt).toNat (x3_5.toInt).toNat (by omega) (by omega) (by omega) hgE).more (by omega)⟩
        refine lv_iload_n hx hb dX11_writes_158 rfl (lv_at hl 2 rfl) ?_
        refine lv_istore (lv' := [(5, .int v_1), (4, .int x4_4), (3, .int x3_5), (2, .int v_1), (0, .ref (ad 0)), (1, .int a)]) hx hb dX11_writes_159 hl (by decide) rfl (fun ls hl => ?_)
        have loop11 : ∀ (n : Nat) (x5_9 : Int32) (ar_10 : gAr) (H : Heap) (locs : List Loc) (ls : Array Slot), ((61 - (x5_9.toInt)).toNat) < n → (0 ≤ (x5_9.toInt) ∧ (x5_9.toInt) ≤ 61) → (∀ c, c ≠ 9 → c ≠ 10 → ar_10 c = ar c) → (∀ i : Nat, (i : Int) < (x5_9.toInt) → GD (ar 1) ((ar 14 a.toInt.toNat).toInt.toNat) (ar_10 9 (61 * a.toInt.toNat + i))) → (∀ i : Nat, ¬ (61 * a.toInt.toNat ≤ i ∧ i < 61 * a.toInt.toNat + 61) → ar_10 9 i = ar 9 i) → va_P D vwCl (MW cy ad iv ar_10) H → va_S (mA ad s.heap.size) s.heap H locs → lv_has ls 8 [(5, .int x5_9), (4, .int x4_4), (3, .int x3_5), (2, .int v_1), (0, .ref (ad 0)), (1, .int a)] → W p l e (headSpec wsX11_writes (({ frames := 3, cells := 0, slots := 0, locals := 73 } : Room))).room s m (([.ref (ad 0), .int a] : List Value).toArray) below meth c H locs 0 0 Q (F0 m 161 ls []) := by
          intro n
          induction n with
          | zero => intro x5_9 ar_10 H locs ls hm; omega
          | succ n ih11 =>
            intro x5_9 ar_10 H locs ls hm hr0 hra hrw hro hP hS hl
            refine lv_iload hx hb dX11_writes_161 (lv_at hl 0 rfl) ?_
            refine lv_bipush (v := 60) hx hb dX11_writes_163 (by decide) ?_
            refine lv_icmp_gt (tgt := 183) hx hb dX11_writes_165 (by decide) (fun c_12 => ?_) (fun c_12 => ?_)
            · skip
              have q_12 : (60 : Int) < x5_9.toInt := i_lt2 (show (60 : Int32).toInt = (60 : Int) from rfl) (rfl : x5_9.toInt = x5_9.toInt) c_12
              rw [hQ]
              exact W.vret hx hb hr (fun t ht hW => ⟨⟨(iv, ar_10), rfl, ⟨rfl, hra, hro, fun i hi => hrw i (by omega)⟩, by show va_P _ _ _ _; rw [ht]; exact hP⟩, hS.F ht⟩) hS.2.2 dX11_writes_183
            · skip
              have q_12 : x5_9.toInt ≤ (60 : Int) := i_nlt2 (show (60 : Int32).toInt = (60 : Int) from rfl) (rfl : x5_9.toInt = x5_9.toInt) c_12
              refine lv_aload_n hx hb dX11_writes_168 rfl (lv_at hl 4 rfl) ?_
              refine lv_iload_n hx hb dX11_writes_169 rfl (lv_at hl 5 rfl) ?_
              refine lv_iload hx hb dX11_writes_170 (lv_at hl 0 rfl) ?_
              refine lv_iload_n hx hb dX11_writes_172 rfl (lv_at hl 2 rfl) ?_
              refine lv_iconst (v := 0) hx hb dX11_writes_173 (by decide) ?_
              have zl_13 : (0 : Int32).toInt = (0 : Int) := rfl
              refine m_callv (va_runV (As := [.int a, .int x5_9, .int x3_5, .int 0]) (rest := []) ⟨hx, hb, hml, hown, hts⟩ (c_X11_put l D cy ad hI _ iv ar_10 a x5_9 x3_5 0 (by omega) (by omega)) (cwV 4 hts gX11_writes_X11_put rfl rfl rfl (by decide +kernel) ⟨Nat.le_of_ble_eq_true rfl, Nat.le_of_ble_eq_true rfl⟩) (m_preV hP hK hSt hNw hS (m_at11 (Nat.le_of_ble_eq_true rfl) rfl) rfl) rfl rfl hl.1 rfl (lv_room (Nat.le_of_ble_eq_true rfl)) dX11_writes_174 ⟨Nat.zero_le _, Nat.zero_le _⟩) hS (fun iv_14 ar_14 H locs w_14 hP hS => ?_)
              try dsimp only at w_14
              have wi_14 := (w_14.1).symm
              subst wi_14
              obtain ⟨-, q1, q2, -⟩ := w_14
              have hra2 : ∀ c, c ≠ 9 → c ≠ 10 → ar_14 c = ar c := fun c h9 h10 => (q1 c h9 h10).trans (hra c h9 h10)
              have hro2 : ∀ i : Nat, ¬ (61 * a.toInt.toNat ≤ i ∧ i < 61 * a.toInt.toNat + 61) → ar_14 9 i = ar 9 i := fun i hi => by rw [q2, pk_un (show i ≠ 61 * a.toInt.toNat + (x5_9.toInt).toNat from by omega)]; exact hro i hi
              have hrw2 : ∀ i : Nat, (i : Int) < (x5_9.toInt) + 1 → GD (ar 1) ((ar 14 a.toInt.toNat).toInt.toNat) (ar_14 9 (61 * a.toInt.toNat + i)) := fun i hi => by
                rw [q2]
                by_cases e : i = (x5_9.toInt).toNat
                · rw [e, pk_us]; exact hgd
                · rw [pk_un (show 61 * a.toInt.toNat + i ≠ 61 * a.toInt.toNat + (x5_9.toInt).toNat from by omega)]; exact hrw i (by omega)
              obtain ⟨x5_15, ex5_15⟩ : ∃ y : Int32, y = x5_9 + 1 := ⟨_, rfl⟩
              have tx5_15 : x5_15.toInt = x5_9.toInt + (1 : Int) := i_add (rfl : x5_9.toInt = x5_9.toInt) (show (1 : Int32).toInt = (1 : Int) from rfl) (by omega) (by omega) ex5_15
              refine lv_iinc (v := x5_15) (lv' := [(5, .int x5_15), (4, .int x4_4), (3, .int x3_5), (2, .int v_1), (0, .ref (ad 0)), (1, .int a)]) hx hb dX11_writes_177 hl (k := 0) rfl (by rw [ex5_15]; rfl) (by decide) rfl (fun ls hl => ?_)
              refine lv_goto (tgt := 161) hx hb dX11_writes_180 (by decide) ?_
              exact ih11 x5_15 ar_14 _ _ _ (by omega) (by omega) hra2 (fun i hi => hrw2 i (by omega)) hro2 hP hS (lv_sub hl [0, 1, 2, 3, 4, 5] rfl)
        exact loop11 (((61 - (v_1.toInt)).toNat) + 1) v_1 ar_6 _ _ _ (by omega) (by omega) hga (fun i hi => hgw i (by omega)) hgo hP hS (lv_sub hl [0, 1, 2, 3, 4, 5] rfl)
      · skip
        have q_8 : x4_4.toInt < v_1.toInt := i_nle2 (rfl : v_1.toInt = v_1.toInt) (rfl : x4_4.toInt = x4_4.toInt) c_8
        obtain ⟨q0, hq0, hcq⟩ : ∃ q, q < 7 ∧ CQ (ar 1) (ar 15) (ar 17) ((ar 11 a.toInt.toNat).toInt.toNat) (x4_4.toInt).toNat (x3_5.toInt).toNat q := by
          rcases (hce (x4_4.toInt).toNat (x3_5.toInt).toNat (by omega) (by omega)).mp hgE with ⟨z, -⟩ | ⟨-, -, z⟩
          · exfalso; omega
          · exact z
        have hgd : GD (ar 1) ((ar 14 a.toInt.toNat).toInt.toNat) x3_5 := ⟨by omega, by omega, (hdb (x4_4.toInt).toNat (x3_5.toInt).toNat (by omega) (by omega) (by omega) hgE).more (by omega)⟩
        refine lv_iconst (v := 0) hx hb dX11_writes_26 (by decide) ?_
        refine lv_istore (lv' := [(5, .int 0), (4, .int x4_4), (3, .int x3_5), (2, .int v_1), (0, .ref (ad 0)), (1, .int a)]) hx hb dX11_writes_27 hl (by decide) rfl (fun ls hl => ?_)
        have loop17 : ∀ (n : Nat) (x5_16 : Int32) (ls : Array Slot), ((7 - (x5_16.toInt)).toNat) < n → (0 ≤ (x5_16.toInt) ∧ (x5_16.toInt) ≤ (q0 : Int)) → lv_has ls 8 [(5, .int x5_16), (4, .int x4_4), (3, .int x3_5), (2, .int v_1), (0, .ref (ad 0)), (1, .int a)] → W p l e (headSpec wsX11_writes (({ frames := 3, cells := 0, slots := 0, locals := 73 } : Room))).room s m (([.ref (ad 0), .int a] : List Value).toArray) below meth c H locs 0 0 Q (F0 m 29 ls []) := by
          intro n
          induction n with
          | zero => intro x5_16 ls hm; omega
          | succ n ih17 =>
            intro x5_16 ls hm hk0 hl
            refine lv_iload hx hb dX11_writes_29 (lv_at hl 1 rfl) ?_
            refine lv_aload_n hx hb dX11_writes_31 rfl (lv_at hl 4 rfl) ?_
            refine lv_iload_n hx hb dX11_writes_32 rfl (lv_at hl 2 rfl) ?_
            refine lv_iload hx hb dX11_writes_33 (lv_at hl 0 rfl) ?_
            refine g_callSi (va_runV (As := [.int x3_5, .int x5_16]) (rest := [.int x4_4]) ⟨hx, hb, hml, hown, hts⟩ (c_X11_ticks l D cy ad hI _ iv ar_6 x3_5 x5_16 (by omega) (by omega)) (cwV 2 hts gX11_writes_X11_ticks rfl rfl rfl (by decide +kernel) ⟨Nat.le_of_ble_eq_true rfl, Nat.le_of_ble_eq_true rfl⟩) (m_preV hP hK hSt hNw hS (m_at11 (Nat.le_of_ble_eq_true rfl) rfl) rfl) rfl rfl hl.1 rfl (lv_room (Nat.le_of_ble_eq_true rfl)) dX11_writes_35 ⟨Nat.zero_le _, Nat.zero_le _⟩) (fun r_18 w_18 => ?_)
            try dsimp only at w_18
            have htk := w_18
            rw [hga 1 (by omega) (by omega)] at htk
            have htb := TK_b (f := ar 1) (c := (x3_5.toInt).toNat) (q := (x5_16.toInt).toNat)
            refine lv_iadd hx hb dX11_writes_38 ?_
            refine lv_topi (fun v_19 ev_19 => ?_)
            have tv_19 : v_19.toInt = x4_4.toInt + r_18.toInt := i_add (rfl : x4_4.toInt = x4_4.toInt) (rfl : r_18.toInt = r_18.toInt) (by omega) (by omega) ev_19
            refine lv_iload_n hx hb dX11_writes_39 rfl (lv_at hl 3 rfl) ?_
            refine lv_icmp_gt (tgt := 90) hx hb dX11_writes_40 (by decide) (fun c_20 => ?_) (fun c_20 => ?_)
            · skip
              have q_20 : v_1.toInt < v_19.toInt := i_lt2 (rfl : v_1.toInt = v_1.toInt) (rfl : v_19.toInt = v_19.toInt) c_20
              have hne : (x5_16.toInt) ≠ (q0 : Int) := fun e => by
                have e2 : q0 = (x5_16.toInt).toNat := by omega
                rw [e2] at hcq
                obtain ⟨z1, z2, z3⟩ := hcq
                first
                | exact hmn z1
                | (rw [← hv6] at z3; exact z3 hv7)
                | omega
              obtain ⟨x5_21, ex5_21⟩ : ∃ y : Int32, y = x5_16 + 1 := ⟨_, rfl⟩
              have tx5_21 : x5_21.toInt = x5_16.toInt + (1 : Int) := i_add (rfl : x5_16.toInt = x5_16.toInt) (show (1 : Int32).toInt = (1 : Int) from rfl) (by omega) (by omega) ex5_21
              refine lv_iinc (v := x5_21) (lv' := [(5, .int x5_21), (4, .int x4_4), (3, .int x3_5), (2, .int v_1), (0, .ref (ad 0)), (1, .int a)]) hx hb dX11_writes_90 hl (k := 0) rfl (by rw [ex5_21]; rfl) (by decide) rfl (fun ls hl => ?_)
              refine lv_goto (tgt := 29) hx hb dX11_writes_93 (by decide) ?_
              exact ih17 x5_21 _ (by omega) (by omega) (lv_sub hl [0, 1, 2, 3, 4, 5] rfl)
            · skip
              have q_20 : v_19.toInt ≤ v_1.toInt := i_nlt2 (rfl : v_1.toInt = v_1.toInt) (rfl : v_19.toInt = v_19.toInt) c_20
              refine lv_aload_n hx hb dX11_writes_43 rfl (lv_at hl 4 rfl) ?_
              refine lv_iload_n hx hb dX11_writes_44 rfl (lv_at hl 2 rfl) ?_
              refine lv_iload hx hb dX11_writes_45 (lv_at hl 0 rfl) ?_
              refine lv_iload hx hb dX11_writes_47 (lv_at hl 1 rfl) ?_
              refine g_callSi (va_runV (As := [.int x3_5, .int x5_16, .int x4_4]) (rest := []) ⟨hx, hb, hml, hown, hts⟩ (c_X11_mayDo l D cy ad hI _ iv ar_6 x3_5 x5_16 x4_4 (by omega) (by omega) (by omega)) (cwV 3 hts gX11_writes_X11_mayDo rfl rfl rfl (by decide +kernel) ⟨Nat.le_of_ble_eq_true rfl, Nat.le_of_ble_eq_true rfl⟩) (m_preV hP hK hSt hNw hS (m_at11 (Nat.le_of_ble_eq_true rfl) rfl) rfl) rfl rfl hl.1 rfl (lv_room (Nat.le_of_ble_eq_true rfl)) dX11_writes_49 ⟨Nat.zero_le _, Nat.zero_le _⟩) (fun r_22 w_22 => ?_)
              try dsimp only at w_22
              have hmd0 := w_22
              rw [hga 1 (by omega) (by omega), hga 15 (by omega) (by omega), show (x4_4.toInt) = (((x4_4.toInt).toNat : Nat) : Int) from by omega] at hmd0
              refine lv_if_eq (tgt := 90) hx hb dX11_writes_52 (by decide) (fun c_23 => ?_) (fun c_23 => ?_)
              · skip
                have q_23 : r_22.toInt = (0 : Int) := i_eq2 (rfl : r_22.toInt = r_22.toInt) (show (0 : Int32).toInt = (0 : Int) from rfl) c_23
                have hmn : ¬ MD (ar 1) (ar 15) (x3_5.toInt).toNat (x5_16.toInt).toNat ((x4_4.toInt).toNat : Int) := by
                  rcases hmd0 with ⟨z, -⟩ | ⟨-, z⟩
                  · exfalso; omega
                  · exact z
                have hne : (x5_16.toInt) ≠ (q0 : Int) := fun e => by
                  have e2 : q0 = (x5_16.toInt).toNat := by omega
                  rw [e2] at hcq
                  obtain ⟨z1, z2, z3⟩ := hcq
                  first
                  | exact hmn z1
                  | (rw [← hv6] at z3; exact z3 hv7)
                  | omega
                obtain ⟨x5_24, ex5_24⟩ : ∃ y : Int32, y = x5_16 + 1 := ⟨_, rfl⟩
                have tx5_24 : x5_24.toInt = x5_16.toInt + (1 : Int) := i_add (rfl : x5_16.toInt = x5_16.toInt) (show (1 : Int32).toInt = (1 : Int) from rfl) (by omega) (by omega) ex5_24
                refine lv_iinc (v := x5_24) (lv' := [(5, .int x5_24), (4, .int x4_4), (3, .int x3_5), (2, .int v_1), (0, .ref (ad 0)), (1, .int a)]) hx hb dX11_writes_90 hl (k := 0) rfl (by rw [ex5_24]; rfl) (by decide) rfl (fun ls hl => ?_)
                refine lv_goto (tgt := 29) hx hb dX11_writes_93 (by decide) ?_
                exact ih17 x5_24 _ (by omega) (by omega) (lv_sub hl [0, 1, 2, 3, 4, 5] rfl)
              · skip
                have q_23 : r_22.toInt ≠ (0 : Int) := i_ne2 (rfl : r_22.toInt = r_22.toInt) (show (0 : Int32).toInt = (0 : Int) from rfl) c_23
                have hmd : MD (ar 1) (ar 15) (x3_5.toInt).toNat (x5_16.toInt).toNat ((x4_4.toInt).toNat : Int) := by
                  rcases hmd0 with ⟨-, z⟩ | ⟨z, -⟩
                  · exact z
                  · exfalso; omega
                have hmb := hmd.b (by omega) (by omega)
                refine lv_aload_n hx hb dX11_writes_55 rfl (lv_at hl 4 rfl) ?_
                refine va_get (D := D) (ci := 11) (v := .ref (ad 17)) (C := RX11) (T := TX11) (N := 30) hx hb hts inX11 hown hK hP 0 (m_at11 (Nat.le_of_ble_eq_true rfl) rfl) rfl 28 (by decide) lk2 (fun _ h9 => h9) rfl dX11_writes_56 ?_
                refine lv_bipush (v := 108) hx hb dX11_writes_59 (by decide) ?_
                refine lv_iload hx hb dX11_writes_61 (lv_at hl 1 rfl) ?_
                refine lv_aload_n hx hb dX11_writes_63 rfl (lv_at hl 4 rfl) ?_
                refine lv_iload_n hx hb dX11_writes_64 rfl (lv_at hl 2 rfl) ?_
                refine lv_iload hx hb dX11_writes_65 (lv_at hl 0 rfl) ?_
                refine g_callSi (va_runV (As := [.int x3_5, .int x5_16]) (rest := [.int x4_4, .int 108, .ref (ad 17)]) ⟨hx, hb, hml, hown, hts⟩ (c_X11_ticks l D cy ad hI _ iv ar_6 x3_5 x5_16 (by omega) (by omega)) (cwV 2 hts gX11_writes_X11_ticks rfl rfl rfl (by decide +kernel) ⟨Nat.le_of_ble_eq_true rfl, Nat.le_of_ble_eq_true rfl⟩) (m_preV hP hK hSt hNw hS (m_at11 (Nat.le_of_ble_eq_true rfl) rfl) rfl) rfl rfl hl.1 rfl (lv_room (Nat.le_of_ble_eq_true rfl)) dX11_writes_67 ⟨Nat.zero_le _, Nat.zero_le _⟩) (fun r_25 w_25 => ?_)
                try dsimp only at w_25
                have htk2 := w_25
                rw [hga 1 (by omega) (by omega)] at htk2
                refine lv_iadd hx hb dX11_writes_70 ?_
                refine lv_topi (fun v_26 ev_26 => ?_)
                have tv_26 : v_26.toInt = x4_4.toInt + r_25.toInt := i_add (rfl : x4_4.toInt = x4_4.toInt) (rfl : r_25.toInt = r_25.toInt) (by omega) (by omega) ev_26
                refine lv_imul hx hb dX11_writes_71 ?_
                refine lv_topi (fun v_27 ev_27 => ?_)
                have tv_27 : v_27.toInt = (108 : Int) * v_26.toInt := i_mul (show (108 : Int32).toInt = (108 : Int) from rfl) (rfl : v_26.toInt = v_26.toInt) (by omega) (by omega) ev_27
                refine lv_iload_n hx hb dX11_writes_72 rfl (lv_at hl 2 rfl) ?_
                refine lv_iload hx hb dX11_writes_73 (lv_at hl 0 rfl) ?_
                refine lv_aload_n hx hb dX11_writes_75 rfl (lv_at hl 4 rfl) ?_
                refine lv_iload_n hx hb dX11_writes_76 rfl (lv_at hl 2 rfl) ?_
                refine lv_iload hx hb dX11_writes_77 (lv_at hl 0 rfl) ?_
                refine g_callSi (va_runV (As := [.int x3_5, .int x5_16]) (rest := [.int x5_16, .int x3_5, .int v_27, .ref (ad 17)]) ⟨hx, hb, hml, hown, hts⟩ (c_X11_next l D cy ad hI _ iv ar_6 x3_5 x5_16 (by omega) (by omega)) (cwV 2 hts gX11_writes_X11_next rfl rfl rfl (by decide +kernel) ⟨Nat.le_of_ble_eq_true rfl, Nat.le_of_ble_eq_true rfl⟩) (m_preV hP hK hSt hNw hS (m_at11 (Nat.le_of_ble_eq_true rfl) rfl) rfl) rfl rfl hl.1 rfl (lv_room (Nat.le_of_ble_eq_true rfl)) dX11_writes_79 ⟨Nat.zero_le _, Nat.zero_le _⟩) (fun r_28 w_28 => ?_)
                try dsimp only at w_28
                have hnx := w_28
                rw [hga 1 (by omega) (by omega)] at hnx
                refine g_callSi (va_runS (As := [.int x3_5, .int x5_16, .int r_28]) (rest := [.int v_27, .ref (ad 17)]) ⟨hx, hb, hml, hown, hts⟩ (c_X11_where l x3_5 x5_16 r_28) (va_cwS 3 hts gX11_writes_X11_where rfl rfl rfl (by decide +kernel) ⟨Nat.le_of_ble_eq_true rfl, Nat.le_of_ble_eq_true rfl⟩) (g_preT) rfl rfl hl.1 rfl (lv_room (Nat.le_of_ble_eq_true rfl)) dX11_writes_82 ⟨Nat.zero_le _, Nat.zero_le _⟩) (fun r_29 w_29 => ?_)
                try dsimp only at w_29
                have hwh : r_29.toInt.toNat = WH (ar 1) (x3_5.toInt).toNat (x5_16.toInt).toNat := by
                  unfold WH
                  rw [w_29]
                  by_cases e : (x5_16.toInt) = 0
                  · rw [if_pos e, if_pos (by omega)]
                  · rw [if_neg e, if_neg (by omega), hnx]
                have hwb : 0 ≤ r_29.toInt := by
                  rw [w_29]
                  rcases hmd with ⟨e, -⟩ | ⟨e, e2, -⟩
                  · rw [if_pos (by omega)]; omega
                  · rw [if_neg (by omega), hnx]; exact e2
                refine lv_iadd hx hb dX11_writes_85 ?_
                refine lv_topi (fun v_30 ev_30 => ?_)
                have rg_31 := i_rng r_29
                have tv_30 : v_30.toInt = v_27.toInt + r_29.toInt := i_add (rfl : v_27.toInt = v_27.toInt) (rfl : r_29.toInt = r_29.toInt) (by omega) (by omega) ev_30
                refine va_zald hx hb hK hP 17 1 (m_at13 (Nat.le_of_ble_eq_true rfl) rfl) rfl (g_in (N := 6588) (rfl : v_30.toInt = v_30.toInt) rfl (by omega) (by omega)) dX11_writes_86 ?_
                refine lv_topi (fun v_32 ev_32 => ?_)
                have hv6 : v_32 = ar 17 (108 * ((x4_4.toInt).toNat + (TK (ar 1) (x3_5.toInt).toNat (x5_16.toInt).toNat).toNat) + WH (ar 1) (x3_5.toInt).toNat (x5_16.toInt).toNat) := by rw [ev_32, g_cN (rfl : v_30.toInt = _), hga 17 (by omega) (by omega), show (v_30.toInt).toNat = 108 * ((x4_4.toInt).toNat + (TK (ar 1) (x3_5.toInt).toNat (x5_16.toInt).toNat).toNat) + WH (ar 1) (x3_5.toInt).toNat (x5_16.toInt).toNat from by rw [← hwh]; omega]
                refine lv_if_ne (tgt := 96) hx hb dX11_writes_87 (by decide) (fun c_33 => ?_) (fun c_33 => ?_)
                · skip
                  have q_33 : v_32.toInt ≠ (0 : Int) := i_ne2 (rfl : v_32.toInt = v_32.toInt) (show (0 : Int32).toInt = (0 : Int) from rfl) c_33
                  have hv7 := q_33
                  rw [hv6] at hv7
                  refine lv_aload_n hx hb dX11_writes_96 rfl (lv_at hl 4 rfl) ?_
                  refine lv_iload_n hx hb dX11_writes_97 rfl (lv_at hl 2 rfl) ?_
                  refine lv_iload hx hb dX11_writes_98 (lv_at hl 0 rfl) ?_
                  refine g_callSi (va_runV (As := [.int x3_5, .int x5_16]) (rest := []) ⟨hx, hb, hml, hown, hts⟩ (c_X11_ticks l D cy ad hI _ iv ar_6 x3_5 x5_16 (by omega) (by omega)) (cwV 2 hts gX11_writes_X11_ticks rfl rfl rfl (by decide +kernel) ⟨Nat.le_of_ble_eq_true rfl, Nat.le_of_ble_eq_true rfl⟩) (m_preV hP hK hSt hNw hS (m_at11 (Nat.le_of_ble_eq_true rfl) rfl) rfl) rfl rfl hl.1 rfl (lv_room (Nat.le_of_ble_eq_true rfl)) dX11_writes_100 ⟨Nat.zero_le _, Nat.zero_le _⟩) (fun r_34 w_34 => ?_)
                  try dsimp only at w_34
                  have htk3 := w_34
                  rw [hga 1 (by omega) (by omega)] at htk3
                  refine lv_istore (lv' := [(6, .int r_34), (5, .int x5_16), (4, .int x4_4), (3, .int x3_5), (2, .int v_1), (0, .ref (ad 0)), (1, .int a)]) hx hb dX11_writes_103 hl (by decide) rfl (fun ls hl => ?_)
                  refine lv_iconst (v := 0) hx hb dX11_writes_105 (by decide) ?_
                  refine lv_istore (lv' := [(7, .int 0), (6, .int r_34), (5, .int x5_16), (4, .int x4_4), (3, .int x3_5), (2, .int v_1), (0, .ref (ad 0)), (1, .int a)]) hx hb dX11_writes_106 hl (by decide) rfl (fun ls hl => ?_)
                  have loop37 : ∀ (n : Nat) (x7_35 : Int32) (ar_36 : gAr) (H : Heap) (locs : List Loc) (ls : Array Slot), (((r_34.toInt) - (x7_35.toInt)).toNat) < n → (0 ≤ (x7_35.toInt) ∧ (x7_35.toInt) ≤ (r_34.toInt)) → (∀ c, c ≠ 9 → c ≠ 10 → ar_36 c = ar c) → (∀ i : Nat, (i : Int) < (x4_4.toInt) + (x7_35.toInt) → GD (ar 1) ((ar 14 a.toInt.toNat).toInt.toNat) (ar_36 9 (61 * a.toInt.toNat + i))) → (∀ i : Nat, ¬ (61 * a.toInt.toNat ≤ i ∧ i < 61 * a.toInt.toNat + 61) → ar_36 9 i = ar 9 i) → va_P D vwCl (MW cy ad iv ar_36) H → va_S (mA ad s.heap.size) s.heap H locs → lv_has ls 8 [(7, .int x7_35), (6, .int r_34), (5, .int x5_16), (4, .int x4_4), (3, .int x3_5), (2, .int v_1), (0, .ref (ad 0)), (1, .int a)] → W p l e (headSpec wsX11_writes (({ frames := 3, cells := 0, slots := 0, locals := 73 } : Room))).room s m (([.ref (ad 0), .int a] : List Value).toArray) below meth c H locs 0 0 Q (F0 m 108 ls []) := by
                    intro n
                    induction n with
                    | zero => intro x7_35 ar_36 H locs ls hm; omega
                    | succ n ih37 =>
                      intro x7_35 ar_36 H locs ls hm hp0 hpa hpw hpo hP hS hl
                      refine lv_iload hx hb dX11_writes_108 (lv_at hl 0 rfl) ?_
                      refine lv_iload hx hb dX11_writes_110 (lv_at hl 1 rfl) ?_
                      refine lv_icmp_ge (tgt := 134) hx hb dX11_writes_112 (by decide) (fun c_38 => ?_) (fun c_38 => ?_)
                      · skip
                        have q_38 : r_34.toInt ≤ x7_35.toInt := i_le2 (rfl : r_34.toInt = r_34.toInt) (rfl : x7_35.toInt = x7_35.toInt) c_38
                        skip
                        refine lv_iload_n hx hb dX11_writes_134 rfl (lv_at hl 4 rfl) ?_
                        refine lv_iload hx hb dX11_writes_135 (lv_at hl 2 rfl) ?_
                        refine lv_aload_n hx hb dX11_writes_137 rfl (lv_at hl 6 rfl) ?_
                        refine lv_iload_n hx hb dX11_writes_138 rfl (lv_at hl 4 rfl) ?_
                        refine lv_iload hx hb dX11_writes_139 (lv_at hl 2 rfl) ?_
                        refine g_callSi (va_runV (As := [.int x3_5, .int x5_16]) (rest := [.int x5_16, .int x3_5]) ⟨hx, hb, hml, hown, hts⟩ (c_X11_next l D cy ad hI _ iv ar_36 x3_5 x5_16 (by omega) (by omega)) (cwV 2 hts gX11_writes_X11_next rfl rfl rfl (by decide +kernel) ⟨Nat.le_of_ble_eq_true rfl, Nat.le_of_ble_eq_true rfl⟩) (m_preV hP hK hSt hNw hS (m_at11 (Nat.le_of_ble_eq_true rfl) rfl) rfl) rfl rfl hl.1 rfl (lv_room (Nat.le_of_ble_eq_true rfl)) dX11_writes_141 ⟨Nat.zero_le _, Nat.zero_le _⟩) (fun r_39 w_39 => ?_)
                        try dsimp only at w_39
                        have hnx := w_39
                        rw [hpa 1 (by omega) (by omega)] at hnx
                        refine g_callSi (va_runS (As := [.int x3_5, .int x5_16, .int r_39]) (rest := []) ⟨hx, hb, hml, hown, hts⟩ (c_X11_where l x3_5 x5_16 r_39) (va_cwS 3 hts gX11_writes_X11_where rfl rfl rfl (by decide +kernel) ⟨Nat.le_of_ble_eq_true rfl, Nat.le_of_ble_eq_true rfl⟩) (g_preT) rfl rfl hl.1 rfl (lv_room (Nat.le_of_ble_eq_true rfl)) dX11_writes_144 ⟨Nat.zero_le _, Nat.zero_le _⟩) (fun r_40 w_40 => ?_)
                        try dsimp only at w_40
                        have hwh : r_40.toInt.toNat = WH (ar 1) (x3_5.toInt).toNat (x5_16.toInt).toNat := by
                          unfold WH
                          rw [w_40]
                          by_cases e : (x5_16.toInt) = 0
                          · rw [if_pos e, if_pos (by omega)]
                          · rw [if_neg e, if_neg (by omega), hnx]
                        have hwb : 0 ≤ r_40.toInt := by
                          rw [w_40]
                          rcases hmd with ⟨e, -⟩ | ⟨e, e2, -⟩
                          · rw [if_pos (by omega)]; omega
                          · rw [if_neg (by omega), hnx]; exact e2
                        refine lv_istore_n (lv' := [(3, .int r_40), (7, .int x7_35), (6, .int r_34), (5, .int x5_16), (4, .int x4_4), (2, .int v_1), (0, .ref (ad 0)), (1, .int a)]) hx hb dX11_writes_147 rfl hl (by decide) rfl (fun ls hl => ?_)
                        refine lv_iload hx hb dX11_writes_148 (lv_at hl 4 rfl) ?_
                        refine lv_iload hx hb dX11_writes_150 (lv_at hl 2 rfl) ?_
                        refine lv_iadd hx hb dX11_writes_152 ?_
                        refine lv_topi (fun v_41 ev_41 => ?_)
                        have tv_41 : v_41.toInt = x4_4.toInt + r_34.toInt := i_add (rfl : x4_4.toInt = x4_4.toInt) (rfl : r_34.toInt = r_34.toInt) (by omega) (by omega) ev_41
                        have hgE2 : (ar 17 (108 * v_41.toInt.toNat + (r_40.toInt).toNat)).toInt ≠ 0 := by
                          rw [hwh, show v_41.toInt.toNat = (x4_4.toInt).toNat + (TK (ar 1) (x3_5.toInt).toNat (x5_16.toInt).toNat).toNat from by omega]
                          exact hv7
                        refine lv_istore (lv' := [(4, .int v_41), (3, .int r_40), (7, .int x7_35), (6, .int r_34), (5, .int x5_16), (2, .int v_1), (0, .ref (ad 0)), (1, .int a)]) hx hb dX11_writes_153 hl (by decide) rfl (fun ls hl => ?_)
                        refine lv_goto (tgt := 20) hx hb dX11_writes_155 (by decide) ?_
                        exact ih7 v_41 r_40 ar_36 _ _ _ (by omega) (by omega) hgE2 hpa (fun i hi => hpw i (by omega)) hpo hP hS (lv_sub hl [0, 1, 5, 6, 7] rfl)
                      · skip
                        have q_38 : x7_35.toInt < r_34.toInt := i_nle2 (rfl : r_34.toInt = r_34.toInt) (rfl : x7_35.toInt = x7_35.toInt) c_38
                        refine lv_aload_n hx hb dX11_writes_115 rfl (lv_at hl 6 rfl) ?_
                        refine lv_iload_n hx hb dX11_writes_116 rfl (lv_at hl 7 rfl) ?_
                        refine lv_iload hx hb dX11_writes_117 (lv_at hl 3 rfl) ?_
                        refine lv_iload hx hb dX11_writes_119 (lv_at hl 0 rfl) ?_
                        refine lv_iadd hx hb dX11_writes_121 ?_
                        refine lv_topi (fun v_42 ev_42 => ?_)
                        have tv_42 : v_42.toInt = x4_4.toInt + x7_35.toInt := i_add (rfl : x4_4.toInt = x4_4.toInt) (rfl : x7_35.toInt = x7_35.toInt) (by omega) (by omega) ev_42
                        refine lv_iload_n hx hb dX11_writes_122 rfl (lv_at hl 4 rfl) ?_
                        refine lv_iload hx hb dX11_writes_123 (lv_at hl 2 rfl) ?_
                        refine m_callv (va_runV (As := [.int a, .int v_42, .int x3_5, .int x5_16]) (rest := []) ⟨hx, hb, hml, hown, hts⟩ (c_X11_put l D cy ad hI _ iv ar_36 a v_42 x3_5 x5_16 (by omega) (by omega)) (cwV 4 hts gX11_writes_X11_put rfl rfl rfl (by decide +kernel) ⟨Nat.le_of_ble_eq_true rfl, Nat.le_of_ble_eq_true rfl⟩) (m_preV hP hK hSt hNw hS (m_at11 (Nat.le_of_ble_eq_true rfl) rfl) rfl) rfl rfl hl.1 rfl (lv_room (Nat.le_of_ble_eq_true rfl)) dX11_writes_125 ⟨Nat.zero_le _, Nat.zero_le _⟩) hS (fun iv_43 ar_43 H locs w_43 hP hS => ?_)
                        try dsimp only at w_43
                        have wi_43 := (w_43.1).symm
                        subst wi_43
                        obtain ⟨-, q1, q2, -⟩ := w_43
                        have hpa2 : ∀ c, c ≠ 9 → c ≠ 10 → ar_43 c = ar c := fun c h9 h10 => (q1 c h9 h10).trans (hpa c h9 h10)
                        have hpo2 : ∀ i : Nat, ¬ (61 * a.toInt.toNat ≤ i ∧ i < 61 * a.toInt.toNat + 61) → ar_43 9 i = ar 9 i := fun i hi => by rw [q2, pk_un (show i ≠ 61 * a.toInt.toNat + v_42.toInt.toNat from by omega)]; exact hpo i hi
                        have hpw2 : ∀ i : Nat, (i : Int) < (x4_4.toInt) + (x7_35.toInt) + 1 → GD (ar 1) ((ar 14 a.toInt.toNat).toInt.toNat) (ar_43 9 (61 * a.toInt.toNat + i)) := fun i hi => by
                          rw [q2]
                          by_cases e : i = v_42.toInt.toNat
                          · rw [e, pk_us]; exact hgd
                          · rw [pk_un (show 61 * a.toInt.toNat + i ≠ 61 * a.toInt.toNat + v_42.toInt.toNat from by omega)]; exact hpw i (by omega)
                        obtain ⟨x7_44, ex7_44⟩ : ∃ y : Int32, y = x7_35 + 1 := ⟨_, rfl⟩
                        have tx7_44 : x7_44.toInt = x7_35.toInt + (1 : Int) := i_add (rfl : x7_35.toInt = x7_35.toInt) (show (1 : Int32).toInt = (1 : Int) from rfl) (by omega) (by omega) ex7_44
                        refine lv_iinc (v := x7_44) (lv' := [(7, .int x7_44), (6, .int r_34), (5, .int x5_16), (4, .int x4_4), (3, .int x3_5), (2, .int v_1), (0, .ref (ad 0)), (1, .int a)]) hx hb dX11_writes_128 hl (k := 0) rfl (by rw [ex7_44]; rfl) (by decide) rfl (fun ls hl => ?_)
                        refine lv_goto (tgt := 108) hx hb dX11_writes_131 (by decide) ?_
                        exact ih37 x7_44 ar_43 _ _ _ (by omega) (by omega) hpa2 (fun i hi => hpw2 i (by omega)) hpo2 hP hS (lv_sub hl [0, 1, 2, 3, 4, 5, 6, 7] rfl)
                  have zl_45 : (0 : Int32).toInt = (0 : Int) := rfl
                  exact loop37 ((((r_34.toInt) - ((0 : Int))).toNat) + 1) 0 ar_6 _ _ _ (by omega) (by omega) hga (fun i hi => hgw i (by omega)) hgo hP hS (lv_sub hl [0, 1, 2, 3, 4, 5, 6, 7] rfl)
                · skip
                  have q_33 : v_32.toInt = (0 : Int) := i_eq2 (rfl : v_32.toInt = v_32.toInt) (show (0 : Int32).toInt = (0 : Int) from rfl) c_33
                  have hv7 := q_33
                  have hne : (x5_16.toInt) ≠ (q0 : Int) := fun e => by
                    have e2 : q0 = (x5_16.toInt).toNat := by omega
                    rw [e2] at hcq
                    obtain ⟨z1, z2, z3⟩ := hcq
                    first
                    | exact hmn z1
                    | (rw [← hv6] at z3; exact z3 hv7)
                    | omega
                  obtain ⟨x5_46, ex5_46⟩ : ∃ y : Int32, y = x5_16 + 1 := ⟨_, rfl⟩
                  have tx5_46 : x5_46.toInt = x5_16.toInt + (1 : Int) := i_add (rfl : x5_16.toInt = x5_16.toInt) (show (1 : Int32).toInt = (1 : Int) from rfl) (by omega) (by omega) ex5_46
                  refine lv_iinc (v := x5_46) (lv' := [(5, .int x5_46), (4, .int x4_4), (3, .int x3_5), (2, .int v_1), (0, .ref (ad 0)), (1, .int a)]) hx hb dX11_writes_90 hl (k := 0) rfl (by rw [ex5_46]; rfl) (by decide) rfl (fun ls hl => ?_)
                  refine lv_goto (tgt := 29) hx hb dX11_writes_93 (by decide) ?_
                  exact ih17 x5_46 _ (by omega) (by omega) (lv_sub hl [0, 1, 2, 3, 4, 5] rfl)
        have zl_47 : (0 : Int32).toInt = (0 : Int) := rfl
        exact loop17 (((7 - ((0 : Int))).toNat) + 1) 0 _ (by omega) (by omega) (lv_sub hl [0, 1, 2, 3, 4, 5] rfl)
  have zl_48 : (0 : Int32).toInt = (0 : Int) := rfl
  exact loop7 ((((v_1.toInt) - ((0 : Int))).toNat) + 1) 0 v_3 ar _ _ _ (by omega) (by omega) (by rw [hv2]; exact hE0) (fun _ _ _ => rfl) (fun i hi => by exfalso; omega) (fun _ _ => rfl) hP hS (lv_sub hl [0, 1, 2, 3, 4] rfl)
