set_option maxHeartbeats 4000000 in
set_option maxRecDepth 100000 in
theorem c_X11_measures (l : Launch) (D : va_G) (cy : Nat → ClassId) (ad : Nat → Nat) (hI : mInj ad) (sz : Nat) (iv : gIv) (ar : gAr) (a : Int32) (hc : 0 ≤ a.toInt ∧ a.toInt < 108) : Met l yX11_measures wsX11_measures ({ frames := 2, cells := 0, slots := 0, locals := 48 } : Room) (va_Pc [.ref (ad 0), .int a] (mPre D cy ad sz iv ar)) (va_Qv (fun (u : gIv × gAr) => u.1 = iv ∧ (∀ c, c ≠ 5 → c ≠ 6 → u.2 c = ar c) ∧ KN (ar 1) (u.2 5) a.toInt.toNat ∧ (u.2 6 a.toInt.toNat).toInt = 1 ∧ (∀ i : Nat, ¬ (108 * a.toInt.toNat ≤ i ∧ i < 108 * a.toInt.toNat + 108) → u.2 5 i = ar 5 i) ∧ ∀ g, g ≠ a.toInt.toNat → u.2 6 g = ar 6 g) (mPost D cy ad) (mA ad sz)) 0 0 (mA ad sz) := by
  refine Met.ofW (cc := cX11_measures) (maxL := 7) (ret := none) (by decide) rfl ?_
  intro p e s m args below meth c s₁ B hml hv
  obtain ⟨rfl, rfl, hP, hK, hSt, hNw⟩ := hv
  have hx := B.exec
  have hb := B.bytes
  have hr := B.returns
  have hts := atoms_spec (ws := wsX11_measures) B.pre
  have hown : s.vm.findClass RX11 = some m.cls := findClass_of_methodNamed B.named
  have hlocks := B.notSynchronized
  have hS : va_S (mA ad s.heap.size) s.heap s.heap [] := va_S.rf
  have inX11 : ∀ w ∈ u_ws RX11 TX11 30, w ∈ wsX11_measures := by decide +kernel
  have lk0 := hts (.fieldLink RX11 25 "FormationPlannerModel" "isKnown" "[Z") (by decide +kernel)
  have lk1 := hts (.fieldLink RX11 22 "FormationPlannerModel" "times" "[I") (by decide +kernel)
  have lk2 := hts (.constant RX11 124 100000) (by decide +kernel)
  have hl := lv_entry ([.ref (ad 0), .int a]) (n := 7) (Nat.le_of_ble_eq_true rfl)
  rw [lg_entry_eq]
  generalize (lg_sl ([.ref (ad 0), .int a]) ++ List.replicate (7 - (lg_sl ([.ref (ad 0), .int a])).length) Slot.unset).toArray = ls at hl ⊢
  have hl : lv_has ls 7 [(0, .ref (ad 0)), (1, .int a)] := hl
  obtain ⟨Q, hQ⟩ : ∃ Q, Q = MQ below (va_Qv (fun (u : gIv × gAr) => u.1 = iv ∧ (∀ c, c ≠ 5 → c ≠ 6 → u.2 c = ar c) ∧ KN (ar 1) (u.2 5) a.toInt.toNat ∧ (u.2 6 a.toInt.toNat).toInt = 1 ∧ (∀ i : Nat, ¬ (108 * a.toInt.toNat ≤ i ∧ i < 108 * a.toInt.toNat + 108) → u.2 5 i = ar 5 i) ∧ ∀ g, g ≠ a.toInt.toNat → u.2 6 g = ar 6 g) (mPost D cy ad) (mA ad s.heap.size)) (([.ref (ad 0), .int a] : List Value).toArray) s 0 0 (mA ad s.heap.size) := ⟨_, rfl⟩
  rw [← hQ]
  refine lv_iconst (v := 0) hx hb dX11_measures_0 (by decide) ?_
  refine lv_istore_n (lv' := [(2, .int 0), (0, .ref (ad 0)), (1, .int a)]) hx hb dX11_measures_1 rfl hl (by decide) rfl (fun ls hl => ?_)
  have loop3 : ∀ (n : Nat) (x2_1 : Int32) (ar_2 : gAr) (H : Heap) (locs : List Loc) (ls : Array Slot), ((108 - (x2_1.toInt)).toNat) < n → (0 ≤ (x2_1.toInt) ∧ (x2_1.toInt) ≤ 108) → (∀ c, c ≠ 5 → ar_2 c = ar c) → (∀ c : Nat, (c : Int) < (x2_1.toInt) → (ar_2 5 (108 * a.toInt.toNat + c)).toInt = if c = a.toInt.toNat ∧ (ar 1 (3 + c)).toInt ≠ 1 then 0 else 100000) → (∀ i : Nat, ¬ (108 * a.toInt.toNat ≤ i ∧ i < 108 * a.toInt.toNat + 108) → ar_2 5 i = ar 5 i) → va_P D vwCl (MW cy ad iv ar_2) H → va_S (mA ad s.heap.size) s.heap H locs → lv_has ls 7 [(2, .int x2_1), (0, .ref (ad 0)), (1, .int a)] → W p l e (headSpec wsX11_measures (({ frames := 2, cells := 0, slots := 0, locals := 48 } : Room))).room s m (([.ref (ad 0), .int a] : List Value).toArray) below meth c H locs 0 0 Q (F0 m 2 ls []) := by
    intro n
    induction n with
    | zero => intro x2_1 ar_2 H locs ls hm; omega
    | succ n ih3 =>
      intro x2_1 ar_2 H locs ls hm hg0 hga hgf hgt hP hS hl
      refine lv_iload_n hx hb dX11_measures_2 rfl (lv_at hl 0 rfl) ?_
      refine lv_bipush (v := 108) hx hb dX11_measures_3 (by decide) ?_
      refine lv_icmp_ge (tgt := 44) hx hb dX11_measures_5 (by decide) (fun c_4 => ?_) (fun c_4 => ?_)
      · skip
        have q_4 : (108 : Int) ≤ x2_1.toInt := i_le2 (show (108 : Int32).toInt = (108 : Int) from rfl) (rfl : x2_1.toInt = x2_1.toInt) c_4
        have hmi : MB (ar 1) (ar_2 5) a.toInt.toNat := MB.init (fun c hc => hgf c (by omega))
        refine lv_iconst (v := 1) hx hb dX11_measures_44 (by decide) ?_
        refine lv_istore_n (lv' := [(2, .int 1), (0, .ref (ad 0)), (1, .int a)]) hx hb dX11_measures_45 rfl hl (by decide) rfl (fun ls hl => ?_)
        have loop7 : ∀ (n : Nat) (x2_5 : Int32) (ar_6 : gAr) (H : Heap) (locs : List Loc) (ls : Array Slot), ((2 * sm (ar_6 5) (108 * a.toInt.toNat) 108 + (x2_5.toInt)).toNat) < n → (0 ≤ (x2_5.toInt) ∧ (x2_5.toInt) ≤ 1) → (∀ c, c ≠ 5 → ar_6 c = ar c) → (MB (ar 1) (ar_6 5) a.toInt.toNat) → ((x2_5.toInt) = 0 → ∀ c : Nat, c < 108 → ∀ q : Nat, 1 ≤ q → q < 7 → FX (ar 1) (ar_6 5) a.toInt.toNat c q) → (∀ i : Nat, ¬ (108 * a.toInt.toNat ≤ i ∧ i < 108 * a.toInt.toNat + 108) → ar_6 5 i = ar 5 i) → va_P D vwCl (MW cy ad iv ar_6) H → va_S (mA ad s.heap.size) s.heap H locs → lv_has ls 7 [(2, .int x2_5), (0, .ref (ad 0)), (1, .int a)] → W p l e (headSpec wsX11_measures (({ frames := 2, cells := 0, slots := 0, locals := 48 } : Room))).room s m (([.ref (ad 0), .int a] : List Value).toArray) below meth c H locs 0 0 Q (F0 m 46 ls []) := by
          intro n
          induction n with
          | zero => intro x2_5 ar_6 H locs ls hm; omega
          | succ n ih7 =>
            intro x2_5 ar_6 H locs ls hm hm0 hma hmm hmx hmt hP hS hl
            refine lv_iload_n hx hb dX11_measures_46 rfl (lv_at hl 0 rfl) ?_
            refine lv_if_eq (tgt := 165) hx hb dX11_measures_47 (by decide) (fun c_8 => ?_) (fun c_8 => ?_)
            · skip
              have q_8 : x2_5.toInt = (0 : Int) := i_eq2 (rfl : x2_5.toInt = x2_5.toInt) (show (0 : Int32).toInt = (0 : Int) from rfl) c_8
              refine lv_aload_n hx hb dX11_measures_165 rfl (lv_at hl 1 rfl) ?_
              refine va_get (D := D) (ci := 11) (v := .ref (ad 6)) (C := RX11) (T := TX11) (N := 30) hx hb hts inX11 hown hK hP 0 (m_at11 (Nat.le_of_ble_eq_true rfl) rfl) rfl 8 (by decide) lk0 (fun _ h9 => h9) rfl dX11_measures_166 ?_
              refine lv_iload_n hx hb dX11_measures_169 rfl (lv_at hl 2 rfl) ?_
              refine lv_iconst (v := 1) hx hb dX11_measures_170 (by decide) ?_
              refine va_zast hx hb hK hP (mD hI) hS 6 1 (m_at13 (Nat.le_of_ble_eq_true rfl) rfl) rfl (g_in (N := 108) (rfl : a.toInt = a.toInt) rfl (by omega) (by omega)) dX11_measures_171 (fun H locs hP _ hS => ?_)
              rw [m_pt13 (Nat.le_of_ble_eq_true rfl) rfl] at hP
              obtain ⟨ar_9, ear_9⟩ : ∃ z : gAr, z = va_up ar_6 6 (upd (ar_6 6) a.toNatClampNeg 1) := ⟨_, rfl⟩
              have hP : va_P D vwCl (MW cy ad iv ar_9) H := by rw [ear_9]; exact hP
              rw [hQ]
              exact W.vret hx hb hr (fun t ht hW => ⟨⟨(iv, ar_9), rfl, ⟨rfl, fun c h5 h6 => by show ar_9 c = ar c; rw [ear_9, ua_o h6]; exact hma c h5, by show KN _ (ar_9 5) _; rw [ear_9, ua_o (by omega)]; exact ⟨hmm, hmx (by omega)⟩, by show (ar_9 6 _).toInt = 1; rw [ear_9, ua_s, g_cN (rfl : a.toInt = _), pk_us]; rfl, fun i hi => by show ar_9 5 i = ar 5 i; rw [ear_9, ua_o (by omega)]; exact hmt i hi, fun g hg => by show ar_9 6 g = ar 6 g; rw [ear_9, ua_s, g_cN (rfl : a.toInt = _), pk_un hg]; rw [hma 6 (by omega)]⟩, by show va_P _ _ _ _; rw [ht]; exact hP⟩, hS.F ht⟩) hS.2.2 dX11_measures_172
            · skip
              have q_8 : x2_5.toInt ≠ (0 : Int) := i_ne2 (rfl : x2_5.toInt = x2_5.toInt) (show (0 : Int32).toInt = (0 : Int) from rfl) c_8
              
              refine lv_iconst (v := 0) hx hb dX11_measures_50 (by decide) ?_
              refine lv_istore_n (lv' := [(2, .int 0), (0, .ref (ad 0)), (1, .int a)]) hx hb dX11_measures_51 rfl hl (by decide) rfl (fun ls hl => ?_)
              refine lv_iconst (v := 0) hx hb dX11_measures_52 (by decide) ?_
              refine lv_istore_n (lv' := [(3, .int 0), (2, .int 0), (0, .ref (ad 0)), (1, .int a)]) hx hb dX11_measures_53 rfl hl (by decide) rfl (fun ls hl => ?_)
              have loop13 : ∀ (n : Nat) (x3_10 : Int32) (x2_11 : Int32) (ar_12 : gAr) (H : Heap) (locs : List Loc) (ls : Array Slot), ((108 - (x3_10.toInt)).toNat) < n → (0 ≤ (x3_10.toInt) ∧ (x3_10.toInt) ≤ 108 ∧ 0 ≤ (x2_11.toInt) ∧ (x2_11.toInt) ≤ 1) → (∀ c, c ≠ 5 → ar_12 c = ar c) → (MB (ar 1) (ar_12 5) a.toInt.toNat) → (sm (ar_12 5) (108 * a.toInt.toNat) 108 ≤ sm (ar_6 5) (108 * a.toInt.toNat) 108 ∧ ((x2_11.toInt) = 1 → sm (ar_12 5) (108 * a.toInt.toNat) 108 < sm (ar_6 5) (108 * a.toInt.toNat) 108)) → ((x2_11.toInt) = 0 → ∀ c : Nat, (c : Int) < (x3_10.toInt) → ∀ q : Nat, 1 ≤ q → q < 7 → FX (ar 1) (ar_12 5) a.toInt.toNat c q) → (∀ i : Nat, ¬ (108 * a.toInt.toNat ≤ i ∧ i < 108 * a.toInt.toNat + 108) → ar_12 5 i = ar 5 i) → va_P D vwCl (MW cy ad iv ar_12) H → va_S (mA ad s.heap.size) s.heap H locs → lv_has ls 7 [(3, .int x3_10), (2, .int x2_11), (0, .ref (ad 0)), (1, .int a)] → W p l e (headSpec wsX11_measures (({ frames := 2, cells := 0, slots := 0, locals := 48 } : Room))).room s m (([.ref (ad 0), .int a] : List Value).toArray) below meth c H locs 0 0 Q (F0 m 54 ls []) := by
                intro n
                induction n with
                | zero => intro x3_10 x2_11 ar_12 H locs ls hm; omega
                | succ n ih13 =>
                  intro x3_10 x2_11 ar_12 H locs ls hm hn0 hna hnm hns hnx hnt hP hS hl
                  refine lv_iload_n hx hb dX11_measures_54 rfl (lv_at hl 0 rfl) ?_
                  refine lv_bipush (v := 108) hx hb dX11_measures_55 (by decide) ?_
                  refine lv_icmp_ge (tgt := 162) hx hb dX11_measures_57 (by decide) (fun c_14 => ?_) (fun c_14 => ?_)
                  · skip
                    have q_14 : (108 : Int) ≤ x3_10.toInt := i_le2 (show (108 : Int32).toInt = (108 : Int) from rfl) (rfl : x3_10.toInt = x3_10.toInt) c_14
                    refine lv_goto (tgt := 46) hx hb dX11_measures_162 (by decide) ?_
                    have hs0 := MB.sm0 hnm
                    exact ih7 x2_11 ar_12 _ _ _ (by omega) (by omega) hna hnm (fun h c hc => hnx h c (by omega)) hnt hP hS (lv_sub hl [1, 2, 3] rfl)
                  · skip
                    have q_14 : x3_10.toInt < (108 : Int) := i_nle2 (show (108 : Int32).toInt = (108 : Int) from rfl) (rfl : x3_10.toInt = x3_10.toInt) c_14
                    refine lv_iconst (v := 1) hx hb dX11_measures_60 (by decide) ?_
                    refine lv_istore (lv' := [(4, .int 1), (3, .int x3_10), (2, .int x2_11), (0, .ref (ad 0)), (1, .int a)]) hx hb dX11_measures_61 hl (by decide) rfl (fun ls hl => ?_)
                    have loop18 : ∀ (n : Nat) (x4_15 : Int32) (x2_16 : Int32) (ar_17 : gAr) (H : Heap) (locs : List Loc) (ls : Array Slot), ((7 - (x4_15.toInt)).toNat) < n → (1 ≤ (x4_15.toInt) ∧ (x4_15.toInt) ≤ 7 ∧ 0 ≤ (x2_16.toInt) ∧ (x2_16.toInt) ≤ 1) → (∀ c, c ≠ 5 → ar_17 c = ar c) → (MB (ar 1) (ar_17 5) a.toInt.toNat) → (sm (ar_17 5) (108 * a.toInt.toNat) 108 ≤ sm (ar_6 5) (108 * a.toInt.toNat) 108 ∧ ((x2_16.toInt) = 1 → sm (ar_17 5) (108 * a.toInt.toNat) 108 < sm (ar_6 5) (108 * a.toInt.toNat) 108)) → ((x2_16.toInt) = 0 → ∀ c : Nat, (c : Int) < (x3_10.toInt) → ∀ q : Nat, 1 ≤ q → q < 7 → FX (ar 1) (ar_17 5) a.toInt.toNat c q) → ((x2_16.toInt) = 0 → ∀ q : Nat, 1 ≤ q → (q : Int) < (x4_15.toInt) → FX (ar 1) (ar_17 5) a.toInt.toNat (x3_10.toInt).toNat q) → (∀ i : Nat, ¬ (108 * a.toInt.toNat ≤ i ∧ i < 108 * a.toInt.toNat + 108) → ar_17 5 i = ar 5 i) → va_P D vwCl (MW cy ad iv ar_17) H → va_S (mA ad s.heap.size) s.heap H locs → lv_has ls 7 [(4, .int x4_15), (3, .int x3_10), (2, .int x2_16), (0, .ref (ad 0)), (1, .int a)] → W p l e (headSpec wsX11_measures (({ frames := 2, cells := 0, slots := 0, locals := 48 } : Room))).room s m (([.ref (ad 0), .int a] : List Value).toArray) below meth c H locs 0 0 Q (F0 m 63 ls []) := by
                      intro n
                      induction n with
                      | zero => intro x4_15 x2_16 ar_17 H locs ls hm; omega
                      | succ n ih18 =>
                        intro x4_15 x2_16 ar_17 H locs ls hm ho0 hoa hom hos hox hoy hot hP hS hl
                        refine lv_iload hx hb dX11_measures_63 (lv_at hl 0 rfl) ?_
                        refine lv_bipush (v := 7) hx hb dX11_measures_65 (by decide) ?_
                        refine lv_icmp_ge (tgt := 156) hx hb dX11_measures_67 (by decide) (fun c_19 => ?_) (fun c_19 => ?_)
                        · skip
                          have q_19 : (7 : Int) ≤ x4_15.toInt := i_le2 (show (7 : Int32).toInt = (7 : Int) from rfl) (rfl : x4_15.toInt = x4_15.toInt) c_19
                          have hnx2 : (x2_16.toInt) = 0 → ∀ c : Nat, (c : Int) < (x3_10.toInt) + 1 → ∀ q : Nat, 1 ≤ q → q < 7 → FX (ar 1) (ar_17 5) a.toInt.toNat c q := fun h0 c hc q h1 h7 => (Classical.em ((c : Int) = (x3_10.toInt))).elim (fun e => by
                            have e2 : c = (x3_10.toInt).toNat := by omega
                            rw [e2]
                            intro hob n hn
                            exact hoy h0 q h1 (by omega) hob n hn) (fun e => hox h0 c (by omega) q h1 h7)
                          obtain ⟨x3_20, ex3_20⟩ : ∃ y : Int32, y = x3_10 + 1 := ⟨_, rfl⟩
                          have tx3_20 : x3_20.toInt = x3_10.toInt + (1 : Int) := i_add (rfl : x3_10.toInt = x3_10.toInt) (show (1 : Int32).toInt = (1 : Int) from rfl) (by omega) (by omega) ex3_20
                          refine lv_iinc (v := x3_20) (lv' := [(3, .int x3_20), (4, .int x4_15), (2, .int x2_16), (0, .ref (ad 0)), (1, .int a)]) hx hb dX11_measures_156 hl (k := 1) rfl (by rw [ex3_20]; rfl) (by decide) rfl (fun ls hl => ?_)
                          refine lv_goto (tgt := 54) hx hb dX11_measures_159 (by decide) ?_
                          exact ih13 x3_20 x2_16 ar_17 _ _ _ (by omega) (by omega) hoa hom hos (fun h c hc => hnx2 h c (by omega)) hot hP hS (lv_sub hl [0, 2, 3, 4] rfl)
                        · skip
                          have q_19 : x4_15.toInt < (7 : Int) := i_nle2 (show (7 : Int32).toInt = (7 : Int) from rfl) (rfl : x4_15.toInt = x4_15.toInt) c_19
                          have hbb := NX_b (f := ar 1) (c := (x3_10.toInt).toNat) (q := (x4_15.toInt).toNat) (by omega) (by omega)
                          have hkk := TK_b (f := ar 1) (c := (x3_10.toInt).toNat) (q := (x4_15.toInt).toNat)
                          refine lv_aload_n hx hb dX11_measures_70 rfl (lv_at hl 3 rfl) ?_
                          refine lv_iload_n hx hb dX11_measures_71 rfl (lv_at hl 1 rfl) ?_
                          refine g_callSi (va_runV (As := [.int x3_10]) (rest := []) ⟨hx, hb, hml, hown, hts⟩ (c_X11_isObstacle l D cy ad hI _ iv ar_17 x3_10 (by omega)) (cwV 1 hts gX11_measures_X11_isObstacle rfl rfl rfl (by decide +kernel) ⟨Nat.le_of_ble_eq_true rfl, Nat.le_of_ble_eq_true rfl⟩) (m_preV hP hK hSt hNw hS (m_at11 (Nat.le_of_ble_eq_true rfl) rfl) rfl) rfl rfl hl.1 rfl (lv_room (Nat.le_of_ble_eq_true rfl)) dX11_measures_72 ⟨Nat.zero_le _, Nat.zero_le _⟩) (fun r_21 w_21 => ?_)
                          try dsimp only at w_21
                          rw [hoa 1 (by omega)] at w_21
                          refine lv_if_ne (tgt := 156) hx hb dX11_measures_75 (by decide) (fun c_22 => ?_) (fun c_22 => ?_)
                          · skip
                            have q_22 : r_21.toInt ≠ (0 : Int) := i_ne2 (rfl : r_21.toInt = r_21.toInt) (show (0 : Int32).toInt = (0 : Int) from rfl) c_22
                            have hnx2 : (x2_16.toInt) = 0 → ∀ c : Nat, (c : Int) < (x3_10.toInt) + 1 → ∀ q : Nat, 1 ≤ q → q < 7 → FX (ar 1) (ar_17 5) a.toInt.toNat c q := fun h0 c hc q h1 h7 => (Classical.em ((c : Int) = (x3_10.toInt))).elim (fun e => by
                              have e2 : c = (x3_10.toInt).toNat := by omega
                              rw [e2]
                              intro hob n hn
                              exact hoy h0 q h1 (by omega) hob n hn) (fun e => hox h0 c (by omega) q h1 h7)
                            obtain ⟨x3_23, ex3_23⟩ : ∃ y : Int32, y = x3_10 + 1 := ⟨_, rfl⟩
                            have tx3_23 : x3_23.toInt = x3_10.toInt + (1 : Int) := i_add (rfl : x3_10.toInt = x3_10.toInt) (show (1 : Int32).toInt = (1 : Int) from rfl) (by omega) (by omega) ex3_23
                            refine lv_iinc (v := x3_23) (lv' := [(3, .int x3_23), (4, .int x4_15), (2, .int x2_16), (0, .ref (ad 0)), (1, .int a)]) hx hb dX11_measures_156 hl (k := 1) rfl (by rw [ex3_23]; rfl) (by decide) rfl (fun ls hl => ?_)
                            refine lv_goto (tgt := 54) hx hb dX11_measures_159 (by decide) ?_
                            exact ih13 x3_23 x2_16 ar_17 _ _ _ (by omega) (by omega) hoa hom hos (fun h c hc => hnx2 h c (by omega)) hot hP hS (lv_sub hl [0, 2, 3, 4] rfl)
                          · skip
                            have q_22 : r_21.toInt = (0 : Int) := i_eq2 (rfl : r_21.toInt = r_21.toInt) (show (0 : Int32).toInt = (0 : Int) from rfl) c_22
                            refine lv_aload_n hx hb dX11_measures_78 rfl (lv_at hl 3 rfl) ?_
                            refine lv_iload_n hx hb dX11_measures_79 rfl (lv_at hl 1 rfl) ?_
                            refine lv_iload hx hb dX11_measures_80 (lv_at hl 0 rfl) ?_
                            refine g_callSi (va_runV (As := [.int x3_10, .int x4_15]) (rest := []) ⟨hx, hb, hml, hown, hts⟩ (c_X11_next l D cy ad hI _ iv ar_17 x3_10 x4_15 (by omega) (by omega)) (cwV 2 hts gX11_measures_X11_next rfl rfl rfl (by decide +kernel) ⟨Nat.le_of_ble_eq_true rfl, Nat.le_of_ble_eq_true rfl⟩) (m_preV hP hK hSt hNw hS (m_at11 (Nat.le_of_ble_eq_true rfl) rfl) rfl) rfl rfl hl.1 rfl (lv_room (Nat.le_of_ble_eq_true rfl)) dX11_measures_82 ⟨Nat.zero_le _, Nat.zero_le _⟩) (fun r_24 w_24 => ?_)
                            try dsimp only at w_24
                            have hnx1 := w_24
                            rw [hoa 1 (by omega)] at hnx1
                            refine lv_istore (lv' := [(5, .int r_24), (4, .int x4_15), (3, .int x3_10), (2, .int x2_16), (0, .ref (ad 0)), (1, .int a)]) hx hb dX11_measures_85 hl (by decide) rfl (fun ls hl => ?_)
                            refine lv_iload hx hb dX11_measures_87 (lv_at hl 0 rfl) ?_
                            refine lv_if_ge (tgt := 97) hx hb dX11_measures_89 (by decide) (fun c_25 => ?_) (fun c_25 => ?_)
                            · skip
                              have q_25 : (0 : Int) ≤ r_24.toInt := i_le2 (show (0 : Int32).toInt = (0 : Int) from rfl) (rfl : r_24.toInt = r_24.toInt) c_25
                              refine lv_aload_n hx hb dX11_measures_97 rfl (lv_at hl 4 rfl) ?_
                              refine lv_iload_n hx hb dX11_measures_98 rfl (lv_at hl 2 rfl) ?_
                              refine lv_iload hx hb dX11_measures_99 (lv_at hl 1 rfl) ?_
                              refine g_callSi (va_runV (As := [.int x3_10, .int x4_15]) (rest := []) ⟨hx, hb, hml, hown, hts⟩ (c_X11_ticks l D cy ad hI _ iv ar_17 x3_10 x4_15 (by omega) (by omega)) (cwV 2 hts gX11_measures_X11_ticks rfl rfl rfl (by decide +kernel) ⟨Nat.le_of_ble_eq_true rfl, Nat.le_of_ble_eq_true rfl⟩) (m_preV hP hK hSt hNw hS (m_at11 (Nat.le_of_ble_eq_true rfl) rfl) rfl) rfl rfl hl.1 rfl (lv_room (Nat.le_of_ble_eq_true rfl)) dX11_measures_101 ⟨Nat.zero_le _, Nat.zero_le _⟩) (fun r_26 w_26 => ?_)
                              try dsimp only at w_26
                              have htk1 := w_26
                              rw [hoa 1 (by omega)] at htk1
                              refine lv_aload_n hx hb dX11_measures_104 rfl (lv_at hl 4 rfl) ?_
                              refine va_get (D := D) (ci := 11) (v := .ref (ad 5)) (C := RX11) (T := TX11) (N := 30) hx hb hts inX11 hown hK hP 0 (m_at11 (Nat.le_of_ble_eq_true rfl) rfl) rfl 7 (by decide) lk1 (fun _ h9 => h9) rfl dX11_measures_105 ?_
                              refine lv_bipush (v := 108) hx hb dX11_measures_108 (by decide) ?_
                              refine lv_iload_n hx hb dX11_measures_110 rfl (lv_at hl 5 rfl) ?_
                              refine lv_imul hx hb dX11_measures_111 ?_
                              refine lv_topi (fun v_27 ev_27 => ?_)
                              have tv_27 : v_27.toInt = (108 : Int) * a.toInt := i_mul (show (108 : Int32).toInt = (108 : Int) from rfl) (rfl : a.toInt = a.toInt) (by omega) (by omega) ev_27
                              refine lv_iload hx hb dX11_measures_112 (lv_at hl 0 rfl) ?_
                              refine lv_iadd hx hb dX11_measures_114 ?_
                              refine lv_topi (fun v_28 ev_28 => ?_)
                              have tv_28 : v_28.toInt = v_27.toInt + r_24.toInt := i_add (rfl : v_27.toInt = v_27.toInt) (rfl : r_24.toInt = r_24.toInt) (by omega) (by omega) ev_28
                              refine va_iald hx hb hK hP 5 0 (m_at12 (Nat.le_of_ble_eq_true rfl) rfl) rfl (g_in (N := 11664) (rfl : v_28.toInt = v_28.toInt) rfl (by omega) (by omega)) dX11_measures_115 ?_
                              refine lv_topi (fun v_29 ev_29 => ?_)
                              have hv1 : v_29.toInt = (ar_17 5 (108 * a.toInt.toNat + (r_24.toInt).toNat)).toInt := by
                                rw [ev_29, g_cN (rfl : v_28.toInt = _)]
                                congr 2
                                omega
                              have hvn1 := (hom (r_24.toInt).toNat (by omega)).1
                              have hvn2 := (hom (r_24.toInt).toNat (by omega)).2.1
                              refine lv_iadd hx hb dX11_measures_116 ?_
                              refine lv_topi (fun v_30 ev_30 => ?_)
                              have tv_30 : v_30.toInt = r_26.toInt + v_29.toInt := i_add (rfl : r_26.toInt = r_26.toInt) (rfl : v_29.toInt = v_29.toInt) (by omega) (by omega) ev_30
                              refine lv_istore (lv' := [(6, .int v_30), (5, .int r_24), (4, .int x4_15), (3, .int x3_10), (2, .int x2_16), (0, .ref (ad 0)), (1, .int a)]) hx hb dX11_measures_117 hl (by decide) rfl (fun ls hl => ?_)
                              refine lv_iload hx hb dX11_measures_119 (lv_at hl 0 rfl) ?_
                              refine lv_aload_n hx hb dX11_measures_121 rfl (lv_at hl 5 rfl) ?_
                              refine va_get (D := D) (ci := 11) (v := .ref (ad 5)) (C := RX11) (T := TX11) (N := 30) hx hb hts inX11 hown hK hP 0 (m_at11 (Nat.le_of_ble_eq_true rfl) rfl) rfl 7 (by decide) lk1 (fun _ h9 => h9) rfl dX11_measures_122 ?_
                              refine lv_bipush (v := 108) hx hb dX11_measures_125 (by decide) ?_
                              refine lv_iload_n hx hb dX11_measures_127 rfl (lv_at hl 6 rfl) ?_
                              refine lv_imul hx hb dX11_measures_128 ?_
                              refine lv_topi (fun v_31 ev_31 => ?_)
                              have tv_31 : v_31.toInt = (108 : Int) * a.toInt := i_mul (show (108 : Int32).toInt = (108 : Int) from rfl) (rfl : a.toInt = a.toInt) (by omega) (by omega) ev_31
                              refine lv_iload_n hx hb dX11_measures_129 rfl (lv_at hl 3 rfl) ?_
                              refine lv_iadd hx hb dX11_measures_130 ?_
                              refine lv_topi (fun v_32 ev_32 => ?_)
                              have tv_32 : v_32.toInt = v_31.toInt + x3_10.toInt := i_add (rfl : v_31.toInt = v_31.toInt) (rfl : x3_10.toInt = x3_10.toInt) (by omega) (by omega) ev_32
                              refine va_iald hx hb hK hP 5 0 (m_at12 (Nat.le_of_ble_eq_true rfl) rfl) rfl (g_in (N := 11664) (rfl : v_32.toInt = v_32.toInt) rfl (by omega) (by omega)) dX11_measures_131 ?_
                              refine lv_topi (fun v_33 ev_33 => ?_)
                              have hv2 : v_33.toInt = (ar_17 5 (108 * a.toInt.toNat + (x3_10.toInt).toNat)).toInt := by
                                rw [ev_33, g_cN (rfl : v_32.toInt = _)]
                                congr 2
                                omega
                              have hvc1 := (hom (x3_10.toInt).toNat (by omega)).1
                              have hvc2 := (hom (x3_10.toInt).toNat (by omega)).2.1
                              refine lv_icmp_ge (tgt := 150) hx hb dX11_measures_132 (by decide) (fun c_34 => ?_) (fun c_34 => ?_)
                              · skip
                                have q_34 : v_33.toInt ≤ v_30.toInt := i_le2 (rfl : v_33.toInt = v_33.toInt) (rfl : v_30.toInt = v_30.toInt) c_34
                                have hcur : ∀ q : Nat, (q : Int) = (x4_15.toInt) → FX (ar 1) (ar_17 5) a.toInt.toNat (x3_10.toInt).toNat q := fun q hq hob n hn => by
                                  have e : q = (x4_15.toInt).toNat := by omega
                                  subst e
                                  have e2 : n = (r_24.toInt).toNat := by omega
                                  rw [e2]
                                  omega
                                have hoy2 : (x2_16.toInt) = 0 → ∀ q : Nat, 1 ≤ q → (q : Int) < (x4_15.toInt) + 1 → FX (ar 1) (ar_17 5) a.toInt.toNat (x3_10.toInt).toNat q := fun h0 q h1 hq => (Classical.em ((q : Int) = (x4_15.toInt))).elim (hcur q) (fun e => hoy h0 q h1 (by omega))
                                have hoa2 := hoa
                                have hom2 := hom
                                have hos2 := hos
                                have hox2 := hox
                                have hot2 := hot
                                obtain ⟨x4_35, ex4_35⟩ : ∃ y : Int32, y = x4_15 + 1 := ⟨_, rfl⟩
                                have tx4_35 : x4_35.toInt = x4_15.toInt + (1 : Int) := i_add (rfl : x4_15.toInt = x4_15.toInt) (show (1 : Int32).toInt = (1 : Int) from rfl) (by omega) (by omega) ex4_35
                                refine lv_iinc (v := x4_35) (lv' := [(4, .int x4_35), (6, .int v_30), (5, .int r_24), (3, .int x3_10), (2, .int x2_16), (0, .ref (ad 0)), (1, .int a)]) hx hb dX11_measures_150 hl (k := 2) rfl (by rw [ex4_35]; rfl) (by decide) rfl (fun ls hl => ?_)
                                refine lv_goto (tgt := 63) hx hb dX11_measures_153 (by decide) ?_
                                exact ih18 x4_35 x2_16 ar_17 _ _ _ (by omega) (by omega) hoa2 hom2 hos2 hox2 (fun h q h1 hq => hoy2 h q h1 (by omega)) hot2 hP hS (lv_sub hl [0, 3, 4, 5, 6] rfl)
                              · skip
                                have q_34 : v_30.toInt < v_33.toInt := i_nle2 (rfl : v_33.toInt = v_33.toInt) (rfl : v_30.toInt = v_30.toInt) c_34
                                refine lv_aload_n hx hb dX11_measures_135 rfl (lv_at hl 5 rfl) ?_
                                refine va_get (D := D) (ci := 11) (v := .ref (ad 5)) (C := RX11) (T := TX11) (N := 30) hx hb hts inX11 hown hK hP 0 (m_at11 (Nat.le_of_ble_eq_true rfl) rfl) rfl 7 (by decide) lk1 (fun _ h9 => h9) rfl dX11_measures_136 ?_
                                refine lv_bipush (v := 108) hx hb dX11_measures_139 (by decide) ?_
                                refine lv_iload_n hx hb dX11_measures_141 rfl (lv_at hl 6 rfl) ?_
                                refine lv_imul hx hb dX11_measures_142 ?_
                                refine lv_topi (fun v_36 ev_36 => ?_)
                                have tv_36 : v_36.toInt = (108 : Int) * a.toInt := i_mul (show (108 : Int32).toInt = (108 : Int) from rfl) (rfl : a.toInt = a.toInt) (by omega) (by omega) ev_36
                                refine lv_iload_n hx hb dX11_measures_143 rfl (lv_at hl 3 rfl) ?_
                                refine lv_iadd hx hb dX11_measures_144 ?_
                                refine lv_topi (fun v_37 ev_37 => ?_)
                                have tv_37 : v_37.toInt = v_36.toInt + x3_10.toInt := i_add (rfl : v_36.toInt = v_36.toInt) (rfl : x3_10.toInt = x3_10.toInt) (by omega) (by omega) ev_37
                                refine lv_iload hx hb dX11_measures_145 (lv_at hl 0 rfl) ?_
                                refine va_iast hx hb hK hP (mD hI) hS 5 0 (m_at12 (Nat.le_of_ble_eq_true rfl) rfl) rfl (g_in (N := 11664) (rfl : v_37.toInt = v_37.toInt) rfl (by omega) (by omega)) dX11_measures_147 (fun H locs hP _ hS => ?_)
                                rw [m_pt12 (Nat.le_of_ble_eq_true rfl) rfl] at hP
                                obtain ⟨ar_38, ear_38⟩ : ∃ z : gAr, z = va_up ar_17 5 (upd (ar_17 5) v_37.toNatClampNeg v_30) := ⟨_, rfl⟩
                                rw [← ear_38] at hP
                                have hix : v_37.toNatClampNeg = 108 * a.toInt.toNat + (x3_10.toInt).toNat := by rw [g_cN (rfl : v_37.toInt = _)]; omega
                                have har : ar_38 5 = upd (ar_17 5) (108 * a.toInt.toNat + (x3_10.toInt).toNat) v_30 := by rw [ear_38, ua_s, hix]
                                have hot2 : ∀ i : Nat, ¬ (108 * a.toInt.toNat ≤ i ∧ i < 108 * a.toInt.toNat + 108) → ar_38 5 i = ar 5 i := fun i hi => by
                                  rw [har, pk_un (show i ≠ 108 * a.toInt.toNat + (x3_10.toInt).toNat from by omega)]; exact hot i hi
                                have hset := MB.set hom (c := (x3_10.toInt).toNat) (q := (x4_15.toInt).toNat) (n := (r_24.toInt).toNat) (by omega) (by omega) (by omega) (by omega) (by omega) (x := v_30) (by omega) (by omega)
                                have hom2 : MB (ar 1) (ar_38 5) a.toInt.toNat := by rw [har]; exact hset.1
                                have hsm : sm (ar_38 5) (108 * a.toInt.toNat) 108 < sm (ar_17 5) (108 * a.toInt.toNat) 108 := by rw [har]; exact hset.2
                                have hos2 : sm (ar_38 5) (108 * a.toInt.toNat) 108 ≤ sm (ar_6 5) (108 * a.toInt.toNat) 108 ∧ ((1 : Int32).toInt = 1 → sm (ar_38 5) (108 * a.toInt.toNat) 108 < sm (ar_6 5) (108 * a.toInt.toNat) 108) := ⟨by omega, fun _ => by omega⟩
                                have hoa2 : ∀ c, c ≠ 5 → ar_38 c = ar c := fun c h => by rw [ear_38, ua_o h]; exact hoa c h
                                refine lv_iconst (v := 1) hx hb dX11_measures_148 (by decide) ?_
                                refine lv_istore_n (lv' := [(2, .int 1), (6, .int v_30), (5, .int r_24), (4, .int x4_15), (3, .int x3_10), (0, .ref (ad 0)), (1, .int a)]) hx hb dX11_measures_149 rfl hl (by decide) rfl (fun ls hl => ?_)
                                obtain ⟨x4_39, ex4_39⟩ : ∃ y : Int32, y = x4_15 + 1 := ⟨_, rfl⟩
                                have tx4_39 : x4_39.toInt = x4_15.toInt + (1 : Int) := i_add (rfl : x4_15.toInt = x4_15.toInt) (show (1 : Int32).toInt = (1 : Int) from rfl) (by omega) (by omega) ex4_39
                                refine lv_iinc (v := x4_39) (lv' := [(4, .int x4_39), (2, .int 1), (6, .int v_30), (5, .int r_24), (3, .int x3_10), (0, .ref (ad 0)), (1, .int a)]) hx hb dX11_measures_150 hl (k := 3) rfl (by rw [ex4_39]; rfl) (by decide) rfl (fun ls hl => ?_)
                                refine lv_goto (tgt := 63) hx hb dX11_measures_153 (by decide) ?_
                                have zl_40 : (1 : Int32).toInt = (1 : Int) := rfl
                                exact ih18 x4_39 1 ar_38 _ _ _ (by omega) (by omega) hoa2 hom2 hos2 (fun h => absurd h (by decide)) (fun h => absurd h (by decide)) hot2 hP hS (lv_sub hl [0, 4, 1, 5, 6] rfl)
                            · skip
                              have q_25 : r_24.toInt < (0 : Int) := i_nle2 (show (0 : Int32).toInt = (0 : Int) from rfl) (rfl : r_24.toInt = r_24.toInt) c_25
                              refine lv_ldc (v := 100000) hx hb hown lk2 dX11_measures_92 ?_
                              refine lv_goto (tgt := 117) hx hb dX11_measures_94 (by decide) ?_
                              refine lv_istore (lv' := [(6, .int 100000), (5, .int r_24), (4, .int x4_15), (3, .int x3_10), (2, .int x2_16), (0, .ref (ad 0)), (1, .int a)]) hx hb dX11_measures_117 hl (by decide) rfl (fun ls hl => ?_)
                              refine lv_iload hx hb dX11_measures_119 (lv_at hl 0 rfl) ?_
                              refine lv_aload_n hx hb dX11_measures_121 rfl (lv_at hl 5 rfl) ?_
                              refine va_get (D := D) (ci := 11) (v := .ref (ad 5)) (C := RX11) (T := TX11) (N := 30) hx hb hts inX11 hown hK hP 0 (m_at11 (Nat.le_of_ble_eq_true rfl) rfl) rfl 7 (by decide) lk1 (fun _ h9 => h9) rfl dX11_measures_122 ?_
                              refine lv_bipush (v := 108) hx hb dX11_measures_125 (by decide) ?_
                              refine lv_iload_n hx hb dX11_measures_127 rfl (lv_at hl 6 rfl) ?_
                              refine lv_imul hx hb dX11_measures_128 ?_
                              refine lv_topi (fun v_41 ev_41 => ?_)
                              have tv_41 : v_41.toInt = (108 : Int) * a.toInt := i_mul (show (108 : Int32).toInt = (108 : Int) from rfl) (rfl : a.toInt = a.toInt) (by omega) (by omega) ev_41
                              refine lv_iload_n hx hb dX11_measures_129 rfl (lv_at hl 3 rfl) ?_
                              refine lv_iadd hx hb dX11_measures_130 ?_
                              refine lv_topi (fun v_42 ev_42 => ?_)
                              have tv_42 : v_42.toInt = v_41.toInt + x3_10.toInt := i_add (rfl : v_41.toInt = v_41.toInt) (rfl : x3_10.toInt = x3_10.toInt) (by omega) (by omega) ev_42
                              refine va_iald hx hb hK hP 5 0 (m_at12 (Nat.le_of_ble_eq_true rfl) rfl) rfl (g_in (N := 11664) (rfl : v_42.toInt = v_42.toInt) rfl (by omega) (by omega)) dX11_measures_131 ?_
                              refine lv_topi (fun v_43 ev_43 => ?_)
                              have hv2 : v_43.toInt = (ar_17 5 (108 * a.toInt.toNat + (x3_10.toInt).toNat)).toInt := by
                                rw [ev_43, g_cN (rfl : v_42.toInt = _)]
                                congr 2
                                omega
                              have hvc1 := (hom (x3_10.toInt).toNat (by omega)).1
                              have hvc2 := (hom (x3_10.toInt).toNat (by omega)).2.1
                              refine lv_icmp_ge (tgt := 150) hx hb dX11_measures_132 (by decide) (fun c_44 => ?_) (fun c_44 => ?_)
                              · skip
                                have q_44 : v_43.toInt ≤ (100000 : Int) := i_le2 (rfl : v_43.toInt = v_43.toInt) (show (100000 : Int32).toInt = (100000 : Int) from rfl) c_44
                                have hcur : ∀ q : Nat, (q : Int) = (x4_15.toInt) → FX (ar 1) (ar_17 5) a.toInt.toNat (x3_10.toInt).toNat q := fun q hq hob n hn => by
                                  have e : q = (x4_15.toInt).toNat := by omega
                                  subst e
                                  exfalso
                                  omega
                                have hoy2 : (x2_16.toInt) = 0 → ∀ q : Nat, 1 ≤ q → (q : Int) < (x4_15.toInt) + 1 → FX (ar 1) (ar_17 5) a.toInt.toNat (x3_10.toInt).toNat q := fun h0 q h1 hq => (Classical.em ((q : Int) = (x4_15.toInt))).elim (hcur q) (fun e => hoy h0 q h1 (by omega))
                                have hoa2 := hoa
                                have hom2 := hom
                                have hos2 := hos
                                have hox2 := hox
                                have hot2 := hot
                                obtain ⟨x4_45, ex4_45⟩ : ∃ y : Int32, y = x4_15 + 1 := ⟨_, rfl⟩
                                have tx4_45 : x4_45.toInt = x4_15.toInt + (1 : Int) := i_add (rfl : x4_15.toInt = x4_15.toInt) (show (1 : Int32).toInt = (1 : Int) from rfl) (by omega) (by omega) ex4_45
                                refine lv_iinc (v := x4_45) (lv' := [(4, .int x4_45), (6, .int 100000), (5, .int r_24), (3, .int x3_10), (2, .int x2_16), (0, .ref (ad 0)), (1, .int a)]) hx hb dX11_measures_150 hl (k := 2) rfl (by rw [ex4_45]; rfl) (by decide) rfl (fun ls hl => ?_)
                                refine lv_goto (tgt := 63) hx hb dX11_measures_153 (by decide) ?_
                                exact ih18 x4_45 x2_16 ar_17 _ _ _ (by omega) (by omega) hoa2 hom2 hos2 hox2 (fun h q h1 hq => hoy2 h q h1 (by omega)) hot2 hP hS (lv_sub hl [0, 3, 4, 5, 6] rfl)
                              · skip
                                have q_44 : (100000 : Int) < v_43.toInt := i_nle2 (rfl : v_43.toInt = v_43.toInt) (show (100000 : Int32).toInt = (100000 : Int) from rfl) c_44
                                exfalso; omega
                    have zl_46 : (1 : Int32).toInt = (1 : Int) := rfl
                    exact loop18 (((7 - ((1 : Int))).toNat) + 1) 1 x2_11 ar_12 _ _ _ (by omega) (by omega) hna hnm hns hnx (fun _ q h1 hq => by exfalso; omega) hnt hP hS (lv_sub hl [0, 1, 2, 3, 4] rfl)
              have zl_47 : (0 : Int32).toInt = (0 : Int) := rfl
              have zl_48 : (0 : Int32).toInt = (0 : Int) := rfl
              exact loop13 (((108 - ((0 : Int))).toNat) + 1) 0 0 ar_6 _ _ _ (by omega) (by omega) hma hmm ⟨Int.le_refl _, fun h => absurd h (by decide)⟩ (fun _ c hc => by exfalso; omega) hmt hP hS (lv_sub hl [0, 1, 2, 3] rfl)
        have zl_49 : (1 : Int32).toInt = (1 : Int) := rfl
        exact loop7 (((2 * sm (ar_2 5) (108 * a.toInt.toNat) 108 + ((1 : Int))).toNat) + 1) 1 ar_2 _ _ _ (by omega) (by omega) hga hmi (fun h => absurd h (by decide)) hgt hP hS (lv_sub hl [0, 1, 2] rfl)
      · skip
        have q_4 : x2_1.toInt < (108 : Int) := i_nle2 (show (108 : Int32).toInt = (108 : Int) from rfl) (rfl : x2_1.toInt = x2_1.toInt) c_4
        refine lv_aload_n hx hb dX11_measures_8 rfl (lv_at hl 1 rfl) ?_
        refine va_get (D := D) (ci := 11) (v := .ref (ad 5)) (C := RX11) (T := TX11) (N := 30) hx hb hts inX11 hown hK hP 0 (m_at11 (Nat.le_of_ble_eq_true rfl) rfl) rfl 7 (by decide) lk1 (fun _ h9 => h9) rfl dX11_measures_9 ?_
        refine lv_bipush (v := 108) hx hb dX11_measures_12 (by decide) ?_
        refine lv_iload_n hx hb dX11_measures_14 rfl (lv_at hl 2 rfl) ?_
        refine lv_imul hx hb dX11_measures_15 ?_
        refine lv_topi (fun v_50 ev_50 => ?_)
        have tv_50 : v_50.toInt = (108 : Int) * a.toInt := i_mul (show (108 : Int32).toInt = (108 : Int) from rfl) (rfl : a.toInt = a.toInt) (by omega) (by omega) ev_50
        refine lv_iload_n hx hb dX11_measures_16 rfl (lv_at hl 0 rfl) ?_
        refine lv_iadd hx hb dX11_measures_17 ?_
        refine lv_topi (fun v_51 ev_51 => ?_)
        have tv_51 : v_51.toInt = v_50.toInt + x2_1.toInt := i_add (rfl : v_50.toInt = v_50.toInt) (rfl : x2_1.toInt = x2_1.toInt) (by omega) (by omega) ev_51
        refine lv_iload_n hx hb dX11_measures_18 rfl (lv_at hl 0 rfl) ?_
        refine lv_iload_n hx hb dX11_measures_19 rfl (lv_at hl 2 rfl) ?_
        refine lv_icmp_ne (tgt := 35) hx hb dX11_measures_20 (by decide) (fun c_52 => ?_) (fun c_52 => ?_)
        · skip
          have q_52 : x2_1.toInt ≠ a.toInt := i_ne2 (rfl : x2_1.toInt = x2_1.toInt) (rfl : a.toInt = a.toInt) c_52
          refine lv_ldc (v := 100000) hx hb hown lk2 dX11_measures_35 ?_
          refine va_iast hx hb hK hP (mD hI) hS 5 0 (m_at12 (Nat.le_of_ble_eq_true rfl) rfl) rfl (g_in (N := 11664) (rfl : v_51.toInt = v_51.toInt) rfl (by omega) (by omega)) dX11_measures_37 (fun H locs hP _ hS => ?_)
          rw [m_pt12 (Nat.le_of_ble_eq_true rfl) rfl] at hP
          obtain ⟨ar_53, ear_53⟩ : ∃ z : gAr, z = va_up ar_2 5 (upd (ar_2 5) v_51.toNatClampNeg 100000) := ⟨_, rfl⟩
          rw [← ear_53] at hP
          have hix : v_51.toNatClampNeg = 108 * a.toInt.toNat + (x2_1.toInt).toNat := by rw [g_cN (rfl : v_51.toInt = _)]; omega
          have har : ar_53 5 = upd (ar_2 5) (108 * a.toInt.toNat + (x2_1.toInt).toNat) 100000 := by rw [ear_53, ua_s, hix]
          have hgt2 : ∀ i : Nat, ¬ (108 * a.toInt.toNat ≤ i ∧ i < 108 * a.toInt.toNat + 108) → ar_53 5 i = ar 5 i := fun i hi => by
            rw [har, pk_un (show i ≠ 108 * a.toInt.toNat + (x2_1.toInt).toNat from by omega)]; exact hgt i hi
          have hga2 : ∀ c, c ≠ 5 → ar_53 c = ar c := fun c h => by rw [ear_53, ua_o h]; exact hga c h
          have hgf2 : ∀ c : Nat, (c : Int) < (x2_1.toInt) + 1 → (ar_53 5 (108 * a.toInt.toNat + c)).toInt = if c = a.toInt.toNat ∧ (ar 1 (3 + c)).toInt ≠ 1 then 0 else 100000 := fun c hc => by
            rw [har]
            by_cases e : c = (x2_1.toInt).toNat
            · rw [e, pk_us]
              split <;> first | rfl | (exfalso; omega)
            · rw [pk_un (show 108 * a.toInt.toNat + c ≠ 108 * a.toInt.toNat + (x2_1.toInt).toNat from by omega)]; exact hgf c (by omega)
          obtain ⟨x2_54, ex2_54⟩ : ∃ y : Int32, y = x2_1 + 1 := ⟨_, rfl⟩
          have tx2_54 : x2_54.toInt = x2_1.toInt + (1 : Int) := i_add (rfl : x2_1.toInt = x2_1.toInt) (show (1 : Int32).toInt = (1 : Int) from rfl) (by omega) (by omega) ex2_54
          refine lv_iinc (v := x2_54) (lv' := [(2, .int x2_54), (0, .ref (ad 0)), (1, .int a)]) hx hb dX11_measures_38 hl (k := 0) rfl (by rw [ex2_54]; rfl) (by decide) rfl (fun ls hl => ?_)
          refine lv_goto (tgt := 2) hx hb dX11_measures_41 (by decide) ?_
          exact ih3 x2_54 ar_53 _ _ _ (by omega) (by omega) hga2 (fun c hc => hgf2 c (by omega)) hgt2 hP hS (lv_sub hl [0, 1, 2] rfl)
        · skip
          have q_52 : x2_1.toInt = a.toInt := i_eq2 (rfl : x2_1.toInt = x2_1.toInt) (rfl : a.toInt = a.toInt) c_52
          refine lv_aload_n hx hb dX11_measures_23 rfl (lv_at hl 1 rfl) ?_
          refine lv_iload_n hx hb dX11_measures_24 rfl (lv_at hl 0 rfl) ?_
          refine g_callSi (va_runV (As := [.int x2_1]) (rest := [.int v_51, .ref (ad 5)]) ⟨hx, hb, hml, hown, hts⟩ (c_X11_isObstacle l D cy ad hI _ iv ar_2 x2_1 (by omega)) (cwV 1 hts gX11_measures_X11_isObstacle rfl rfl rfl (by decide +kernel) ⟨Nat.le_of_ble_eq_true rfl, Nat.le_of_ble_eq_true rfl⟩) (m_preV hP hK hSt hNw hS (m_at11 (Nat.le_of_ble_eq_true rfl) rfl) rfl) rfl rfl hl.1 rfl (lv_room (Nat.le_of_ble_eq_true rfl)) dX11_measures_25 ⟨Nat.zero_le _, Nat.zero_le _⟩) (fun r_55 w_55 => ?_)
          try dsimp only at w_55
          rw [hga 1 (by omega)] at w_55
          refine lv_if_ne (tgt := 35) hx hb dX11_measures_28 (by decide) (fun c_56 => ?_) (fun c_56 => ?_)
          · skip
            have q_56 : r_55.toInt ≠ (0 : Int) := i_ne2 (rfl : r_55.toInt = r_55.toInt) (show (0 : Int32).toInt = (0 : Int) from rfl) c_56
            refine lv_ldc (v := 100000) hx hb hown lk2 dX11_measures_35 ?_
            refine va_iast hx hb hK hP (mD hI) hS 5 0 (m_at12 (Nat.le_of_ble_eq_true rfl) rfl) rfl (g_in (N := 11664) (rfl : v_51.toInt = v_51.toInt) rfl (by omega) (by omega)) dX11_measures_37 (fun H locs hP _ hS => ?_)
            rw [m_pt12 (Nat.le_of_ble_eq_true rfl) rfl] at hP
            obtain ⟨ar_57, ear_57⟩ : ∃ z : gAr, z = va_up ar_2 5 (upd (ar_2 5) v_51.toNatClampNeg 100000) := ⟨_, rfl⟩
            rw [← ear_57] at hP
            have hix : v_51.toNatClampNeg = 108 * a.toInt.toNat + (x2_1.toInt).toNat := by rw [g_cN (rfl : v_51.toInt = _)]; omega
            have har : ar_57 5 = upd (ar_2 5) (108 * a.toInt.toNat + (x2_1.toInt).toNat) 100000 := by rw [ear_57, ua_s, hix]
            have hgt2 : ∀ i : Nat, ¬ (108 * a.toInt.toNat ≤ i ∧ i < 108 * a.toInt.toNat + 108) → ar_57 5 i = ar 5 i := fun i hi => by
              rw [har, pk_un (show i ≠ 108 * a.toInt.toNat + (x2_1.toInt).toNat from by omega)]; exact hgt i hi
            have hga2 : ∀ c, c ≠ 5 → ar_57 c = ar c := fun c h => by rw [ear_57, ua_o h]; exact hga c h
            have hgf2 : ∀ c : Nat, (c : Int) < (x2_1.toInt) + 1 → (ar_57 5 (108 * a.toInt.toNat + c)).toInt = if c = a.toInt.toNat ∧ (ar 1 (3 + c)).toInt ≠ 1 then 0 else 100000 := fun c hc => by
              rw [har]
              by_cases e : c = (x2_1.toInt).toNat
              · rw [e, pk_us]
                split <;> first | rfl | (exfalso; omega)
              · rw [pk_un (show 108 * a.toInt.toNat + c ≠ 108 * a.toInt.toNat + (x2_1.toInt).toNat from by omega)]; exact hgf c (by omega)
            obtain ⟨x2_58, ex2_58⟩ : ∃ y : Int32, y = x2_1 + 1 := ⟨_, rfl⟩
            have tx2_58 : x2_58.toInt = x2_1.toInt + (1 : Int) := i_add (rfl : x2_1.toInt = x2_1.toInt) (show (1 : Int32).toInt = (1 : Int) from rfl) (by omega) (by omega) ex2_58
            refine lv_iinc (v := x2_58) (lv' := [(2, .int x2_58), (0, .ref (ad 0)), (1, .int a)]) hx hb dX11_measures_38 hl (k := 0) rfl (by rw [ex2_58]; rfl) (by decide) rfl (fun ls hl => ?_)
            refine lv_goto (tgt := 2) hx hb dX11_measures_41 (by decide) ?_
            exact ih3 x2_58 ar_57 _ _ _ (by omega) (by omega) hga2 (fun c hc => hgf2 c (by omega)) hgt2 hP hS (lv_sub hl [0, 1, 2] rfl)
          · skip
            have q_56 : r_55.toInt = (0 : Int) := i_eq2 (rfl : r_55.toInt = r_55.toInt) (show (0 : Int32).toInt = (0 : Int) from rfl) c_56
            refine lv_iconst (v := 0) hx hb dX11_measures_31 (by decide) ?_
            refine lv_goto (tgt := 37) hx hb dX11_measures_32 (by decide) ?_
            refine va_iast hx hb hK hP (mD hI) hS 5 0 (m_at12 (Nat.le_of_ble_eq_true rfl) rfl) rfl (g_in (N := 11664) (rfl : v_51.toInt = v_51.toInt) rfl (by omega) (by omega)) dX11_measures_37 (fun H locs hP _ hS => ?_)
            rw [m_pt12 (Nat.le_of_ble_eq_true rfl) rfl] at hP
            obtain ⟨ar_59, ear_59⟩ : ∃ z : gAr, z = va_up ar_2 5 (upd (ar_2 5) v_51.toNatClampNeg 0) := ⟨_, rfl⟩
            rw [← ear_59] at hP
            have hix : v_51.toNatClampNeg = 108 * a.toInt.toNat + (x2_1.toInt).toNat := by rw [g_cN (rfl : v_51.toInt = _)]; omega
            have har : ar_59 5 = upd (ar_2 5) (108 * a.toInt.toNat + (x2_1.toInt).toNat) 0 := by rw [ear_59, ua_s, hix]
            have hgt2 : ∀ i : Nat, ¬ (108 * a.toInt.toNat ≤ i ∧ i < 108 * a.toInt.toNat + 108) → ar_59 5 i = ar 5 i := fun i hi => by
              rw [har, pk_un (show i ≠ 108 * a.toInt.toNat + (x2_1.toInt).toNat from by omega)]; exact hgt i hi
            have hga2 : ∀ c, c ≠ 5 → ar_59 c = ar c := fun c h => by rw [ear_59, ua_o h]; exact hga c h
            have hgf2 : ∀ c : Nat, (c : Int) < (x2_1.toInt) + 1 → (ar_59 5 (108 * a.toInt.toNat + c)).toInt = if c = a.toInt.toNat ∧ (ar 1 (3 + c)).toInt ≠ 1 then 0 else 100000 := fun c hc => by
              rw [har]
              by_cases e : c = (x2_1.toInt).toNat
              · rw [e, pk_us]
                split <;> first | rfl | (exfalso; omega)
              · rw [pk_un (show 108 * a.toInt.toNat + c ≠ 108 * a.toInt.toNat + (x2_1.toInt).toNat from by omega)]; exact hgf c (by omega)
            obtain ⟨x2_60, ex2_60⟩ : ∃ y : Int32, y = x2_1 + 1 := ⟨_, rfl⟩
            have tx2_60 : x2_60.toInt = x2_1.toInt + (1 : Int) := i_add (rfl : x2_1.toInt = x2_1.toInt) (show (1 : Int32).toInt = (1 : Int) from rfl) (by omega) (by omega) ex2_60
            refine lv_iinc (v := x2_60) (lv' := [(2, .int x2_60), (0, .ref (ad 0)), (1, .int a)]) hx hb dX11_measures_38 hl (k := 0) rfl (by rw [ex2_60]; rfl) (by decide) rfl (fun ls hl => ?_)
            refine lv_goto (tgt := 2) hx hb dX11_measures_41 (by decide) ?_
            exact ih3 x2_60 ar_59 _ _ _ (by omega) (by omega) hga2 (fun c hc => hgf2 c (by omega)) hgt2 hP hS (lv_sub hl [0, 1, 2] rfl)
  have zl_61 : (0 : Int32).toInt = (0 : Int) := rfl
  exact loop3 (((108 - ((0 : Int))).toNat) + 1) 0 ar _ _ _ (by omega) (by omega) (fun _ _ => rfl) (fun c hc => by exfalso; omega) (fun _ _ => rfl) hP hS (lv_sub hl [0, 1, 2] rfl)
set_option maxHeartbeats 4000000 in
set_option maxRecDepth 100000 in
theorem c_X11_time (l : Launch) (D : va_G) (cy : Nat → ClassId) (ad : Nat → Nat) (hI : mInj ad) (sz : Nat) (iv : gIv) (ar : gAr) (a : Int32) (b : Int32) (hca : 0 ≤ a.toInt ∧ a.toInt < 108) (hcb : 0 ≤ b.toInt ∧ b.toInt < 108) (hka : KA ar) : Met l yX11_time wsX11_time ({ frames := 3, cells := 0, slots := 0, locals := 74 } : Room) (va_Pc [.ref (ad 0), .int a, .int b] (mPre D cy ad sz iv ar)) (va_Qi (fun (r : Int32) (u : gIv × gAr) => r.toInt = (u.2 5 (108 * b.toInt.toNat + a.toInt.toNat)).toInt ∧ u.1 = iv ∧ (∀ c, c ≠ 5 → c ≠ 6 → u.2 c = ar c) ∧ KA u.2 ∧ KS ar u.2 ∧ (u.2 6 b.toInt.toNat).toInt ≠ 0) (mPost D cy ad) (mA ad sz)) 0 0 (mA ad sz) := by
  refine Met.ofW (cc := cX11_time) (maxL := 3) (ret := (some .int)) (by decide) rfl ?_
  intro p e s m args below meth c s₁ B hml hv
  obtain ⟨rfl, rfl, hP, hK, hSt, hNw⟩ := hv
  have hx := B.exec
  have hb := B.bytes
  have hr := B.returns
  have hts := atoms_spec (ws := wsX11_time) B.pre
  have hown : s.vm.findClass RX11 = some m.cls := findClass_of_methodNamed B.named
  have hlocks := B.notSynchronized
  have hS : va_S (mA ad s.heap.size) s.heap s.heap [] := va_S.rf
  have inX11 : ∀ w ∈ u_ws RX11 TX11 30, w ∈ wsX11_time := by decide +kernel
  have lk0 := hts (.fieldLink RX11 25 "FormationPlannerModel" "isKnown" "[Z") (by decide +kernel)
  have lk1 := hts (.fieldLink RX11 22 "FormationPlannerModel" "times" "[I") (by decide +kernel)
  have hl := lv_entry ([.ref (ad 0), .int a, .int b]) (n := 3) (Nat.le_of_ble_eq_true rfl)
  rw [lg_entry_eq]
  generalize (lg_sl ([.ref (ad 0), .int a, .int b]) ++ List.replicate (3 - (lg_sl ([.ref (ad 0), .int a, .int b])).length) Slot.unset).toArray = ls at hl ⊢
  have hl : lv_has ls 3 [(0, .ref (ad 0)), (1, .int a), (2, .int b)] := hl
  obtain ⟨Q, hQ⟩ : ∃ Q, Q = MQ below (va_Qi (fun (r : Int32) (u : gIv × gAr) => r.toInt = (u.2 5 (108 * b.toInt.toNat + a.toInt.toNat)).toInt ∧ u.1 = iv ∧ (∀ c, c ≠ 5 → c ≠ 6 → u.2 c = ar c) ∧ KA u.2 ∧ KS ar u.2 ∧ (u.2 6 b.toInt.toNat).toInt ≠ 0) (mPost D cy ad) (mA ad s.heap.size)) (([.ref (ad 0), .int a, .int b] : List Value).toArray) s 0 0 (mA ad s.heap.size) := ⟨_, rfl⟩
  rw [← hQ]
  refine lv_aload_n hx hb dX11_time_0 rfl (lv_at hl 0 rfl) ?_
  refine va_get (D := D) (ci := 11) (v := .ref (ad 6)) (C := RX11) (T := TX11) (N := 30) hx hb hts inX11 hown hK hP 0 (m_at11 (Nat.le_of_ble_eq_true rfl) rfl) rfl 8 (by decide) lk0 (fun _ h9 => h9) rfl dX11_time_1 ?_
  refine lv_iload_n hx hb dX11_time_4 rfl (lv_at hl 2 rfl) ?_
  refine va_zald hx hb hK hP 6 1 (m_at13 (Nat.le_of_ble_eq_true rfl) rfl) rfl (g_in (N := 108) (rfl : b.toInt = b.toInt) rfl (by omega) (by omega)) dX11_time_5 ?_
  refine lv_topi (fun v_1 ev_1 => ?_)
  have hvk : v_1.toInt = (ar 6 b.toInt.toNat).toInt := by rw [ev_1, g_cN (rfl : b.toInt = _)]
  refine lv_if_ne (tgt := 14) hx hb dX11_time_6 (by decide) (fun c_2 => ?_) (fun c_2 => ?_)
  · skip
    have q_2 : v_1.toInt ≠ (0 : Int) := i_ne2 (rfl : v_1.toInt = v_1.toInt) (show (0 : Int32).toInt = (0 : Int) from rfl) c_2
    have hyk : (ar 6 b.toInt.toNat).toInt ≠ 0 := by omega
    refine lv_aload_n hx hb dX11_time_14 rfl (lv_at hl 0 rfl) ?_
    refine va_get (D := D) (ci := 11) (v := .ref (ad 5)) (C := RX11) (T := TX11) (N := 30) hx hb hts inX11 hown hK hP 0 (m_at11 (Nat.le_of_ble_eq_true rfl) rfl) rfl 7 (by decide) lk1 (fun _ h9 => h9) rfl dX11_time_15 ?_
    refine lv_bipush (v := 108) hx hb dX11_time_18 (by decide) ?_
    refine lv_iload_n hx hb dX11_time_20 rfl (lv_at hl 2 rfl) ?_
    refine lv_imul hx hb dX11_time_21 ?_
    refine lv_topi (fun v_3 ev_3 => ?_)
    have tv_3 : v_3.toInt = (108 : Int) * b.toInt := i_mul (show (108 : Int32).toInt = (108 : Int) from rfl) (rfl : b.toInt = b.toInt) (by omega) (by omega) ev_3
    refine lv_iload_n hx hb dX11_time_22 rfl (lv_at hl 1 rfl) ?_
    refine lv_iadd hx hb dX11_time_23 ?_
    refine lv_topi (fun v_4 ev_4 => ?_)
    have tv_4 : v_4.toInt = v_3.toInt + a.toInt := i_add (rfl : v_3.toInt = v_3.toInt) (rfl : a.toInt = a.toInt) (by omega) (by omega) ev_4
    refine va_iald hx hb hK hP 5 0 (m_at12 (Nat.le_of_ble_eq_true rfl) rfl) rfl (g_in (N := 11664) (rfl : v_4.toInt = v_4.toInt) rfl (by omega) (by omega)) dX11_time_24 ?_
    refine lv_topi (fun v_5 ev_5 => ?_)
    have hv1 : v_5.toInt = (ar 5 (108 * b.toInt.toNat + a.toInt.toNat)).toInt := by
      rw [ev_5, g_cN (rfl : v_4.toInt = _)]
      congr 2
      omega
    rw [hQ]
    exact W.iret (v := v_5) hx hb hr (fun t ht hW => ⟨⟨v_5, (iv, ar), rfl, ⟨by omega, rfl, fun _ _ _ => rfl, hka, KS.rf, hyk⟩, by show va_P _ _ _ _; rw [ht]; exact hP⟩, hS.F ht⟩) hS.2.2 dX11_time_25
  · skip
    have q_2 : v_1.toInt = (0 : Int) := i_eq2 (rfl : v_1.toInt = v_1.toInt) (show (0 : Int32).toInt = (0 : Int) from rfl) c_2
    have hnk : (ar 6 b.toInt.toNat).toInt = 0 := by omega
    refine lv_aload_n hx hb dX11_time_9 rfl (lv_at hl 0 rfl) ?_
    refine lv_iload_n hx hb dX11_time_10 rfl (lv_at hl 2 rfl) ?_
    refine m_callv (va_runV (As := [.int b]) (rest := []) ⟨hx, hb, hml, hown, hts⟩ (c_X11_measures l D cy ad hI _ iv ar b (by omega)) (cwV 1 hts gX11_time_X11_measures rfl rfl rfl (by decide +kernel) ⟨Nat.le_of_ble_eq_true rfl, Nat.le_of_ble_eq_true rfl⟩) (m_preV hP hK hSt hNw hS (m_at11 (Nat.le_of_ble_eq_true rfl) rfl) rfl) rfl rfl hl.1 rfl (lv_room (Nat.le_of_ble_eq_true rfl)) dX11_time_11 ⟨Nat.zero_le _, Nat.zero_le _⟩) hS (fun iv_6 ar_6 H locs w_6 hP hS => ?_)
    try dsimp only at w_6
    have wi_6 := (w_6.1).symm
    subst wi_6
    obtain ⟨-, hw2, hw3, hw4, hw5, hw6⟩ := w_6
    have hw1 : ar_6 1 = ar 1 := hw2 1 (by omega) (by omega)
    have hw7 : KA ar_6 := fun g hg hk => by
      rw [hw1]
      by_cases e : g = b.toInt.toNat
      · rw [e]; exact hw3
      · refine KN.of (T := ar 5) (fun c hc => hw5 _ (by omega)) (hka g hg ?_)
        rw [← hw6 g e]; exact hk
    have hw8 : KS ar ar_6 := fun g hg hk => by
      have e : g ≠ b.toInt.toNat := fun e => by rw [e] at hk; exact hk hnk
      exact ⟨by rw [hw6 g e]; exact hk, fun c hc => hw5 _ (by omega)⟩
    refine lv_aload_n hx hb dX11_time_14 rfl (lv_at hl 0 rfl) ?_
    refine va_get (D := D) (ci := 11) (v := .ref (ad 5)) (C := RX11) (T := TX11) (N := 30) hx hb hts inX11 hown hK hP 0 (m_at11 (Nat.le_of_ble_eq_true rfl) rfl) rfl 7 (by decide) lk1 (fun _ h9 => h9) rfl dX11_time_15 ?_
    refine lv_bipush (v := 108) hx hb dX11_time_18 (by decide) ?_
    refine lv_iload_n hx hb dX11_time_20 rfl (lv_at hl 2 rfl) ?_
    refine lv_imul hx hb dX11_time_21 ?_
    refine lv_topi (fun v_7 ev_7 => ?_)
    have tv_7 : v_7.toInt = (108 : Int) * b.toInt := i_mul (show (108 : Int32).toInt = (108 : Int) from rfl) (rfl : b.toInt = b.toInt) (by omega) (by omega) ev_7
    refine lv_iload_n hx hb dX11_time_22 rfl (lv_at hl 1 rfl) ?_
    refine lv_iadd hx hb dX11_time_23 ?_
    refine lv_topi (fun v_8 ev_8 => ?_)
    have tv_8 : v_8.toInt = v_7.toInt + a.toInt := i_add (rfl : v_7.toInt = v_7.toInt) (rfl : a.toInt = a.toInt) (by omega) (by omega) ev_8
    refine va_iald hx hb hK hP 5 0 (m_at12 (Nat.le_of_ble_eq_true rfl) rfl) rfl (g_in (N := 11664) (rfl : v_8.toInt = v_8.toInt) rfl (by omega) (by omega)) dX11_time_24 ?_
    refine lv_topi (fun v_9 ev_9 => ?_)
    have hv1 : v_9.toInt = (ar_6 5 (108 * b.toInt.toNat + a.toInt.toNat)).toInt := by
      rw [ev_9, g_cN (rfl : v_8.toInt = _)]
      congr 2
      omega
    rw [hQ]
    exact W.iret (v := v_9) hx hb hr (fun t ht hW => ⟨⟨v_9, (iv, ar_6), rfl, ⟨by omega, rfl, hw2, hw7, hw8, by show (ar_6 6 _).toInt ≠ 0; omega⟩, by show va_P _ _ _ _; rw [ht]; exact hP⟩, hS.F ht⟩) hS.2.2 dX11_time_25
