set_option maxHeartbeats 4000000 in
set_option maxRecDepth 100000 in
theorem c_X11_firstAction (l : Launch) (D : va_G) (cy : Nat → ClassId) (ad : Nat → Nat) (hI : mInj ad) (sz : Nat) (iv : gIv) (ar : gAr) (a : Int32) (b : Int32) (hca : 0 ≤ a.toInt ∧ a.toInt < 108) (hcb : 0 ≤ b.toInt ∧ b.toInt < 108) (hka : KA ar) : Met l yX11_firstAction wsX11_firstAction ({ frames := 4, cells := 0, slots := 0, locals := 96 } : Room) (va_Pc [.ref (ad 0), .int a, .int b] (mPre D cy ad sz iv ar)) (va_Qi (fun (r : Int32) (u : gIv × gAr) => u.1 = iv ∧ (∀ c, c ≠ 5 → c ≠ 6 → u.2 c = ar c) ∧ KA u.2 ∧ KS ar u.2 ∧ ((1 ≤ r.toInt ∧ r.toInt < 7 ∧ a.toInt ≠ b.toInt ∧ 0 ≤ NX (ar 1) a.toInt.toNat r.toInt.toNat ∧ (u.2 6 b.toInt.toNat).toInt ≠ 0 ∧ TK (ar 1) a.toInt.toNat r.toInt.toNat + (u.2 5 (108 * b.toInt.toNat + (NX (ar 1) a.toInt.toNat r.toInt.toNat).toNat)).toInt = (u.2 5 (108 * b.toInt.toNat + a.toInt.toNat)).toInt) ∨ r.toInt = 0 ∧ (a.toInt ≠ b.toInt → ∀ q n : Nat, 1 ≤ q → (q : Int) < 7 → NX (ar 1) a.toInt.toNat q = (n : Int) → (u.2 6 b.toInt.toNat).toInt ≠ 0 ∧ TK (ar 1) a.toInt.toNat q + (u.2 5 (108 * b.toInt.toNat + n)).toInt ≠ (u.2 5 (108 * b.toInt.toNat + a.toInt.toNat)).toInt))) (mPost D cy ad) (mA ad sz)) 0 0 (mA ad sz) := by
  refine Met.ofW (cc := cX11_firstAction) (maxL := 5) (ret := (some .int)) (by decide) rfl ?_
  intro p e s m args below meth c s₁ B hml hv
  obtain ⟨rfl, rfl, hP, hK, hSt, hNw⟩ := hv
  have hx := B.exec
  have hb := B.bytes
  have hr := B.returns
  have hts := atoms_spec (ws := wsX11_firstAction) B.pre
  have hown : s.vm.findClass RX11 = some m.cls := findClass_of_methodNamed B.named
  have hlocks := B.notSynchronized
  have hS : va_S (mA ad s.heap.size) s.heap s.heap [] := va_S.rf
  have hl := lv_entry ([.ref (ad 0), .int a, .int b]) (n := 5) (Nat.le_of_ble_eq_true rfl)
  rw [lg_entry_eq]
  generalize (lg_sl ([.ref (ad 0), .int a, .int b]) ++ List.replicate (5 - (lg_sl ([.ref (ad 0), .int a, .int b])).length) Slot.unset).toArray = ls at hl ⊢
  have hl : lv_has ls 5 [(0, .ref (ad 0)), (1, .int a), (2, .int b)] := hl
  obtain ⟨Q, hQ⟩ : ∃ Q, Q = MQ below (va_Qi (fun (r : Int32) (u : gIv × gAr) => u.1 = iv ∧ (∀ c, c ≠ 5 → c ≠ 6 → u.2 c = ar c) ∧ KA u.2 ∧ KS ar u.2 ∧ ((1 ≤ r.toInt ∧ r.toInt < 7 ∧ a.toInt ≠ b.toInt ∧ 0 ≤ NX (ar 1) a.toInt.toNat r.toInt.toNat ∧ (u.2 6 b.toInt.toNat).toInt ≠ 0 ∧ TK (ar 1) a.toInt.toNat r.toInt.toNat + (u.2 5 (108 * b.toInt.toNat + (NX (ar 1) a.toInt.toNat r.toInt.toNat).toNat)).toInt = (u.2 5 (108 * b.toInt.toNat + a.toInt.toNat)).toInt) ∨ r.toInt = 0 ∧ (a.toInt ≠ b.toInt → ∀ q n : Nat, 1 ≤ q → (q : Int) < 7 → NX (ar 1) a.toInt.toNat q = (n : Int) → (u.2 6 b.toInt.toNat).toInt ≠ 0 ∧ TK (ar 1) a.toInt.toNat q + (u.2 5 (108 * b.toInt.toNat + n)).toInt ≠ (u.2 5 (108 * b.toInt.toNat + a.toInt.toNat)).toInt))) (mPost D cy ad) (mA ad s.heap.size)) (([.ref (ad 0), .int a, .int b] : List Value).toArray) s 0 0 (mA ad s.heap.size) := ⟨_, rfl⟩
  rw [← hQ]
  refine lv_iconst (v := 1) hx hb dX11_firstAction_0 (by decide) ?_
  refine lv_istore_n (lv' := [(3, .int 1), (0, .ref (ad 0)), (1, .int a), (2, .int b)]) hx hb dX11_firstAction_1 rfl hl (by decide) rfl (fun ls hl => ?_)
  have loop3 : ∀ (n : Nat) (x3_1 : Int32) (ar_2 : gAr) (H : Heap) (locs : List Loc) (ls : Array Slot), ((7 - (x3_1.toInt)).toNat) < n → (1 ≤ (x3_1.toInt) ∧ (x3_1.toInt) ≤ 7) → (∀ c, c ≠ 5 → c ≠ 6 → ar_2 c = ar c) → (KA ar_2) → (KS ar ar_2) → (a.toInt ≠ b.toInt → ∀ q n : Nat, 1 ≤ q → (q : Int) < (x3_1.toInt) → NX (ar 1) a.toInt.toNat q = (n : Int) → (ar_2 6 b.toInt.toNat).toInt ≠ 0 ∧ TK (ar 1) a.toInt.toNat q + (ar_2 5 (108 * b.toInt.toNat + n)).toInt ≠ (ar_2 5 (108 * b.toInt.toNat + a.toInt.toNat)).toInt) → va_P D vwCl (MW cy ad iv ar_2) H → va_S (mA ad s.heap.size) s.heap H locs → lv_has ls 5 [(3, .int x3_1), (0, .ref (ad 0)), (1, .int a), (2, .int b)] → W p l e (headSpec wsX11_firstAction (({ frames := 4, cells := 0, slots := 0, locals := 96 } : Room))).room s m (([.ref (ad 0), .int a, .int b] : List Value).toArray) below meth c H locs 0 0 Q (F0 m 2 ls []) := by
    intro n
    induction n with
    | zero => intro x3_1 ar_2 H locs ls hm; omega
    | succ n ih3 =>
      intro x3_1 ar_2 H locs ls hm hg0 hga hgk hgs hgq hP hS hl
      refine lv_iload_n hx hb dX11_firstAction_2 rfl (lv_at hl 0 rfl) ?_
      refine lv_bipush (v := 7) hx hb dX11_firstAction_3 (by decide) ?_
      refine lv_icmp_ge (tgt := 57) hx hb dX11_firstAction_5 (by decide) (fun c_4 => ?_) (fun c_4 => ?_)
      · skip
        have q_4 : (7 : Int) ≤ x3_1.toInt := i_le2 (show (7 : Int32).toInt = (7 : Int) from rfl) (rfl : x3_1.toInt = x3_1.toInt) c_4
        refine lv_iconst (v := 0) hx hb dX11_firstAction_57 (by decide) ?_
        rw [hQ]
        exact W.iret (v := 0) hx hb hr (fun t ht hW => ⟨⟨0, (iv, ar_2), rfl, ⟨rfl, hga, hgk, hgs, Or.inr ⟨rfl, fun h q n h1 h7 hn => hgq h q n h1 (by omega) hn⟩⟩, by show va_P _ _ _ _; rw [ht]; exact hP⟩, hS.F ht⟩) hS.2.2 dX11_firstAction_58
      · skip
        have q_4 : x3_1.toInt < (7 : Int) := i_nle2 (show (7 : Int32).toInt = (7 : Int) from rfl) (rfl : x3_1.toInt = x3_1.toInt) c_4
        refine lv_iload_n hx hb dX11_firstAction_8 rfl (lv_at hl 2 rfl) ?_
        refine lv_iload_n hx hb dX11_firstAction_9 rfl (lv_at hl 3 rfl) ?_
        refine lv_icmp_eq (tgt := 57) hx hb dX11_firstAction_10 (by decide) (fun c_5 => ?_) (fun c_5 => ?_)
        · skip
          have q_5 : a.toInt = b.toInt := i_eq2 (rfl : a.toInt = a.toInt) (rfl : b.toInt = b.toInt) c_5
          refine lv_iconst (v := 0) hx hb dX11_firstAction_57 (by decide) ?_
          rw [hQ]
          exact W.iret (v := 0) hx hb hr (fun t ht hW => ⟨⟨0, (iv, ar_2), rfl, ⟨rfl, hga, hgk, hgs, Or.inr ⟨rfl, fun h q n h1 h7 hn => hgq h q n h1 (by omega) hn⟩⟩, by show va_P _ _ _ _; rw [ht]; exact hP⟩, hS.F ht⟩) hS.2.2 dX11_firstAction_58
        · skip
          have q_5 : a.toInt ≠ b.toInt := i_ne2 (rfl : a.toInt = a.toInt) (rfl : b.toInt = b.toInt) c_5
          refine lv_aload_n hx hb dX11_firstAction_13 rfl (lv_at hl 1 rfl) ?_
          refine lv_iload_n hx hb dX11_firstAction_14 rfl (lv_at hl 2 rfl) ?_
          refine lv_iload_n hx hb dX11_firstAction_15 rfl (lv_at hl 0 rfl) ?_
          refine g_callSi (va_runV (As := [.int a, .int x3_1]) (rest := []) ⟨hx, hb, hml, hown, hts⟩ (c_X11_next l D cy ad hI _ iv ar_2 a x3_1 (by omega) (by omega)) (cwV 2 hts gX11_firstAction_X11_next rfl rfl rfl (by decide +kernel) ⟨Nat.le_of_ble_eq_true rfl, Nat.le_of_ble_eq_true rfl⟩) (m_preV hP hK hSt hNw hS (m_at11 (Nat.le_of_ble_eq_true rfl) rfl) rfl) rfl rfl hl.1 rfl (lv_room (Nat.le_of_ble_eq_true rfl)) dX11_firstAction_16 ⟨Nat.zero_le _, Nat.zero_le _⟩) (fun r_6 w_6 => ?_)
          try dsimp only at w_6
          have hnx : r_6.toInt = NX (ar 1) a.toInt.toNat (x3_1.toInt).toNat := by
            have h9 := w_6
            rw [hga 1 (by omega) (by omega)] at h9
            exact h9
          have hnb := NX_b (f := ar 1) (c := a.toInt.toNat) (q := (x3_1.toInt).toNat) (by omega) (by omega)
          refine lv_istore (lv' := [(4, .int r_6), (3, .int x3_1), (0, .ref (ad 0)), (1, .int a), (2, .int b)]) hx hb dX11_firstAction_19 hl (by decide) rfl (fun ls hl => ?_)
          refine lv_iload hx hb dX11_firstAction_21 (lv_at hl 0 rfl) ?_
          refine lv_if_lt (tgt := 51) hx hb dX11_firstAction_23 (by decide) (fun c_7 => ?_) (fun c_7 => ?_)
          · skip
            have q_7 : r_6.toInt < (0 : Int) := i_lt2 (rfl : r_6.toInt = r_6.toInt) (show (0 : Int32).toInt = (0 : Int) from rfl) c_7
            have hgq2 : a.toInt ≠ b.toInt → ∀ q n : Nat, 1 ≤ q → (q : Int) < (x3_1.toInt) + 1 → NX (ar 1) a.toInt.toNat q = (n : Int) → (ar_2 6 b.toInt.toNat).toInt ≠ 0 ∧ TK (ar 1) a.toInt.toNat q + (ar_2 5 (108 * b.toInt.toNat + n)).toInt ≠ (ar_2 5 (108 * b.toInt.toNat + a.toInt.toNat)).toInt := fun h q n h1 hq hn => (Classical.em ((q : Int) = (x3_1.toInt))).elim (fun e => by
              exfalso
              have e2 : q = (x3_1.toInt).toNat := by omega
              rw [e2] at hn
              omega) (fun e => hgq h q n h1 (by omega) hn)
            have hga2 := hga
            have hgk2 := hgk
            have hgs2 := hgs
            obtain ⟨x3_8, ex3_8⟩ : ∃ y : Int32, y = x3_1 + 1 := ⟨_, rfl⟩
            have tx3_8 : x3_8.toInt = x3_1.toInt + (1 : Int) := i_add (rfl : x3_1.toInt = x3_1.toInt) (show (1 : Int32).toInt = (1 : Int) from rfl) (by omega) (by omega) ex3_8
            refine lv_iinc (v := x3_8) (lv' := [(3, .int x3_8), (4, .int r_6), (0, .ref (ad 0)), (1, .int a), (2, .int b)]) hx hb dX11_firstAction_51 hl (k := 1) rfl (by rw [ex3_8]; rfl) (by decide) rfl (fun ls hl => ?_)
            refine lv_goto (tgt := 2) hx hb dX11_firstAction_54 (by decide) ?_
            exact ih3 x3_8 ar_2 _ _ _ (by omega) (by omega) hga2 hgk2 hgs2 (fun h q n h1 hq hn => hgq2 h q n h1 (by omega) hn) hP hS (lv_sub hl [0, 2, 3, 4] rfl)
          · skip
            have q_7 : (0 : Int) ≤ r_6.toInt := i_nlt2 (rfl : r_6.toInt = r_6.toInt) (show (0 : Int32).toInt = (0 : Int) from rfl) c_7
            refine lv_aload_n hx hb dX11_firstAction_26 rfl (lv_at hl 2 rfl) ?_
            refine lv_iload_n hx hb dX11_firstAction_27 rfl (lv_at hl 3 rfl) ?_
            refine lv_iload_n hx hb dX11_firstAction_28 rfl (lv_at hl 1 rfl) ?_
            refine g_callSi (va_runV (As := [.int a, .int x3_1]) (rest := []) ⟨hx, hb, hml, hown, hts⟩ (c_X11_ticks l D cy ad hI _ iv ar_2 a x3_1 (by omega) (by omega)) (cwV 2 hts gX11_firstAction_X11_ticks rfl rfl rfl (by decide +kernel) ⟨Nat.le_of_ble_eq_true rfl, Nat.le_of_ble_eq_true rfl⟩) (m_preV hP hK hSt hNw hS (m_at11 (Nat.le_of_ble_eq_true rfl) rfl) rfl) rfl rfl hl.1 rfl (lv_room (Nat.le_of_ble_eq_true rfl)) dX11_firstAction_29 ⟨Nat.zero_le _, Nat.zero_le _⟩) (fun r_9 w_9 => ?_)
            try dsimp only at w_9
            have htk : r_9.toInt = TK (ar 1) a.toInt.toNat (x3_1.toInt).toNat := by
              have h9 := w_9
              rw [hga 1 (by omega) (by omega)] at h9
              exact h9
            have htb := TK_b (f := ar 1) (c := a.toInt.toNat) (q := (x3_1.toInt).toNat)
            refine lv_aload_n hx hb dX11_firstAction_32 rfl (lv_at hl 2 rfl) ?_
            refine lv_iload hx hb dX11_firstAction_33 (lv_at hl 0 rfl) ?_
            refine lv_iload_n hx hb dX11_firstAction_35 rfl (lv_at hl 4 rfl) ?_
            refine m_calli (va_runV (As := [.int r_6, .int b]) (rest := [.int r_9]) ⟨hx, hb, hml, hown, hts⟩ (c_X11_time l D cy ad hI _ iv ar_2 r_6 b (by omega) (by omega) hgk) (cwV 2 hts gX11_firstAction_X11_time rfl rfl rfl (by decide +kernel) ⟨Nat.le_of_ble_eq_true rfl, Nat.le_of_ble_eq_true rfl⟩) (m_preV hP hK hSt hNw hS (m_at11 (Nat.le_of_ble_eq_true rfl) rfl) rfl) rfl rfl hl.1 rfl (lv_room (Nat.le_of_ble_eq_true rfl)) dX11_firstAction_36 ⟨Nat.zero_le _, Nat.zero_le _⟩) hS (fun r_10 iv_10 ar_10 H locs w_10 hP hS => ?_)
            try dsimp only at w_10
            have wi_10 := (w_10.2.1).symm
            subst wi_10
            obtain ⟨wt1, -, wf1, wk1, ws1, wn1⟩ := w_10
            have hb1 := ((wk1 b.toInt.toNat (by omega) wn1).1 (r_6.toInt).toNat (by omega)).1
            have hb2 := ((wk1 b.toInt.toNat (by omega) wn1).1 (r_6.toInt).toNat (by omega)).2.1
            have hfr1 : ∀ c, c ≠ 5 → c ≠ 6 → ar_10 c = ar c := fun c h5 h6 => (wf1 c h5 h6).trans (hga c h5 h6)
            refine lv_iadd hx hb dX11_firstAction_39 ?_
            refine lv_topi (fun v_11 ev_11 => ?_)
            have tv_11 : v_11.toInt = r_9.toInt + r_10.toInt := i_add (rfl : r_9.toInt = r_9.toInt) (rfl : r_10.toInt = r_10.toInt) (by omega) (by omega) ev_11
            refine lv_aload_n hx hb dX11_firstAction_40 rfl (lv_at hl 2 rfl) ?_
            refine lv_iload_n hx hb dX11_firstAction_41 rfl (lv_at hl 3 rfl) ?_
            refine lv_iload_n hx hb dX11_firstAction_42 rfl (lv_at hl 4 rfl) ?_
            refine m_calli (va_runV (As := [.int a, .int b]) (rest := [.int v_11]) ⟨hx, hb, hml, hown, hts⟩ (c_X11_time l D cy ad hI _ iv ar_10 a b (by omega) (by omega) wk1) (cwV 2 hts gX11_firstAction_X11_time rfl rfl rfl (by decide +kernel) ⟨Nat.le_of_ble_eq_true rfl, Nat.le_of_ble_eq_true rfl⟩) (m_preV hP hK hSt hNw hS (m_at11 (Nat.le_of_ble_eq_true rfl) rfl) rfl) rfl rfl hl.1 rfl (lv_room (Nat.le_of_ble_eq_true rfl)) dX11_firstAction_43 ⟨Nat.zero_le _, Nat.zero_le _⟩) hS (fun r_12 iv_12 ar_12 H locs w_12 hP hS => ?_)
            try dsimp only at w_12
            have wi_12 := (w_12.2.1).symm
            subst wi_12
            obtain ⟨wt2, -, wf2, wk2, ws2, wn2⟩ := w_12
            have hfr2 : ∀ c, c ≠ 5 → c ≠ 6 → ar_12 c = ar c := fun c h5 h6 => (wf2 c h5 h6).trans (hfr1 c h5 h6)
            have hks2 : KS ar ar_12 := (hgs.tr ws1).tr ws2
            have wt3 := wt1
            rw [← (ws2 b.toInt.toNat (by omega) wn1).2 (r_6.toInt).toNat (by omega)] at wt3
            refine lv_icmp_ne (tgt := 51) hx hb dX11_firstAction_46 (by decide) (fun c_13 => ?_) (fun c_13 => ?_)
            · skip
              have q_13 : v_11.toInt ≠ r_12.toInt := i_ne2 (rfl : v_11.toInt = v_11.toInt) (rfl : r_12.toInt = r_12.toInt) c_13
              have hgq2 : a.toInt ≠ b.toInt → ∀ q n : Nat, 1 ≤ q → (q : Int) < (x3_1.toInt) + 1 → NX (ar 1) a.toInt.toNat q = (n : Int) → (ar_12 6 b.toInt.toNat).toInt ≠ 0 ∧ TK (ar 1) a.toInt.toNat q + (ar_12 5 (108 * b.toInt.toNat + n)).toInt ≠ (ar_12 5 (108 * b.toInt.toNat + a.toInt.toNat)).toInt := fun h q n h1 hq hn => (Classical.em ((q : Int) = (x3_1.toInt))).elim (fun e => by
                have e2 : q = (x3_1.toInt).toNat := by omega
                have e3 : n = (r_6.toInt).toNat := by rw [e2] at hn; omega
                rw [e2, e3]
                exact ⟨wn2, by omega⟩) (fun e => by
                have k := hgq h q n h1 (by omega) hn
                have k1 := ws1 b.toInt.toNat (by omega) k.1
                have k2 := ws2 b.toInt.toNat (by omega) k1.1
                have hn9 := (NX_ne (by omega) h1 (by omega) hn).1
                refine ⟨k2.1, ?_⟩
                rw [k2.2 n hn9, k2.2 _ (by omega), k1.2 n hn9, k1.2 _ (by omega)]
                exact k.2)
              have hga2 := hfr2
              have hgk2 := wk2
              have hgs2 := hks2
              obtain ⟨x3_14, ex3_14⟩ : ∃ y : Int32, y = x3_1 + 1 := ⟨_, rfl⟩
              have tx3_14 : x3_14.toInt = x3_1.toInt + (1 : Int) := i_add (rfl : x3_1.toInt = x3_1.toInt) (show (1 : Int32).toInt = (1 : Int) from rfl) (by omega) (by omega) ex3_14
              refine lv_iinc (v := x3_14) (lv' := [(3, .int x3_14), (4, .int r_6), (0, .ref (ad 0)), (1, .int a), (2, .int b)]) hx hb dX11_firstAction_51 hl (k := 1) rfl (by rw [ex3_14]; rfl) (by decide) rfl (fun ls hl => ?_)
              refine lv_goto (tgt := 2) hx hb dX11_firstAction_54 (by decide) ?_
              exact ih3 x3_14 ar_12 _ _ _ (by omega) (by omega) hga2 hgk2 hgs2 (fun h q n h1 hq hn => hgq2 h q n h1 (by omega) hn) hP hS (lv_sub hl [0, 2, 3, 4] rfl)
            · skip
              have q_13 : v_11.toInt = r_12.toInt := i_eq2 (rfl : v_11.toInt = v_11.toInt) (rfl : r_12.toInt = r_12.toInt) c_13
              refine lv_iload_n hx hb dX11_firstAction_49 rfl (lv_at hl 1 rfl) ?_
              rw [hQ]
              exact W.iret (v := x3_1) hx hb hr (fun t ht hW => ⟨⟨x3_1, (iv, ar_12), rfl, ⟨rfl, hfr2, wk2, hks2, Or.inl ⟨by omega, by omega, by omega, by omega, wn2, by rw [show NX (ar 1) a.toInt.toNat (x3_1.toInt).toNat = (r_6.toInt) from by omega]; show _ + (ar_12 5 _).toInt = (ar_12 5 _).toInt; omega⟩⟩, by show va_P _ _ _ _; rw [ht]; exact hP⟩, hS.F ht⟩) hS.2.2 dX11_firstAction_50
  have zl_15 : (1 : Int32).toInt = (1 : Int) := rfl
  exact loop3 (((7 - ((1 : Int))).toNat) + 1) 1 ar _ _ _ (by omega) (by omega) (fun _ _ _ => rfl) hka KS.rf (fun h q n h1 hq => by exfalso; omega) hP hS (lv_sub hl [0, 1, 2, 3] rfl)
set_option maxHeartbeats 4000000 in
set_option maxRecDepth 100000 in
theorem c_X11_put (l : Launch) (D : va_G) (cy : Nat → ClassId) (ad : Nat → Nat) (hI : mInj ad) (sz : Nat) (iv : gIv) (ar : gAr) (a : Int32) (b : Int32) (d : Int32) (f : Int32) (hd : 0 ≤ a.toInt ∧ a.toInt < 6) (ht : 0 ≤ b.toInt ∧ b.toInt ≤ 60) : Met l yX11_put wsX11_put ({ frames := 0, cells := 0, slots := 0, locals := 0 } : Room) (va_Pc [.ref (ad 0), .int a, .int b, .int d, .int f] (mPre D cy ad sz iv ar)) (va_Qv (fun (u : gIv × gAr) => u.1 = iv ∧ (∀ c, c ≠ 9 → c ≠ 10 → u.2 c = ar c) ∧ u.2 9 = upd (ar 9) (61 * a.toInt.toNat + b.toInt.toNat) d ∧ u.2 10 = upd (ar 10) (61 * a.toInt.toNat + b.toInt.toNat) f) (mPost D cy ad) (mA ad sz)) 0 0 (mA ad sz) := by
  refine Met.ofW (cc := cX11_put) (maxL := 5) (ret := none) (by decide) rfl ?_
  intro p e s m args below meth c s₁ B hml hv
  obtain ⟨rfl, rfl, hP, hK, hSt, hNw⟩ := hv
  have hx := B.exec
  have hb := B.bytes
  have hr := B.returns
  have hts := atoms_spec (ws := wsX11_put) B.pre
  have hown : s.vm.findClass RX11 = some m.cls := findClass_of_methodNamed B.named
  have hlocks := B.notSynchronized
  have hS : va_S (mA ad s.heap.size) s.heap s.heap [] := va_S.rf
  have inX11 : ∀ w ∈ u_ws RX11 TX11 30, w ∈ wsX11_put := by decide +kernel
  have lk0 := hts (.fieldLink RX11 39 "FormationPlannerModel" "cellAt" "[I") (by decide +kernel)
  have lk1 := hts (.fieldLink RX11 42 "FormationPlannerModel" "actionAt" "[I") (by decide +kernel)
  have hl := lv_entry ([.ref (ad 0), .int a, .int b, .int d, .int f]) (n := 5) (Nat.le_of_ble_eq_true rfl)
  rw [lg_entry_eq]
  generalize (lg_sl ([.ref (ad 0), .int a, .int b, .int d, .int f]) ++ List.replicate (5 - (lg_sl ([.ref (ad 0), .int a, .int b, .int d, .int f])).length) Slot.unset).toArray = ls at hl ⊢
  have hl : lv_has ls 5 [(0, .ref (ad 0)), (1, .int a), (2, .int b), (3, .int d), (4, .int f)] := hl
  obtain ⟨Q, hQ⟩ : ∃ Q, Q = MQ below (va_Qv (fun (u : gIv × gAr) => u.1 = iv ∧ (∀ c, c ≠ 9 → c ≠ 10 → u.2 c = ar c) ∧ u.2 9 = upd (ar 9) (61 * a.toInt.toNat + b.toInt.toNat) d ∧ u.2 10 = upd (ar 10) (61 * a.toInt.toNat + b.toInt.toNat) f) (mPost D cy ad) (mA ad s.heap.size)) (([.ref (ad 0), .int a, .int b, .int d, .int f] : List Value).toArray) s 0 0 (mA ad s.heap.size) := ⟨_, rfl⟩
  rw [← hQ]
  refine lv_aload_n hx hb dX11_put_0 rfl (lv_at hl 0 rfl) ?_
  refine va_get (D := D) (ci := 11) (v := .ref (ad 9)) (C := RX11) (T := TX11) (N := 30) hx hb hts inX11 hown hK hP 0 (m_at11 (Nat.le_of_ble_eq_true rfl) rfl) rfl 19 (by decide) lk0 (fun _ h9 => h9) rfl dX11_put_1 ?_
  refine lv_bipush (v := 61) hx hb dX11_put_4 (by decide) ?_
  refine lv_iload_n hx hb dX11_put_6 rfl (lv_at hl 1 rfl) ?_
  refine lv_imul hx hb dX11_put_7 ?_
  refine lv_topi (fun v_1 ev_1 => ?_)
  have tv_1 : v_1.toInt = (61 : Int) * a.toInt := i_mul (show (61 : Int32).toInt = (61 : Int) from rfl) (rfl : a.toInt = a.toInt) (by omega) (by omega) ev_1
  refine lv_iload_n hx hb dX11_put_8 rfl (lv_at hl 2 rfl) ?_
  refine lv_iadd hx hb dX11_put_9 ?_
  refine lv_topi (fun v_2 ev_2 => ?_)
  have tv_2 : v_2.toInt = v_1.toInt + b.toInt := i_add (rfl : v_1.toInt = v_1.toInt) (rfl : b.toInt = b.toInt) (by omega) (by omega) ev_2
  refine lv_iload_n hx hb dX11_put_10 rfl (lv_at hl 3 rfl) ?_
  refine va_iast hx hb hK hP (mD hI) hS 9 0 (m_at12 (Nat.le_of_ble_eq_true rfl) rfl) rfl (g_in (N := 366) (rfl : v_2.toInt = v_2.toInt) rfl (by omega) (by omega)) dX11_put_11 (fun H locs hP _ hS => ?_)
  rw [m_pt12 (Nat.le_of_ble_eq_true rfl) rfl] at hP
  obtain ⟨ar_3, ear_3⟩ : ∃ z : gAr, z = va_up ar 9 (upd (ar 9) v_2.toNatClampNeg d) := ⟨_, rfl⟩
  rw [← ear_3] at hP
  have hix1 : v_2.toNatClampNeg = 61 * a.toInt.toNat + b.toInt.toNat := by rw [g_cN (rfl : v_2.toInt = _)]; omega
  have har1 : ar_3 9 = upd (ar 9) (61 * a.toInt.toNat + b.toInt.toNat) d := by rw [ear_3, ua_s, hix1]
  refine lv_aload_n hx hb dX11_put_12 rfl (lv_at hl 0 rfl) ?_
  refine va_get (D := D) (ci := 11) (v := .ref (ad 10)) (C := RX11) (T := TX11) (N := 30) hx hb hts inX11 hown hK hP 0 (m_at11 (Nat.le_of_ble_eq_true rfl) rfl) rfl 20 (by decide) lk1 (fun _ h9 => h9) rfl dX11_put_13 ?_
  refine lv_bipush (v := 61) hx hb dX11_put_16 (by decide) ?_
  refine lv_iload_n hx hb dX11_put_18 rfl (lv_at hl 1 rfl) ?_
  refine lv_imul hx hb dX11_put_19 ?_
  refine lv_topi (fun v_4 ev_4 => ?_)
  have tv_4 : v_4.toInt = (61 : Int) * a.toInt := i_mul (show (61 : Int32).toInt = (61 : Int) from rfl) (rfl : a.toInt = a.toInt) (by omega) (by omega) ev_4
  refine lv_iload_n hx hb dX11_put_20 rfl (lv_at hl 2 rfl) ?_
  refine lv_iadd hx hb dX11_put_21 ?_
  refine lv_topi (fun v_5 ev_5 => ?_)
  have tv_5 : v_5.toInt = v_4.toInt + b.toInt := i_add (rfl : v_4.toInt = v_4.toInt) (rfl : b.toInt = b.toInt) (by omega) (by omega) ev_5
  refine lv_iload hx hb dX11_put_22 (lv_at hl 4 rfl) ?_
  refine va_iast hx hb hK hP (mD hI) hS 10 0 (m_at12 (Nat.le_of_ble_eq_true rfl) rfl) rfl (g_in (N := 366) (rfl : v_5.toInt = v_5.toInt) rfl (by omega) (by omega)) dX11_put_24 (fun H locs hP _ hS => ?_)
  rw [m_pt12 (Nat.le_of_ble_eq_true rfl) rfl] at hP
  obtain ⟨ar_6, ear_6⟩ : ∃ z : gAr, z = va_up ar_3 10 (upd (ar_3 10) v_5.toNatClampNeg f) := ⟨_, rfl⟩
  rw [← ear_6] at hP
  have hix2 : v_5.toNatClampNeg = 61 * a.toInt.toNat + b.toInt.toNat := by rw [g_cN (rfl : v_5.toInt = _)]; omega
  have har2 : ar_6 10 = upd (ar_3 10) (61 * a.toInt.toNat + b.toInt.toNat) f := by rw [ear_6, ua_s, hix2]
  rw [hQ]
  exact W.vret hx hb hr (fun t ht hW => ⟨⟨(iv, ar_6), rfl, ⟨rfl, fun c h9 h10 => by show ar_6 c = ar c; rw [ear_6, ua_o (by omega)]; rw [ear_3, ua_o (by omega)], by show ar_6 9 = _; rw [ear_6, ua_o (by omega)]; exact har1, by show ar_6 10 = _; rw [har2, ear_3, ua_o (by omega)]⟩, by show va_P _ _ _ _; rw [ht]; exact hP⟩, hS.F ht⟩) hS.2.2 dX11_put_25
set_option maxHeartbeats 4000000 in
set_option maxRecDepth 100000 in
theorem c_X11_forgets (l : Launch) (D : va_G) (cy : Nat → ClassId) (ad : Nat → Nat) (hI : mInj ad) (sz : Nat) (iv : gIv) (ar : gAr)   : Met l yX11_forgets wsX11_forgets ({ frames := 0, cells := 0, slots := 0, locals := 0 } : Room) (va_Pc [.ref (ad 0)] (mPre D cy ad sz iv ar)) (va_Qv (fun (u : gIv × gAr) => u.1 = iv ∧ (∀ a, a ≠ 6 → u.2 a = ar a) ∧ ∀ g, g < 108 → (u.2 6 g).toInt = 0) (mPost D cy ad) (mA ad sz)) 0 0 (mA ad sz) := by
  refine Met.ofW (cc := cX11_forgets) (maxL := 2) (ret := none) (by decide) rfl ?_
  intro p e s m args below meth c s₁ B hml hv
  obtain ⟨rfl, rfl, hP, hK, hSt, hNw⟩ := hv
  have hx := B.exec
  have hb := B.bytes
  have hr := B.returns
  have hts := atoms_spec (ws := wsX11_forgets) B.pre
  have hown : s.vm.findClass RX11 = some m.cls := findClass_of_methodNamed B.named
  have hlocks := B.notSynchronized
  have hS : va_S (mA ad s.heap.size) s.heap s.heap [] := va_S.rf
  have inX11 : ∀ w ∈ u_ws RX11 TX11 30, w ∈ wsX11_forgets := by decide +kernel
  have lk0 := hts (.fieldLink RX11 25 "FormationPlannerModel" "isKnown" "[Z") (by decide +kernel)
  have hl := lv_entry ([.ref (ad 0)]) (n := 2) (Nat.le_of_ble_eq_true rfl)
  rw [lg_entry_eq]
  generalize (lg_sl ([.ref (ad 0)]) ++ List.replicate (2 - (lg_sl ([.ref (ad 0)])).length) Slot.unset).toArray = ls at hl ⊢
  have hl : lv_has ls 2 [(0, .ref (ad 0))] := hl
  obtain ⟨Q, hQ⟩ : ∃ Q, Q = MQ below (va_Qv (fun (u : gIv × gAr) => u.1 = iv ∧ (∀ a, a ≠ 6 → u.2 a = ar a) ∧ ∀ g, g < 108 → (u.2 6 g).toInt = 0) (mPost D cy ad) (mA ad s.heap.size)) (([.ref (ad 0)] : List Value).toArray) s 0 0 (mA ad s.heap.size) := ⟨_, rfl⟩
  rw [← hQ]
  refine lv_iconst (v := 0) hx hb dX11_forgets_0 (by decide) ?_
  refine lv_istore_n (lv' := [(1, .int 0), (0, .ref (ad 0))]) hx hb dX11_forgets_1 rfl hl (by decide) rfl (fun ls hl => ?_)
  have loop3 : ∀ (n : Nat) (x1_1 : Int32) (ar_2 : gAr) (H : Heap) (locs : List Loc) (ls : Array Slot), ((108 - (x1_1.toInt)).toNat) < n → (0 ≤ (x1_1.toInt) ∧ (x1_1.toInt) ≤ 108) → (∀ a, a ≠ 6 → ar_2 a = ar a) → (∀ g : Nat, (g : Int) < (x1_1.toInt) → (ar_2 6 g).toInt = 0) → va_P D vwCl (MW cy ad iv ar_2) H → va_S (mA ad s.heap.size) s.heap H locs → lv_has ls 2 [(1, .int x1_1), (0, .ref (ad 0))] → W p l e (headSpec wsX11_forgets (({ frames := 0, cells := 0, slots := 0, locals := 0 } : Room))).room s m (([.ref (ad 0)] : List Value).toArray) below meth c H locs 0 0 Q (F0 m 2 ls []) := by
    intro n
    induction n with
    | zero => intro x1_1 ar_2 H locs ls hm; omega
    | succ n ih3 =>
      intro x1_1 ar_2 H locs ls hm hg0 hga hgz hP hS hl
      refine lv_iload_n hx hb dX11_forgets_2 rfl (lv_at hl 0 rfl) ?_
      refine lv_bipush (v := 108) hx hb dX11_forgets_3 (by decide) ?_
      refine lv_icmp_ge (tgt := 21) hx hb dX11_forgets_5 (by decide) (fun c_4 => ?_) (fun c_4 => ?_)
      · skip
        have q_4 : (108 : Int) ≤ x1_1.toInt := i_le2 (show (108 : Int32).toInt = (108 : Int) from rfl) (rfl : x1_1.toInt = x1_1.toInt) c_4
        rw [hQ]
        exact W.vret hx hb hr (fun t ht hW => ⟨⟨(iv, ar_2), rfl, ⟨rfl, hga, fun g hg => hgz g (by omega)⟩, by show va_P _ _ _ _; rw [ht]; exact hP⟩, hS.F ht⟩) hS.2.2 dX11_forgets_21
      · skip
        have q_4 : x1_1.toInt < (108 : Int) := i_nle2 (show (108 : Int32).toInt = (108 : Int) from rfl) (rfl : x1_1.toInt = x1_1.toInt) c_4
        refine lv_aload_n hx hb dX11_forgets_8 rfl (lv_at hl 1 rfl) ?_
        refine va_get (D := D) (ci := 11) (v := .ref (ad 6)) (C := RX11) (T := TX11) (N := 30) hx hb hts inX11 hown hK hP 0 (m_at11 (Nat.le_of_ble_eq_true rfl) rfl) rfl 8 (by decide) lk0 (fun _ h9 => h9) rfl dX11_forgets_9 ?_
        refine lv_iload_n hx hb dX11_forgets_12 rfl (lv_at hl 0 rfl) ?_
        refine lv_iconst (v := 0) hx hb dX11_forgets_13 (by decide) ?_
        refine va_zast hx hb hK hP (mD hI) hS 6 1 (m_at13 (Nat.le_of_ble_eq_true rfl) rfl) rfl (g_in (N := 108) (rfl : x1_1.toInt = x1_1.toInt) rfl (by omega) (by omega)) dX11_forgets_14 (fun H locs hP _ hS => ?_)
        rw [m_pt13 (Nat.le_of_ble_eq_true rfl) rfl] at hP
        obtain ⟨ar_5, ear_5⟩ : ∃ z : gAr, z = va_up ar_2 6 (upd (ar_2 6) x1_1.toNatClampNeg 0) := ⟨_, rfl⟩
        have hP : va_P D vwCl (MW cy ad iv ar_5) H := by rw [ear_5]; exact hP
        have hga2 : ∀ a, a ≠ 6 → ar_5 a = ar a := fun a h => by rw [ear_5, ua_o h]; exact hga a h
        have hgz2 : ∀ g : Nat, (g : Int) < (x1_1.toInt) + 1 → (ar_5 6 g).toInt = 0 := fun g hg => by
          rw [ear_5, ua_s, g_cN (rfl : x1_1.toInt = _)]
          by_cases e : g = (x1_1.toInt).toNat
          · rw [e, pk_us]; rfl
          · rw [pk_un e]; exact hgz g (by omega)
        obtain ⟨x1_6, ex1_6⟩ : ∃ y : Int32, y = x1_1 + 1 := ⟨_, rfl⟩
        have tx1_6 : x1_6.toInt = x1_1.toInt + (1 : Int) := i_add (rfl : x1_1.toInt = x1_1.toInt) (show (1 : Int32).toInt = (1 : Int) from rfl) (by omega) (by omega) ex1_6
        refine lv_iinc (v := x1_6) (lv' := [(1, .int x1_6), (0, .ref (ad 0))]) hx hb dX11_forgets_15 hl (k := 0) rfl (by rw [ex1_6]; rfl) (by decide) rfl (fun ls hl => ?_)
        refine lv_goto (tgt := 2) hx hb dX11_forgets_18 (by decide) ?_
        exact ih3 x1_6 ar_5 _ _ _ (by omega) (by omega) hga2 (fun g hg => hgz2 g (by omega)) hP hS (lv_sub hl [0, 1] rfl)
  have zl_7 : (0 : Int32).toInt = (0 : Int) := rfl
  exact loop3 (((108 - ((0 : Int))).toNat) + 1) 0 ar _ _ _ (by omega) (by omega) (fun _ _ => rfl) (fun g hg => by exfalso; omega) hP hS (lv_sub hl [0, 1] rfl)
