set_option maxHeartbeats 4000000 in
set_option maxRecDepth 100000 in
theorem n_X4_init (l : Launch) (D : va_G) (cy : Nat → ClassId) (h0 sz : Nat) (r1 : Nat) : Met l yX4_init wsX4_init ({ frames := 2, cells := 1, slots := 756, locals := 60 } : Room) (va_Pc [.ref h0, .ref r1] (nPre D cy [(h0, .inr (4, [.null, .null]))] sz)) (va_Qv (fun (u : (Nat → Nat) × (Nat → Int32)) => ∀ c a, c < 108 → a < 7 → (u.2 (c * 7 + a)).toInt = nbN c a) (nPost D [(cy 0, .int)] (va_A [(h0, .inr (4, [.null, .null]))] sz) (fun u => [(h0, .inr (4, [.ref r1, .ref (u.1 1)])), (u.1 1, .inl (cy 0, 756, .inl u.2))])) (va_A [(h0, .inr (4, [.null, .null]))] sz)) 1 756 (va_A [(h0, .inr (4, [.null, .null]))] sz) := by
  refine Met.ofW (cc := cX4_init) (maxL := 4) (ret := none) (by decide) rfl ?_
  intro p e s m args below meth c s₁ B hml hv
  obtain ⟨rfl, rfl, hP, hK, hD0, hCy, hAO, hNw, hSt⟩ := hv
  have hx := B.exec
  have hb := B.bytes
  have hr := B.returns
  have hts := atoms_spec (ws := wsX4_init) B.pre
  have hown : s.vm.findClass RX4 = some m.cls := findClass_of_methodNamed B.named
  have hlocks := B.notSynchronized
  have hin : meth.name = "<init>" := (name_of_methodNamed B.named B.method).1
  have hD := hD0.self (sz := s.heap.size)
  generalize hAe : va_A [(h0, .inr (4, [.null, .null]))] s.heap.size = A at hD hSt ⊢
  have hA : ∀ q : Nat, s.heap.size ≤ q → A q := fun q h => by rw [← hAe]; exact Or.inr h
  have hS : va_S A s.heap s.heap [] := va_S.rf
  have inX4 : ∀ w ∈ u_ws RX4 TX4 2, w ∈ wsX4_init := by decide +kernel
  have lk0 := hts (.methodLink RX4 3 objectInit) (by decide +kernel)
  have lk1 := hts (.instanceMethod objectInit) (by decide +kernel)
  have lk2 := hts (.code objectInit ⟨#[0xb1]⟩ 1 none) (by decide +kernel)
  have lk3 := hts (.arrayClass .int) (by decide +kernel)
  have lk4 := hts (.fieldLink RX4 9 "FormationPlanner$Lattice" "neighbours" "[I") (by decide +kernel)
  have lk5 := hts (.fieldLink RX4 15 "FormationPlanner$Lattice" "scene" "LFormationPlanner$Scene;") (by decide +kernel)
  have hl := lv_entry ([.ref h0, .ref r1]) (n := 4) (Nat.le_of_ble_eq_true rfl)
  rw [lg_entry_eq]
  generalize (lg_sl ([.ref h0, .ref r1]) ++ List.replicate (4 - (lg_sl ([.ref h0, .ref r1])).length) Slot.unset).toArray = ls at hl ⊢
  have hl : lv_has ls 4 [(0, .ref h0), (1, .ref r1)] := hl
  refine lv_aload_n hx hb dX4_init_0 rfl (lv_at hl 0 rfl) ?_
  refine W.objInit hx hb hown lk0 lk1 lk2 rfl (by rw [hml]; exact hl.1) rfl dX4_init_1 (Nat.le_of_ble_eq_true rfl) (Nat.le_of_ble_eq_true rfl) ?_
  refine W.eq (g2 := F0 m 4 ls []) rfl ?_
  refine lv_aload_n hx hb dX4_init_4 rfl (lv_at hl 0 rfl) ?_
  refine lv_sipush (v := 756) hx hb dX4_init_5 (by decide) ?_
  refine va_newa (atype := .int) (ty := .int) (N' := 756) (a0 := (756, .inl (fun _ => 0))) hx hb lk3 rfl hK hP hD hS hA (fun _ => rfl) (by decide) (by decide) (Nat.le_of_ble_eq_true rfl) (Nat.le_of_ble_eq_true rfl) (Nat.le_of_ble_eq_true rfl) dX4_init_8 (fun q1 cA1 H hK hP hD hS => ?_)
  obtain rfl := cy_i hCy hK
  have hP : va_P D vwCl [(h0, .inr (4, [.null, .null])), (q1, .inl (cy 0, 756, .inl (fun _ => 0)))] H := hP
  have hD : va_D A [(h0, .inr (4, [.null, .null])), (q1, .inl (cy 0, 756, .inl (fun _ => 0)))] := hD
  refine W.widen (k := 1) (n := 756) (by omega) (by omega) ?_
  refine va_putF (D := D) (ci := 4) (v := .ref q1) (ty := .array .int) (C := RX4) (T := TX4) (N := 2) hx hb hts inX4 tyX4 tyX4_ok nmX4 hown hK hP hD hS 0 rfl rfl 1 (by decide) lk4 (fun _ h9 => h9) rfl hin rfl (by decide +kernel) rfl rfl (Nat.le_of_ble_eq_true rfl) dX4_init_10 (fun H locs hP hD hS => ?_)
  have hP : va_P D vwCl [(h0, .inr (4, [.null, .ref q1])), (q1, .inl (cy 0, 756, .inl (fun _ => 0)))] H := hP
  have hD : va_D A [(h0, .inr (4, [.null, .ref q1])), (q1, .inl (cy 0, 756, .inl (fun _ => 0)))] := hD
  refine lv_aload_n hx hb dX4_init_13 rfl (lv_at hl 0 rfl) ?_
  refine lv_aload_n hx hb dX4_init_14 rfl (lv_at hl 1 rfl) ?_
  refine va_putF (D := D) (ci := 4) (v := .ref r1) (ty := .object "FormationPlanner$Scene") (C := RX4) (T := TX4) (N := 2) hx hb hts inX4 tyX4 tyX4_ok nmX4 hown hK hP hD hS 0 rfl rfl 0 (by decide) lk5 (fun _ h9 => h9) rfl hin rfl (by decide +kernel) rfl rfl (Nat.le_of_ble_eq_true rfl) dX4_init_15 (fun H locs hP hD hS => ?_)
  have hP : va_P D vwCl [(h0, .inr (4, [.ref r1, .ref q1])), (q1, .inl (cy 0, 756, .inl (fun _ => 0)))] H := hP
  have hD : va_D A [(h0, .inr (4, [.ref r1, .ref q1])), (q1, .inl (cy 0, 756, .inl (fun _ => 0)))] := hD
  obtain ⟨Q, hQ⟩ : ∃ Q, Q = MQ below (va_Qv (fun (u : (Nat → Nat) × (Nat → Int32)) => ∀ c a, c < 108 → a < 7 → (u.2 (c * 7 + a)).toInt = nbN c a) (nPost D [(cy 0, .int)] A (fun u => [(h0, .inr (4, [.ref r1, .ref (u.1 1)])), (u.1 1, .inl (cy 0, 756, .inl u.2))])) A) (([.ref h0, .ref r1] : List Value).toArray) s 1 756 A := ⟨_, rfl⟩
  rw [← hQ]
  refine lv_iconst (v := 0) hx hb dX4_init_18 (by decide) ?_
  refine lv_istore_n (lv' := [(2, .int 0), (0, .ref h0), (1, .ref r1)]) hx hb dX4_init_19 rfl hl (by decide) rfl (fun ls hl => ?_)
  have loop1 : ∀ (n : Nat) (x2 : Int32) (f : Nat → Int32) (H : Heap) (locs : List Loc) (ls : Array Slot), (108 - x2.toInt).toNat < n → (0 ≤ x2.toInt ∧ x2.toInt ≤ 108) → (∀ c a : Nat, (c : Int) < x2.toInt → a < 7 → (f (c * 7 + a)).toInt = nbN c a) → va_P D vwCl [(h0, .inr (4, [.ref r1, .ref q1])), (q1, .inl (cy 0, 756, .inl f))] H → va_D A [(h0, .inr (4, [.ref r1, .ref q1])), (q1, .inl (cy 0, 756, .inl f))] → va_S A s.heap H locs → lv_has ls 4 [(2, .int x2), (0, .ref h0), (1, .ref r1)] → W p l e (headSpec wsX4_init ({ frames := 2, cells := 1, slots := 756, locals := 60 } : Room)).room s m (([.ref h0, .ref r1] : List Value).toArray) below meth c H locs 1 756 Q (F0 m 20 ls []) := by
    intro n
    induction n with
    | zero => intro x2 f H locs ls hm; omega
    | succ n ih =>
      intro x2 f H locs ls hm h0x hN hP hD hS hl
      refine lv_iload_n hx hb dX4_init_20 rfl (lv_at hl 0 rfl) ?_
      refine lv_bipush (v := 108) hx hb dX4_init_21 (by decide) ?_
      refine lv_icmp_ge (tgt := 62) hx hb dX4_init_23 (by decide) (fun c_1 => ?_) (fun c_1 => ?_)
      · have hq1 : 108 ≤ x2.toInt := i_le2 (show (108 : Int32).toInt = 108 from rfl) rfl c_1
        rw [hQ]
        have hK9 := hK.sub (tys' := [(cy 0, .int)]) [0] rfl
        exact W.vret hx hb hr (fun t ht hW => ⟨⟨(fun _ => q1, f), rfl, fun c a hc ha => hN c a (by omega) ha, ⟨by rw [ht]; exact hP, va_K.moved hW.alike hK9, hD⟩⟩, hS.F ht⟩) hS.2.2 dX4_init_62
      · have hq2 : x2.toInt < 108 := i_nle2 (show (108 : Int32).toInt = 108 from rfl) rfl c_1
        refine lv_iconst (v := 0) hx hb dX4_init_26 (by decide) ?_
        refine lv_istore_n (lv' := [(3, .int 0), (2, .int x2), (0, .ref h0), (1, .ref r1)]) hx hb dX4_init_27 rfl hl (by decide) rfl (fun ls hl => ?_)
        have loop2 : ∀ (k : Nat) (x3 : Int32) (f : Nat → Int32) (H : Heap) (locs : List Loc) (ls : Array Slot), (7 - x3.toInt).toNat < k → (0 ≤ x3.toInt ∧ x3.toInt ≤ 7) → (∀ c a : Nat, (c : Int) < x2.toInt → a < 7 → (f (c * 7 + a)).toInt = nbN c a) → (∀ a : Nat, (a : Int) < x3.toInt → (f (x2.toInt.toNat * 7 + a)).toInt = nbN x2.toInt.toNat a) → va_P D vwCl [(h0, .inr (4, [.ref r1, .ref q1])), (q1, .inl (cy 0, 756, .inl f))] H → va_D A [(h0, .inr (4, [.ref r1, .ref q1])), (q1, .inl (cy 0, 756, .inl f))] → va_S A s.heap H locs → lv_has ls 4 [(3, .int x3), (2, .int x2), (0, .ref h0), (1, .ref r1)] → W p l e (headSpec wsX4_init ({ frames := 2, cells := 1, slots := 756, locals := 60 } : Room)).room s m (([.ref h0, .ref r1] : List Value).toArray) below meth c H locs 1 756 Q (F0 m 28 ls []) := by
          intro k
          induction k with
          | zero => intro x3 f H locs ls hm2; omega
          | succ k ih2 =>
            intro x3 f H locs ls hm2 h0y hN hN3 hP hD hS hl
            refine lv_iload_n hx hb dX4_init_28 rfl (lv_at hl 0 rfl) ?_
            refine lv_bipush (v := 7) hx hb dX4_init_29 (by decide) ?_
            refine lv_icmp_ge (tgt := 56) hx hb dX4_init_31 (by decide) (fun c_2 => ?_) (fun c_2 => ?_)
            · have hq3 : 7 ≤ x3.toInt := i_le2 (show (7 : Int32).toInt = 7 from rfl) rfl c_2
              obtain ⟨y2, ey2⟩ : ∃ y : Int32, y = x2 + 1 := ⟨_, rfl⟩
              have ty2 : y2.toInt = x2.toInt + 1 := i_add rfl (show (1 : Int32).toInt = 1 from rfl) (by omega) (by omega) ey2
              refine lv_iinc (v := y2) (lv' := [(2, .int y2), (3, .int x3), (0, .ref h0), (1, .ref r1)]) hx hb dX4_init_56 hl (k := 1) rfl (by rw [ey2]; rfl) (by decide) rfl (fun ls hl => ?_)
              refine lv_goto (tgt := 20) hx hb dX4_init_59 (by decide) ?_
              refine ih y2 f _ _ _ (by omega) (by omega) (fun c a hc ha => ?_) hP hD hS (lv_sub hl [0, 2, 3] rfl)
              by_cases e : (c : Int) < x2.toInt
              · exact hN c a e ha
              · have e2 : c = x2.toInt.toNat := by omega
                rw [e2]; exact hN3 a (by omega)
            · have hq4 : x3.toInt < 7 := i_nle2 (show (7 : Int32).toInt = 7 from rfl) rfl c_2
              refine lv_aload_n hx hb dX4_init_34 rfl (lv_at hl 2 rfl) ?_
              refine va_get (D := D) (ci := 4) (v := .ref q1) (C := RX4) (T := TX4) (N := 2) hx hb hts inX4 hown hK hP 0 rfl rfl 1 (by decide) lk4 (fun _ h9 => h9) rfl dX4_init_35 ?_
              refine lv_iload_n hx hb dX4_init_38 rfl (lv_at hl 1 rfl) ?_
              refine lv_bipush (v := 7) hx hb dX4_init_39 (by decide) ?_
              refine lv_imul hx hb dX4_init_41 ?_
              refine lv_topi (fun v1 ev1 => ?_)
              have tv1 : v1.toInt = x2.toInt * 7 := i_mul rfl (show (7 : Int32).toInt = 7 from rfl) (by omega) (by omega) ev1
              refine lv_iload_n hx hb dX4_init_42 rfl (lv_at hl 0 rfl) ?_
              refine lv_iadd hx hb dX4_init_43 ?_
              refine lv_topi (fun v2 ev2 => ?_)
              have tv2 : v2.toInt = v1.toInt + x3.toInt := i_add rfl rfl (by omega) (by omega) ev2
              refine lv_iload_n hx hb dX4_init_44 rfl (lv_at hl 1 rfl) ?_
              refine lv_iload_n hx hb dX4_init_45 rfl (lv_at hl 0 rfl) ?_
              refine g_callSi (va_runS (As := [.int x2, .int x3]) (rest := [.int v2, .ref q1]) ⟨hx, hb, hml, hown, hts⟩ (c0_neighbour l A _ x2 x3 ⟨h0x.1, hq2, h0y.1, hq4⟩) (va_cwS 2 hts gX4_init_X4_neighbour rfl rfl rfl (by decide +kernel) ⟨Nat.le_of_ble_eq_true rfl, Nat.le_of_ble_eq_true rfl⟩) (s_pre hNw hSt hS) rfl rfl hl.1 rfl (lv_room (Nat.le_of_ble_eq_true rfl)) dX4_init_46 ⟨Nat.le_of_ble_eq_true rfl, Nat.le_of_ble_eq_true rfl⟩) (fun r w => ?_)
              refine va_iast hx hb hK hP hD hS 1 0 rfl rfl (g_in (N := 756) (i := v2) rfl rfl (by omega) (by omega)) dX4_init_49 (fun H locs hP hD hS => ?_)
              have hcl : v2.toNatClampNeg = x2.toInt.toNat * 7 + x3.toInt.toNat := by rw [g_cN (rfl : v2.toInt = _)]; omega
              obtain ⟨f2, ef2⟩ : ∃ z : Nat → Int32, z = upd f v2.toNatClampNeg r := ⟨_, rfl⟩
              have hP : va_P D vwCl [(h0, .inr (4, [.ref r1, .ref q1])), (q1, .inl (cy 0, 756, .inl f2))] H := by rw [ef2]; exact hP
              have hD : va_D A [(h0, .inr (4, [.ref r1, .ref q1])), (q1, .inl (cy 0, 756, .inl f2))] := by rw [ef2]; exact hD
              obtain ⟨y3, ey3⟩ : ∃ y : Int32, y = x3 + 1 := ⟨_, rfl⟩
              have ty3 : y3.toInt = x3.toInt + 1 := i_add rfl (show (1 : Int32).toInt = 1 from rfl) (by omega) (by omega) ey3
              refine lv_iinc (v := y3) (lv' := [(3, .int y3), (2, .int x2), (0, .ref h0), (1, .ref r1)]) hx hb dX4_init_50 hl (k := 0) rfl (by rw [ey3]; rfl) (by decide) rfl (fun ls hl => ?_)
              refine lv_goto (tgt := 28) hx hb dX4_init_53 (by decide) ?_
              refine ih2 y3 f2 _ _ _ (by omega) (by omega) (fun c a hc ha => ?_) (fun a ha => ?_) hP hD hS (lv_sub hl [0, 1, 2, 3] rfl)
              · rw [ef2, hcl, pk_un (by omega)]; exact hN c a hc ha
              · rw [ef2, hcl]
                by_cases e : a = x3.toInt.toNat
                · rw [e, pk_us]; exact w
                · rw [pk_un (by omega)]; exact hN3 a (by omega)
        exact loop2 8 0 f _ _ _ (by have z0 := i_l0; omega) (by have z0 := i_l0; omega) hN (fun a ha => by exfalso; have z0 := i_l0; omega) hP hD hS (lv_sub hl [0, 1, 2, 3] rfl)
  exact loop1 109 0 _ _ _ _ (by have z0 := i_l0; omega) (by have z0 := i_l0; omega) (fun c a hc => by exfalso; have z0 := i_l0; omega) hP hD hS (lv_sub hl [0, 1, 2] rfl)
