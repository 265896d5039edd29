set_option maxHeartbeats 4000000 in
set_option maxRecDepth 100000 in
/-- THE LAW, from its entry -/
theorem whole_start {p : Program} {e : Env} {s : State} {m : MethodId} {below : List Frame} {meth : Method} {c : Code} (l : Launch) (hflags : l.flags = flags0) {b L : Nat} {xs : Nat → Int32} (hL : L ≤ 1536) (C0 : lw_At p s m meth c b L xs) : W p l e room_1 s m #[Value.ref b] below meth c s.heap [] 0 0 (lw_Z below #[Value.ref b] s) (entryFrame m ([Value.ref b] : List Value).toArray 4) := by
  obtain ⟨hx, hb, hr, hml, hown, hts0, hX, hbl, hlocks, hgv⟩ := id C0
  have hts : ∀ w ∈ wsL_law, w.before #[Value.ref b] s = true := fun w h => hts0 w (wsL_law_in w h)
  have hfl := flat_of_before _ hgv
  have hA : ∀ q : Nat, s.heap.size ≤ q → lA s q := fun _ h => h
  have hAn : ∀ q : Nat, q < s.heap.size → ¬ lA s q := fun q h z => absurd h (Nat.not_lt.mpr z)
  have hbA : ¬ lA s b := Nat.not_le.mpr hbl
  obtain ⟨c0, iS0, hKn0⟩ := u_known (C := RX0) (T := TX0) (N := 9) (n := 9) hts0 inX0 (hts0 (.instantiable RX0 9) (by decide +kernel))
  obtain ⟨c1, iS1, hKn1⟩ := u_known (C := RX1) (T := TX1) (N := 5) (n := 5) hts0 inX1 (hts0 (.instantiable RX1 5) (by decide +kernel))
  obtain ⟨c2, iS2, hKn2⟩ := u_known (C := RX2) (T := TX2) (N := 5) (n := 5) hts0 inX2 (hts0 (.instantiable RX2 5) (by decide +kernel))
  obtain ⟨c3, iS3, hKn3⟩ := u_known (C := RX3) (T := TX3) (N := 3) (n := 3) hts0 inX3 (hts0 (.instantiable RX3 3) (by decide +kernel))
  obtain ⟨c4, iS4, hKn4⟩ := u_known (C := RX4) (T := TX4) (N := 2) (n := 2) hts0 inX4 (hts0 (.instantiable RX4 2) (by decide +kernel))
  obtain ⟨c5, iS5, hKn5⟩ := u_known (C := RX5) (T := TX5) (N := 2) (n := 2) hts0 inX5 (hts0 (.instantiable RX5 2) (by decide +kernel))
  obtain ⟨c6, iS6, hKn6⟩ := u_known (C := RX6) (T := TX6) (N := 11) (n := 11) hts0 inX6 (hts0 (.instantiable RX6 11) (by decide +kernel))
  obtain ⟨c7, iS7, hKn7⟩ := u_known (C := RX7) (T := TX7) (N := 3) (n := 3) hts0 inX7 (hts0 (.instantiable RX7 3) (by decide +kernel))
  obtain ⟨c8, iS8, hKn8⟩ := u_known (C := RX8) (T := TX8) (N := 5) (n := 5) hts0 inX8 (hts0 (.instantiable RX8 5) (by decide +kernel))
  obtain ⟨c9, iS9, hKn9⟩ := u_known (C := RX9) (T := TX9) (N := 2) (n := 2) hts0 inX9 (hts0 (.instantiable RX9 2) (by decide +kernel))
  obtain ⟨c10, iS10, hKn10⟩ := u_known (C := RX10) (T := TX10) (N := 6) (n := 6) hts0 inX10 (hts0 (.instantiable RX10 6) (by decide +kernel))
  obtain ⟨c11, iS11, hKn11⟩ := u_known (C := RX11) (T := TX11) (N := 30) (n := 30) hts0 inX11 (hts0 (.instantiable RX11 30) (by decide +kernel))
  obtain ⟨dC, dI, hKc⟩ : ∃ (dC : Nat → ClassId) (dI : Nat → Nat → Nat), ∀ (k : Nat) (q : vw_C), vwCl[k]? = some q → u_Kn s q.1 q.2.1 q.2.2 (dC k) (dI k) := by
    refine ⟨fun k => [c0, c1, c2, c3, c4, c5, c6, c7, c8, c9, c10, c11].getD k 0, fun k => [iS0, iS1, iS2, iS3, iS4, iS5, iS6, iS7, iS8, iS9, iS10, iS11].getD k (fun _ => 0), ?_⟩
    intro k q hq
    match k, hq with
    | 0, hq => cases hq; exact hKn0
    | 1, hq => cases hq; exact hKn1
    | 2, hq => cases hq; exact hKn2
    | 3, hq => cases hq; exact hKn3
    | 4, hq => cases hq; exact hKn4
    | 5, hq => cases hq; exact hKn5
    | 6, hq => cases hq; exact hKn6
    | 7, hq => cases hq; exact hKn7
    | 8, hq => cases hq; exact hKn8
    | 9, hq => cases hq; exact hKn9
    | 10, hq => cases hq; exact hKn10
    | 11, hq => cases hq; exact hKn11
    | k + 12, hq => simp [vwCl] at hq
  obtain ⟨cy, hcy⟩ : ∃ cy : Nat → ClassId, cy = fun k => [(s.vm.findClass ("[" ++ FieldType.int.toString)).getD 0, (s.vm.findClass ("[" ++ FieldType.boolean.toString)).getD 0, (s.vm.findClass ("[" ++ (FieldType.object "FormationPlanner$Flight").toString)).getD 0, (s.vm.findClass ("[" ++ (FieldType.object "FormationPlanner$Scene").toString)).getD 0, (s.vm.findClass ("[" ++ (FieldType.object "FormationPlanner$TimesTo").toString)).getD 0].getD k 0 := ⟨_, rfl⟩
  have hCy : gCy cy s := by
    subst hcy
    refine ⟨fun c h => ?_, fun c h => ?_, fun c h => ?_, fun c h => ?_, fun c h => ?_⟩
    · show c = (s.vm.findClass ("[" ++ FieldType.toString .int)).getD 0; rw [h]; rfl
    · show c = (s.vm.findClass ("[" ++ FieldType.toString .boolean)).getD 0; rw [h]; rfl
    · show c = (s.vm.findClass ("[" ++ FieldType.toString (.object "FormationPlanner$Flight"))).getD 0; rw [h]; rfl
    · show c = (s.vm.findClass ("[" ++ FieldType.toString (.object "FormationPlanner$Scene"))).getD 0; rw [h]; rfl
    · show c = (s.vm.findClass ("[" ++ FieldType.toString (.object "FormationPlanner$TimesTo"))).getD 0; rw [h]; rfl
  have hAO : gAO s := ⟨va_AO.of (hts0 (.arrayOver (.object "FormationPlanner$Flight")) (by decide +kernel)), va_AO.of (hts0 (.arrayOver (.object "FormationPlanner$Scene")) (by decide +kernel)), va_AO.of (hts0 (.arrayOver (.object "FormationPlanner$TimesTo")) (by decide +kernel))⟩
  have hNw : gNw s := by
    intro w hw
    have hmem : ∀ w ∈ gNest, w ∈ lw_tbl := by decide +kernel
    have h1 := hts0 w (hmem w hw)
    simp only [gNest, List.mem_cons, List.not_mem_nil, or_false] at hw
    rcases hw with rfl | rfl | rfl | rfl | rfl | rfl | rfl | rfl | rfl | rfl | rfl | rfl | rfl | rfl | rfl | rfl | rfl <;> exact va_Nw.of rfl h1
  have htBACK : gSt1 "BACK" tBACK (lA s) s s.heap := by
    obtain ⟨t, ht, hT⟩ := va_Tof (tm := .static "FormationPlanner" "BACK" "[I") (ty := .int) (N := 7) (f := fun j => .int (tBACK j)) (A := lA s) (by decide) (hfl (.arrayOf (.static "FormationPlanner" "BACK" "[I") .int) (by decide +kernel)) (va_eqt (hfl (.eq (.length (.static "FormationPlanner" "BACK" "[I")) (.int 7)) (by decide +kernel))) (fun j hj => by
      rcases (show j = 0 ∨ j = 1 ∨ j = 2 ∨ j = 3 ∨ j = 4 ∨ j = 5 ∨ j = 6 by omega) with rfl | rfl | rfl | rfl | rfl | rfl | rfl
      · exact va_eqt (hfl (.eq (.elem (.static "FormationPlanner" "BACK" "[I") (.int 0)) (.int 0)) (by decide +kernel))
      · exact va_eqt (hfl (.eq (.elem (.static "FormationPlanner" "BACK" "[I") (.int 1)) (.int 2)) (by decide +kernel))
      · exact va_eqt (hfl (.eq (.elem (.static "FormationPlanner" "BACK" "[I") (.int 2)) (.int 1)) (by decide +kernel))
      · exact va_eqt (hfl (.eq (.elem (.static "FormationPlanner" "BACK" "[I") (.int 3)) (.int 4)) (by decide +kernel))
      · exact va_eqt (hfl (.eq (.elem (.static "FormationPlanner" "BACK" "[I") (.int 4)) (.int 3)) (by decide +kernel))
      · exact va_eqt (hfl (.eq (.elem (.static "FormationPlanner" "BACK" "[I") (.int 5)) (.int 6)) (by decide +kernel))
      · exact va_eqt (hfl (.eq (.elem (.static "FormationPlanner" "BACK" "[I") (.int 6)) (.int 5)) (by decide +kernel))) hAn
    exact ⟨t, va_Zref (hts0 (.laysStatic "FormationPlanner" "BACK" "[I") (by decide +kernel)) (hts0 (.initialized "FormationPlanner") (by decide +kernel)) ht hAn, hT⟩
  have htCOL : gSt1 "COLUMN_STEP" tCOL (lA s) s s.heap := by
    obtain ⟨t, ht, hT⟩ := va_Tof (tm := .static "FormationPlanner" "COLUMN_STEP" "[I") (ty := .int) (N := 7) (f := fun j => .int (tCOL j)) (A := lA s) (by decide) (hfl (.arrayOf (.static "FormationPlanner" "COLUMN_STEP" "[I") .int) (by decide +kernel)) (va_eqt (hfl (.eq (.length (.static "FormationPlanner" "COLUMN_STEP" "[I")) (.int 7)) (by decide +kernel))) (fun j hj => by
      rcases (show j = 0 ∨ j = 1 ∨ j = 2 ∨ j = 3 ∨ j = 4 ∨ j = 5 ∨ j = 6 by omega) with rfl | rfl | rfl | rfl | rfl | rfl | rfl
      · exact va_eqt (hfl (.eq (.elem (.static "FormationPlanner" "COLUMN_STEP" "[I") (.int 0)) (.int 0)) (by decide +kernel))
      · exact va_eqt (hfl (.eq (.elem (.static "FormationPlanner" "COLUMN_STEP" "[I") (.int 1)) (.int 1)) (by decide +kernel))
      · exact va_eqt (hfl (.eq (.elem (.static "FormationPlanner" "COLUMN_STEP" "[I") (.int 2)) (.int (-1))) (by decide +kernel))
      · exact va_eqt (hfl (.eq (.elem (.static "FormationPlanner" "COLUMN_STEP" "[I") (.int 3)) (.int 0)) (by decide +kernel))
      · exact va_eqt (hfl (.eq (.elem (.static "FormationPlanner" "COLUMN_STEP" "[I") (.int 4)) (.int 0)) (by decide +kernel))
      · exact va_eqt (hfl (.eq (.elem (.static "FormationPlanner" "COLUMN_STEP" "[I") (.int 5)) (.int 0)) (by decide +kernel))
      · exact va_eqt (hfl (.eq (.elem (.static "FormationPlanner" "COLUMN_STEP" "[I") (.int 6)) (.int 0)) (by decide +kernel))) hAn
    exact ⟨t, va_Zref (hts0 (.laysStatic "FormationPlanner" "COLUMN_STEP" "[I") (by decide +kernel)) (hts0 (.initialized "FormationPlanner") (by decide +kernel)) ht hAn, hT⟩
  have htROW : gSt1 "ROW_STEP" tROW (lA s) s s.heap := by
    obtain ⟨t, ht, hT⟩ := va_Tof (tm := .static "FormationPlanner" "ROW_STEP" "[I") (ty := .int) (N := 7) (f := fun j => .int (tROW j)) (A := lA s) (by decide) (hfl (.arrayOf (.static "FormationPlanner" "ROW_STEP" "[I") .int) (by decide +kernel)) (va_eqt (hfl (.eq (.length (.static "FormationPlanner" "ROW_STEP" "[I")) (.int 7)) (by decide +kernel))) (fun j hj => by
      rcases (show j = 0 ∨ j = 1 ∨ j = 2 ∨ j = 3 ∨ j = 4 ∨ j = 5 ∨ j = 6 by omega) with rfl | rfl | rfl | rfl | rfl | rfl | rfl
      · exact va_eqt (hfl (.eq (.elem (.static "FormationPlanner" "ROW_STEP" "[I") (.int 0)) (.int 0)) (by decide +kernel))
      · exact va_eqt (hfl (.eq (.elem (.static "FormationPlanner" "ROW_STEP" "[I") (.int 1)) (.int 0)) (by decide +kernel))
      · exact va_eqt (hfl (.eq (.elem (.static "FormationPlanner" "ROW_STEP" "[I") (.int 2)) (.int 0)) (by decide +kernel))
      · exact va_eqt (hfl (.eq (.elem (.static "FormationPlanner" "ROW_STEP" "[I") (.int 3)) (.int 1)) (by decide +kernel))
      · exact va_eqt (hfl (.eq (.elem (.static "FormationPlanner" "ROW_STEP" "[I") (.int 4)) (.int (-1))) (by decide +kernel))
      · exact va_eqt (hfl (.eq (.elem (.static "FormationPlanner" "ROW_STEP" "[I") (.int 5)) (.int 0)) (by decide +kernel))
      · exact va_eqt (hfl (.eq (.elem (.static "FormationPlanner" "ROW_STEP" "[I") (.int 6)) (.int 0)) (by decide +kernel))) hAn
    exact ⟨t, va_Zref (hts0 (.laysStatic "FormationPlanner" "ROW_STEP" "[I") (by decide +kernel)) (hts0 (.initialized "FormationPlanner") (by decide +kernel)) ht hAn, hT⟩
  have htLAY : gSt1 "LAYER_STEP" tLAY (lA s) s s.heap := by
    obtain ⟨t, ht, hT⟩ := va_Tof (tm := .static "FormationPlanner" "LAYER_STEP" "[I") (ty := .int) (N := 7) (f := fun j => .int (tLAY j)) (A := lA s) (by decide) (hfl (.arrayOf (.static "FormationPlanner" "LAYER_STEP" "[I") .int) (by decide +kernel)) (va_eqt (hfl (.eq (.length (.static "FormationPlanner" "LAYER_STEP" "[I")) (.int 7)) (by decide +kernel))) (fun j hj => by
      rcases (show j = 0 ∨ j = 1 ∨ j = 2 ∨ j = 3 ∨ j = 4 ∨ j = 5 ∨ j = 6 by omega) with rfl | rfl | rfl | rfl | rfl | rfl | rfl
      · exact va_eqt (hfl (.eq (.elem (.static "FormationPlanner" "LAYER_STEP" "[I") (.int 0)) (.int 0)) (by decide +kernel))
      · exact va_eqt (hfl (.eq (.elem (.static "FormationPlanner" "LAYER_STEP" "[I") (.int 1)) (.int 0)) (by decide +kernel))
      · exact va_eqt (hfl (.eq (.elem (.static "FormationPlanner" "LAYER_STEP" "[I") (.int 2)) (.int 0)) (by decide +kernel))
      · exact va_eqt (hfl (.eq (.elem (.static "FormationPlanner" "LAYER_STEP" "[I") (.int 3)) (.int 0)) (by decide +kernel))
      · exact va_eqt (hfl (.eq (.elem (.static "FormationPlanner" "LAYER_STEP" "[I") (.int 4)) (.int 0)) (by decide +kernel))
      · exact va_eqt (hfl (.eq (.elem (.static "FormationPlanner" "LAYER_STEP" "[I") (.int 5)) (.int 1)) (by decide +kernel))
      · exact va_eqt (hfl (.eq (.elem (.static "FormationPlanner" "LAYER_STEP" "[I") (.int 6)) (.int (-1))) (by decide +kernel))) hAn
    exact ⟨t, va_Zref (hts0 (.laysStatic "FormationPlanner" "LAYER_STEP" "[I") (by decide +kernel)) (hts0 (.initialized "FormationPlanner") (by decide +kernel)) ht hAn, hT⟩
  have hSt : gSt (lA s) s s.heap := ⟨htBACK, htCOL, htROW, htLAY⟩
  have hS : va_S (lA s) s.heap s.heap [] := va_S.rf
  have hK : va_K (dC, dI) vwCl [] s := ⟨hKc, fun k q h => by simp at h⟩
  have hP : va_P (dC, dI) vwCl [] s.heap := fun k q h => by simp at h
  have hD : va_D (lA s) [] := ⟨fun i j p q h => by simp at h, fun k q h => by simp at h⟩
  have hl := lv_entry ([.ref b]) (n := 4) (Nat.le_of_ble_eq_true rfl)
  rw [lg_entry_eq]
  generalize (lg_sl ([.ref b]) ++ List.replicate (4 - (lg_sl ([.ref b])).length) Slot.unset).toArray = ls at hl ⊢
  have hl : lv_has ls 4 [(0, .ref b)] := hl
  refine va_new (ci := 10) (fs := [.null, .null, .null, .null, .null, .null]) (C := RX10) (T := TX10) (N := 6) hx hb hts0 inX10 tyX10 tyX10_ok hown (hts0 (.classLink RL 7 RX10) (by decide +kernel)) (hts0 (.instantiable RX10 6) (by decide +kernel)) (hts0 (.initialized RX10) (by decide +kernel)) hK hP hD hS hA rfl (fun j hj => by rcases (show j = 0 ∨ j = 1 ∨ j = 2 ∨ j = 3 ∨ j = 4 ∨ j = 5 by omega) with rfl | rfl | rfl | rfl | rfl | rfl <;> rfl) (Nat.le_of_ble_eq_true rfl) (Nat.le_of_ble_eq_true rfl) dL_law_0 (fun q0 H hP hD hS => ?_)
  have hP : va_P (dC, dI) vwCl [(q0, .inr (10, [.null, .null, .null, .null, .null, .null]))] H := hP
  have hD : va_D (lA s) [(q0, .inr (10, [.null, .null, .null, .null, .null, .null]))] := hD
  refine W.widen (k := 1) (n := 6) (by omega) (by omega) ?_
  refine lv_dup hx hb dL_law_3 rfl ?_
  refine n_callv (wr := []) (va_runI (As := []) (rest := [.ref q0]) ⟨hx, hb, hml, hown, hts⟩ (n_X10_init l (dC, dI) cy q0 _) (cwI 0 hts gL_law_X10_init rfl rfl rfl (hts0 (.initialized RX10) (by decide +kernel)) (hts0 (.methodLink RL 9 yX10_init) (by decide +kernel)) (hts0 (.instanceMethod yX10_init) (by decide +kernel)) rfl (by decide +kernel) ⟨Nat.le_of_ble_eq_true rfl, Nat.le_of_ble_eq_true rfl⟩) (n_pre (wc := [(q0, .inr (10, [.null, .null, .null, .null, .null, .null]))]) hP hD hK hCy hAO hNw hSt hS hA [0] rfl (by decide) rfl) rfl rfl hl.1 rfl (lv_room (Nat.le_of_ble_eq_true rfl)) dL_law_4 ⟨Nat.le_of_ble_eq_true rfl, Nat.le_of_ble_eq_true rfl⟩) hP hD hK hS hA [0] [] rfl rfl (by decide) (by decide) (fun u H locs hw hP9 hD9 hK9 hS9 => ?_)
  obtain ⟨ad, iv, ar⟩ := u
  obtain ⟨had, hfr⟩ := hw
  dsimp only at had hfr
  subst had
  have hS := hS9
  have hP : va_P (dC, dI) vwCl (GW cy ad iv ar) H := hP9
  have hD : va_D (lA s) (GW cy ad iv ar) := hD9
  have hKg : va_K (dC, dI) vwCl (gty cy) s := hK9
  have hK : va_K (dC, dI) vwCl [] s := ⟨hKc, fun k q h => by simp at h⟩
  refine W.widen (k := 1000) (n := 100000) (by omega) (by omega) ?_
  refine lv_astore_n (lv' := [(1, .ref (ad 0)), (0, .ref b)]) hx hb dL_law_7 rfl hl (by decide) rfl (fun ls hl => ?_)
  refine va_new (ci := 11) (fs := [.null, .null, .null, .int 0, .int 0, .int 0, .null, .null, .null, .null, .null, .int 0, .int 0, .int 0, .int 0, .int 0, .int 0, .int 0, .int 0, .null, .null, .null, .null, .null, .null, .int 0, .null, .null, .null, .null]) (C := RX11) (T := TX11) (N := 30) hx hb hts0 inX11 tyX11 tyX11_ok hown (hts0 (.classLink RL 10 RX11) (by decide +kernel)) (hts0 (.instantiable RX11 30) (by decide +kernel)) (hts0 (.initialized RX11) (by decide +kernel)) hK hP hD hS hA rfl (fun j hj => by rcases (show j = 0 ∨ j = 1 ∨ j = 2 ∨ j = 3 ∨ j = 4 ∨ j = 5 ∨ j = 6 ∨ j = 7 ∨ j = 8 ∨ j = 9 ∨ j = 10 ∨ j = 11 ∨ j = 12 ∨ j = 13 ∨ j = 14 ∨ j = 15 ∨ j = 16 ∨ j = 17 ∨ j = 18 ∨ j = 19 ∨ j = 20 ∨ j = 21 ∨ j = 22 ∨ j = 23 ∨ j = 24 ∨ j = 25 ∨ j = 26 ∨ j = 27 ∨ j = 28 ∨ j = 29 by omega) with rfl | rfl | rfl | rfl | rfl | rfl | rfl | rfl | rfl | rfl | rfl | rfl | rfl | rfl | rfl | rfl | rfl | rfl | rfl | rfl | rfl | rfl | rfl | rfl | rfl | rfl | rfl | rfl | rfl | rfl <;> rfl) (Nat.le_of_ble_eq_true rfl) (Nat.le_of_ble_eq_true rfl) dL_law_8 (fun q1 H hP hD hS => ?_)
  have hP : va_P (dC, dI) vwCl (GW cy ad iv ar ++ [(q1, .inr (11, [.null, .null, .null, .int 0, .int 0, .int 0, .null, .null, .null, .null, .null, .int 0, .int 0, .int 0, .int 0, .int 0, .int 0, .int 0, .int 0, .null, .null, .null, .null, .null, .null, .int 0, .null, .null, .null, .null]))]) H := hP
  have hD : va_D (lA s) (GW cy ad iv ar ++ [(q1, .inr (11, [.null, .null, .null, .int 0, .int 0, .int 0, .null, .null, .null, .null, .null, .int 0, .int 0, .int 0, .int 0, .int 0, .int 0, .int 0, .int 0, .null, .null, .null, .null, .null, .null, .int 0, .null, .null, .null, .null]))]) := hD
  refine W.widen (k := 2000) (n := 200000) (by omega) (by omega) ?_
  refine lv_dup hx hb dL_law_11 rfl ?_
  have hGL : (GW cy ad iv ar).length = 135 := GW_len
  have e1 : [135].map (fun i => (GW cy ad iv ar ++ [(q1, .inr (11, [.null, .null, .null, .int 0, .int 0, .int 0, .null, .null, .null, .null, .null, .int 0, .int 0, .int 0, .int 0, .int 0, .int 0, .int 0, .int 0, .null, .null, .null, .null, .null, .null, .int 0, .null, .null, .null, .null]))])[i]?) = [(q1, .inr (11, [.null, .null, .null, .int 0, .int 0, .int 0, .null, .null, .null, .null, .null, .int 0, .int 0, .int 0, .int 0, .int 0, .int 0, .int 0, .int 0, .null, .null, .null, .null, .null, .null, .int 0, .null, .null, .null, .null]))].map some := congrArg (fun z => [z]) (app_r _ _ 135 hGL)
  have e2 : [135].filterMap (fun i => (GW cy ad iv ar ++ [(q1, .inr (11, [.null, .null, .null, .int 0, .int 0, .int 0, .null, .null, .null, .null, .null, .int 0, .int 0, .int 0, .int 0, .int 0, .int 0, .int 0, .int 0, .null, .null, .null, .null, .null, .null, .int 0, .null, .null, .null, .null]))])[i]?) = [(q1, .inr (11, [.null, .null, .null, .int 0, .int 0, .int 0, .null, .null, .null, .null, .null, .int 0, .int 0, .int 0, .int 0, .int 0, .int 0, .int 0, .int 0, .null, .null, .null, .null, .null, .null, .int 0, .null, .null, .null, .null]))] := by rw [List.filterMap_cons, app_r _ _ 135 hGL]; rfl
  refine n_callv (wr := GW cy ad iv ar) (va_runI (As := []) (rest := [.ref q1]) ⟨hx, hb, hml, hown, hts⟩ (n_X11_init l (dC, dI) cy q1 _) (cwI 0 hts gL_law_X11_init rfl rfl rfl (hts0 (.initialized RX11) (by decide +kernel)) (hts0 (.methodLink RL 12 yX11_init) (by decide +kernel)) (hts0 (.instanceMethod yX11_init) (by decide +kernel)) rfl (by decide +kernel) ⟨Nat.le_of_ble_eq_true rfl, Nat.le_of_ble_eq_true rfl⟩) (n_pre (wc := [(q1, .inr (11, [.null, .null, .null, .int 0, .int 0, .int 0, .null, .null, .null, .null, .null, .int 0, .int 0, .int 0, .int 0, .int 0, .int 0, .int 0, .int 0, .null, .null, .null, .null, .null, .null, .int 0, .null, .null, .null, .null]))]) hP hD hK hCy hAO hNw hSt hS hA [135] e1 (by decide) e2) rfl rfl hl.1 rfl (lv_room (Nat.le_of_ble_eq_true rfl)) dL_law_12 ⟨Nat.le_of_ble_eq_true rfl, Nat.le_of_ble_eq_true rfl⟩) hP hD hK hS hA [135] (List.range 135) e1 (app_l _ _ 135 hGL) (by decide +kernel) (by decide +kernel) (fun u H locs hw hP hD hK hS => ?_)
  obtain ⟨ad2, had2⟩ : ∃ z : Nat → Nat, z = fun k => [q1, u 1, u 2, u 3, u 4, u 5, u 6, u 7, u 8, u 9, u 10, u 11, u 12, u 13, u 14, u 15, u 16, u 17, u 18].getD k 0 := ⟨_, rfl⟩
  have hP : va_P (dC, dI) vwCl (GW cy ad iv ar ++ MW cy ad2 mIv0 mAr0) H := by subst had2; exact hP
  have hD : va_D (lA s) (GW cy ad iv ar ++ MW cy ad2 mIv0 mAr0) := by subst had2; exact hD
  have hq1 : q1 = ad2 0 := by subst had2; rfl
  rw [hq1]
  have hKm : va_K (dC, dI) vwCl (mty cy) s := hK.sub [0, 1] rfl
  refine W.widen (k := 600000) (n := 7302250) (by omega) (by omega) ?_
  refine lv_astore_n (lv' := [(2, .ref (ad2 0)), (1, .ref (ad 0)), (0, .ref b)]) hx hb dL_law_15 rfl hl (by decide) rfl (fun ls hl => ?_)
  refine lv_iconst (v := 0) hx hb dL_law_16 (by decide) ?_
  refine lv_istore_n (lv' := [(3, .int 0), (2, .ref (ad2 0)), (1, .ref (ad 0)), (0, .ref b)]) hx hb dL_law_17 rfl hl (by decide) rfl (fun ls hl => ?_)
  have hDD : ∀ (iv : gIv) (ar : gAr) (iv2 : gIv) (ar2 : gAr), va_D (lA s) (GW cy ad iv ar ++ MW cy ad2 iv2 ar2) := fun iv9 ar9 iv8 ar8 => va_D.same hD (by rw [List.map_append, List.map_append, GW_fst, GW_fst, MW_fst, MW_fst])
  exact law_body l hL C0 (dC, dI) cy ad ad2 hKg hKm hSt hNw hDD 1601 iv ar mIv0 mAr0 0 H locs ls (by decide) ⟨by decide, by have z0 := i_l0; omega⟩ (by rw [i_l0]; exact LI.init hfr mFr0) hP hS (lv_sub hl [0, 2, 1, 3] rfl)
set_option maxHeartbeats 4000000 in
theorem lw_walk (l : Launch) (hflags : l.flags = flags0) (b : Addr) (xs : List Int32) : MetFree l x (headSpec (Jvm.Cond.code x code maxLocals ret :: tables_1) room_1) (lw_P b xs) (fun _ _ _ _ _ => True) lw_Q := by
  refine MetFree.of_bodyS (code := code) (maxLocals := maxLocals) (ret := ret) (by decide) ?_ ?_
  · intro args s m h hn
    obtain ⟨meth, c, h1, h2, h3, h4, h5, h6, -, -⟩ := Cond.code_spec hn (atoms_spec (ws := Jvm.Cond.code x code maxLocals ret :: tables_1) h _ List.mem_cons_self)
    exact ⟨meth, c, h1, h2, h3, h4, h5, h6⟩
  · intro p e s m args below meth c s₁ B hml0 hP _
    obtain ⟨rfl, hx, hbd, hgv⟩ := hP
    obtain ⟨scr, harrAt, hlist, hof, hsmall⟩ := hx
    obtain ⟨hcb, hkn, -, -⟩ := State.arrayAt?_spec harrAt
    have hown : s.vm.findClass R_law = some m.cls := findClass_of_methodNamed B.named
    have hts0 : ∀ c ∈ (Jvm.Cond.code x code maxLocals ret :: tables_1), c.before #[Value.ref b] s = true := atoms_spec (ws := Jvm.Cond.code x code maxLocals ret :: tables_1) B.pre
    have hts : ∀ w ∈ lw_tbl, w.before #[Value.ref b] s = true := k2_hts_sels lw_privs (fun w hw => hts0 w (List.mem_cons_of_mem _ hw)) lw_privs_ok
    have hml : c.maxLocals = 4 := B.maxLocals_eq (hts0 _ List.mem_cons_self)
    have X₀ : Stand p l e room_1 s m #[Value.ref b] below meth c s₁ [] 0 0 := Stand.of_body B
    have hh0 : s₁.heap = s.heap := by rw [B.state]; rfl
    have hsz : scr.slots.size = xs.length := by rw [← Array.length_toList, hlist, List.length_map]
    have hval : ∀ j : Nat, j < xs.length → scr.slots[j]? = some (.int (xs.getD j 0)) := fun j hj => by
      rw [← Array.getElem?_toList, hlist]
      simp [hj]
    have hbl : b < s.heap.size := (Array.getElem?_eq_some_iff.mp hcb).1
    have hX : va_X b xs.length (fun j => xs.getD j 0) s s.heap := ⟨scr, hcb, hof, hkn, hsz, hval⟩
    have K : W p l e room_1 s m #[Value.ref b] below meth c s₁.heap [] 0 0 (lw_Z below #[Value.ref b] s) (entryFrame m ([Value.ref b] : List Value).toArray 4) := by
      rw [hh0]
      exact whole_start l hflags hbd ⟨B.exec, B.bytes, B.returns, hml, hown, hts, hX, hbl, B.notSynchronized, hgv⟩
    obtain ⟨t, a1, o, b1, b2, b3⟩ := K s₁ rfl X₀
    exact ⟨t, o, a1, b1, b2, b3⟩
theorem lw_pre_spec {args : Array Value} {s : State} (h : (Jvm.Cond.and given_1 narrow_1).before args s = true) (hr : rest_1_c.before args s = true) : ∃ (b : Addr) (xs : List Int32), lw_P b xs args s := by
  have hs := flat_of_before _ h
  have hq := flat_of_before _ hr
  have hc : (Cond.count 1).before args s = true := hs _ (by decide +kernel)
  have harr : (Cond.arrayOf (.arg 0) .int).before args s = true := hs _ (by decide +kernel)
  have hle : (Cond.le (.length (.arg 0)) (.int 1536)).before args s = true := hs _ (by decide +kernel)
  have hlen : (Cond.isInt (.length (.arg 0))).before args s = true := hq _ (by decide +kernel)
  have hall : (Cond.all (.arg 0) (.isInt (.elem (.arg 0) (.index 0)))).before args s = true := hq _ (by decide +kernel)
  obtain ⟨b, xs, hb, hx⟩ := State.ints_of_pre rfl harr hlen hall
  have hsm : xs.length < 2 ^ 31 := hx.choose_spec.2.2.2
  have hev : (Term.length (.arg 0)).eval args s none [] s = some (.int xs.length.toInt32) := hx.length_eval hb
  have hv := Cond.le_ints hev (show (Term.int 1536).eval args s none [] s = some (.int 1536) from rfl)
  have hd : xs.length.toInt32 ≤ 1536 := by
    simpa [Cond.before, Cond.holds, hv] using hle
  have hN : xs.length ≤ 1536 := (Int32.ofNat_le_ofNat hsm (by decide)).mp (show Int32.ofNat xs.length ≤ Int32.ofNat 1536 from hd)
  exact ⟨b, xs, Cond.one_arg hc (show args[0]? = some (.ref b) from hb), hx, hN, h⟩
theorem lw_comes (l : Launch) (hflags : l.flags = flags0) : Comes l x (Jvm.Cond.code x code maxLocals ret :: tables_1) room_1 (fun tb e args s => Calls_1 tb e args s ∧ rest_1 tb e args s ∧ Pre_1 tb e args s)
    (fun _ _ args s o t => lw_Q args s o t) := by
  intro p e ha hc hk s m args below hf hfit hheap happ hpre
  obtain ⟨b, xs, hP⟩ := lw_pre_spec hpre.2.2 hpre.2.1
  obtain ⟨k, o, h1, h2, h3, hQ⟩ := lw_walk l hflags b xs p e ha hc hk s m args below hf ((Spec.applies_iff_loose hf).mp happ).1 hP trivial
  exact ⟨k, o, h1, h2, h3, hQ⟩
theorem lw_frame {s t : State} {o : Outcome} {args : Array Value} (h : Framed s o t [] 600000 7302250) :
    Framed s o t (fieldLocs frame_1_writes args s ++ arrayLocs frame_1_arrays args s ++ staticLocs frame_1_statics s) 600000 7302250 := h
theorem lw_limb (L : Cond) (hL : ∀ (args : Array Value) (s t : State), L.after args s (.returned (some (.int 1))) t = true) :
    ArmFor flags0 classFile x code maxLocals ret World_1 tables_1 room_1 Calls_1 rest_1 Pre_1
      (fun tb e a s o t => postC L tb e a s o t ∧ Framed s o t (fieldLocs frame_1_writes a s ++ arrayLocs frame_1_arrays a s ++ staticLocs frame_1_statics s) 600000 7302250) := by
  intro l hflags _ _ p e ha hc hk s m args below hf hfit hheap happ hpre
  obtain ⟨k, o, h1, h2, h3, rfl, hF⟩ := lw_comes l hflags p e ha hc hk s m args below hf hfit hheap happ hpre
  exact ⟨k, _, h1, h2, h3, hL args s _, lw_frame hF⟩
theorem i_vc : Claimed_1_1 ∧ Claimed_1_2 := ⟨lw_limb limb_1_1 (fun args s t => by simp [limb_1_1, Cond.after, Cond.holds, Cond.value]), lw_limb limb_1_2 (fun args s t => Cond.after_iff.mpr (by
  first | (rw [show limb_1_2 = Cond.eq .result (.int 1) from rfl, Cond.eq_ints (x := 1) (y := 1) rfl rfl]; simp; done) | (simp [limb_1_2, Cond.value, Term.eval]; done)))⟩

