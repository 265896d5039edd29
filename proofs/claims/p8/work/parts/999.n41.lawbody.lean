/-! THE CLAIM OUT OF ONE WALK OF THE LAW'S BODY. Your part is whole_start (and what it stands on); all else here is the same for every law, but numbers. -/
def R_law : String := "FormationPlannerLaw"
def lw_P (b : Addr) (xs : List Int32) (args : Array Value) (s : State) : Prop := args = #[.ref b] ∧ s.IntsAt b xs ∧ xs.length ≤ 1536 ∧ (Jvm.Cond.and given_1 narrow_1).before args s = true
def lw_Q (_ : Array Value) (s : State) (o : Outcome) (t : State) : Prop := o = .returned (some (.int 1)) ∧ Framed s o t [] 600000 7302250
def lw_Z (below : List Frame) (a : Array Value) (s : State) : State → Prop := fun t => ∃ o, t.status = .running ∧ Ended t below o ∧ lw_Q a s o t
/-- the law's own end, with 1 on the stack, nothing written that was there before, its room as the claim has it -/
theorem lw_ret {p : Program} {l : Launch} {e : Env} {s : State} {m : MethodId} {below : List Frame} {meth : Method} {c : Code} {b : Nat} (hx : p.tables.exec = Jvm.exec) (hb : c.code = code) (hr : meth.sig.returnType = ret) (hlocks : meth.locks = false) {pc : Nat} {H : Heap} {ls : Array Slot} (hdg : decode code pc = .ok (.ireturn, 1)) : W p l e room_1 s m #[Value.ref b] below meth c H [] 600000 7302250 (lw_Z below #[Value.ref b] s) (F0 m pc ls [.int 1]) := by
  intro T hT X
  obtain ⟨fs, hret, hrun, hended, hW, hframe⟩ := X.leave (v := some (.int 1)) (hlocks := hlocks) (fun h => by rw [hr] at h; cases h)
  have hmeth' : T.vm.method? m = some meth := X.method'
  refine ⟨T.setFrames fs, ?_, .returned (some (.int 1)), hrun, hended, rfl, ⟨_, rfl⟩, hW, hframe⟩
  jvm_step X.here [X.here.top, hx, hb, hdg, hmeth', hr, ret, narrow_b1]
  (try refine ⟨rfl, ?_⟩); (try refine ⟨rfl, ?_⟩)
  first | (intro acts; rw [hret _ acts rfl rfl rfl]) | rw [hret _ _ rfl rfl rfl]
  exact Steps.refl _
/-- what holds at the law's entry: the machine, the code, the tables' words (any of lw_tbl by 'hts w (by decide +kernel)'), the script of L ints xs at the cell b, what the Statement gives of the start (any of its parts by flat_of_before) -/
def lw_At (p : Program) (s : State) (m : MethodId) (meth : Method) (c : Code) (b L : Nat) (xs : Nat → Int32) : Prop :=
  p.tables.exec = Jvm.exec ∧ c.code = code ∧ meth.sig.returnType = ret ∧ c.maxLocals = 4 ∧ s.vm.findClass R_law = some m.cls ∧ (∀ w ∈ lw_tbl, w.before #[Value.ref b] s = true) ∧ va_X b L xs s s.heap ∧ b < s.heap.size ∧ meth.locks = false ∧ (Jvm.Cond.and given_1 narrow_1).before #[Value.ref b] s = true
set_option maxHeartbeats 8000000 in
set_option maxRecDepth 100000 in
/-- behind the constructors: the loop over the script -/
theorem law_body {p : Program} {e : Env} {s : State} {m : MethodId} {below : List Frame} {meth : Method} {c : Code} (l : Launch) {b L : Nat} {xs : Nat → Int32} (hL : L ≤ 1536) (C0 : lw_At p s m meth c b L xs) (D : va_G) (cy : Nat → ClassId) (ad ad2 : Nat → Nat) (hK : va_K D vwCl (gty cy) s) (hKm : va_K D vwCl (mty cy) s) (hSt : gSt (lA s) s s.heap) (hNw : gNw s) (hDD : ∀ (iv : gIv) (ar : gAr) (iv2 : gIv) (ar2 : gAr), va_D (lA s) (GW cy ad iv ar ++ MW cy ad2 iv2 ar2)) : ∀ (n : Nat) (iv : gIv) (ar : gAr) (iv2 : gIv) (ar2 : gAr) (i : Int32) (H : Heap) (locs : List Loc) (ls : Array Slot), (1600 - i.toInt).toNat < n → (0 ≤ i.toInt ∧ i.toInt ≤ (L : Int)) → LI iv iv2 ar2 i.toInt → va_P D vwCl (GW cy ad iv ar ++ MW cy ad2 iv2 ar2) H → va_S (lA s) s.heap H locs → lv_has ls 4 [(3, .int i), (1, .ref (ad 0)), (2, .ref (ad2 0)), (0, .ref b)] → W p l e room_1 s m #[Value.ref b] below meth c H locs 600000 7302250 (lw_Z below #[Value.ref b] s) (F0 m 18 ls []) := by
  obtain ⟨hx, hb, hr, hml, hown, hts0, hX, hbl, hlocks, hgv⟩ := id C0
  have hts : ∀ w ∈ wsL_law, w.before #[Value.ref b] s = true := fun w h => hts0 w (wsL_law_in w h)
  have hbA : ¬ lA s b := Nat.not_le.mpr hbl
  have hI : gInj ad := gInj_of (d_left (hDD (fun _ _ => 0) (fun _ _ => 0) (fun _ _ => 0) (fun _ _ => 0)))
  have hI2 : mInj ad2 := mInj_of (d_right (hDD (fun _ _ => 0) (fun _ _ => 0) (fun _ _ => 0) (fun _ _ => 0)))
  have hL1 : (Int32.ofNat L).toInt = (L : Int) := nI_toInt (n := L) (by omega)
  intro n
  induction n with
  | zero => intro iv ar iv2 ar2 i H locs ls hm; omega
  | succ n ih =>
    intro iv ar iv2 ar2 i H locs ls hm hi hLI hP hS hl
    have hD := hDD iv ar iv2 ar2
    refine lv_iload_n hx hb dL_law_18 rfl (lv_at hl 0 rfl) ?_
    refine lv_aload_n hx hb dL_law_19 rfl (lv_at hl 3 rfl) ?_
    refine va_slen hx hb hX hbl hbA hS dL_law_20 ?_
    refine lv_iconst (v := 3) hx hb dL_law_21 (by decide) ?_
    refine lv_isub hx hb dL_law_22 ?_
    refine lv_topi (fun v ev => ?_)
    have tv : v.toInt = (L : Int) - 3 := i_sub hL1 (show (3 : Int32).toInt = 3 from rfl) (by omega) (by omega) ev
    refine lv_icmp_gt (tgt := 742) hx hb dL_law_23 (by decide) (fun c_1 => ?_) (fun c_1 => ?_)
    · refine lv_iconst (v := 1) hx hb dL_law_742 (by decide) ?_
      refine va_forget (fun q hq => hS.2.2 q hq) ?_
      exact lw_ret hx hb hr hlocks dL_law_743
    have hi3 : i.toInt ≤ v.toInt := i_nlt c_1
    obtain ⟨j1, ej1⟩ : ∃ z : Int32, z = i + 1 := ⟨_, rfl⟩
    obtain ⟨j2, ej2⟩ : ∃ z : Int32, z = i + 2 := ⟨_, rfl⟩
    obtain ⟨j3, ej3⟩ : ∃ z : Int32, z = i + 3 := ⟨_, rfl⟩
    have tj1 : j1.toInt = i.toInt + 1 := i_add rfl (show (1 : Int32).toInt = 1 from rfl) (by omega) (by omega) ej1
    have tj2 : j2.toInt = i.toInt + 2 := i_add rfl (show (2 : Int32).toInt = 2 from rfl) (by omega) (by omega) ej2
    have tj3 : j3.toInt = i.toInt + 3 := i_add rfl (show (3 : Int32).toInt = 3 from rfl) (by omega) (by omega) ej3
    have hn0 : vp_in i L := g_in rfl rfl hi.1 (by omega)
    have hn1 : vp_in (i + 1) L := by rw [← ej1]; exact g_in rfl rfl (by omega) (by omega)
    have hn2 : vp_in (i + 2) L := by rw [← ej2]; exact g_in rfl rfl (by omega) (by omega)
    obtain ⟨a1, ea1⟩ : ∃ z : Int32, z = xs (i + 1).toNatClampNeg := ⟨_, rfl⟩
    obtain ⟨a2, ea2⟩ : ∃ z : Int32, z = xs (i + 2).toNatClampNeg := ⟨_, rfl⟩
    have hz := hLI.1
    have hri := hLI.2.2.1
    have h66 := hLI.2.1
    have h04 := hri.2.2.2.1
    have hpr : (iv2 0 17).toInt ≤ 1000000 := by have h9 := hLI.2.2.2; omega
    have h0 : 0 ≤ (iv 66 2).toInt ∧ (iv 66 2).toInt ≤ 60 := by omega
    refine lv_aload_n hx hb dL_law_26 rfl (lv_at hl 3 rfl) ?_
    refine lv_iload_n hx hb dL_law_27 rfl (lv_at hl 0 rfl) ?_
    refine va_sld hx hb hX hbl hbA hS (i := i) hn0 dL_law_28 ?_
    refine lv_bipush (v := 31) hx hb dL_law_29 (by decide) ?_
    refine lv_iand hx hb dL_law_31 ?_
    refine lv_topi (fun x0 ex0 => ?_)
    have hx0 : 0 ≤ x0.toInt ∧ x0.toInt < 32 := by rw [ex0]; exact l_and _
    have next : ∀ (iv : gIv) (ar : gAr) (iv2 : gIv) (ar2 : gAr) (H : Heap) (locs : List Loc) (ls : Array Slot), LI iv iv2 ar2 (i.toInt + 3) → va_P D vwCl (GW cy ad iv ar ++ MW cy ad2 iv2 ar2) H → va_S (lA s) s.heap H locs → lv_has ls 4 [(3, .int i), (1, .ref (ad 0)), (2, .ref (ad2 0)), (0, .ref b)] → W p l e room_1 s m #[Value.ref b] below meth c H locs 600000 7302250 (lw_Z below #[Value.ref b] s) (F0 m 736 ls []) := by
      intro iv ar iv2 ar2 H locs ls hLI hP hS hl
      refine lv_iinc (v := j3) (lv' := [(3, .int j3), (1, .ref (ad 0)), (2, .ref (ad2 0)), (0, .ref b)]) hx hb dL_law_736 hl (k := 0) rfl (by rw [ej3]; rfl) (by decide) rfl (fun ls hl => ?_)
      refine lv_goto (tgt := 18) hx hb dL_law_739 (by decide) ?_
      exact ih iv ar iv2 ar2 j3 H locs ls (by omega) (by omega) (by rw [tj3]; exact hLI) hP hS hl
    by_cases z_0 : x0.toInt = 0
    · skip
      refine lv_tableIn (off := 112) (tgt := 144) hx hb dL_law_32 (by rw [z_0]; decide) (by rw [z_0]; decide) (by rw [z_0]; rfl) (by decide) ?_
      refine lv_aload_n hx hb dL_law_144 rfl (lv_at hl 1 rfl) ?_
      refine lv_aload_n hx hb dL_law_145 rfl (lv_at hl 3 rfl) ?_
      refine lv_iload_n hx hb dL_law_146 rfl (lv_at hl 0 rfl) ?_
      refine lv_iconst (v := 1) hx hb dL_law_147 (by decide) ?_
      refine lv_iadd hx hb dL_law_148 ?_
      refine va_sld hx hb hX hbl hbA hS (i := i + 1) hn1 dL_law_149 ?_
      rw [← ea1]
      refine lv_aload_n hx hb dL_law_150 rfl (lv_at hl 3 rfl) ?_
      refine lv_iload_n hx hb dL_law_151 rfl (lv_at hl 0 rfl) ?_
      refine lv_iconst (v := 2) hx hb dL_law_152 (by decide) ?_
      refine lv_iadd hx hb dL_law_153 ?_
      refine va_sld hx hb hX hbl hbA hS (i := i + 2) hn2 dL_law_154 ?_
      rw [← ea2]
      refine lp_calli (va_runV (As := [.int a1, .int a2]) (rest := []) ⟨hx, hb, hml, hown, hts⟩ (c_X10_setWind l D cy ad hI _ iv ar a1 a2 hz) (cwV 2 hts gL_law_X10_setWind rfl rfl rfl (by decide +kernel) ⟨Nat.le_of_ble_eq_true rfl, Nat.le_of_ble_eq_true rfl⟩) (l_preV hP hD hK hSt hNw hS (g_at10 (Nat.le_of_ble_eq_true rfl) rfl) rfl) rfl rfl hl.1 rfl (lv_room (Nat.le_of_ble_eq_true rfl)) dL_law_155 ⟨Nat.le_of_ble_eq_true rfl, Nat.le_of_ble_eq_true rfl⟩) hP hD hS (fun r1 iv1 ar1 H locs w1 hP hS => ?_)
      try dsimp only at w1
      have hD := hDD iv1 ar1 iv2 ar2
      refine lv_pop hx hb dL_law_158 rfl ?_
      refine lv_aload_n hx hb dL_law_159 rfl (lv_at hl 2 rfl) ?_
      refine lv_aload_n hx hb dL_law_160 rfl (lv_at hl 3 rfl) ?_
      refine lv_iload_n hx hb dL_law_161 rfl (lv_at hl 0 rfl) ?_
      refine lv_iconst (v := 1) hx hb dL_law_162 (by decide) ?_
      refine lv_iadd hx hb dL_law_163 ?_
      refine va_sld hx hb hX hbl hbA hS (i := i + 1) hn1 dL_law_164 ?_
      rw [← ea1]
      refine lv_aload_n hx hb dL_law_165 rfl (lv_at hl 3 rfl) ?_
      refine lv_iload_n hx hb dL_law_166 rfl (lv_at hl 0 rfl) ?_
      refine lv_iconst (v := 2) hx hb dL_law_167 (by decide) ?_
      refine lv_iadd hx hb dL_law_168 ?_
      refine va_sld hx hb hX hbl hbA hS (i := i + 2) hn2 dL_law_169 ?_
      rw [← ea2]
      refine lp_callim (va_runV (As := [.int a1, .int a2]) (rest := []) ⟨hx, hb, hml, hown, hts⟩ (c_X11_setWind l D cy ad2 hI2 _ iv2 ar2 a1 a2 hri) (cwV 2 hts gL_law_X11_setWind rfl rfl rfl (by decide +kernel) ⟨Nat.le_of_ble_eq_true rfl, Nat.le_of_ble_eq_true rfl⟩) (l_preVm (w_right hP) hKm (m_at11 (k := 0) (Nat.le_of_ble_eq_true rfl) rfl) rfl) rfl rfl hl.1 rfl (lv_room (Nat.le_of_ble_eq_true rfl)) dL_law_170 ⟨Nat.le_of_ble_eq_true rfl, Nat.le_of_ble_eq_true rfl⟩) hP hD hS (fun r2 iv3 ar3 H locs w2 hP hS => ?_)
      try dsimp only at w2
      refine lv_pop hx hb dL_law_173 rfl ?_
      refine lv_goto (tgt := 736) hx hb dL_law_174 (by decide) ?_
      exact next iv1 ar1 iv3 ar3 _ _ _ (hLI.p0 w1 w2) hP hS hl
    by_cases z_1 : x0.toInt = 1
    · skip
      refine lv_tableIn (off := 145) (tgt := 177) hx hb dL_law_32 (by rw [z_1]; decide) (by rw [z_1]; decide) (by rw [z_1]; rfl) (by decide) ?_
      refine lv_aload_n hx hb dL_law_177 rfl (lv_at hl 1 rfl) ?_
      refine lv_aload_n hx hb dL_law_178 rfl (lv_at hl 3 rfl) ?_
      refine lv_iload_n hx hb dL_law_179 rfl (lv_at hl 0 rfl) ?_
      refine lv_iconst (v := 1) hx hb dL_law_180 (by decide) ?_
      refine lv_iadd hx hb dL_law_181 ?_
      refine va_sld hx hb hX hbl hbA hS (i := i + 1) hn1 dL_law_182 ?_
      rw [← ea1]
      refine lv_aload_n hx hb dL_law_183 rfl (lv_at hl 3 rfl) ?_
      refine lv_iload_n hx hb dL_law_184 rfl (lv_at hl 0 rfl) ?_
      refine lv_iconst (v := 2) hx hb dL_law_185 (by decide) ?_
      refine lv_iadd hx hb dL_law_186 ?_
      refine va_sld hx hb hX hbl hbA hS (i := i + 2) hn2 dL_law_187 ?_
      rw [← ea2]
      refine lp_calli (va_runV (As := [.int a1, .int a2]) (rest := []) ⟨hx, hb, hml, hown, hts⟩ (c_X10_setObstacle l D cy ad hI _ iv ar a1 a2 hz) (cwV 2 hts gL_law_X10_setObstacle rfl rfl rfl (by decide +kernel) ⟨Nat.le_of_ble_eq_true rfl, Nat.le_of_ble_eq_true rfl⟩) (l_preV hP hD hK hSt hNw hS (g_at10 (Nat.le_of_ble_eq_true rfl) rfl) rfl) rfl rfl hl.1 rfl (lv_room (Nat.le_of_ble_eq_true rfl)) dL_law_188 ⟨Nat.le_of_ble_eq_true rfl, Nat.le_of_ble_eq_true rfl⟩) hP hD hS (fun r1 iv1 ar1 H locs w1 hP hS => ?_)
      try dsimp only at w1
      have hD := hDD iv1 ar1 iv2 ar2
      refine lv_pop hx hb dL_law_191 rfl ?_
      refine lv_aload_n hx hb dL_law_192 rfl (lv_at hl 2 rfl) ?_
      refine lv_aload_n hx hb dL_law_193 rfl (lv_at hl 3 rfl) ?_
      refine lv_iload_n hx hb dL_law_194 rfl (lv_at hl 0 rfl) ?_
      refine lv_iconst (v := 1) hx hb dL_law_195 (by decide) ?_
      refine lv_iadd hx hb dL_law_196 ?_
      refine va_sld hx hb hX hbl hbA hS (i := i + 1) hn1 dL_law_197 ?_
      rw [← ea1]
      refine lv_aload_n hx hb dL_law_198 rfl (lv_at hl 3 rfl) ?_
      refine lv_iload_n hx hb dL_law_199 rfl (lv_at hl 0 rfl) ?_
      refine lv_iconst (v := 2) hx hb dL_law_200 (by decide) ?_
      refine lv_iadd hx hb dL_law_201 ?_
      refine va_sld hx hb hX hbl hbA hS (i := i + 2) hn2 dL_law_202 ?_
      rw [← ea2]
      refine lp_callim (va_runV (As := [.int a1, .int a2]) (rest := []) ⟨hx, hb, hml, hown, hts⟩ (c_X11_setObstacle l D cy ad2 hI2 _ iv2 ar2 a1 a2 hri) (cwV 2 hts gL_law_X11_setObstacle rfl rfl rfl (by decide +kernel) ⟨Nat.le_of_ble_eq_true rfl, Nat.le_of_ble_eq_true rfl⟩) (l_preVm (w_right hP) hKm (m_at11 (k := 0) (Nat.le_of_ble_eq_true rfl) rfl) rfl) rfl rfl hl.1 rfl (lv_room (Nat.le_of_ble_eq_true rfl)) dL_law_203 ⟨Nat.le_of_ble_eq_true rfl, Nat.le_of_ble_eq_true rfl⟩) hP hD hS (fun r2 iv3 ar3 H locs w2 hP hS => ?_)
      try dsimp only at w2
      refine lv_pop hx hb dL_law_206 rfl ?_
      refine lv_goto (tgt := 736) hx hb dL_law_207 (by decide) ?_
      exact next iv1 ar1 iv3 ar3 _ _ _ (hLI.p0 w1 w2) hP hS hl
    by_cases z_2 : x0.toInt = 2
    · skip
      refine lv_tableIn (off := 178) (tgt := 210) hx hb dL_law_32 (by rw [z_2]; decide) (by rw [z_2]; decide) (by rw [z_2]; rfl) (by decide) ?_
      refine lv_aload_n hx hb dL_law_210 rfl (lv_at hl 1 rfl) ?_
      refine lv_aload_n hx hb dL_law_211 rfl (lv_at hl 3 rfl) ?_
      refine lv_iload_n hx hb dL_law_212 rfl (lv_at hl 0 rfl) ?_
      refine lv_iconst (v := 1) hx hb dL_law_213 (by decide) ?_
      refine lv_iadd hx hb dL_law_214 ?_
      refine va_sld hx hb hX hbl hbA hS (i := i + 1) hn1 dL_law_215 ?_
      rw [← ea1]
      refine lp_calli (va_runV (As := [.int a1]) (rest := []) ⟨hx, hb, hml, hown, hts⟩ (c_X10_addDrone l D cy ad hI _ iv ar a1 hz) (cwV 1 hts gL_law_X10_addDrone rfl rfl rfl (by decide +kernel) ⟨Nat.le_of_ble_eq_true rfl, Nat.le_of_ble_eq_true rfl⟩) (l_preV hP hD hK hSt hNw hS (g_at10 (Nat.le_of_ble_eq_true rfl) rfl) rfl) rfl rfl hl.1 rfl (lv_room (Nat.le_of_ble_eq_true rfl)) dL_law_216 ⟨Nat.le_of_ble_eq_true rfl, Nat.le_of_ble_eq_true rfl⟩) hP hD hS (fun r1 iv1 ar1 H locs w1 hP hS => ?_)
      try dsimp only at w1
      have hD := hDD iv1 ar1 iv2 ar2
      refine lv_pop hx hb dL_law_219 rfl ?_
      refine lv_aload_n hx hb dL_law_220 rfl (lv_at hl 2 rfl) ?_
      refine lv_aload_n hx hb dL_law_221 rfl (lv_at hl 3 rfl) ?_
      refine lv_iload_n hx hb dL_law_222 rfl (lv_at hl 0 rfl) ?_
      refine lv_iconst (v := 1) hx hb dL_law_223 (by decide) ?_
      refine lv_iadd hx hb dL_law_224 ?_
      refine va_sld hx hb hX hbl hbA hS (i := i + 1) hn1 dL_law_225 ?_
      rw [← ea1]
      refine lp_callim (va_runV (As := [.int a1]) (rest := []) ⟨hx, hb, hml, hown, hts⟩ (c_X11_addDrone l D cy ad2 hI2 _ iv2 ar2 a1 hri) (cwV 1 hts gL_law_X11_addDrone rfl rfl rfl (by decide +kernel) ⟨Nat.le_of_ble_eq_true rfl, Nat.le_of_ble_eq_true rfl⟩) (l_preVm (w_right hP) hKm (m_at11 (k := 0) (Nat.le_of_ble_eq_true rfl) rfl) rfl) rfl rfl hl.1 rfl (lv_room (Nat.le_of_ble_eq_true rfl)) dL_law_226 ⟨Nat.le_of_ble_eq_true rfl, Nat.le_of_ble_eq_true rfl⟩) hP hD hS (fun r2 iv3 ar3 H locs w2 hP hS => ?_)
      try dsimp only at w2
      refine lv_pop hx hb dL_law_229 rfl ?_
      refine lv_goto (tgt := 736) hx hb dL_law_230 (by decide) ?_
      exact next iv1 ar1 iv3 ar3 _ _ _ (hLI.p0 w1 w2) hP hS hl
    by_cases z_3 : x0.toInt = 3
    · skip
      refine lv_tableIn (off := 201) (tgt := 233) hx hb dL_law_32 (by rw [z_3]; decide) (by rw [z_3]; decide) (by rw [z_3]; rfl) (by decide) ?_
      refine lv_aload_n hx hb dL_law_233 rfl (lv_at hl 1 rfl) ?_
      refine lv_aload_n hx hb dL_law_234 rfl (lv_at hl 3 rfl) ?_
      refine lv_iload_n hx hb dL_law_235 rfl (lv_at hl 0 rfl) ?_
      refine lv_iconst (v := 1) hx hb dL_law_236 (by decide) ?_
      refine lv_iadd hx hb dL_law_237 ?_
      refine va_sld hx hb hX hbl hbA hS (i := i + 1) hn1 dL_law_238 ?_
      rw [← ea1]
      refine lp_calli (va_runV (As := [.int a1]) (rest := []) ⟨hx, hb, hml, hown, hts⟩ (c_X10_removeDrone l D cy ad hI _ iv ar a1 hz) (cwV 1 hts gL_law_X10_removeDrone rfl rfl rfl (by decide +kernel) ⟨Nat.le_of_ble_eq_true rfl, Nat.le_of_ble_eq_true rfl⟩) (l_preV hP hD hK hSt hNw hS (g_at10 (Nat.le_of_ble_eq_true rfl) rfl) rfl) rfl rfl hl.1 rfl (lv_room (Nat.le_of_ble_eq_true rfl)) dL_law_239 ⟨Nat.le_of_ble_eq_true rfl, Nat.le_of_ble_eq_true rfl⟩) hP hD hS (fun r1 iv1 ar1 H locs w1 hP hS => ?_)
      try dsimp only at w1
      have hD := hDD iv1 ar1 iv2 ar2
      refine lv_pop hx hb dL_law_242 rfl ?_
      refine lv_aload_n hx hb dL_law_243 rfl (lv_at hl 2 rfl) ?_
      refine lv_aload_n hx hb dL_law_244 rfl (lv_at hl 3 rfl) ?_
      refine lv_iload_n hx hb dL_law_245 rfl (lv_at hl 0 rfl) ?_
      refine lv_iconst (v := 1) hx hb dL_law_246 (by decide) ?_
      refine lv_iadd hx hb dL_law_247 ?_
      refine va_sld hx hb hX hbl hbA hS (i := i + 1) hn1 dL_law_248 ?_
      rw [← ea1]
      refine lp_callim (va_runV (As := [.int a1]) (rest := []) ⟨hx, hb, hml, hown, hts⟩ (c_X11_removeDrone l D cy ad2 hI2 _ iv2 ar2 a1 hri) (cwV 1 hts gL_law_X11_removeDrone rfl rfl rfl (by decide +kernel) ⟨Nat.le_of_ble_eq_true rfl, Nat.le_of_ble_eq_true rfl⟩) (l_preVm (w_right hP) hKm (m_at11 (k := 0) (Nat.le_of_ble_eq_true rfl) rfl) rfl) rfl rfl hl.1 rfl (lv_room (Nat.le_of_ble_eq_true rfl)) dL_law_249 ⟨Nat.le_of_ble_eq_true rfl, Nat.le_of_ble_eq_true rfl⟩) hP hD hS (fun r2 iv3 ar3 H locs w2 hP hS => ?_)
      try dsimp only at w2
      refine lv_pop hx hb dL_law_252 rfl ?_
      refine lv_goto (tgt := 736) hx hb dL_law_253 (by decide) ?_
      exact next iv1 ar1 iv3 ar3 _ _ _ (hLI.p0 w1 w2) hP hS hl
    by_cases z_4 : x0.toInt = 4
    · skip
      refine lv_tableIn (off := 224) (tgt := 256) hx hb dL_law_32 (by rw [z_4]; decide) (by rw [z_4]; decide) (by rw [z_4]; rfl) (by decide) ?_
      refine lv_aload_n hx hb dL_law_256 rfl (lv_at hl 1 rfl) ?_
      refine lv_aload_n hx hb dL_law_257 rfl (lv_at hl 3 rfl) ?_
      refine lv_iload_n hx hb dL_law_258 rfl (lv_at hl 0 rfl) ?_
      refine lv_iconst (v := 1) hx hb dL_law_259 (by decide) ?_
      refine lv_iadd hx hb dL_law_260 ?_
      refine va_sld hx hb hX hbl hbA hS (i := i + 1) hn1 dL_law_261 ?_
      rw [← ea1]
      refine lp_calli (va_runV (As := [.int a1]) (rest := []) ⟨hx, hb, hml, hown, hts⟩ (c_X10_addSlot l D cy ad hI _ iv ar a1 hz) (cwV 1 hts gL_law_X10_addSlot rfl rfl rfl (by decide +kernel) ⟨Nat.le_of_ble_eq_true rfl, Nat.le_of_ble_eq_true rfl⟩) (l_preV hP hD hK hSt hNw hS (g_at10 (Nat.le_of_ble_eq_true rfl) rfl) rfl) rfl rfl hl.1 rfl (lv_room (Nat.le_of_ble_eq_true rfl)) dL_law_262 ⟨Nat.le_of_ble_eq_true rfl, Nat.le_of_ble_eq_true rfl⟩) hP hD hS (fun r1 iv1 ar1 H locs w1 hP hS => ?_)
      try dsimp only at w1
      have hD := hDD iv1 ar1 iv2 ar2
      refine lv_pop hx hb dL_law_265 rfl ?_
      refine lv_aload_n hx hb dL_law_266 rfl (lv_at hl 2 rfl) ?_
      refine lv_aload_n hx hb dL_law_267 rfl (lv_at hl 3 rfl) ?_
      refine lv_iload_n hx hb dL_law_268 rfl (lv_at hl 0 rfl) ?_
      refine lv_iconst (v := 1) hx hb dL_law_269 (by decide) ?_
      refine lv_iadd hx hb dL_law_270 ?_
      refine va_sld hx hb hX hbl hbA hS (i := i + 1) hn1 dL_law_271 ?_
      rw [← ea1]
      refine lp_callim (va_runV (As := [.int a1]) (rest := []) ⟨hx, hb, hml, hown, hts⟩ (c_X11_addSlot l D cy ad2 hI2 _ iv2 ar2 a1 hri) (cwV 1 hts gL_law_X11_addSlot rfl rfl rfl (by decide +kernel) ⟨Nat.le_of_ble_eq_true rfl, Nat.le_of_ble_eq_true rfl⟩) (l_preVm (w_right hP) hKm (m_at11 (k := 0) (Nat.le_of_ble_eq_true rfl) rfl) rfl) rfl rfl hl.1 rfl (lv_room (Nat.le_of_ble_eq_true rfl)) dL_law_272 ⟨Nat.le_of_ble_eq_true rfl, Nat.le_of_ble_eq_true rfl⟩) hP hD hS (fun r2 iv3 ar3 H locs w2 hP hS => ?_)
      try dsimp only at w2
      refine lv_pop hx hb dL_law_275 rfl ?_
      refine lv_goto (tgt := 736) hx hb dL_law_276 (by decide) ?_
      exact next iv1 ar1 iv3 ar3 _ _ _ (hLI.p0 w1 w2) hP hS hl
    by_cases z_5 : x0.toInt = 5
    · skip
      refine lv_tableIn (off := 247) (tgt := 279) hx hb dL_law_32 (by rw [z_5]; decide) (by rw [z_5]; decide) (by rw [z_5]; rfl) (by decide) ?_
      refine lv_aload_n hx hb dL_law_279 rfl (lv_at hl 1 rfl) ?_
      refine lp_calli (va_runV (As := []) (rest := []) ⟨hx, hb, hml, hown, hts⟩ (c_X10_clearSlots l D cy ad hI _ iv ar  hz) (cwV 0 hts gL_law_X10_clearSlots rfl rfl rfl (by decide +kernel) ⟨Nat.le_of_ble_eq_true rfl, Nat.le_of_ble_eq_true rfl⟩) (l_preV hP hD hK hSt hNw hS (g_at10 (Nat.le_of_ble_eq_true rfl) rfl) rfl) rfl rfl hl.1 rfl (lv_room (Nat.le_of_ble_eq_true rfl)) dL_law_280 ⟨Nat.le_of_ble_eq_true rfl, Nat.le_of_ble_eq_true rfl⟩) hP hD hS (fun r1 iv1 ar1 H locs w1 hP hS => ?_)
      try dsimp only at w1
      have hD := hDD iv1 ar1 iv2 ar2
      refine lv_pop hx hb dL_law_283 rfl ?_
      refine lv_aload_n hx hb dL_law_284 rfl (lv_at hl 2 rfl) ?_
      refine lp_callim (va_runV (As := []) (rest := []) ⟨hx, hb, hml, hown, hts⟩ (c_X11_clearSlots l D cy ad2 hI2 _ iv2 ar2  hri) (cwV 0 hts gL_law_X11_clearSlots rfl rfl rfl (by decide +kernel) ⟨Nat.le_of_ble_eq_true rfl, Nat.le_of_ble_eq_true rfl⟩) (l_preVm (w_right hP) hKm (m_at11 (k := 0) (Nat.le_of_ble_eq_true rfl) rfl) rfl) rfl rfl hl.1 rfl (lv_room (Nat.le_of_ble_eq_true rfl)) dL_law_285 ⟨Nat.le_of_ble_eq_true rfl, Nat.le_of_ble_eq_true rfl⟩) hP hD hS (fun r2 iv3 ar3 H locs w2 hP hS => ?_)
      try dsimp only at w2
      refine lv_pop hx hb dL_law_288 rfl ?_
      refine lv_goto (tgt := 736) hx hb dL_law_289 (by decide) ?_
      exact next iv1 ar1 iv3 ar3 _ _ _ (hLI.p0 w1 w2) hP hS hl
    by_cases z_6 : x0.toInt = 6
    · skip
      refine lv_tableIn (off := 260) (tgt := 292) hx hb dL_law_32 (by rw [z_6]; decide) (by rw [z_6]; decide) (by rw [z_6]; rfl) (by decide) ?_
      refine lv_aload_n hx hb dL_law_292 rfl (lv_at hl 1 rfl) ?_
      refine lv_aload_n hx hb dL_law_293 rfl (lv_at hl 3 rfl) ?_
      refine lv_iload_n hx hb dL_law_294 rfl (lv_at hl 0 rfl) ?_
      refine lv_iconst (v := 1) hx hb dL_law_295 (by decide) ?_
      refine lv_iadd hx hb dL_law_296 ?_
      refine va_sld hx hb hX hbl hbA hS (i := i + 1) hn1 dL_law_297 ?_
      rw [← ea1]
      refine lv_aload_n hx hb dL_law_298 rfl (lv_at hl 3 rfl) ?_
      refine lv_iload_n hx hb dL_law_299 rfl (lv_at hl 0 rfl) ?_
      refine lv_iconst (v := 2) hx hb dL_law_300 (by decide) ?_
      refine lv_iadd hx hb dL_law_301 ?_
      refine va_sld hx hb hX hbl hbA hS (i := i + 2) hn2 dL_law_302 ?_
      rw [← ea2]
      refine lp_calli (va_runV (As := [.int a1, .int a2]) (rest := []) ⟨hx, hb, hml, hown, hts⟩ (c_X10_append l D cy ad hI _ iv ar a1 a2 hz h0) (cwV 2 hts gL_law_X10_append rfl rfl rfl (by decide +kernel) ⟨Nat.le_of_ble_eq_true rfl, Nat.le_of_ble_eq_true rfl⟩) (l_preV hP hD hK hSt hNw hS (g_at10 (Nat.le_of_ble_eq_true rfl) rfl) rfl) rfl rfl hl.1 rfl (lv_room (Nat.le_of_ble_eq_true rfl)) dL_law_303 ⟨Nat.le_of_ble_eq_true rfl, Nat.le_of_ble_eq_true rfl⟩) hP hD hS (fun r1 iv1 ar1 H locs w1 hP hS => ?_)
      try dsimp only at w1
      have hD := hDD iv1 ar1 iv2 ar2
      refine lv_aload_n hx hb dL_law_306 rfl (lv_at hl 2 rfl) ?_
      refine lv_aload_n hx hb dL_law_307 rfl (lv_at hl 3 rfl) ?_
      refine lv_iload_n hx hb dL_law_308 rfl (lv_at hl 0 rfl) ?_
      refine lv_iconst (v := 1) hx hb dL_law_309 (by decide) ?_
      refine lv_iadd hx hb dL_law_310 ?_
      refine va_sld hx hb hX hbl hbA hS (i := i + 1) hn1 dL_law_311 ?_
      rw [← ea1]
      refine lv_aload_n hx hb dL_law_312 rfl (lv_at hl 3 rfl) ?_
      refine lv_iload_n hx hb dL_law_313 rfl (lv_at hl 0 rfl) ?_
      refine lv_iconst (v := 2) hx hb dL_law_314 (by decide) ?_
      refine lv_iadd hx hb dL_law_315 ?_
      refine va_sld hx hb hX hbl hbA hS (i := i + 2) hn2 dL_law_316 ?_
      rw [← ea2]
      refine lp_callim (va_runV (As := [.int a1, .int a2]) (rest := [.int r1]) ⟨hx, hb, hml, hown, hts⟩ (c_X11_append l D cy ad2 hI2 _ iv2 ar2 a1 a2 hri) (cwV 2 hts gL_law_X11_append rfl rfl rfl (by decide +kernel) ⟨Nat.le_of_ble_eq_true rfl, Nat.le_of_ble_eq_true rfl⟩) (l_preVm (w_right hP) hKm (m_at11 (k := 0) (Nat.le_of_ble_eq_true rfl) rfl) rfl) rfl rfl hl.1 rfl (lv_room (Nat.le_of_ble_eq_true rfl)) dL_law_317 ⟨Nat.le_of_ble_eq_true rfl, Nat.le_of_ble_eq_true rfl⟩) hP hD hS (fun r2 iv3 ar3 H locs w2 hP hS => ?_)
      try dsimp only at w2
      have hq : r1.toInt = r2.toInt ∧ (iv1 66 2).toInt = (iv3 0 4).toInt := by
        have q1 := w1.2
        have q2 := w2.2.2
        rw [h66] at q1
        clear w1 w2 hLI hri hz
        omega
      have hq2 := hq.2
      refine lv_icmp_eq (tgt := 736) hx hb dL_law_320 (by decide) (fun _ => ?_) (fun c_2 => ?_)
      · exact next iv1 ar1 iv3 ar3 _ _ _ ((⟨w1.1, hq2, w2.1, by rw [w2.2.1]; have h9 := hLI.2.2.2; omega⟩ : LI iv1 iv3 ar3 (i.toInt + 3))) hP hS hl
      · exfalso; have := i_ne c_2; omega
    by_cases z_7 : x0.toInt = 7
    · skip
      refine lv_tableIn (off := 293) (tgt := 325) hx hb dL_law_32 (by rw [z_7]; decide) (by rw [z_7]; decide) (by rw [z_7]; rfl) (by decide) ?_
      refine lv_aload_n hx hb dL_law_325 rfl (lv_at hl 1 rfl) ?_
      refine lp_calli (va_runV (As := []) (rest := []) ⟨hx, hb, hml, hown, hts⟩ (c_X10_readSlots l D cy ad hI _ iv ar  hz) (cwV 0 hts gL_law_X10_readSlots rfl rfl rfl (by decide +kernel) ⟨Nat.le_of_ble_eq_true rfl, Nat.le_of_ble_eq_true rfl⟩) (l_preV hP hD hK hSt hNw hS (g_at10 (Nat.le_of_ble_eq_true rfl) rfl) rfl) rfl rfl hl.1 rfl (lv_room (Nat.le_of_ble_eq_true rfl)) dL_law_326 ⟨Nat.le_of_ble_eq_true rfl, Nat.le_of_ble_eq_true rfl⟩) hP hD hS (fun r1 iv1 ar1 H locs w1 hP hS => ?_)
      try dsimp only at w1
      have hD := hDD iv1 ar1 iv2 ar2
      refine lv_pop hx hb dL_law_329 rfl ?_
      refine lv_aload_n hx hb dL_law_330 rfl (lv_at hl 2 rfl) ?_
      refine lp_callim (va_runV (As := []) (rest := []) ⟨hx, hb, hml, hown, hts⟩ (c_X11_readSlots l D cy ad2 hI2 _ iv2 ar2  hri) (cwV 0 hts gL_law_X11_readSlots rfl rfl rfl (by decide +kernel) ⟨Nat.le_of_ble_eq_true rfl, Nat.le_of_ble_eq_true rfl⟩) (l_preVm (w_right hP) hKm (m_at11 (k := 0) (Nat.le_of_ble_eq_true rfl) rfl) rfl) rfl rfl hl.1 rfl (lv_room (Nat.le_of_ble_eq_true rfl)) dL_law_331 ⟨Nat.le_of_ble_eq_true rfl, Nat.le_of_ble_eq_true rfl⟩) hP hD hS (fun r2 iv3 ar3 H locs w2 hP hS => ?_)
      try dsimp only at w2
      refine lv_pop hx hb dL_law_334 rfl ?_
      refine lv_goto (tgt := 736) hx hb dL_law_335 (by decide) ?_
      exact next iv1 ar1 iv3 ar3 _ _ _ ((⟨w1.1, by rw [w1.2, w2.2.1], w2.1, by rw [w2.2.2]; have h9 := hLI.2.2.2; omega⟩ : LI iv1 iv3 ar3 (i.toInt + 3))) hP hS hl
    by_cases z_8 : x0.toInt = 8
    · skip
      refine lv_tableIn (off := 306) (tgt := 338) hx hb dL_law_32 (by rw [z_8]; decide) (by rw [z_8]; decide) (by rw [z_8]; rfl) (by decide) ?_
      refine lv_aload_n hx hb dL_law_338 rfl (lv_at hl 1 rfl) ?_
      refine lv_aload_n hx hb dL_law_339 rfl (lv_at hl 3 rfl) ?_
      refine lv_iload_n hx hb dL_law_340 rfl (lv_at hl 0 rfl) ?_
      refine lv_iconst (v := 1) hx hb dL_law_341 (by decide) ?_
      refine lv_iadd hx hb dL_law_342 ?_
      refine va_sld hx hb hX hbl hbA hS (i := i + 1) hn1 dL_law_343 ?_
      rw [← ea1]
      refine lv_aload_n hx hb dL_law_344 rfl (lv_at hl 3 rfl) ?_
      refine lv_iload_n hx hb dL_law_345 rfl (lv_at hl 0 rfl) ?_
      refine lv_iconst (v := 2) hx hb dL_law_346 (by decide) ?_
      refine lv_iadd hx hb dL_law_347 ?_
      refine va_sld hx hb hX hbl hbA hS (i := i + 2) hn2 dL_law_348 ?_
      rw [← ea2]
      refine lp_calli (va_runV (As := [.int a1, .int a2]) (rest := []) ⟨hx, hb, hml, hown, hts⟩ (c_X10_flightTime l D cy ad hI _ iv ar a1 a2 hz) (cwV 2 hts gL_law_X10_flightTime rfl rfl rfl (by decide +kernel) ⟨Nat.le_of_ble_eq_true rfl, Nat.le_of_ble_eq_true rfl⟩) (l_preV hP hD hK hSt hNw hS (g_at10 (Nat.le_of_ble_eq_true rfl) rfl) rfl) rfl rfl hl.1 rfl (lv_room (Nat.le_of_ble_eq_true rfl)) dL_law_349 ⟨Nat.le_of_ble_eq_true rfl, Nat.le_of_ble_eq_true rfl⟩) hP hD hS (fun r1 iv1 ar1 H locs w1 hP hS => ?_)
      try dsimp only at w1
      have hD := hDD iv1 ar1 iv2 ar2
      refine lv_pop hx hb dL_law_352 rfl ?_
      refine lv_aload_n hx hb dL_law_353 rfl (lv_at hl 2 rfl) ?_
      refine lv_aload_n hx hb dL_law_354 rfl (lv_at hl 3 rfl) ?_
      refine lv_iload_n hx hb dL_law_355 rfl (lv_at hl 0 rfl) ?_
      refine lv_iconst (v := 1) hx hb dL_law_356 (by decide) ?_
      refine lv_iadd hx hb dL_law_357 ?_
      refine va_sld hx hb hX hbl hbA hS (i := i + 1) hn1 dL_law_358 ?_
      rw [← ea1]
      refine lv_aload_n hx hb dL_law_359 rfl (lv_at hl 3 rfl) ?_
      refine lv_iload_n hx hb dL_law_360 rfl (lv_at hl 0 rfl) ?_
      refine lv_iconst (v := 2) hx hb dL_law_361 (by decide) ?_
      refine lv_iadd hx hb dL_law_362 ?_
      refine va_sld hx hb hX hbl hbA hS (i := i + 2) hn2 dL_law_363 ?_
      rw [← ea2]
      refine lp_callim (va_runV (As := [.int a1, .int a2]) (rest := []) ⟨hx, hb, hml, hown, hts⟩ (c_X11_flightTime l D cy ad2 hI2 _ iv2 ar2 a1 a2 hri) (cwV 2 hts gL_law_X11_flightTime rfl rfl rfl (by decide +kernel) ⟨Nat.le_of_ble_eq_true rfl, Nat.le_of_ble_eq_true rfl⟩) (l_preVm (w_right hP) hKm (m_at11 (k := 0) (Nat.le_of_ble_eq_true rfl) rfl) rfl) rfl rfl hl.1 rfl (lv_room (Nat.le_of_ble_eq_true rfl)) dL_law_364 ⟨Nat.le_of_ble_eq_true rfl, Nat.le_of_ble_eq_true rfl⟩) hP hD hS (fun r2 iv3 ar3 H locs w2 hP hS => ?_)
      try dsimp only at w2
      refine lv_pop hx hb dL_law_367 rfl ?_
      refine lv_goto (tgt := 736) hx hb dL_law_368 (by decide) ?_
      exact next iv1 ar1 iv3 ar3 _ _ _ (hLI.p0 w1 w2) hP hS hl
    by_cases z_9 : x0.toInt = 9
    · skip
      refine lv_tableIn (off := 339) (tgt := 371) hx hb dL_law_32 (by rw [z_9]; decide) (by rw [z_9]; decide) (by rw [z_9]; rfl) (by decide) ?_
      refine lv_aload_n hx hb dL_law_371 rfl (lv_at hl 1 rfl) ?_
      refine lv_aload_n hx hb dL_law_372 rfl (lv_at hl 3 rfl) ?_
      refine lv_iload_n hx hb dL_law_373 rfl (lv_at hl 0 rfl) ?_
      refine lv_iconst (v := 1) hx hb dL_law_374 (by decide) ?_
      refine lv_iadd hx hb dL_law_375 ?_
      refine va_sld hx hb hX hbl hbA hS (i := i + 1) hn1 dL_law_376 ?_
      rw [← ea1]
      refine lp_calli (va_runV (As := [.int a1]) (rest := []) ⟨hx, hb, hml, hown, hts⟩ (c_X10_assigned l D cy ad hI _ iv ar a1 hz) (cwV 1 hts gL_law_X10_assigned rfl rfl rfl (by decide +kernel) ⟨Nat.le_of_ble_eq_true rfl, Nat.le_of_ble_eq_true rfl⟩) (l_preV hP hD hK hSt hNw hS (g_at10 (Nat.le_of_ble_eq_true rfl) rfl) rfl) rfl rfl hl.1 rfl (lv_room (Nat.le_of_ble_eq_true rfl)) dL_law_377 ⟨Nat.le_of_ble_eq_true rfl, Nat.le_of_ble_eq_true rfl⟩) hP hD hS (fun r1 iv1 ar1 H locs w1 hP hS => ?_)
      try dsimp only at w1
      have hD := hDD iv1 ar1 iv2 ar2
      refine lv_pop hx hb dL_law_380 rfl ?_
      refine lv_aload_n hx hb dL_law_381 rfl (lv_at hl 2 rfl) ?_
      refine lv_aload_n hx hb dL_law_382 rfl (lv_at hl 3 rfl) ?_
      refine lv_iload_n hx hb dL_law_383 rfl (lv_at hl 0 rfl) ?_
      refine lv_iconst (v := 1) hx hb dL_law_384 (by decide) ?_
      refine lv_iadd hx hb dL_law_385 ?_
      refine va_sld hx hb hX hbl hbA hS (i := i + 1) hn1 dL_law_386 ?_
      rw [← ea1]
      refine lp_callim (va_runV (As := [.int a1]) (rest := []) ⟨hx, hb, hml, hown, hts⟩ (c_X11_assigned l D cy ad2 hI2 _ iv2 ar2 a1 hri) (cwV 1 hts gL_law_X11_assigned rfl rfl rfl (by decide +kernel) ⟨Nat.le_of_ble_eq_true rfl, Nat.le_of_ble_eq_true rfl⟩) (l_preVm (w_right hP) hKm (m_at11 (k := 0) (Nat.le_of_ble_eq_true rfl) rfl) rfl) rfl rfl hl.1 rfl (lv_room (Nat.le_of_ble_eq_true rfl)) dL_law_387 ⟨Nat.le_of_ble_eq_true rfl, Nat.le_of_ble_eq_true rfl⟩) hP hD hS (fun r2 iv3 ar3 H locs w2 hP hS => ?_)
      try dsimp only at w2
      refine lv_pop hx hb dL_law_390 rfl ?_
      refine lv_goto (tgt := 736) hx hb dL_law_391 (by decide) ?_
      exact next iv1 ar1 iv3 ar3 _ _ _ (hLI.p0 w1 w2) hP hS hl
    by_cases z_10 : x0.toInt = 10
    · skip
      refine lv_tableIn (off := 362) (tgt := 394) hx hb dL_law_32 (by rw [z_10]; decide) (by rw [z_10]; decide) (by rw [z_10]; rfl) (by decide) ?_
      refine lv_aload_n hx hb dL_law_394 rfl (lv_at hl 1 rfl) ?_
      refine lv_aload_n hx hb dL_law_395 rfl (lv_at hl 3 rfl) ?_
      refine lv_iload_n hx hb dL_law_396 rfl (lv_at hl 0 rfl) ?_
      refine lv_iconst (v := 1) hx hb dL_law_397 (by decide) ?_
      refine lv_iadd hx hb dL_law_398 ?_
      refine va_sld hx hb hX hbl hbA hS (i := i + 1) hn1 dL_law_399 ?_
      rw [← ea1]
      refine lp_calli (va_runV (As := [.int a1]) (rest := []) ⟨hx, hb, hml, hown, hts⟩ (c_X10_assignment l D cy ad hI _ iv ar a1 hz) (cwV 1 hts gL_law_X10_assignment rfl rfl rfl (by decide +kernel) ⟨Nat.le_of_ble_eq_true rfl, Nat.le_of_ble_eq_true rfl⟩) (l_preV hP hD hK hSt hNw hS (g_at10 (Nat.le_of_ble_eq_true rfl) rfl) rfl) rfl rfl hl.1 rfl (lv_room (Nat.le_of_ble_eq_true rfl)) dL_law_400 ⟨Nat.le_of_ble_eq_true rfl, Nat.le_of_ble_eq_true rfl⟩) hP hD hS (fun r1 iv1 ar1 H locs w1 hP hS => ?_)
      try dsimp only at w1
      have hD := hDD iv1 ar1 iv2 ar2
      refine lv_pop hx hb dL_law_403 rfl ?_
      refine lv_aload_n hx hb dL_law_404 rfl (lv_at hl 2 rfl) ?_
      refine lv_aload_n hx hb dL_law_405 rfl (lv_at hl 3 rfl) ?_
      refine lv_iload_n hx hb dL_law_406 rfl (lv_at hl 0 rfl) ?_
      refine lv_iconst (v := 1) hx hb dL_law_407 (by decide) ?_
      refine lv_iadd hx hb dL_law_408 ?_
      refine va_sld hx hb hX hbl hbA hS (i := i + 1) hn1 dL_law_409 ?_
      rw [← ea1]
      refine lp_callim (va_runV (As := [.int a1]) (rest := []) ⟨hx, hb, hml, hown, hts⟩ (c_X11_assignment l D cy ad2 hI2 _ iv2 ar2 a1 hri) (cwV 1 hts gL_law_X11_assignment rfl rfl rfl (by decide +kernel) ⟨Nat.le_of_ble_eq_true rfl, Nat.le_of_ble_eq_true rfl⟩) (l_preVm (w_right hP) hKm (m_at11 (k := 0) (Nat.le_of_ble_eq_true rfl) rfl) rfl) rfl rfl hl.1 rfl (lv_room (Nat.le_of_ble_eq_true rfl)) dL_law_410 ⟨Nat.le_of_ble_eq_true rfl, Nat.le_of_ble_eq_true rfl⟩) hP hD hS (fun r2 iv3 ar3 H locs w2 hP hS => ?_)
      try dsimp only at w2
      refine lv_pop hx hb dL_law_413 rfl ?_
      refine lv_goto (tgt := 736) hx hb dL_law_414 (by decide) ?_
      exact next iv1 ar1 iv3 ar3 _ _ _ (hLI.p0 w1 w2) hP hS hl
    by_cases z_11 : x0.toInt = 11
    · skip
      refine lv_tableIn (off := 385) (tgt := 417) hx hb dL_law_32 (by rw [z_11]; decide) (by rw [z_11]; decide) (by rw [z_11]; rfl) (by decide) ?_
      refine lv_aload_n hx hb dL_law_417 rfl (lv_at hl 1 rfl) ?_
      refine lp_calli (va_runV (As := []) (rest := []) ⟨hx, hb, hml, hown, hts⟩ (c_X10_plan l D cy ad hI _ iv ar  hz) (cwV 0 hts gL_law_X10_plan rfl rfl rfl (by decide +kernel) ⟨Nat.le_of_ble_eq_true rfl, Nat.le_of_ble_eq_true rfl⟩) (l_preV hP hD hK hSt hNw hS (g_at10 (Nat.le_of_ble_eq_true rfl) rfl) rfl) rfl rfl hl.1 rfl (lv_room (Nat.le_of_ble_eq_true rfl)) dL_law_418 ⟨Nat.le_of_ble_eq_true rfl, Nat.le_of_ble_eq_true rfl⟩) hP hD hS (fun r1 iv1 ar1 H locs w1 hP hS => ?_)
      try dsimp only at w1
      have hD := hDD iv1 ar1 iv2 ar2
      refine lv_pop hx hb dL_law_421 rfl ?_
      refine lv_aload_n hx hb dL_law_422 rfl (lv_at hl 2 rfl) ?_
      refine lp_callim (va_runV (As := []) (rest := []) ⟨hx, hb, hml, hown, hts⟩ (c_X11_plan l D cy ad2 hI2 _ iv2 ar2  hri) (cwV 0 hts gL_law_X11_plan rfl rfl rfl (by decide +kernel) ⟨Nat.le_of_ble_eq_true rfl, Nat.le_of_ble_eq_true rfl⟩) (l_preVm (w_right hP) hKm (m_at11 (k := 0) (Nat.le_of_ble_eq_true rfl) rfl) rfl) rfl rfl hl.1 rfl (lv_room (Nat.le_of_ble_eq_true rfl)) dL_law_423 ⟨Nat.le_of_ble_eq_true rfl, Nat.le_of_ble_eq_true rfl⟩) hP hD hS (fun r2 iv3 ar3 H locs w2 hP hS => ?_)
      try dsimp only at w2
      refine lv_pop hx hb dL_law_426 rfl ?_
      refine lv_goto (tgt := 736) hx hb dL_law_427 (by decide) ?_
      exact next iv1 ar1 iv3 ar3 _ _ _ (hLI.step w1 ⟨w2.1, w2.2.1, by have h9 := w2.2.2; omega⟩) hP hS hl
    by_cases z_12 : x0.toInt = 12
    · skip
      refine lv_tableIn (off := 398) (tgt := 430) hx hb dL_law_32 (by rw [z_12]; decide) (by rw [z_12]; decide) (by rw [z_12]; rfl) (by decide) ?_
      refine lv_aload_n hx hb dL_law_430 rfl (lv_at hl 1 rfl) ?_
      refine g_callSi (va_runV (As := []) (rest := []) ⟨hx, hb, hml, hown, hts⟩ (c_X10_stuck l D cy ad hI _ iv ar  ) (cwV 0 hts gL_law_X10_stuck rfl rfl rfl (by decide +kernel) ⟨Nat.le_of_ble_eq_true rfl, Nat.le_of_ble_eq_true rfl⟩) (l_preV hP hD hK hSt hNw hS (g_at10 (Nat.le_of_ble_eq_true rfl) rfl) rfl) rfl rfl hl.1 rfl (lv_room (Nat.le_of_ble_eq_true rfl)) dL_law_431 ⟨Nat.le_of_ble_eq_true rfl, Nat.le_of_ble_eq_true rfl⟩) (fun r1 _ => ?_)
      refine lv_pop hx hb dL_law_434 rfl ?_
      refine lv_aload_n hx hb dL_law_435 rfl (lv_at hl 2 rfl) ?_
      refine g_callSi (va_runV (As := []) (rest := []) ⟨hx, hb, hml, hown, hts⟩ (c_X11_stuck l D cy ad2 hI2 _ iv2 ar2  ) (cwV 0 hts gL_law_X11_stuck rfl rfl rfl (by decide +kernel) ⟨Nat.le_of_ble_eq_true rfl, Nat.le_of_ble_eq_true rfl⟩) (l_preVm (w_right hP) hKm (m_at11 (k := 0) (Nat.le_of_ble_eq_true rfl) rfl) rfl) rfl rfl hl.1 rfl (lv_room (Nat.le_of_ble_eq_true rfl)) dL_law_436 ⟨Nat.le_of_ble_eq_true rfl, Nat.le_of_ble_eq_true rfl⟩) (fun r2 _ => ?_)
      refine lv_pop hx hb dL_law_439 rfl ?_
      refine lv_goto (tgt := 736) hx hb dL_law_440 (by decide) ?_
      exact next iv ar iv2 ar2 _ _ _ (hLI.same (KP.rf hz)) hP hS hl
    by_cases z_13 : x0.toInt = 13
    · skip
      refine lv_tableIn (off := 411) (tgt := 443) hx hb dL_law_32 (by rw [z_13]; decide) (by rw [z_13]; decide) (by rw [z_13]; rfl) (by decide) ?_
      refine lv_aload_n hx hb dL_law_443 rfl (lv_at hl 1 rfl) ?_
      refine lv_aload_n hx hb dL_law_444 rfl (lv_at hl 3 rfl) ?_
      refine lv_iload_n hx hb dL_law_445 rfl (lv_at hl 0 rfl) ?_
      refine lv_iconst (v := 1) hx hb dL_law_446 (by decide) ?_
      refine lv_iadd hx hb dL_law_447 ?_
      refine va_sld hx hb hX hbl hbA hS (i := i + 1) hn1 dL_law_448 ?_
      rw [← ea1]
      refine lv_aload_n hx hb dL_law_449 rfl (lv_at hl 3 rfl) ?_
      refine lv_iload_n hx hb dL_law_450 rfl (lv_at hl 0 rfl) ?_
      refine lv_iconst (v := 2) hx hb dL_law_451 (by decide) ?_
      refine lv_iadd hx hb dL_law_452 ?_
      refine va_sld hx hb hX hbl hbA hS (i := i + 2) hn2 dL_law_453 ?_
      rw [← ea2]
      refine g_callSi (va_runV (As := [.int a1, .int a2]) (rest := []) ⟨hx, hb, hml, hown, hts⟩ (c_X10_at l D cy ad hI _ iv ar a1 a2 ) (cwV 2 hts gL_law_X10_at rfl rfl rfl (by decide +kernel) ⟨Nat.le_of_ble_eq_true rfl, Nat.le_of_ble_eq_true rfl⟩) (l_preV hP hD hK hSt hNw hS (g_at10 (Nat.le_of_ble_eq_true rfl) rfl) rfl) rfl rfl hl.1 rfl (lv_room (Nat.le_of_ble_eq_true rfl)) dL_law_454 ⟨Nat.le_of_ble_eq_true rfl, Nat.le_of_ble_eq_true rfl⟩) (fun r1 _ => ?_)
      refine lv_pop hx hb dL_law_457 rfl ?_
      refine lv_aload_n hx hb dL_law_458 rfl (lv_at hl 2 rfl) ?_
      refine lv_aload_n hx hb dL_law_459 rfl (lv_at hl 3 rfl) ?_
      refine lv_iload_n hx hb dL_law_460 rfl (lv_at hl 0 rfl) ?_
      refine lv_iconst (v := 1) hx hb dL_law_461 (by decide) ?_
      refine lv_iadd hx hb dL_law_462 ?_
      refine va_sld hx hb hX hbl hbA hS (i := i + 1) hn1 dL_law_463 ?_
      rw [← ea1]
      refine lv_aload_n hx hb dL_law_464 rfl (lv_at hl 3 rfl) ?_
      refine lv_iload_n hx hb dL_law_465 rfl (lv_at hl 0 rfl) ?_
      refine lv_iconst (v := 2) hx hb dL_law_466 (by decide) ?_
      refine lv_iadd hx hb dL_law_467 ?_
      refine va_sld hx hb hX hbl hbA hS (i := i + 2) hn2 dL_law_468 ?_
      rw [← ea2]
      refine g_callSi (va_runV (As := [.int a1, .int a2]) (rest := []) ⟨hx, hb, hml, hown, hts⟩ (c_X11_at l D cy ad2 hI2 _ iv2 ar2 a1 a2 hri hpr) (cwV 2 hts gL_law_X11_at rfl rfl rfl (by decide +kernel) ⟨Nat.le_of_ble_eq_true rfl, Nat.le_of_ble_eq_true rfl⟩) (l_preVm (w_right hP) hKm (m_at11 (k := 0) (Nat.le_of_ble_eq_true rfl) rfl) rfl) rfl rfl hl.1 rfl (lv_room (Nat.le_of_ble_eq_true rfl)) dL_law_469 ⟨Nat.le_of_ble_eq_true rfl, Nat.le_of_ble_eq_true rfl⟩) (fun r2 _ => ?_)
      refine lv_pop hx hb dL_law_472 rfl ?_
      refine lv_goto (tgt := 736) hx hb dL_law_473 (by decide) ?_
      exact next iv ar iv2 ar2 _ _ _ (hLI.same (KP.rf hz)) hP hS hl
    by_cases z_14 : x0.toInt = 14
    · skip
      refine lv_tableIn (off := 444) (tgt := 476) hx hb dL_law_32 (by rw [z_14]; decide) (by rw [z_14]; decide) (by rw [z_14]; rfl) (by decide) ?_
      refine lv_aload_n hx hb dL_law_476 rfl (lv_at hl 1 rfl) ?_
      refine lv_aload_n hx hb dL_law_477 rfl (lv_at hl 3 rfl) ?_
      refine lv_iload_n hx hb dL_law_478 rfl (lv_at hl 0 rfl) ?_
      refine lv_iconst (v := 1) hx hb dL_law_479 (by decide) ?_
      refine lv_iadd hx hb dL_law_480 ?_
      refine va_sld hx hb hX hbl hbA hS (i := i + 1) hn1 dL_law_481 ?_
      rw [← ea1]
      refine lv_aload_n hx hb dL_law_482 rfl (lv_at hl 3 rfl) ?_
      refine lv_iload_n hx hb dL_law_483 rfl (lv_at hl 0 rfl) ?_
      refine lv_iconst (v := 2) hx hb dL_law_484 (by decide) ?_
      refine lv_iadd hx hb dL_law_485 ?_
      refine va_sld hx hb hX hbl hbA hS (i := i + 2) hn2 dL_law_486 ?_
      rw [← ea2]
      refine g_callSi (va_runV (As := [.int a1, .int a2]) (rest := []) ⟨hx, hb, hml, hown, hts⟩ (c_X10_action l D cy ad hI _ iv ar a1 a2 ) (cwV 2 hts gL_law_X10_action rfl rfl rfl (by decide +kernel) ⟨Nat.le_of_ble_eq_true rfl, Nat.le_of_ble_eq_true rfl⟩) (l_preV hP hD hK hSt hNw hS (g_at10 (Nat.le_of_ble_eq_true rfl) rfl) rfl) rfl rfl hl.1 rfl (lv_room (Nat.le_of_ble_eq_true rfl)) dL_law_487 ⟨Nat.le_of_ble_eq_true rfl, Nat.le_of_ble_eq_true rfl⟩) (fun r1 _ => ?_)
      refine lv_pop hx hb dL_law_490 rfl ?_
      refine lv_aload_n hx hb dL_law_491 rfl (lv_at hl 2 rfl) ?_
      refine lv_aload_n hx hb dL_law_492 rfl (lv_at hl 3 rfl) ?_
      refine lv_iload_n hx hb dL_law_493 rfl (lv_at hl 0 rfl) ?_
      refine lv_iconst (v := 1) hx hb dL_law_494 (by decide) ?_
      refine lv_iadd hx hb dL_law_495 ?_
      refine va_sld hx hb hX hbl hbA hS (i := i + 1) hn1 dL_law_496 ?_
      rw [← ea1]
      refine lv_aload_n hx hb dL_law_497 rfl (lv_at hl 3 rfl) ?_
      refine lv_iload_n hx hb dL_law_498 rfl (lv_at hl 0 rfl) ?_
      refine lv_iconst (v := 2) hx hb dL_law_499 (by decide) ?_
      refine lv_iadd hx hb dL_law_500 ?_
      refine va_sld hx hb hX hbl hbA hS (i := i + 2) hn2 dL_law_501 ?_
      rw [← ea2]
      refine g_callSi (va_runV (As := [.int a1, .int a2]) (rest := []) ⟨hx, hb, hml, hown, hts⟩ (c_X11_action l D cy ad2 hI2 _ iv2 ar2 a1 a2 hri hpr) (cwV 2 hts gL_law_X11_action rfl rfl rfl (by decide +kernel) ⟨Nat.le_of_ble_eq_true rfl, Nat.le_of_ble_eq_true rfl⟩) (l_preVm (w_right hP) hKm (m_at11 (k := 0) (Nat.le_of_ble_eq_true rfl) rfl) rfl) rfl rfl hl.1 rfl (lv_room (Nat.le_of_ble_eq_true rfl)) dL_law_502 ⟨Nat.le_of_ble_eq_true rfl, Nat.le_of_ble_eq_true rfl⟩) (fun r2 _ => ?_)
      refine lv_pop hx hb dL_law_505 rfl ?_
      refine lv_goto (tgt := 736) hx hb dL_law_506 (by decide) ?_
      exact next iv ar iv2 ar2 _ _ _ (hLI.same (KP.rf hz)) hP hS hl
    by_cases z_15 : x0.toInt = 15
    · skip
      refine lv_tableIn (off := 477) (tgt := 509) hx hb dL_law_32 (by rw [z_15]; decide) (by rw [z_15]; decide) (by rw [z_15]; rfl) (by decide) ?_
      refine lv_aload_n hx hb dL_law_509 rfl (lv_at hl 1 rfl) ?_
      refine lv_aload_n hx hb dL_law_510 rfl (lv_at hl 3 rfl) ?_
      refine lv_iload_n hx hb dL_law_511 rfl (lv_at hl 0 rfl) ?_
      refine lv_iconst (v := 1) hx hb dL_law_512 (by decide) ?_
      refine lv_iadd hx hb dL_law_513 ?_
      refine va_sld hx hb hX hbl hbA hS (i := i + 1) hn1 dL_law_514 ?_
      rw [← ea1]
      refine lv_aload_n hx hb dL_law_515 rfl (lv_at hl 3 rfl) ?_
      refine lv_iload_n hx hb dL_law_516 rfl (lv_at hl 0 rfl) ?_
      refine lv_iconst (v := 2) hx hb dL_law_517 (by decide) ?_
      refine lv_iadd hx hb dL_law_518 ?_
      refine va_sld hx hb hX hbl hbA hS (i := i + 2) hn2 dL_law_519 ?_
      rw [← ea2]
      refine lp_calli (va_runV (As := [.int a1, .int a2]) (rest := []) ⟨hx, hb, hml, hown, hts⟩ (c_X10_flight l D cy ad hI _ iv ar a1 a2 hz) (cwV 2 hts gL_law_X10_flight rfl rfl rfl (by decide +kernel) ⟨Nat.le_of_ble_eq_true rfl, Nat.le_of_ble_eq_true rfl⟩) (l_preV hP hD hK hSt hNw hS (g_at10 (Nat.le_of_ble_eq_true rfl) rfl) rfl) rfl rfl hl.1 rfl (lv_room (Nat.le_of_ble_eq_true rfl)) dL_law_520 ⟨Nat.le_of_ble_eq_true rfl, Nat.le_of_ble_eq_true rfl⟩) hP hD hS (fun r1 iv1 ar1 H locs w1 hP hS => ?_)
      try dsimp only at w1
      have hD := hDD iv1 ar1 iv2 ar2
      refine lv_pop hx hb dL_law_523 rfl ?_
      refine lv_aload_n hx hb dL_law_524 rfl (lv_at hl 2 rfl) ?_
      refine lv_aload_n hx hb dL_law_525 rfl (lv_at hl 3 rfl) ?_
      refine lv_iload_n hx hb dL_law_526 rfl (lv_at hl 0 rfl) ?_
      refine lv_iconst (v := 1) hx hb dL_law_527 (by decide) ?_
      refine lv_iadd hx hb dL_law_528 ?_
      refine va_sld hx hb hX hbl hbA hS (i := i + 1) hn1 dL_law_529 ?_
      rw [← ea1]
      refine lv_aload_n hx hb dL_law_530 rfl (lv_at hl 3 rfl) ?_
      refine lv_iload_n hx hb dL_law_531 rfl (lv_at hl 0 rfl) ?_
      refine lv_iconst (v := 2) hx hb dL_law_532 (by decide) ?_
      refine lv_iadd hx hb dL_law_533 ?_
      refine va_sld hx hb hX hbl hbA hS (i := i + 2) hn2 dL_law_534 ?_
      rw [← ea2]
      refine lp_callim (va_runV (As := [.int a1, .int a2]) (rest := []) ⟨hx, hb, hml, hown, hts⟩ (c_X11_flight l D cy ad2 hI2 _ iv2 ar2 a1 a2 hri hpr) (cwV 2 hts gL_law_X11_flight rfl rfl rfl (by decide +kernel) ⟨Nat.le_of_ble_eq_true rfl, Nat.le_of_ble_eq_true rfl⟩) (l_preVm (w_right hP) hKm (m_at11 (k := 0) (Nat.le_of_ble_eq_true rfl) rfl) rfl) rfl rfl hl.1 rfl (lv_room (Nat.le_of_ble_eq_true rfl)) dL_law_535 ⟨Nat.le_of_ble_eq_true rfl, Nat.le_of_ble_eq_true rfl⟩) hP hD hS (fun r2 iv3 ar3 H locs w2 hP hS => ?_)
      try dsimp only at w2
      refine lv_pop hx hb dL_law_538 rfl ?_
      refine lv_goto (tgt := 736) hx hb dL_law_539 (by decide) ?_
      exact next iv1 ar1 iv3 ar3 _ _ _ (hLI.p0 w1 w2) hP hS hl
    by_cases z_16 : x0.toInt = 16
    · skip
      refine lv_tableIn (off := 510) (tgt := 542) hx hb dL_law_32 (by rw [z_16]; decide) (by rw [z_16]; decide) (by rw [z_16]; rfl) (by decide) ?_
      refine lv_aload_n hx hb dL_law_542 rfl (lv_at hl 1 rfl) ?_
      refine lv_aload_n hx hb dL_law_543 rfl (lv_at hl 3 rfl) ?_
      refine lv_iload_n hx hb dL_law_544 rfl (lv_at hl 0 rfl) ?_
      refine lv_iconst (v := 1) hx hb dL_law_545 (by decide) ?_
      refine lv_iadd hx hb dL_law_546 ?_
      refine va_sld hx hb hX hbl hbA hS (i := i + 1) hn1 dL_law_547 ?_
      rw [← ea1]
      refine lv_aload_n hx hb dL_law_548 rfl (lv_at hl 3 rfl) ?_
      refine lv_iload_n hx hb dL_law_549 rfl (lv_at hl 0 rfl) ?_
      refine lv_iconst (v := 2) hx hb dL_law_550 (by decide) ?_
      refine lv_iadd hx hb dL_law_551 ?_
      refine va_sld hx hb hX hbl hbA hS (i := i + 2) hn2 dL_law_552 ?_
      rw [← ea2]
      refine lp_calli (va_runV (As := [.int a1, .int a2]) (rest := []) ⟨hx, hb, hml, hown, hts⟩ (c_X10_explain l D cy ad hI _ iv ar a1 a2 hz) (cwV 2 hts gL_law_X10_explain rfl rfl rfl (by decide +kernel) ⟨Nat.le_of_ble_eq_true rfl, Nat.le_of_ble_eq_true rfl⟩) (l_preV hP hD hK hSt hNw hS (g_at10 (Nat.le_of_ble_eq_true rfl) rfl) rfl) rfl rfl hl.1 rfl (lv_room (Nat.le_of_ble_eq_true rfl)) dL_law_553 ⟨Nat.le_of_ble_eq_true rfl, Nat.le_of_ble_eq_true rfl⟩) hP hD hS (fun r1 iv1 ar1 H locs w1 hP hS => ?_)
      try dsimp only at w1
      have hD := hDD iv1 ar1 iv2 ar2
      refine lv_pop hx hb dL_law_556 rfl ?_
      refine lv_aload_n hx hb dL_law_557 rfl (lv_at hl 2 rfl) ?_
      refine lv_aload_n hx hb dL_law_558 rfl (lv_at hl 3 rfl) ?_
      refine lv_iload_n hx hb dL_law_559 rfl (lv_at hl 0 rfl) ?_
      refine lv_iconst (v := 1) hx hb dL_law_560 (by decide) ?_
      refine lv_iadd hx hb dL_law_561 ?_
      refine va_sld hx hb hX hbl hbA hS (i := i + 1) hn1 dL_law_562 ?_
      rw [← ea1]
      refine lv_aload_n hx hb dL_law_563 rfl (lv_at hl 3 rfl) ?_
      refine lv_iload_n hx hb dL_law_564 rfl (lv_at hl 0 rfl) ?_
      refine lv_iconst (v := 2) hx hb dL_law_565 (by decide) ?_
      refine lv_iadd hx hb dL_law_566 ?_
      refine va_sld hx hb hX hbl hbA hS (i := i + 2) hn2 dL_law_567 ?_
      rw [← ea2]
      refine lp_callim (va_runV (As := [.int a1, .int a2]) (rest := []) ⟨hx, hb, hml, hown, hts⟩ (c_X11_explain l D cy ad2 hI2 _ iv2 ar2 a1 a2 hri hpr) (cwV 2 hts gL_law_X11_explain rfl rfl rfl (by decide +kernel) ⟨Nat.le_of_ble_eq_true rfl, Nat.le_of_ble_eq_true rfl⟩) (l_preVm (w_right hP) hKm (m_at11 (k := 0) (Nat.le_of_ble_eq_true rfl) rfl) rfl) rfl rfl hl.1 rfl (lv_room (Nat.le_of_ble_eq_true rfl)) dL_law_568 ⟨Nat.le_of_ble_eq_true rfl, Nat.le_of_ble_eq_true rfl⟩) hP hD hS (fun r2 iv3 ar3 H locs w2 hP hS => ?_)
      try dsimp only at w2
      refine lv_pop hx hb dL_law_571 rfl ?_
      refine lv_goto (tgt := 736) hx hb dL_law_572 (by decide) ?_
      exact next iv1 ar1 iv3 ar3 _ _ _ (hLI.p0 w1 w2) hP hS hl
    by_cases z_17 : x0.toInt = 17
    · skip
      refine lv_tableIn (off := 543) (tgt := 575) hx hb dL_law_32 (by rw [z_17]; decide) (by rw [z_17]; decide) (by rw [z_17]; rfl) (by decide) ?_
      refine lv_aload_n hx hb dL_law_575 rfl (lv_at hl 1 rfl) ?_
      refine lp_calli (va_runV (As := []) (rest := []) ⟨hx, hb, hml, hown, hts⟩ (c_X10_conflictsWithout l D cy ad hI _ iv ar  hz) (cwV 0 hts gL_law_X10_conflictsWithout rfl rfl rfl (by decide +kernel) ⟨Nat.le_of_ble_eq_true rfl, Nat.le_of_ble_eq_true rfl⟩) (l_preV hP hD hK hSt hNw hS (g_at10 (Nat.le_of_ble_eq_true rfl) rfl) rfl) rfl rfl hl.1 rfl (lv_room (Nat.le_of_ble_eq_true rfl)) dL_law_576 ⟨Nat.le_of_ble_eq_true rfl, Nat.le_of_ble_eq_true rfl⟩) hP hD hS (fun r1 iv1 ar1 H locs w1 hP hS => ?_)
      try dsimp only at w1
      have hD := hDD iv1 ar1 iv2 ar2
      refine lv_pop hx hb dL_law_579 rfl ?_
      refine lv_aload_n hx hb dL_law_580 rfl (lv_at hl 2 rfl) ?_
      refine lp_callim (va_runV (As := []) (rest := []) ⟨hx, hb, hml, hown, hts⟩ (c_X11_conflictsWithout l D cy ad2 hI2 _ iv2 ar2  hri) (cwV 0 hts gL_law_X11_conflictsWithout rfl rfl rfl (by decide +kernel) ⟨Nat.le_of_ble_eq_true rfl, Nat.le_of_ble_eq_true rfl⟩) (l_preVm (w_right hP) hKm (m_at11 (k := 0) (Nat.le_of_ble_eq_true rfl) rfl) rfl) rfl rfl hl.1 rfl (lv_room (Nat.le_of_ble_eq_true rfl)) dL_law_581 ⟨Nat.le_of_ble_eq_true rfl, Nat.le_of_ble_eq_true rfl⟩) hP hD hS (fun r2 iv3 ar3 H locs w2 hP hS => ?_)
      try dsimp only at w2
      refine lv_pop hx hb dL_law_584 rfl ?_
      refine lv_goto (tgt := 736) hx hb dL_law_585 (by decide) ?_
      exact next iv1 ar1 iv3 ar3 _ _ _ (hLI.p0 w1 w2) hP hS hl
    by_cases z_18 : x0.toInt = 18
    · skip
      refine lv_tableIn (off := 556) (tgt := 588) hx hb dL_law_32 (by rw [z_18]; decide) (by rw [z_18]; decide) (by rw [z_18]; rfl) (by decide) ?_
      refine lv_aload_n hx hb dL_law_588 rfl (lv_at hl 1 rfl) ?_
      refine lv_aload_n hx hb dL_law_589 rfl (lv_at hl 3 rfl) ?_
      refine lv_iload_n hx hb dL_law_590 rfl (lv_at hl 0 rfl) ?_
      refine lv_iconst (v := 1) hx hb dL_law_591 (by decide) ?_
      refine lv_iadd hx hb dL_law_592 ?_
      refine va_sld hx hb hX hbl hbA hS (i := i + 1) hn1 dL_law_593 ?_
      rw [← ea1]
      refine lp_calli (va_runV (As := [.int a1]) (rest := []) ⟨hx, hb, hml, hown, hts⟩ (c_X10_fly l D cy ad hI _ iv ar a1 hz) (cwV 1 hts gL_law_X10_fly rfl rfl rfl (by decide +kernel) ⟨Nat.le_of_ble_eq_true rfl, Nat.le_of_ble_eq_true rfl⟩) (l_preV hP hD hK hSt hNw hS (g_at10 (Nat.le_of_ble_eq_true rfl) rfl) rfl) rfl rfl hl.1 rfl (lv_room (Nat.le_of_ble_eq_true rfl)) dL_law_594 ⟨Nat.le_of_ble_eq_true rfl, Nat.le_of_ble_eq_true rfl⟩) hP hD hS (fun r1 iv1 ar1 H locs w1 hP hS => ?_)
      try dsimp only at w1
      have hD := hDD iv1 ar1 iv2 ar2
      refine lv_pop hx hb dL_law_597 rfl ?_
      refine lv_aload_n hx hb dL_law_598 rfl (lv_at hl 2 rfl) ?_
      refine lv_aload_n hx hb dL_law_599 rfl (lv_at hl 3 rfl) ?_
      refine lv_iload_n hx hb dL_law_600 rfl (lv_at hl 0 rfl) ?_
      refine lv_iconst (v := 1) hx hb dL_law_601 (by decide) ?_
      refine lv_iadd hx hb dL_law_602 ?_
      refine va_sld hx hb hX hbl hbA hS (i := i + 1) hn1 dL_law_603 ?_
      rw [← ea1]
      refine lp_callim (va_runV (As := [.int a1]) (rest := []) ⟨hx, hb, hml, hown, hts⟩ (c_X11_fly l D cy ad2 hI2 _ iv2 ar2 a1 hri hpr) (cwV 1 hts gL_law_X11_fly rfl rfl rfl (by decide +kernel) ⟨Nat.le_of_ble_eq_true rfl, Nat.le_of_ble_eq_true rfl⟩) (l_preVm (w_right hP) hKm (m_at11 (k := 0) (Nat.le_of_ble_eq_true rfl) rfl) rfl) rfl rfl hl.1 rfl (lv_room (Nat.le_of_ble_eq_true rfl)) dL_law_604 ⟨Nat.le_of_ble_eq_true rfl, Nat.le_of_ble_eq_true rfl⟩) hP hD hS (fun r2 iv3 ar3 H locs w2 hP hS => ?_)
      try dsimp only at w2
      refine lv_pop hx hb dL_law_607 rfl ?_
      refine lv_goto (tgt := 736) hx hb dL_law_608 (by decide) ?_
      exact next iv1 ar1 iv3 ar3 _ _ _ (hLI.step w1 w2) hP hS hl
    by_cases z_19 : x0.toInt = 19
    · skip
      refine lv_tableIn (off := 579) (tgt := 611) hx hb dL_law_32 (by rw [z_19]; decide) (by rw [z_19]; decide) (by rw [z_19]; rfl) (by decide) ?_
      refine lv_aload_n hx hb dL_law_611 rfl (lv_at hl 1 rfl) ?_
      refine lv_aload_n hx hb dL_law_612 rfl (lv_at hl 3 rfl) ?_
      refine lv_iload_n hx hb dL_law_613 rfl (lv_at hl 0 rfl) ?_
      refine lv_iconst (v := 1) hx hb dL_law_614 (by decide) ?_
      refine lv_iadd hx hb dL_law_615 ?_
      refine va_sld hx hb hX hbl hbA hS (i := i + 1) hn1 dL_law_616 ?_
      rw [← ea1]
      refine lv_aload_n hx hb dL_law_617 rfl (lv_at hl 3 rfl) ?_
      refine lv_iload_n hx hb dL_law_618 rfl (lv_at hl 0 rfl) ?_
      refine lv_iconst (v := 2) hx hb dL_law_619 (by decide) ?_
      refine lv_iadd hx hb dL_law_620 ?_
      refine va_sld hx hb hX hbl hbA hS (i := i + 2) hn2 dL_law_621 ?_
      rw [← ea2]
      refine lp_calli (va_runV (As := [.int a1, .int a2]) (rest := []) ⟨hx, hb, hml, hown, hts⟩ (c_X10_greatestWith l D cy ad hI _ iv ar a1 a2 hz) (cwV 2 hts gL_law_X10_greatestWith rfl rfl rfl (by decide +kernel) ⟨Nat.le_of_ble_eq_true rfl, Nat.le_of_ble_eq_true rfl⟩) (l_preV hP hD hK hSt hNw hS (g_at10 (Nat.le_of_ble_eq_true rfl) rfl) rfl) rfl rfl hl.1 rfl (lv_room (Nat.le_of_ble_eq_true rfl)) dL_law_622 ⟨Nat.le_of_ble_eq_true rfl, Nat.le_of_ble_eq_true rfl⟩) hP hD hS (fun r1 iv1 ar1 H locs w1 hP hS => ?_)
      try dsimp only at w1
      have hD := hDD iv1 ar1 iv2 ar2
      refine lv_pop hx hb dL_law_625 rfl ?_
      refine lv_aload_n hx hb dL_law_626 rfl (lv_at hl 2 rfl) ?_
      refine lv_aload_n hx hb dL_law_627 rfl (lv_at hl 3 rfl) ?_
      refine lv_iload_n hx hb dL_law_628 rfl (lv_at hl 0 rfl) ?_
      refine lv_iconst (v := 1) hx hb dL_law_629 (by decide) ?_
      refine lv_iadd hx hb dL_law_630 ?_
      refine va_sld hx hb hX hbl hbA hS (i := i + 1) hn1 dL_law_631 ?_
      rw [← ea1]
      refine lv_aload_n hx hb dL_law_632 rfl (lv_at hl 3 rfl) ?_
      refine lv_iload_n hx hb dL_law_633 rfl (lv_at hl 0 rfl) ?_
      refine lv_iconst (v := 2) hx hb dL_law_634 (by decide) ?_
      refine lv_iadd hx hb dL_law_635 ?_
      refine va_sld hx hb hX hbl hbA hS (i := i + 2) hn2 dL_law_636 ?_
      rw [← ea2]
      refine lp_callim (va_runV (As := [.int a1, .int a2]) (rest := []) ⟨hx, hb, hml, hown, hts⟩ (c_X11_greatestWith l D cy ad2 hI2 _ iv2 ar2 a1 a2 hri) (cwV 2 hts gL_law_X11_greatestWith rfl rfl rfl (by decide +kernel) ⟨Nat.le_of_ble_eq_true rfl, Nat.le_of_ble_eq_true rfl⟩) (l_preVm (w_right hP) hKm (m_at11 (k := 0) (Nat.le_of_ble_eq_true rfl) rfl) rfl) rfl rfl hl.1 rfl (lv_room (Nat.le_of_ble_eq_true rfl)) dL_law_637 ⟨Nat.le_of_ble_eq_true rfl, Nat.le_of_ble_eq_true rfl⟩) hP hD hS (fun r2 iv3 ar3 H locs w2 hP hS => ?_)
      try dsimp only at w2
      refine lv_pop hx hb dL_law_640 rfl ?_
      refine lv_goto (tgt := 736) hx hb dL_law_641 (by decide) ?_
      exact next iv1 ar1 iv3 ar3 _ _ _ (hLI.p0 w1 w2) hP hS hl
    by_cases z_20 : x0.toInt = 20
    · skip
      refine lv_tableIn (off := 612) (tgt := 644) hx hb dL_law_32 (by rw [z_20]; decide) (by rw [z_20]; decide) (by rw [z_20]; rfl) (by decide) ?_
      refine lv_aload_n hx hb dL_law_644 rfl (lv_at hl 1 rfl) ?_
      refine lv_aload_n hx hb dL_law_645 rfl (lv_at hl 3 rfl) ?_
      refine lv_iload_n hx hb dL_law_646 rfl (lv_at hl 0 rfl) ?_
      refine lv_iconst (v := 1) hx hb dL_law_647 (by decide) ?_
      refine lv_iadd hx hb dL_law_648 ?_
      refine va_sld hx hb hX hbl hbA hS (i := i + 1) hn1 dL_law_649 ?_
      rw [← ea1]
      refine lv_aload_n hx hb dL_law_650 rfl (lv_at hl 3 rfl) ?_
      refine lv_iload_n hx hb dL_law_651 rfl (lv_at hl 0 rfl) ?_
      refine lv_iconst (v := 2) hx hb dL_law_652 (by decide) ?_
      refine lv_iadd hx hb dL_law_653 ?_
      refine va_sld hx hb hX hbl hbA hS (i := i + 2) hn2 dL_law_654 ?_
      rw [← ea2]
      refine g_callSi (va_runV (As := [.int a1, .int a2]) (rest := []) ⟨hx, hb, hml, hown, hts⟩ (c_X10_cellOf l D cy ad hI _ iv ar a1 a2 ) (cwV 2 hts gL_law_X10_cellOf rfl rfl rfl (by decide +kernel) ⟨Nat.le_of_ble_eq_true rfl, Nat.le_of_ble_eq_true rfl⟩) (l_preV hP hD hK hSt hNw hS (g_at10 (Nat.le_of_ble_eq_true rfl) rfl) rfl) rfl rfl hl.1 rfl (lv_room (Nat.le_of_ble_eq_true rfl)) dL_law_655 ⟨Nat.le_of_ble_eq_true rfl, Nat.le_of_ble_eq_true rfl⟩) (fun r1 _ => ?_)
      refine lv_pop hx hb dL_law_658 rfl ?_
      refine lv_aload_n hx hb dL_law_659 rfl (lv_at hl 2 rfl) ?_
      refine lv_aload_n hx hb dL_law_660 rfl (lv_at hl 3 rfl) ?_
      refine lv_iload_n hx hb dL_law_661 rfl (lv_at hl 0 rfl) ?_
      refine lv_iconst (v := 1) hx hb dL_law_662 (by decide) ?_
      refine lv_iadd hx hb dL_law_663 ?_
      refine va_sld hx hb hX hbl hbA hS (i := i + 1) hn1 dL_law_664 ?_
      rw [← ea1]
      refine lv_aload_n hx hb dL_law_665 rfl (lv_at hl 3 rfl) ?_
      refine lv_iload_n hx hb dL_law_666 rfl (lv_at hl 0 rfl) ?_
      refine lv_iconst (v := 2) hx hb dL_law_667 (by decide) ?_
      refine lv_iadd hx hb dL_law_668 ?_
      refine va_sld hx hb hX hbl hbA hS (i := i + 2) hn2 dL_law_669 ?_
      rw [← ea2]
      refine g_callSi (va_runV (As := [.int a1, .int a2]) (rest := []) ⟨hx, hb, hml, hown, hts⟩ (c_X11_cellOf l D cy ad2 hI2 _ iv2 ar2 a1 a2 hri) (cwV 2 hts gL_law_X11_cellOf rfl rfl rfl (by decide +kernel) ⟨Nat.le_of_ble_eq_true rfl, Nat.le_of_ble_eq_true rfl⟩) (l_preVm (w_right hP) hKm (m_at11 (k := 0) (Nat.le_of_ble_eq_true rfl) rfl) rfl) rfl rfl hl.1 rfl (lv_room (Nat.le_of_ble_eq_true rfl)) dL_law_670 ⟨Nat.le_of_ble_eq_true rfl, Nat.le_of_ble_eq_true rfl⟩) (fun r2 _ => ?_)
      refine lv_pop hx hb dL_law_673 rfl ?_
      refine lv_goto (tgt := 736) hx hb dL_law_674 (by decide) ?_
      exact next iv ar iv2 ar2 _ _ _ (hLI.same (KP.rf hz)) hP hS hl
    by_cases z_21 : x0.toInt = 21
    · skip
      refine lv_tableIn (off := 645) (tgt := 677) hx hb dL_law_32 (by rw [z_21]; decide) (by rw [z_21]; decide) (by rw [z_21]; rfl) (by decide) ?_
      refine lv_aload_n hx hb dL_law_677 rfl (lv_at hl 1 rfl) ?_
      refine lv_aload_n hx hb dL_law_678 rfl (lv_at hl 3 rfl) ?_
      refine lv_iload_n hx hb dL_law_679 rfl (lv_at hl 0 rfl) ?_
      refine lv_iconst (v := 1) hx hb dL_law_680 (by decide) ?_
      refine lv_iadd hx hb dL_law_681 ?_
      refine va_sld hx hb hX hbl hbA hS (i := i + 1) hn1 dL_law_682 ?_
      rw [← ea1]
      refine g_callSi (va_runV (As := [.int a1]) (rest := []) ⟨hx, hb, hml, hown, hts⟩ (c_X10_look l D cy ad hI _ iv ar a1 ) (cwV 1 hts gL_law_X10_look rfl rfl rfl (by decide +kernel) ⟨Nat.le_of_ble_eq_true rfl, Nat.le_of_ble_eq_true rfl⟩) (l_preV hP hD hK hSt hNw hS (g_at10 (Nat.le_of_ble_eq_true rfl) rfl) rfl) rfl rfl hl.1 rfl (lv_room (Nat.le_of_ble_eq_true rfl)) dL_law_683 ⟨Nat.le_of_ble_eq_true rfl, Nat.le_of_ble_eq_true rfl⟩) (fun r1 _ => ?_)
      refine lv_pop hx hb dL_law_686 rfl ?_
      refine lv_aload_n hx hb dL_law_687 rfl (lv_at hl 2 rfl) ?_
      refine lv_aload_n hx hb dL_law_688 rfl (lv_at hl 3 rfl) ?_
      refine lv_iload_n hx hb dL_law_689 rfl (lv_at hl 0 rfl) ?_
      refine lv_iconst (v := 1) hx hb dL_law_690 (by decide) ?_
      refine lv_iadd hx hb dL_law_691 ?_
      refine va_sld hx hb hX hbl hbA hS (i := i + 1) hn1 dL_law_692 ?_
      rw [← ea1]
      refine g_callSi (va_runV (As := [.int a1]) (rest := []) ⟨hx, hb, hml, hown, hts⟩ (c_X11_look l D cy ad2 hI2 _ iv2 ar2 a1 hri) (cwV 1 hts gL_law_X11_look rfl rfl rfl (by decide +kernel) ⟨Nat.le_of_ble_eq_true rfl, Nat.le_of_ble_eq_true rfl⟩) (l_preVm (w_right hP) hKm (m_at11 (k := 0) (Nat.le_of_ble_eq_true rfl) rfl) rfl) rfl rfl hl.1 rfl (lv_room (Nat.le_of_ble_eq_true rfl)) dL_law_693 ⟨Nat.le_of_ble_eq_true rfl, Nat.le_of_ble_eq_true rfl⟩) (fun r2 _ => ?_)
      refine lv_pop hx hb dL_law_696 rfl ?_
      refine lv_goto (tgt := 736) hx hb dL_law_697 (by decide) ?_
      exact next iv ar iv2 ar2 _ _ _ (hLI.same (KP.rf hz)) hP hS hl
    by_cases z_22 : x0.toInt = 22
    · skip
      refine lv_tableIn (off := 668) (tgt := 700) hx hb dL_law_32 (by rw [z_22]; decide) (by rw [z_22]; decide) (by rw [z_22]; rfl) (by decide) ?_
      refine lv_aload_n hx hb dL_law_700 rfl (lv_at hl 1 rfl) ?_
      refine lv_aload_n hx hb dL_law_701 rfl (lv_at hl 3 rfl) ?_
      refine lv_iload_n hx hb dL_law_702 rfl (lv_at hl 0 rfl) ?_
      refine lv_iconst (v := 1) hx hb dL_law_703 (by decide) ?_
      refine lv_iadd hx hb dL_law_704 ?_
      refine va_sld hx hb hX hbl hbA hS (i := i + 1) hn1 dL_law_705 ?_
      rw [← ea1]
      refine g_callSi (va_runV (As := [.int a1]) (rest := []) ⟨hx, hb, hml, hown, hts⟩ (c_X10_count l D cy ad hI _ iv ar a1 ) (cwV 1 hts gL_law_X10_count rfl rfl rfl (by decide +kernel) ⟨Nat.le_of_ble_eq_true rfl, Nat.le_of_ble_eq_true rfl⟩) (l_preV hP hD hK hSt hNw hS (g_at10 (Nat.le_of_ble_eq_true rfl) rfl) rfl) rfl rfl hl.1 rfl (lv_room (Nat.le_of_ble_eq_true rfl)) dL_law_706 ⟨Nat.le_of_ble_eq_true rfl, Nat.le_of_ble_eq_true rfl⟩) (fun r1 _ => ?_)
      refine lv_pop hx hb dL_law_709 rfl ?_
      refine lv_aload_n hx hb dL_law_710 rfl (lv_at hl 2 rfl) ?_
      refine lv_aload_n hx hb dL_law_711 rfl (lv_at hl 3 rfl) ?_
      refine lv_iload_n hx hb dL_law_712 rfl (lv_at hl 0 rfl) ?_
      refine lv_iconst (v := 1) hx hb dL_law_713 (by decide) ?_
      refine lv_iadd hx hb dL_law_714 ?_
      refine va_sld hx hb hX hbl hbA hS (i := i + 1) hn1 dL_law_715 ?_
      rw [← ea1]
      refine g_callSi (va_runV (As := [.int a1]) (rest := []) ⟨hx, hb, hml, hown, hts⟩ (c_X11_count l D cy ad2 hI2 _ iv2 ar2 a1 hri) (cwV 1 hts gL_law_X11_count rfl rfl rfl (by decide +kernel) ⟨Nat.le_of_ble_eq_true rfl, Nat.le_of_ble_eq_true rfl⟩) (l_preVm (w_right hP) hKm (m_at11 (k := 0) (Nat.le_of_ble_eq_true rfl) rfl) rfl) rfl rfl hl.1 rfl (lv_room (Nat.le_of_ble_eq_true rfl)) dL_law_716 ⟨Nat.le_of_ble_eq_true rfl, Nat.le_of_ble_eq_true rfl⟩) (fun r2 _ => ?_)
      refine lv_pop hx hb dL_law_719 rfl ?_
      refine lv_goto (tgt := 736) hx hb dL_law_720 (by decide) ?_
      exact next iv ar iv2 ar2 _ _ _ (hLI.same (KP.rf hz)) hP hS hl
    by_cases z_23 : x0.toInt = 23
    · skip
      refine lv_tableIn (off := 691) (tgt := 723) hx hb dL_law_32 (by rw [z_23]; decide) (by rw [z_23]; decide) (by rw [z_23]; rfl) (by decide) ?_
      refine lv_aload_n hx hb dL_law_723 rfl (lv_at hl 1 rfl) ?_
      refine lp_calli (va_runV (As := []) (rest := []) ⟨hx, hb, hml, hown, hts⟩ (c_X10_undo l D cy ad hI _ iv ar  hz) (cwV 0 hts gL_law_X10_undo rfl rfl rfl (by decide +kernel) ⟨Nat.le_of_ble_eq_true rfl, Nat.le_of_ble_eq_true rfl⟩) (l_preV hP hD hK hSt hNw hS (g_at10 (Nat.le_of_ble_eq_true rfl) rfl) rfl) rfl rfl hl.1 rfl (lv_room (Nat.le_of_ble_eq_true rfl)) dL_law_724 ⟨Nat.le_of_ble_eq_true rfl, Nat.le_of_ble_eq_true rfl⟩) hP hD hS (fun r1 iv1 ar1 H locs w1 hP hS => ?_)
      try dsimp only at w1
      have hD := hDD iv1 ar1 iv2 ar2
      refine lv_pop hx hb dL_law_727 rfl ?_
      refine lv_aload_n hx hb dL_law_728 rfl (lv_at hl 2 rfl) ?_
      refine lp_callim (va_runV (As := []) (rest := []) ⟨hx, hb, hml, hown, hts⟩ (c_X11_undo l D cy ad2 hI2 _ iv2 ar2  hri) (cwV 0 hts gL_law_X11_undo rfl rfl rfl (by decide +kernel) ⟨Nat.le_of_ble_eq_true rfl, Nat.le_of_ble_eq_true rfl⟩) (l_preVm (w_right hP) hKm (m_at11 (k := 0) (Nat.le_of_ble_eq_true rfl) rfl) rfl) rfl rfl hl.1 rfl (lv_room (Nat.le_of_ble_eq_true rfl)) dL_law_729 ⟨Nat.le_of_ble_eq_true rfl, Nat.le_of_ble_eq_true rfl⟩) hP hD hS (fun r2 iv3 ar3 H locs w2 hP hS => ?_)
      try dsimp only at w2
      refine lv_pop hx hb dL_law_732 rfl ?_
      refine lv_goto (tgt := 736) hx hb dL_law_733 (by decide) ?_
      exact next iv1 ar1 iv3 ar3 _ _ _ (hLI.p0 w1 w2) hP hS hl
    refine lv_tableOut (tgt := 736) hx hb dL_law_32 (by omega) (by decide) ?_
    exact next iv ar iv2 ar2 _ _ _ (hLI.same (KP.rf hz)) hP hS hl
