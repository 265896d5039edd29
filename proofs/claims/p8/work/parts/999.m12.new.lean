/-! Constructors: worlds that grow. -/
def gCy (cy : Nat → ClassId) (U : State) : Prop := (∀ c, U.vm.findClass ("[" ++ FieldType.int.toString) = some c → c = cy 0) ∧ (∀ c, U.vm.findClass ("[" ++ FieldType.boolean.toString) = some c → c = cy 1) ∧ (∀ c, U.vm.findClass ("[" ++ (FieldType.object "FormationPlanner$Flight").toString) = some c → c = cy 2) ∧ (∀ c, U.vm.findClass ("[" ++ (FieldType.object "FormationPlanner$Scene").toString) = some c → c = cy 3) ∧ (∀ c, U.vm.findClass ("[" ++ (FieldType.object "FormationPlanner$TimesTo").toString) = some c → c = cy 4)
theorem gCy.moved {cy : Nat → ClassId} {u U : State} (hvm : u.vm.Alike U.vm) (h : gCy cy u) : gCy cy U := by
  refine ⟨fun c hc => h.1 c ?_, fun c hc => h.2.1 c ?_, fun c hc => h.2.2.1 c ?_, fun c hc => h.2.2.2.1 c ?_, fun c hc => h.2.2.2.2 c ?_⟩ <;> rw [← hvm.findClass] <;> exact hc
def gAO (U : State) : Prop := va_AO "FormationPlanner$Flight" U ∧ va_AO "FormationPlanner$Scene" U ∧ va_AO "FormationPlanner$TimesTo" U
theorem gAO.moved {u U : State} (hvm : u.vm.Alike U.vm) (h : gAO u) : gAO U := ⟨h.1.moved hvm, h.2.1.moved hvm, h.2.2.moved hvm⟩
theorem cy_last {D : va_G} {cl : List vw_C} {tys : List (ClassId × FieldType)} {U : State} {cA : ClassId} {ty : FieldType} (hK : va_K D cl (tys ++ [(cA, ty)]) U) : va_RA U cA ty := (hK.2 tys.length (cA, ty) (by simp)).2
theorem cy_i {D : va_G} {cl : List vw_C} {tys : List (ClassId × FieldType)} {U : State} {cA : ClassId} {cy : Nat → ClassId} (h : gCy cy U) (hK : va_K D cl (tys ++ [(cA, .int)]) U) : cA = cy 0 := h.1 _ (cy_last hK)
theorem cy_z {D : va_G} {cl : List vw_C} {tys : List (ClassId × FieldType)} {U : State} {cA : ClassId} {cy : Nat → ClassId} (h : gCy cy U) (hK : va_K D cl (tys ++ [(cA, .boolean)]) U) : cA = cy 1 := h.2.1 _ (cy_last hK)
theorem cy_o {D : va_G} {cl : List vw_C} {tys : List (ClassId × FieldType)} {U : State} {cA : ClassId} {C : String} (hK : va_K D cl (tys ++ [(cA, .object C)]) U) : U.vm.findClass ("[" ++ (FieldType.object C).toString) = some cA := by
  obtain ⟨_, _, _, _, _, h⟩ := cy_last hK
  exact h
def nPre (D : va_G) (cy : Nat → ClassId) (w : va_W) (sz : Nat) (U : State) : Prop := U.heap.size = sz ∧ va_P D vwCl w U.heap ∧ va_K D vwCl [] U ∧ va_D (fun _ => True) w ∧ gCy cy U ∧ gAO U ∧ gNw U ∧ gSt (va_A w sz) U U.heap
def nPost {S : Type} (D : va_G) (tc : List (ClassId × FieldType)) (A : Nat → Prop) (Wd : S → va_W) (u : S) (t : State) : Prop := va_P D vwCl (Wd u) t.heap ∧ va_K D vwCl tc t ∧ va_D A (Wd u)
theorem nPre.blind {D : va_G} {cy : Nat → ClassId} {w : va_W} {sz : Nat} {av : List Value} : FrameBlind (va_Pc av (nPre D cy w sz)) := fun a U g mk q => by
  obtain ⟨q0, q1, q2, q3, q4, q5, q6, q7, q8⟩ := q
  exact ⟨q0, q1, q2, va_K.moved (u := U) (U := U.calling g mk a) (Vm.Alike.refl U.vm) q3, q4, gCy.moved (u := U) (U := U.calling g mk a) (Vm.Alike.refl U.vm) q5, gAO.moved (u := U) (U := U.calling g mk a) (Vm.Alike.refl U.vm) q6, gNw.same (s := U) (U := U.calling g mk a) rfl q7, gSt.moved (u := U) (U := U.calling g mk a) (Vm.Alike.refl U.vm) q8⟩
section NC
variable {p : Program} {l : Launch} {e : Env} {R : Room} {s : State} {m : MethodId} {args : Array Value} {below : List Frame} {meth : Method} {c : Code} {H : Heap} {locs : List Loc} {cells slots mc ms : Nat} {Q : State → Prop} {D : va_G} {cy : Nat → ClassId} {pc : Nat} {ls : Array Slot} {rest st0 : List Value} {a : Array Value} {A : Nat → Prop} {ws wc wr : va_W} {tys tc : List (ClassId × FieldType)} {S : Type} {post : S → Prop} {Wd : S → va_W}
theorem n_pre {As : List Value} (hP : va_P D vwCl ws H) (hD : va_D A ws) (hK : va_K D vwCl tys s) (hCy : gCy cy s) (hAO : gAO s) (hNw : gNw s) (hSt : gSt A s s.heap) (hS : va_S A s.heap H locs) (hA : ∀ q, s.heap.size ≤ q → A q) (isC : List Nat) (hC : isC.map (fun i => ws[i]?) = wc.map some) (hn : va_nd isC = true) (hf : isC.filterMap (fun i => ws[i]?) = wc) : PreS s H (va_Pc As (nPre D cy wc H.size)) As :=
  ⟨nPre.blind, fun U hU hW => ⟨rfl, by rw [hU], by rw [hU]; exact hP.sub isC hf, (hK.sub (tys' := []) [] rfl).moved hW.alike, (hD.sub isC hn hC).weaken (fun _ _ _ _ => trivial), hCy.moved hW.alike, hAO.moved hW.alike, hNw.warm hW, by rw [hU]; exact (hSt.pass hS.2.1 (va_free hD hS hA isC hC)).moved hW.alike⟩⟩
theorem n_callv (hr : va_Run p l e R s m args below meth c H locs cells slots mc ms (F0 m pc ls st0) rest (va_Qv post (nPost D tc (va_A wc H.size) Wd) (va_A wc H.size) a) (va_A wc H.size)) (hP : va_P D vwCl ws H) (hD : va_D A ws) (hK : va_K D vwCl tys s) (hS : va_S A s.heap H locs) (hA : ∀ q, s.heap.size ≤ q → A q) (isC isR : List Nat) (hC : isC.map (fun i => ws[i]?) = wc.map some) (hR : isR.map (fun i => ws[i]?) = wr.map some) (hn : va_nd isR = true) (hdis : ∀ i ∈ isR, i ∉ isC)
    (kk : ∀ (u : S) (H1 : Heap) (locs1 : List Loc), post u → va_P D vwCl (wr ++ Wd u) H1 → va_D A (wr ++ Wd u) → va_K D vwCl (tys ++ tc) s → va_S A s.heap H1 locs1 → W p l e R s m args below meth c H1 locs1 (cells + mc) (slots + ms) Q (F0 m (pc + 3) ls rest)) : W p l e R s m args below meth c H locs cells slots Q (F0 m pc ls st0) := by
  have hF := va_free hD hS hA isC hC
  refine va_callv hr hS (fun q _ h => hF q h) hF (fun u t H1 locs1 ht hvm hw hB _ hk hS1 => ?_)
  obtain ⟨h1, h2, h3⟩ := hB
  rw [ht] at h1
  obtain ⟨j1, j2⟩ := va_join hP hD isC isR hC hR hn hdis hk hF h1 h3
  exact kk u H1 locs1 hw j1 j2 (hK.app (va_K.moved hvm.symm h2)) hS1
end NC
def sPre (A : Nat → Prop) (sz : Nat) (U : State) : Prop := U.heap.size = sz ∧ gSt A U U.heap ∧ gNw U
theorem sPre.blind {A : Nat → Prop} {sz : Nat} {av : List Value} : FrameBlind (va_Pc av (sPre A sz)) := fun a U g mk q => by
  obtain ⟨q0, q1, q2, q3⟩ := q
  exact ⟨q0, q1, gSt.moved (u := U) (U := U.calling g mk a) (Vm.Alike.refl U.vm) q2, gNw.same (s := U) (U := U.calling g mk a) rfl q3⟩
theorem s_pre {s : State} {H : Heap} {locs : List Loc} {A : Nat → Prop} {As : List Value} (hNw : gNw s) (hSt : gSt A s s.heap) (hS : va_S A s.heap H locs) : PreS s H (va_Pc As (sPre A H.size)) As :=
  ⟨sPre.blind, fun U hU hW => ⟨rfl, by rw [hU], by rw [hU]; exact (hSt.pass hS.2.1 (fun _ h => h)).moved hW.alike, hNw.warm hW⟩⟩
theorem arrV_ext {cI : ClassId} {N : Nat} {f g : Nat → Value} (h : ∀ j, j < N → f j = g j) : arrV cI N f = arrV cI N g := by
  unfold arrV
  congr 1
  congr 1
  funext j
  exact h j.val j.isLt
theorem cell_q {cI : ClassId} {N : Nat} {f g : Nat → Option Nat} (h : ∀ j, j < N → f j = g j) : vp_cell cI (N, .inr (.inr (.inr (.inr f)))) = vp_cell cI (N, .inr (.inr (.inr (.inr g)))) := by
  show arrV cI N (fun j => va_rf (f j)) = arrV cI N (fun j => va_rf (g j))
  exact arrV_ext (fun j hj => by rw [h j hj])
theorem va_P.cell {D : va_G} {cl : List vw_C} {ws : va_W} {H : Heap} (hP : va_P D cl ws H) {k a : Nat} {x y : ClassId × vp_A} (hk : ws[k]? = some (a, .inl x)) (he : vp_cell x.1 x.2 = vp_cell y.1 y.2) : va_P D cl (ws.set k (a, .inl y)) H := by
  intro j q hj
  rw [List.getElem?_set] at hj
  by_cases e : k = j
  · rw [if_pos e] at hj
    split at hj
    · have h0 := hP k _ hk
      rw [← Option.some.inj hj]
      show H[a]? = some (vp_cell y.1 y.2)
      rw [← he]
      exact h0
    · cases hj
  · rw [if_neg e] at hj
    exact hP j q hj
theorem gInj_of {cy : Nat → ClassId} {ad : Nat → Nat} {iv : gIv} {ar : gAr} {A : Nat → Prop} (h : va_D A (GW cy ad iv ar)) : gInj ad := fun i j hi hj e => h.1 i j _ _ (GW_get hi) (GW_get hj) e
theorem mInj_of {cy : Nat → ClassId} {ad : Nat → Nat} {iv : gIv} {ar : gAr} {A : Nat → Prop} (h : va_D A (MW cy ad iv ar)) : mInj ad := fun i j hi hj e => h.1 i j _ _ (MW_get hi) (MW_get hj) e
theorem t3r {q : Nat} (h : q < 7) : (-1 ≤ (tCOL q).toInt ∧ (tCOL q).toInt ≤ 1) ∧ (-1 ≤ (tROW q).toInt ∧ (tROW q).toInt ≤ 1) ∧ (-1 ≤ (tLAY q).toInt ∧ (tLAY q).toInt ≤ 1) := (by decide : ∀ q, q < 7 → (-1 ≤ (tCOL q).toInt ∧ (tCOL q).toInt ≤ 1) ∧ (-1 ≤ (tROW q).toInt ∧ (tROW q).toInt ≤ 1) ∧ (-1 ≤ (tLAY q).toInt ∧ (tLAY q).toInt ≤ 1)) q h
