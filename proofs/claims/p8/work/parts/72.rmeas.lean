/-! How the reference measures at any state: a sum that falls, what a row of times keeps, and what it says when it is done. -/
def sm (f : Nat → Int32) (b : Nat) : Nat → Int
  | 0 => 0
  | n + 1 => sm f b n + (f (b + n)).toInt
theorem sm_0 {f : Nat → Int32} {b : Nat} : ∀ n : Nat, (∀ c, c < n → 0 ≤ (f (b + c)).toInt) → 0 ≤ sm f b n := by
  intro n
  induction n with
  | zero => intro _; exact Int.le_refl 0
  | succ n ih =>
    intro h
    have h1 := ih (fun c hc => h c (by omega))
    have h2 := h n (by omega)
    show 0 ≤ sm f b n + (f (b + n)).toInt
    omega
theorem sm_far {f : Nat → Int32} {b : Nat} {x : Int32} {c : Nat} : ∀ n : Nat, n ≤ c → sm (upd f (b + c) x) b n = sm f b n := by
  intro n
  induction n with
  | zero => intro _; rfl
  | succ n ih =>
    intro h
    show sm (upd f (b + c) x) b n + (upd f (b + c) x (b + n)).toInt = sm f b n + (f (b + n)).toInt
    rw [ih (by omega), pk_un (show b + n ≠ b + c from by omega)]
theorem sm_upd {f : Nat → Int32} {b : Nat} {x : Int32} {c : Nat} : ∀ n : Nat, c < n → sm (upd f (b + c) x) b n = sm f b n - (f (b + c)).toInt + x.toInt := by
  intro n
  induction n with
  | zero => intro h; omega
  | succ n ih =>
    intro h
    show sm (upd f (b + c) x) b n + (upd f (b + c) x (b + n)).toInt = sm f b n + (f (b + n)).toInt - (f (b + c)).toInt + x.toInt
    by_cases e : n = c
    · subst e
      rw [sm_far n (Nat.le_refl n), pk_us]; omega
    · rw [ih (by omega), pk_un (show b + n ≠ b + c from by omega)]; omega
def MB (f T : Nat → Int32) (g : Nat) : Prop := ∀ c, c < 108 → 0 ≤ (T (108 * g + c)).toInt ∧ (T (108 * g + c)).toInt ≤ 100000 ∧ (c = g → (f (3 + c)).toInt ≠ 1 → (T (108 * g + c)).toInt = 0) ∧ (c ≠ g → (T (108 * g + c)).toInt < 100000 → ∃ q n : Nat, 1 ≤ q ∧ q < 7 ∧ n < 108 ∧ NX f c q = (n : Int) ∧ TK f c q + (T (108 * g + n)).toInt ≤ (T (108 * g + c)).toInt)
def FX (f T : Nat → Int32) (g c q : Nat) : Prop := (f (3 + c)).toInt ≠ 1 → ∀ n : Nat, NX f c q = (n : Int) → (T (108 * g + c)).toInt ≤ TK f c q + (T (108 * g + n)).toInt
def KN (f T : Nat → Int32) (g : Nat) : Prop := MB f T g ∧ ∀ c : Nat, c < 108 → ∀ q : Nat, 1 ≤ q → q < 7 → FX f T g c q
theorem NX_nb {f : Nat → Int32} {c q n : Nat} (h : NX f c q = (n : Int)) : nbN c q = (n : Int) ∧ (f (3 + n)).toInt ≠ 1 := by
  unfold NX at h
  by_cases e : nbN c q < 0 ∨ (f (3 + (nbN c q).toNat)).toInt = 1
  · rw [if_pos e] at h; omega
  · rw [if_neg e] at h
    refine ⟨h, fun z => e (Or.inr ?_)⟩
    rw [h, Int.toNat_natCast]; exact z
theorem NX_ne {f : Nat → Int32} {c q n : Nat} (hc : c < 108) (h1 : 1 ≤ q) (h7 : q < 7) (h : NX f c q = (n : Int)) : n < 108 ∧ n ≠ c := by
  have h2 := man_nb (g := 0) hc (by omega) h1 h7 (NX_nb h).1
  refine ⟨h2.1, fun e => ?_⟩
  have h3 := h2.2
  rw [e] at h3
  omega
theorem MB.init {f T : Nat → Int32} {g : Nat} (h : ∀ c : Nat, c < 108 → (T (108 * g + c)).toInt = if c = g ∧ (f (3 + c)).toInt ≠ 1 then 0 else 100000) : MB f T g := by
  intro c hc
  rw [h c hc]
  by_cases e : c = g ∧ (f (3 + c)).toInt ≠ 1
  · rw [if_pos e]
    exact ⟨by omega, by omega, fun _ _ => rfl, fun z => absurd e.1 z⟩
  · rw [if_neg e]
    exact ⟨by omega, by omega, fun z1 z2 => absurd ⟨z1, z2⟩ e, fun _ z => by omega⟩
theorem MB.set {f T : Nat → Int32} {g : Nat} (h : MB f T g) {c q n : Nat} (hc : c < 108) (h1 : 1 ≤ q) (h7 : q < 7) (hob : (f (3 + c)).toInt ≠ 1) (hn : NX f c q = (n : Int)) {x : Int32} (ex : x.toInt = TK f c q + (T (108 * g + n)).toInt) (hx : x.toInt < (T (108 * g + c)).toInt) : MB f (upd T (108 * g + c) x) g ∧ sm (upd T (108 * g + c) x) (108 * g) 108 < sm T (108 * g) 108 := by
  obtain ⟨hn1, hnc⟩ := NX_ne hc h1 h7 hn
  have hk := TK_b (f := f) (c := c) (q := q)
  have hbn := (h n hn1).1
  have hbc := (h c hc).1
  have hbc2 := (h c hc).2.1
  have hcg : c ≠ g := fun e => by
    have := (h c hc).2.2.1 e hob
    omega
  refine ⟨fun d hd => ?_, by rw [sm_upd 108 hc]; omega⟩
  by_cases e : d = c
  · subst e
    rw [pk_us]
    refine ⟨by omega, by omega, fun z => absurd z hcg, fun _ _ => ⟨q, n, h1, h7, hn1, hn, ?_⟩⟩
    rw [pk_un (show 108 * g + n ≠ 108 * g + d from by omega)]; omega
  · rw [pk_un (show 108 * g + d ≠ 108 * g + c from by omega)]
    have hbd := h d hd
    refine ⟨hbd.1, hbd.2.1, hbd.2.2.1, fun z1 z2 => ?_⟩
    obtain ⟨q2, n2, a1, a2, a3, a4, a5⟩ := hbd.2.2.2 z1 z2
    refine ⟨q2, n2, a1, a2, a3, a4, ?_⟩
    by_cases e2 : n2 = c
    · subst e2; rw [pk_us]; clear hbd; omega
    · rw [pk_un (show 108 * g + n2 ≠ 108 * g + c from by omega)]; exact a5
theorem MB.sm0 {f T : Nat → Int32} {g : Nat} (h : MB f T g) : 0 ≤ sm T (108 * g) 108 := sm_0 108 (fun c hc => (h c hc).1)
theorem FX.of {f T T2 : Nat → Int32} {g c q : Nat} (hc : c < 108) (h1 : 1 ≤ q) (h7 : q < 7) (e : ∀ c, c < 108 → T2 (108 * g + c) = T (108 * g + c)) (h : FX f T g c q) : FX f T2 g c q := by
  intro hob n hn
  rw [e c hc, e n (NX_ne hc h1 h7 hn).1]; exact h hob n hn
theorem KN.of {f T T2 : Nat → Int32} {g : Nat} (e : ∀ c, c < 108 → T2 (108 * g + c) = T (108 * g + c)) (h : KN f T g) : KN f T2 g := by
  refine ⟨fun c hc => ?_, fun c hc q h1 h7 => FX.of hc h1 h7 e (h.2 c hc q h1 h7)⟩
  have hb := h.1 c hc
  rw [e c hc]
  refine ⟨hb.1, hb.2.1, hb.2.2.1, fun z1 z2 => ?_⟩
  obtain ⟨q, n, a1, a2, a3, a4, a5⟩ := hb.2.2.2 z1 z2
  exact ⟨q, n, a1, a2, a3, a4, by rw [e n a3]; exact a5⟩
/-- where it is done and c is not the goal, an action makes the time exactly -/
theorem KN.act {f T : Nat → Int32} {g c : Nat} (h : KN f T g) (hc : c < 108) (hob : (f (3 + c)).toInt ≠ 1) (hg : c ≠ g) (ht : (T (108 * g + c)).toInt < 100000) : ∃ q n : Nat, 1 ≤ q ∧ q < 7 ∧ n < 108 ∧ NX f c q = (n : Int) ∧ TK f c q + (T (108 * g + n)).toInt = (T (108 * g + c)).toInt := by
  obtain ⟨q, n, a1, a2, a3, a4, a5⟩ := (h.1 c hc).2.2.2 hg ht
  have h2 := h.2 c hc q a1 a2 hob n a4
  exact ⟨q, n, a1, a2, a3, a4, by omega⟩
/-- all known rows are right; a row that is known stays as it is -/
def KA (ar : gAr) : Prop := ∀ g, g < 108 → (ar 6 g).toInt ≠ 0 → KN (ar 1) (ar 5) g
def KS (ar ar2 : gAr) : Prop := ∀ g, g < 108 → (ar 6 g).toInt ≠ 0 → (ar2 6 g).toInt ≠ 0 ∧ ∀ c, c < 108 → ar2 5 (108 * g + c) = ar 5 (108 * g + c)
theorem KS.rf {ar : gAr} : KS ar ar := fun _ _ h => ⟨h, fun _ _ => rfl⟩
theorem KS.tr {ar ar2 ar3 : gAr} (h : KS ar ar2) (h2 : KS ar2 ar3) : KS ar ar3 := fun g hg k => ⟨(h2 g hg (h g hg k).1).1, fun c hc => ((h2 g hg (h g hg k).1).2 c hc).trans ((h g hg k).2 c hc)⟩
