/-! How the reference measures without obstacles and winds: bounds that last, a sum that falls, the point where nothing changes. -/
def sm (f : Nat → Int32) (b : Nat) : Nat → Int
  | 0 => 0
  | n + 1 => sm f b n + (f (b + n)).toInt
theorem sm_0 {f : Nat → Int32} {b : Nat} : ∀ n : Nat, (∀ c, c < n → 0 ≤ (f (b + c)).toInt) → 0 ≤ sm f b n := by
  intro n
  induction n with
  | zero => intro _; exact Int.le_refl 0
  | succ n ih =>
    intro h
    have h1 := ih (fun c hc => h c (by omega))
    have h2 := h n (by omega)
    show 0 ≤ sm f b n + (f (b + n)).toInt
    omega
theorem sm_far {f : Nat → Int32} {b : Nat} {x : Int32} {c : Nat} : ∀ n : Nat, n ≤ c → sm (upd f (b + c) x) b n = sm f b n := by
  intro n
  induction n with
  | zero => intro _; rfl
  | succ n ih =>
    intro h
    show sm (upd f (b + c) x) b n + (upd f (b + c) x (b + n)).toInt = sm f b n + (f (b + n)).toInt
    rw [ih (by omega), pk_un (show b + n ≠ b + c from by omega)]
theorem sm_upd {f : Nat → Int32} {b : Nat} {x : Int32} {c : Nat} : ∀ n : Nat, c < n → sm (upd f (b + c) x) b n = sm f b n - (f (b + c)).toInt + x.toInt := by
  intro n
  induction n with
  | zero => intro h; omega
  | succ n ih =>
    intro h
    show sm (upd f (b + c) x) b n + (upd f (b + c) x (b + n)).toInt = sm f b n + (f (b + n)).toInt - (f (b + c)).toInt + x.toInt
    by_cases e : n = c
    · subst e
      rw [sm_far n (Nat.le_refl n), pk_us]; omega
    · rw [ih (by omega), pk_un (show b + n ≠ b + c from by omega)]; omega
def MBI (g : Nat) (f : Nat → Int32) : Prop := (f (108 * g + g)).toInt = 0 ∧ ∀ c, c < 108 → man c g ≤ (f (108 * g + c)).toInt ∧ (f (108 * g + c)).toInt ≤ 100000
def MFX (f : Nat → Int32) (g c q : Nat) : Prop := ∀ n : Nat, nbN c q = (n : Int) → (f (108 * g + c)).toInt ≤ (f (108 * g + n)).toInt + 1
theorem MBI.init {g : Nat} {f : Nat → Int32} (hg : g < 108) (h : ∀ c : Nat, c < 108 → (f (108 * g + c)).toInt = if c = g then 0 else 100000) : MBI g f := by
  refine ⟨by rw [h g hg, if_pos rfl], fun c hc => ?_⟩
  have hb := man_b hc hg
  rw [h c hc]
  by_cases e : c = g
  · rw [if_pos e, e, man_s]; omega
  · rw [if_neg e]; omega
theorem MBI.sm0 {g : Nat} {f : Nat → Int32} (hg : g < 108) (h : MBI g f) : 0 ≤ sm f (108 * g) 108 := sm_0 108 (fun c hc => by
  have h1 := h.2 c hc
  have h2 := man_b hc hg
  omega)
theorem MBI.set {g : Nat} {f : Nat → Int32} (hg : g < 108) (h : MBI g f) {c q n : Nat} (hc : c < 108) (h1 : 1 ≤ q) (h7 : q < 7) (hn : nbN c q = (n : Int)) {x : Int32} (ex : x.toInt = 1 + (f (108 * g + n)).toInt) (hx : x.toInt < (f (108 * g + c)).toInt) : MBI g (upd f (108 * g + c) x) ∧ sm (upd f (108 * g + c) x) (108 * g) 108 < sm f (108 * g) 108 := by
  obtain ⟨hn1, hm⟩ := man_nb hc hg h1 h7 hn
  have hbn := h.2 n hn1
  have hmn := man_b hn1 hg
  have hcg : c ≠ g := fun e => by
    subst e
    have := h.1
    omega
  refine ⟨⟨?_, fun d hd => ?_⟩, ?_⟩
  · rw [pk_un (show 108 * g + g ≠ 108 * g + c from by omega)]; exact h.1
  · by_cases e : d = c
    · subst e
      rw [pk_us]
      have := h.2 d hd
      omega
    · rw [pk_un (show 108 * g + d ≠ 108 * g + c from by omega)]; exact h.2 d hd
  · rw [sm_upd 108 hc]; omega
theorem nb_back {n q c : Nat} (hn : n < 108) (h1 : 1 ≤ q) (h7 : q < 7) (h : nbN n q = (c : Int)) : nbN c (tB q) = (n : Int) := by
  have hq : q = 1 ∨ q = 2 ∨ q = 3 ∨ q = 4 ∨ q = 5 ∨ q = 6 := by omega
  rcases hq with rfl | rfl | rfl | rfl | rfl | rfl
  · rw [nb1] at h
    split at h
    · have e : c = n + 1 := by omega
      subst e
      show nbN (n + 1) 2 = _
      rw [nb2, if_pos (by omega)]; omega
    · omega
  · rw [nb2] at h
    split at h
    · have e : n = c + 1 := by omega
      subst e
      show nbN c 1 = _
      rw [nb1, if_pos (by omega)]; omega
    · omega
  · rw [nb3] at h
    split at h
    · have e : c = n + 6 := by omega
      subst e
      show nbN (n + 6) 4 = _
      rw [nb4, if_pos (by omega)]; omega
    · omega
  · rw [nb4] at h
    split at h
    · have e : n = c + 6 := by omega
      subst e
      show nbN c 3 = _
      rw [nb3, if_pos (by omega)]; omega
    · omega
  · rw [nb5] at h
    split at h
    · have e : c = n + 36 := by omega
      subst e
      show nbN (n + 36) 6 = _
      rw [nb6, if_pos (by omega)]; omega
    · omega
  · rw [nb6] at h
    split at h
    · have e : n = c + 36 := by omega
      subst e
      show nbN c 5 = _
      rw [nb5, if_pos (by omega)]; omega
    · omega
theorem MBI.all {g : Nat} {f : Nat → Int32} (hg : g < 108) (h : MBI g f) (hf : ∀ c : Nat, c < 108 → ∀ q : Nat, 1 ≤ q → q < 7 → MFX f g c q) : ∀ c, c < 108 → (f (108 * g + c)).toInt = man c g := by
  have key : ∀ (k : Nat) (c : Nat), c < 108 → man c g = (k : Int) → (f (108 * g + c)).toInt = man c g := by
    intro k
    induction k with
    | zero =>
      intro c hc hk
      have e := man_0 hc hg (by omega)
      subst e
      rw [h.1, man_s]
    | succ k ih =>
      intro c hc hk
      obtain ⟨n, q, hn, h1, h7, hb, hd⟩ := man_down hc hg (by omega)
      have h2 := ih n hn (by omega)
      have ht := tB_in h1 h7
      have h3 := hf c hc (tB q) ht.1 ht.2.1 n (nb_back hn h1 h7 hb)
      have h4 := (h.2 c hc).1
      omega
  intro c hc
  have hb := man_b hc hg
  exact key (man c g).toNat c hc (by omega)
