/-! The lattice without obstacles and winds: how far two cells are apart; what a measuring keeps. -/
def ds (a b : Nat) : Int := if a ≤ b then (b : Int) - a else (a : Int) - b
theorem ds_0 (a b : Nat) : 0 ≤ ds a b := by unfold ds; split <;> omega
theorem ds_s (a : Nat) : ds a a = 0 := by unfold ds; split <;> omega
theorem ds_e {a b : Nat} (h : ds a b = 0) : a = b := by unfold ds at h; split at h <;> omega
theorem ds_b {a b n : Nat} (ha : a ≤ n) (hb : b ≤ n) : ds a b ≤ n := by unfold ds; split <;> omega
theorem ds_1 (a b : Nat) : ds (a + 1) b = ds a b + 1 ∨ ds (a + 1) b = ds a b - 1 := by
  unfold ds
  by_cases h1 : a ≤ b
  · rw [if_pos h1]
    by_cases h2 : a + 1 ≤ b
    · rw [if_pos h2]; omega
    · rw [if_neg h2]; omega
  · rw [if_neg h1, if_neg (by omega)]; omega
theorem ds_up {a b : Nat} (h : a < b) : ds (a + 1) b = ds a b - 1 := by
  unfold ds
  rw [if_pos (by omega), if_pos (by omega)]; omega
theorem ds_dn {a b : Nat} (h : b ≤ a) : ds a b = ds (a + 1) b - 1 := by
  unfold ds
  by_cases h1 : a ≤ b
  · rw [if_pos h1, if_neg (by omega)]; omega
  · rw [if_neg h1, if_neg (by omega)]; omega
def man (c g : Nat) : Int := ds (c % 6) (g % 6) + ds (c / 6 % 6) (g / 6 % 6) + ds (c / 36) (g / 36)
theorem co_1 {c : Nat} (h : c % 6 < 5) : (c + 1) % 6 = c % 6 + 1 ∧ (c + 1) / 6 % 6 = c / 6 % 6 ∧ (c + 1) / 36 = c / 36 := by
  have h1 : (c + 1) / 6 = c / 6 := by omega
  exact ⟨by omega, by rw [h1], by omega⟩
theorem co_6 {c : Nat} (h : c / 6 % 6 < 5) : (c + 6) % 6 = c % 6 ∧ (c + 6) / 6 % 6 = c / 6 % 6 + 1 ∧ (c + 6) / 36 = c / 36 := by
  have h1 : (c + 6) / 6 = c / 6 + 1 := by omega
  have h2 : (c + 6) / 36 = (c / 6 + 1) / 6 := by rw [← h1]; omega
  have h3 : c / 36 = c / 6 / 6 := by omega
  exact ⟨by omega, by rw [h1]; omega, by rw [h2, h3]; omega⟩
theorem co_36 (c : Nat) : (c + 36) % 6 = c % 6 ∧ (c + 36) / 6 % 6 = c / 6 % 6 ∧ (c + 36) / 36 = c / 36 + 1 := by
  have h1 : (c + 36) / 6 = c / 6 + 6 := by omega
  exact ⟨by omega, by rw [h1]; omega, by omega⟩
theorem man_b {c g : Nat} (hc : c < 108) (hg : g < 108) : 0 ≤ man c g ∧ man c g ≤ 12 := by
  have a1 := ds_0 (c % 6) (g % 6)
  have a2 := ds_0 (c / 6 % 6) (g / 6 % 6)
  have a3 := ds_0 (c / 36) (g / 36)
  have b1 := ds_b (a := c % 6) (b := g % 6) (n := 5) (by omega) (by omega)
  have b2 := ds_b (a := c / 6 % 6) (b := g / 6 % 6) (n := 5) (by omega) (by omega)
  have b3 := ds_b (a := c / 36) (b := g / 36) (n := 2) (by omega) (by omega)
  unfold man
  generalize ds (c % 6) (g % 6) = x at *
  generalize ds (c / 6 % 6) (g / 6 % 6) = y at *
  generalize ds (c / 36) (g / 36) = z at *
  omega
theorem man_s {c : Nat} : man c c = 0 := by unfold man; rw [ds_s, ds_s, ds_s]; rfl
theorem man_0 {c g : Nat} (hc : c < 108) (hg : g < 108) (h : man c g = 0) : c = g := by
  have a1 := ds_0 (c % 6) (g % 6)
  have a2 := ds_0 (c / 6 % 6) (g / 6 % 6)
  have a3 := ds_0 (c / 36) (g / 36)
  unfold man at h
  have e1 := ds_e (a := c % 6) (b := g % 6) (by omega)
  have e2 := ds_e (a := c / 6 % 6) (b := g / 6 % 6) (by omega)
  have e3 := ds_e (a := c / 36) (b := g / 36) (by omega)
  have f1 : c / 6 = c / 36 * 6 + c / 6 % 6 := by omega
  have f2 : g / 6 = g / 36 * 6 + g / 6 % 6 := by omega
  have f3 : c / 6 = g / 6 := by rw [f1, f2, e2, e3]
  omega
theorem man_1 {c g : Nat} (h : c % 6 < 5) : man (c + 1) g = man c g - ds (c % 6) (g % 6) + ds (c % 6 + 1) (g % 6) := by
  unfold man; rw [(co_1 h).1, (co_1 h).2.1, (co_1 h).2.2]; omega
theorem man_6 {c g : Nat} (h : c / 6 % 6 < 5) : man (c + 6) g = man c g - ds (c / 6 % 6) (g / 6 % 6) + ds (c / 6 % 6 + 1) (g / 6 % 6) := by
  unfold man; rw [(co_6 h).1, (co_6 h).2.1, (co_6 h).2.2]; omega
theorem man_36 {c g : Nat} : man (c + 36) g = man c g - ds (c / 36) (g / 36) + ds (c / 36 + 1) (g / 36) := by
  unfold man; rw [(co_36 c).1, (co_36 c).2.1, (co_36 c).2.2]; omega
theorem nb1 (c : Nat) : nbN c 1 = if c % 6 < 5 then (c : Int) + 1 else -1 := by unfold nbN; rw [if_pos rfl]
theorem nb2 (c : Nat) : nbN c 2 = if 0 < c % 6 then (c : Int) - 1 else -1 := by unfold nbN; rw [if_neg (by decide), if_pos rfl]
theorem nb3 (c : Nat) : nbN c 3 = if c / 6 % 6 < 5 then (c : Int) + 6 else -1 := by unfold nbN; rw [if_neg (by decide), if_neg (by decide), if_pos rfl]
theorem nb4 (c : Nat) : nbN c 4 = if 0 < c / 6 % 6 then (c : Int) - 6 else -1 := by unfold nbN; rw [if_neg (by decide), if_neg (by decide), if_neg (by decide), if_pos rfl]
theorem nb5 (c : Nat) : nbN c 5 = if c < 72 then (c : Int) + 36 else -1 := by unfold nbN; rw [if_neg (by decide), if_neg (by decide), if_neg (by decide), if_neg (by decide), if_pos rfl]
theorem nb6 (c : Nat) : nbN c 6 = if 36 ≤ c then (c : Int) - 36 else -1 := by unfold nbN; rw [if_neg (by decide), if_neg (by decide), if_neg (by decide), if_neg (by decide), if_neg (by decide), if_pos rfl]
theorem nb0 (c : Nat) : nbN c 0 = (c : Int) := by unfold nbN; rw [if_neg (by decide), if_neg (by decide), if_neg (by decide), if_neg (by decide), if_neg (by decide), if_neg (by decide)]
theorem nb_b {c q : Nat} (hc : c < 108) (h7 : q < 7) : -1 ≤ nbN c q ∧ nbN c q < 108 := by
  have hq : q = 0 ∨ q = 1 ∨ q = 2 ∨ q = 3 ∨ q = 4 ∨ q = 5 ∨ q = 6 := by omega
  rcases hq with rfl | rfl | rfl | rfl | rfl | rfl | rfl
  · rw [nb0]; omega
  · rw [nb1]; split <;> omega
  · rw [nb2]; split <;> omega
  · rw [nb3]; split <;> omega
  · rw [nb4]; split <;> omega
  · rw [nb5]; split <;> omega
  · rw [nb6]; split <;> omega
theorem man_nb {c g q n : Nat} (hc : c < 108) (hg : g < 108) (h1 : 1 ≤ q) (h7 : q < 7) (h : nbN c q = (n : Int)) : n < 108 ∧ (man n g = man c g + 1 ∨ man n g = man c g - 1) := by
  have hq : q = 1 ∨ q = 2 ∨ q = 3 ∨ q = 4 ∨ q = 5 ∨ q = 6 := by omega
  have hb := (nb_b hc h7).2
  rcases hq with rfl | rfl | rfl | rfl | rfl | rfl
  · rw [nb1] at h; split at h
    · rename_i hh
      have e : n = c + 1 := by omega
      subst e
      have := ds_1 (c % 6) (g % 6)
      have := man_1 (g := g) hh
      exact ⟨by omega, by omega⟩
    · omega
  · rw [nb2] at h; split at h
    · rename_i hh
      have e : c = n + 1 := by omega
      subst e
      have := ds_1 (n % 6) (g % 6)
      have := man_1 (c := n) (g := g) (by omega)
      exact ⟨by omega, by omega⟩
    · omega
  · rw [nb3] at h; split at h
    · rename_i hh
      have e : n = c + 6 := by omega
      subst e
      have := ds_1 (c / 6 % 6) (g / 6 % 6)
      have := man_6 (g := g) hh
      exact ⟨by omega, by omega⟩
    · omega
  · rw [nb4] at h; split at h
    · rename_i hh
      have e : c = n + 6 := by omega
      subst e
      have h6 : (n + 6) / 6 = n / 6 + 1 := by omega
      rw [h6] at hh
      have := ds_1 (n / 6 % 6) (g / 6 % 6)
      have := man_6 (c := n) (g := g) (by omega)
      exact ⟨by omega, by omega⟩
    · omega
  · rw [nb5] at h; split at h
    · have e : n = c + 36 := by omega
      subst e
      have := ds_1 (c / 36) (g / 36)
      have := man_36 (c := c) (g := g)
      exact ⟨by omega, by omega⟩
    · omega
  · rw [nb6] at h; split at h
    · have e : c = n + 36 := by omega
      subst e
      have := ds_1 (n / 36) (g / 36)
      have := man_36 (c := n) (g := g)
      exact ⟨by omega, by omega⟩
    · omega
theorem man_down {c g : Nat} (hc : c < 108) (hg : g < 108) (h : 0 < man c g) : ∃ n q : Nat, n < 108 ∧ 1 ≤ q ∧ q < 7 ∧ nbN n q = (c : Int) ∧ man n g = man c g - 1 := by
  by_cases h1 : c % 6 < g % 6
  · have hh : c % 6 < 5 := by omega
    have e1 := man_1 (g := g) hh
    have e2 := ds_up h1
    have e3 := (co_1 hh).1
    exact ⟨c + 1, 2, by omega, by omega, by omega, by rw [nb2, if_pos (by omega)]; omega, by omega⟩
  by_cases h2 : g % 6 < c % 6
  · obtain ⟨n, rfl⟩ : ∃ n, c = n + 1 := ⟨c - 1, by omega⟩
    have hh : n % 6 < 5 := by omega
    have e1 := man_1 (c := n) (g := g) hh
    have e3 := (co_1 hh).1
    have e2 := ds_dn (a := n % 6) (b := g % 6) (by omega)
    exact ⟨n, 1, by omega, by omega, by omega, by rw [nb1, if_pos hh]; omega, by omega⟩
  by_cases h3 : c / 6 % 6 < g / 6 % 6
  · have hh : c / 6 % 6 < 5 := by omega
    have e1 := man_6 (g := g) hh
    have e2 := ds_up h3
    have e3 := (co_6 hh).2.1
    have e4 := (co_6 hh).2.2
    exact ⟨c + 6, 4, by omega, by omega, by omega, by rw [nb4, if_pos (by omega)]; omega, by omega⟩
  by_cases h4 : g / 6 % 6 < c / 6 % 6
  · obtain ⟨n, rfl⟩ : ∃ n, c = n + 6 := ⟨c - 6, by omega⟩
    have h6 : (n + 6) / 6 = n / 6 + 1 := by omega
    rw [h6] at h4
    have hh : n / 6 % 6 < 5 := by omega
    have e1 := man_6 (c := n) (g := g) hh
    have e2 := ds_dn (a := n / 6 % 6) (b := g / 6 % 6) (by omega)
    exact ⟨n, 3, by omega, by omega, by omega, by rw [nb3, if_pos hh]; omega, by omega⟩
  by_cases h5 : c / 36 < g / 36
  · have e1 := man_36 (c := c) (g := g)
    have e2 := ds_up h5
    exact ⟨c + 36, 6, by omega, by omega, by omega, by rw [nb6, if_pos (by omega)]; omega, by omega⟩
  by_cases h6 : g / 36 < c / 36
  · obtain ⟨n, rfl⟩ : ∃ n, c = n + 36 := ⟨c - 36, by omega⟩
    have e1 := man_36 (c := n) (g := g)
    have e2 := ds_dn (a := n / 36) (b := g / 36) (by omega)
    exact ⟨n, 5, by omega, by omega, by omega, by rw [nb5, if_pos (by omega)]; omega, by omega⟩
  · exfalso
    have e1 : c % 6 = g % 6 := by omega
    have e2 : c / 6 % 6 = g / 6 % 6 := by omega
    have e3 : c / 36 = g / 36 := by omega
    unfold man at h
    rw [e1, e2, e3, ds_s, ds_s, ds_s] at h
    omega
/-- every distance below one that is met is met -/
theorem man_mid {g : Nat} (hg : g < 108) {t : Int} (h0 : 0 ≤ t) : ∀ (n : Nat) (c : Nat), c < 108 → man c g = (n : Int) → t ≤ n → ∃ d : Nat, d < 108 ∧ man d g = t := by
  intro n
  induction n with
  | zero => intro c hc h ht; exact ⟨c, hc, by omega⟩
  | succ n ih =>
    intro c hc h ht
    by_cases he : t = n + 1
    · exact ⟨c, hc, by omega⟩
    · obtain ⟨m, q, hm, -, -, -, hd⟩ := man_down hc hg (by omega)
      exact ih m hm (by omega) (by omega)
/-- the way back of an action -/
def tB (q : Nat) : Nat := [0, 2, 1, 4, 3, 6, 5].getD q 0
theorem tB_in {q : Nat} (h1 : 1 ≤ q) (h7 : q < 7) : 1 ≤ tB q ∧ tB q < 7 ∧ tB (tB q) = q := (by decide : ∀ q, q < 7 → 1 ≤ q → (1 ≤ tB q ∧ tB q < 7 ∧ tB (tB q) = q)) q h7 h1
theorem tBACK_tB {q : Nat} (h7 : q < 7) : (tBACK q).toInt = (tB q : Int) := (by decide : ∀ q, q < 7 → (tBACK q).toInt = (tB q : Int)) q h7
/-- all that is nearer than t + 1 is known; nothing beyond t + 1 -/
def SBI (g : Nat) (t : Int) (f : Nat → Int32) : Prop := ∀ c, c < 108 → ((f c).toInt = -1 ∧ t < man c g) ∨ ((f c).toInt = man c g ∧ man c g ≤ t + 1)
theorem SBI.set {g : Nat} {t : Int} {f : Nat → Int32} (hg : g < 108) (h : SBI g t f) {c q n : Nat} (hc : c < 108) (hd : man c g = t) (h1 : 1 ≤ q) (h7 : q < 7) (hn : nbN c q = (n : Int)) (hx : (f n).toInt = -1) {x : Int32} (ex : x.toInt = t + 1) : SBI g t (upd f n x) ∧ man n g = t + 1 := by
  obtain ⟨hn1, hm⟩ := man_nb hc hg h1 h7 hn
  have hm2 : man n g = t + 1 := by
    rcases h n hn1 with a | a
    · omega
    · have := (man_b hn1 hg).1; omega
  refine ⟨fun d hdl => ?_, hm2⟩
  by_cases e : d = n
  · subst e; rw [pk_us]; right; omega
  · rw [pk_un e]; exact h d hdl
theorem SBI.next {g : Nat} {t : Int} {f : Nat → Int32} (hg : g < 108) (h0 : 0 ≤ t) (h : SBI g t f) (hp : ∀ c, c < 108 → man c g = t → ∀ q n : Nat, 1 ≤ q → q < 7 → nbN c q = (n : Int) → (f n).toInt ≠ -1) : SBI g (t + 1) f := by
  intro c hc
  rcases h c hc with a | a
  · by_cases e : man c g = t + 1
    · obtain ⟨n, q, hn, h1, h7, hb, hd⟩ := man_down hc hg (by omega)
      exact absurd a.1 (hp n hn (by omega) q c h1 h7 hb)
    · left; omega
  · right; omega
theorem SBI.all {g : Nat} {t x : Int} {f : Nat → Int32} (hg : g < 108) (h0 : 0 ≤ t) (h : SBI g t f) (hx : x < t) (hG : ∀ c, c < 108 → (f c).toInt ≠ -1 → man c g ≤ x) : ∀ c, c < 108 → (f c).toInt = man c g := by
  intro c hc
  rcases h c hc with a | a
  · obtain ⟨d, hd, he⟩ := man_mid hg h0 (man c g).toNat c hc (by have := (man_b hc hg).1; omega) (by omega)
    rcases h d hd with b | b
    · omega
    · have := hG d hd (by have := (man_b hd hg).1; omega); omega
  · exact a.1
theorem nb_of {c q : Nat} (hc : c < 108) (h7 : q < 7) {x y z : Int} (hx : x = ((c % 6 : Nat) : Int) + (tCOL q).toInt) (hy : y = ((c / 6 % 6 : Nat) : Int) + (tROW q).toInt) (hz : z = ((c / 36 : Nat) : Int) + (tLAY q).toInt) : (0 ≤ x ∧ x < 6 ∧ 0 ≤ y ∧ y < 6 ∧ 0 ≤ z ∧ z < 3 → nbN c q = x + 6 * y + 36 * z) ∧ (¬ (0 ≤ x ∧ x < 6 ∧ 0 ≤ y ∧ y < 6 ∧ 0 ≤ z ∧ z < 3) → nbN c q = -1) := by
  have hq : q = 0 ∨ q = 1 ∨ q = 2 ∨ q = 3 ∨ q = 4 ∨ q = 5 ∨ q = 6 := by omega
  have z0 := i_l0
  have z1 := i_l1
  have zm := i_m1
  rcases hq with rfl | rfl | rfl | rfl | rfl | rfl | rfl
  · rw [show tCOL 0 = 0 from rfl] at hx; rw [show tROW 0 = 0 from rfl] at hy; rw [show tLAY 0 = 0 from rfl] at hz; rw [nb0]; omega
  · rw [show tCOL 1 = 1 from rfl] at hx; rw [show tROW 1 = 0 from rfl] at hy; rw [show tLAY 1 = 0 from rfl] at hz; rw [nb1]; split <;> omega
  · rw [show tCOL 2 = -1 from rfl] at hx; rw [show tROW 2 = 0 from rfl] at hy; rw [show tLAY 2 = 0 from rfl] at hz; rw [nb2]; split <;> omega
  · rw [show tCOL 3 = 0 from rfl] at hx; rw [show tROW 3 = 1 from rfl] at hy; rw [show tLAY 3 = 0 from rfl] at hz; rw [nb3]; split <;> omega
  · rw [show tCOL 4 = 0 from rfl] at hx; rw [show tROW 4 = -1 from rfl] at hy; rw [show tLAY 4 = 0 from rfl] at hz; rw [nb4]; split <;> omega
  · rw [show tCOL 5 = 0 from rfl] at hx; rw [show tROW 5 = 0 from rfl] at hy; rw [show tLAY 5 = 1 from rfl] at hz; rw [nb5]; split <;> omega
  · rw [show tCOL 6 = 0 from rfl] at hx; rw [show tROW 6 = 0 from rfl] at hy; rw [show tLAY 6 = -1 from rfl] at hz; rw [nb6]; split <;> omega
