/-! The lattice without obstacles and winds: how far two cells are apart; what a measuring keeps. -/
def man (c g : Nat) : Int := max (((c % 6 : Nat) : Int) - (g % 6 : Nat)) (((g % 6 : Nat) : Int) - (c % 6 : Nat)) + max (((c / 6 % 6 : Nat) : Int) - (g / 6 % 6 : Nat)) (((g / 6 % 6 : Nat) : Int) - (c / 6 % 6 : Nat)) + max (((c / 36 : Nat) : Int) - (g / 36 : Nat)) (((g / 36 : Nat) : Int) - (c / 36 : Nat))
theorem man_b {c g : Nat} (hc : c < 108) (hg : g < 108) : 0 ≤ man c g ∧ man c g ≤ 12 := by unfold man; omega
theorem man_s {c : Nat} : man c c = 0 := by unfold man; omega
theorem man_0 {c g : Nat} (hc : c < 108) (hg : g < 108) (h : man c g = 0) : c = g := by unfold man at h; omega
theorem nb1 (c : Nat) : nbN c 1 = if c % 6 < 5 then (c : Int) + 1 else -1 := by unfold nbN; rw [if_pos rfl]
theorem nb2 (c : Nat) : nbN c 2 = if 0 < c % 6 then (c : Int) - 1 else -1 := by unfold nbN; rw [if_neg (by decide), if_pos rfl]
theorem nb3 (c : Nat) : nbN c 3 = if c / 6 % 6 < 5 then (c : Int) + 6 else -1 := by unfold nbN; rw [if_neg (by decide), if_neg (by decide), if_pos rfl]
theorem nb4 (c : Nat) : nbN c 4 = if 0 < c / 6 % 6 then (c : Int) - 6 else -1 := by unfold nbN; rw [if_neg (by decide), if_neg (by decide), if_neg (by decide), if_pos rfl]
theorem nb5 (c : Nat) : nbN c 5 = if c < 72 then (c : Int) + 36 else -1 := by unfold nbN; rw [if_neg (by decide), if_neg (by decide), if_neg (by decide), if_neg (by decide), if_pos rfl]
theorem nb6 (c : Nat) : nbN c 6 = if 36 ≤ c then (c : Int) - 36 else -1 := by unfold nbN; rw [if_neg (by decide), if_neg (by decide), if_neg (by decide), if_neg (by decide), if_neg (by decide), if_pos rfl]
theorem nb0 (c : Nat) : nbN c 0 = (c : Int) := by unfold nbN; rw [if_neg (by decide), if_neg (by decide), if_neg (by decide), if_neg (by decide), if_neg (by decide), if_neg (by decide)]
theorem nb_b {c q : Nat} (hc : c < 108) (h7 : q < 7) : -1 ≤ nbN c q ∧ nbN c q < 108 := by
  have hq : q = 0 ∨ q = 1 ∨ q = 2 ∨ q = 3 ∨ q = 4 ∨ q = 5 ∨ q = 6 := by omega
  rcases hq with rfl | rfl | rfl | rfl | rfl | rfl | rfl
  · rw [nb0]; omega
  · rw [nb1]; split <;> omega
  · rw [nb2]; split <;> omega
  · rw [nb3]; split <;> omega
  · rw [nb4]; split <;> omega
  · rw [nb5]; split <;> omega
  · rw [nb6]; split <;> omega
theorem man_nb {c g q n : Nat} (hc : c < 108) (hg : g < 108) (h1 : 1 ≤ q) (h7 : q < 7) (h : nbN c q = (n : Int)) : n < 108 ∧ (man n g = man c g + 1 ∨ man n g = man c g - 1) := by
  have hq : q = 1 ∨ q = 2 ∨ q = 3 ∨ q = 4 ∨ q = 5 ∨ q = 6 := by omega
  unfold man
  rcases hq with rfl | rfl | rfl | rfl | rfl | rfl
  · rw [nb1] at h; split at h <;> omega
  · rw [nb2] at h; split at h <;> omega
  · rw [nb3] at h; split at h <;> omega
  · rw [nb4] at h; split at h <;> omega
  · rw [nb5] at h; split at h <;> omega
  · rw [nb6] at h; split at h <;> omega
theorem man_down {c g : Nat} (hc : c < 108) (hg : g < 108) (h : 0 < man c g) : ∃ n q : Nat, n < 108 ∧ 1 ≤ q ∧ q < 7 ∧ nbN n q = (c : Int) ∧ man n g = man c g - 1 := by
  unfold man at h ⊢
  by_cases h1 : c % 6 < g % 6
  · exact ⟨c + 1, 2, by omega, by omega, by omega, by rw [nb2, if_pos (by omega)]; omega, by omega⟩
  by_cases h2 : g % 6 < c % 6
  · exact ⟨c - 1, 1, by omega, by omega, by omega, by rw [nb1, if_pos (by omega)]; omega, by omega⟩
  by_cases h3 : c / 6 % 6 < g / 6 % 6
  · exact ⟨c + 6, 4, by omega, by omega, by omega, by rw [nb4, if_pos (by omega)]; omega, by omega⟩
  by_cases h4 : g / 6 % 6 < c / 6 % 6
  · exact ⟨c - 6, 3, by omega, by omega, by omega, by rw [nb3, if_pos (by omega)]; omega, by omega⟩
  by_cases h5 : c / 36 < g / 36
  · exact ⟨c + 36, 6, by omega, by omega, by omega, by rw [nb6, if_pos (by omega)]; omega, by omega⟩
  · exact ⟨c - 36, 5, by omega, by omega, by omega, by rw [nb5, if_pos (by omega)]; omega, by omega⟩
/-- every distance below one that is met is met -/
theorem man_mid {g : Nat} (hg : g < 108) {t : Int} (h0 : 0 ≤ t) : ∀ (n : Nat) (c : Nat), c < 108 → man c g = (n : Int) → t ≤ n → ∃ d : Nat, d < 108 ∧ man d g = t := by
  intro n
  induction n with
  | zero => intro c hc h ht; exact ⟨c, hc, by omega⟩
  | succ n ih =>
    intro c hc h ht
    by_cases he : t = n + 1
    · exact ⟨c, hc, by omega⟩
    · obtain ⟨m, q, hm, -, -, -, hd⟩ := man_down hc hg (by omega)
      exact ih m hm (by omega) (by omega)
/-- the way back of an action -/
def tB (q : Nat) : Nat := [0, 2, 1, 4, 3, 6, 5].getD q 0
theorem tB_in {q : Nat} (h1 : 1 ≤ q) (h7 : q < 7) : 1 ≤ tB q ∧ tB q < 7 ∧ tB (tB q) = q := (by decide : ∀ q, q < 7 → 1 ≤ q → (1 ≤ tB q ∧ tB q < 7 ∧ tB (tB q) = q)) q h7 h1
theorem tBACK_tB {q : Nat} (h7 : q < 7) : (tBACK q).toInt = (tB q : Int) := (by decide : ∀ q, q < 7 → (tBACK q).toInt = (tB q : Int)) q h7
/-- all that is nearer than t + 1 is known; nothing beyond t + 1 -/
def SBI (g : Nat) (t : Int) (f : Nat → Int32) : Prop := ∀ c, c < 108 → ((f c).toInt = -1 ∧ t < man c g) ∨ ((f c).toInt = man c g ∧ man c g ≤ t + 1)
theorem SBI.set {g : Nat} {t : Int} {f : Nat → Int32} (hg : g < 108) (h : SBI g t f) {c q n : Nat} (hc : c < 108) (hd : man c g = t) (h1 : 1 ≤ q) (h7 : q < 7) (hn : nbN c q = (n : Int)) (hx : (f n).toInt = -1) {x : Int32} (ex : x.toInt = t + 1) : SBI g t (upd f n x) ∧ man n g = t + 1 := by
  obtain ⟨hn1, hm⟩ := man_nb hc hg h1 h7 hn
  have hm2 : man n g = t + 1 := by
    rcases h n hn1 with a | a
    · omega
    · have := (man_b hn1 hg).1; omega
  refine ⟨fun d hdl => ?_, hm2⟩
  by_cases e : d = n
  · subst e; rw [pk_us]; right; omega
  · rw [pk_un e]; exact h d hdl
theorem SBI.next {g : Nat} {t : Int} {f : Nat → Int32} (hg : g < 108) (h0 : 0 ≤ t) (h : SBI g t f) (hp : ∀ c, c < 108 → man c g = t → ∀ q n : Nat, 1 ≤ q → q < 7 → nbN c q = (n : Int) → (f n).toInt ≠ -1) : SBI g (t + 1) f := by
  intro c hc
  rcases h c hc with a | a
  · by_cases e : man c g = t + 1
    · obtain ⟨n, q, hn, h1, h7, hb, hd⟩ := man_down hc hg (by omega)
      exact absurd a.1 (hp n hn (by omega) q c h1 h7 hb)
    · left; omega
  · right; omega
theorem SBI.all {g : Nat} {t x : Int} {f : Nat → Int32} (hg : g < 108) (h0 : 0 ≤ t) (h : SBI g t f) (hx : x < t) (hG : ∀ c, c < 108 → (f c).toInt ≠ -1 → man c g ≤ x) : ∀ c, c < 108 → (f c).toInt = man c g := by
  intro c hc
  rcases h c hc with a | a
  · obtain ⟨d, hd, he⟩ := man_mid hg h0 (man c g).toNat c hc (by have := (man_b hc hg).1; omega) (by omega)
    rcases h d hd with b | b
    · omega
    · have := hG d hd (by have := (man_b hd hg).1; omega); omega
  · exact a.1
