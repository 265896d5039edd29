/-! What a plan's marks say: each mark but the start's has one before it; which can end; how near the goal is from them. -/
def WH (f : Nat → Int32) (c q : Nat) : Nat := if q = 0 then c else (NX f c q).toNat
theorem MD.b {f k : Nat → Int32} {c q : Nat} {t : Int} (h : MD f k c q t) (hc : c < 108) (h7 : q < 7) : t + TK f c q ≤ 60 ∧ WH f c q < 108 := by
  have hb := NX_b (f := f) hc h7
  unfold WH
  rcases h with ⟨a, b, -⟩ | ⟨a, b, d, -⟩
  · rw [if_pos a]
    subst a
    rw [TK_0]
    exact ⟨by omega, hc⟩
  · rw [if_neg a]
    exact ⟨d, by omega⟩
theorem MD.ob {f k : Nat → Int32} {c q : Nat} {t : Int} (h : MD f k c q t) (ho : (f (3 + c)).toInt ≠ 1) : (f (3 + WH f c q)).toInt ≠ 1 := by
  unfold WH
  rcases h with ⟨a, -, -⟩ | ⟨a, b, -⟩
  · rw [if_pos a]; exact ho
  · rw [if_neg a]; exact (NX_nb (f := f) (c := c) (q := q) (n := (NX f c q).toNat) (by omega)).2
def RCH (f k R : Nat → Int32) (st : Nat) : Prop := ∀ t c : Nat, t ≤ 60 → c < 108 → (R (108 * t + c)).toInt ≠ 0 → (f (3 + c)).toInt ≠ 1 ∧ (t = 0 ∧ c = st ∨ ∃ t' c' q : Nat, t' < t ∧ c' < 108 ∧ q < 7 ∧ (R (108 * t' + c')).toInt ≠ 0 ∧ MD f k c' q (t' : Int) ∧ (t : Int) = (t' : Int) + TK f c' q ∧ c = WH f c' q)
theorem RCH.init {f k R : Nat → Int32} {st : Nat} {x : Int32} (z : ∀ i, i < 6588 → (R i).toInt = 0) (hs : st < 108) (ho : (f (3 + st)).toInt ≠ 1) : RCH f k (upd R st x) st := by
  intro t c ht hc hr
  by_cases e : 108 * t + c = st
  · have e1 : t = 0 := by omega
    have e2 : c = st := by omega
    exact ⟨by rw [e2]; exact ho, Or.inl ⟨e1, e2⟩⟩
  · rw [pk_un e] at hr
    exact absurd (z _ (by omega)) hr
theorem RCH.set {f k R : Nat → Int32} {st t c q : Nat} (h : RCH f k R st) (ht : t ≤ 60) (hc : c < 108) (h7 : q < 7) (hr : (R (108 * t + c)).toInt ≠ 0) (hm : MD f k c q (t : Int)) {x : Int32} (hx : x.toInt ≠ 0) : RCH f k (upd R (108 * (t + (TK f c q).toNat) + WH f c q) x) st := by
  have hb := hm.b hc h7
  have hk := TK_b (f := f) (c := c) (q := q)
  have mono : ∀ i, (R i).toInt ≠ 0 → (upd R (108 * (t + (TK f c q).toNat) + WH f c q) x i).toInt ≠ 0 := fun i hi => by
    by_cases e : i = 108 * (t + (TK f c q).toNat) + WH f c q
    · rw [e, pk_us]; exact hx
    · rw [pk_un e]; exact hi
  intro t2 c2 ht2 hc2 hr2
  by_cases e : 108 * t2 + c2 = 108 * (t + (TK f c q).toNat) + WH f c q
  · have e1 : t2 = t + (TK f c q).toNat := by omega
    have e2 : c2 = WH f c q := by omega
    refine ⟨?_, Or.inr ⟨t, c, q, by omega, hc, h7, mono _ hr, hm, by omega, e2⟩⟩
    rw [e2]; exact hm.ob (h t c ht hc hr).1
  · rw [pk_un e] at hr2
    obtain ⟨a, b⟩ := h t2 c2 ht2 hc2 hr2
    exact ⟨a, b.imp id (fun ⟨t', c', q', b1, b2, b3, b4, b5, b6, b7⟩ => ⟨t', c', q', b1, b2, b3, mono _ b4, b5, b6, b7⟩)⟩
def CQ (f k E : Nat → Int32) (L t c q : Nat) : Prop := MD f k c q (t : Int) ∧ (t : Int) + TK f c q ≤ (L : Int) ∧ (E (108 * (t + (TK f c q).toNat) + WH f c q)).toInt ≠ 0
def EC (f k R E : Nat → Int32) (L g t c : Nat) : Prop := (E (108 * t + c)).toInt ≠ 0 ↔ t = L ∧ c = g ∨ t < L ∧ (R (108 * t + c)).toInt ≠ 0 ∧ ∃ q, q < 7 ∧ CQ f k E L t c q
theorem CQ.eq {f k E E2 : Nat → Int32} {L t c q : Nat} (e : ∀ i, 108 * (t + 1) ≤ i → E2 i = E i) : CQ f k E2 L t c q ↔ CQ f k E L t c q := by
  unfold CQ
  have hk := TK_b (f := f) (c := c) (q := q)
  rw [e _ (by omega)]
theorem EC.oth {f k R E : Nat → Int32} {L g t c t0 c0 : Nat} {x : Int32} (h : EC f k R E L g t c) (hc : c < 108) (hc0 : c0 < 108) (hl : t0 < t ∨ t0 = t ∧ c0 ≠ c) : EC f k R (upd E (108 * t0 + c0) x) L g t c := by
  unfold EC at h ⊢
  have e : ∀ q, CQ f k (upd E (108 * t0 + c0) x) L t c q ↔ CQ f k E L t c q := fun q => CQ.eq (fun i hi => pk_un (by omega))
  rw [pk_un (show 108 * t + c ≠ 108 * t0 + c0 from by omega), h]
  simp only [e]
theorem EC.set {f k R E : Nat → Int32} {L g t c : Nat} {x : Int32} (hl : t < L) (hx : x.toInt ≠ 0 ↔ (R (108 * t + c)).toInt ≠ 0 ∧ ∃ q, q < 7 ∧ CQ f k E L t c q) (hc : c < 108) : EC f k R (upd E (108 * t + c) x) L g t c := by
  unfold EC
  have e : ∀ q, CQ f k (upd E (108 * t + c) x) L t c q ↔ CQ f k E L t c q := fun q => CQ.eq (fun i hi => pk_un (by omega))
  rw [pk_us]
  simp only [e]
  rw [hx]
  constructor
  · rintro ⟨a, b⟩
    exact Or.inr ⟨hl, a, b⟩
  · rintro (⟨a, -⟩ | ⟨-, a, b⟩)
    · exfalso; omega
    · exact ⟨a, b⟩
theorem EC.late {f k R E : Nat → Int32} {L g t c : Nat} (hl : L ≤ t) (h : (E (108 * t + c)).toInt ≠ 0 ↔ t = L ∧ c = g) : EC f k R E L g t c := by
  unfold EC
  rw [h]
  constructor
  · exact Or.inl
  · rintro (a | ⟨a, -⟩)
    · exact a
    · exfalso; omega
def CEN (f k R E : Nat → Int32) (L g : Nat) : Prop := ∀ t c : Nat, t ≤ 60 → c < 108 → EC f k R E L g t c
theorem CEN.start {f k R E : Nat → Int32} {L g st : Nat} (h : CEN f k R E L g) (r : RCH f k R st) (hL : L ≤ 60) (hg : g < 108) (hm : (R (108 * L + g)).toInt ≠ 0) : (E (108 * 0 + st)).toInt ≠ 0 := by
  have key : ∀ n t c : Nat, t ≤ n → t ≤ L → c < 108 → (R (108 * t + c)).toInt ≠ 0 → (E (108 * t + c)).toInt ≠ 0 → (E (108 * 0 + st)).toInt ≠ 0 := by
    intro n
    induction n with
    | zero =>
      intro t c hn hl hc hr he
      rcases (r t c (by omega) hc hr).2 with ⟨b1, b2⟩ | ⟨t', c', q, b1, -⟩
      · rw [b1, b2] at he; exact he
      · exfalso; omega
    | succ n ih =>
      intro t c hn hl hc hr he
      rcases (r t c (by omega) hc hr).2 with ⟨b1, b2⟩ | ⟨t', c', q, b1, b2, b3, b4, b5, b6, b7⟩
      · rw [b1, b2] at he; exact he
      · have e1 : t' + (TK f c' q).toNat = t := by omega
        refine ih t' c' (by omega) (by omega) b2 b4 ((h t' c' (by omega) b2).mpr (Or.inr ⟨by omega, b4, q, b3, b5, by omega, ?_⟩))
        rw [e1, ← b7]; exact he
  exact key L L g (Nat.le_refl _) (Nat.le_refl _) hg hm ((h L g hL hg).mpr (Or.inl ⟨rfl, rfl⟩))
theorem CEN.db {f k R E : Nat → Int32} {L g st : Nat} (h : CEN f k R E L g) (r : RCH f k R st) (hL : L ≤ 60) (hg : g < 108) (hob : (f (3 + g)).toInt ≠ 1) : ∀ n t c : Nat, L ≤ t + n → t ≤ L → c < 108 → (E (108 * t + c)).toInt ≠ 0 → DB f g ((L : Int) - (t : Int)) c := by
  intro n
  induction n with
  | zero =>
    intro t c hn hl hc he
    rcases (h t c (by omega) hc).mp he with ⟨e1, e2⟩ | ⟨z, -⟩
    · rw [e2]; exact DB.goal hg hob (by omega)
    · exfalso; omega
  | succ n ih =>
    intro t c hn hl hc he
    rcases (h t c (by omega) hc).mp he with ⟨e1, e2⟩ | ⟨z, zr, q, q7, m1, m2, m3⟩
    · rw [e2]; exact DB.goal hg hob (by omega)
    · have hb := m1.b hc q7
      have hk := TK_b (f := f) (c := c) (q := q)
      have ho := (r t c (by omega) hc zr).1
      have ih2 := ih (t + (TK f c q).toNat) (WH f c q) (by omega) (by omega) hb.2 m3
      unfold WH at ih2
      rcases m1 with ⟨a, b, -⟩ | ⟨a, b, -⟩
      · rw [if_pos a] at ih2
        exact ih2.more (by omega)
      · rw [if_neg a] at ih2
        exact (DB.step hc ho (by omega) q7 (m := (NX f c q).toNat) (by omega) ih2).more (by omega)
/-! The drones that are done, as bits. -/
def bt (x : Int32) (i : Nat) : Int := ((x >>> (Int32.ofNat i &&& 31)) &&& 1).toInt
def cN (x : Int32) : Nat → Int
  | 0 => 0
  | n + 1 => cN x n + bt x n
theorem of_i {x : Int32} (h : 0 ≤ x.toInt) : Int32.ofNat x.toInt.toNat = x := i_of (by
  have := i_rng x
  rw [Int32.toInt_ofNat_of_lt (by omega)]; omega)
theorem bt_dec : ∀ k : Fin 64, ∀ d i : Fin 6, 0 ≤ (Int32.ofNat k.val ||| ((1 : Int32) <<< (Int32.ofNat d.val &&& 31))).toInt ∧ (Int32.ofNat k.val ||| ((1 : Int32) <<< (Int32.ofNat d.val &&& 31))).toInt < 64 ∧ bt (Int32.ofNat k.val ||| ((1 : Int32) <<< (Int32.ofNat d.val &&& 31))) i.val = (if i.val = d.val then 1 else bt (Int32.ofNat k.val) i.val) := by decide +kernel
theorem bt_dec2 : ∀ k : Fin 64, ∀ i : Fin 6, bt (Int32.ofNat k.val) i.val = 0 ∨ bt (Int32.ofNat k.val) i.val = 1 := by decide +kernel
theorem bt_set {x d y : Int32} (hx : 0 ≤ x.toInt ∧ x.toInt < 64) (hd : 0 ≤ d.toInt ∧ d.toInt < 6) (e : y = x ||| ((1 : Int32) <<< (d &&& 31))) : (0 ≤ y.toInt ∧ y.toInt < 64) ∧ ∀ i, i < 6 → bt y i = if i = d.toInt.toNat then 1 else bt x i := by
  have k := bt_dec ⟨x.toInt.toNat, by omega⟩ ⟨d.toInt.toNat, by omega⟩
  simp only [of_i hx.1, of_i hd.1, ← e] at k
  exact ⟨⟨(k ⟨0, by omega⟩).1, (k ⟨0, by omega⟩).2.1⟩, fun i hi => (k ⟨i, hi⟩).2.2⟩
theorem bt_01 {x : Int32} (hx : 0 ≤ x.toInt ∧ x.toInt < 64) (i : Nat) (hi : i < 6) : bt x i = 0 ∨ bt x i = 1 := by
  have k := bt_dec2 ⟨x.toInt.toNat, by omega⟩ ⟨i, hi⟩
  simp only [of_i hx.1] at k
  exact k
theorem cN_set {x y : Int32} {d : Nat} (h0 : bt x d = 0) (n : Nat) (h : ∀ i, i < n → bt y i = if i = d then 1 else bt x i) : cN y n = cN x n + if d < n then 1 else 0 := by
  induction n with
  | zero => rfl
  | succ n ih =>
    have h1 := ih (fun i hi => h i (by omega))
    have h2 := h n (by omega)
    show cN y n + bt y n = cN x n + bt x n + _
    rw [h1, h2]
    by_cases e : n = d
    · rw [if_pos e, if_neg (by omega), if_pos (by omega), e, h0]
    · rw [if_neg e]
      by_cases e2 : d < n
      · rw [if_pos e2, if_pos (by omega)]; omega
      · rw [if_neg e2, if_neg (by omega)]; omega
theorem cN_le {x : Int32} (hx : 0 ≤ x.toInt ∧ x.toInt < 64) (n : Nat) (hn : n ≤ 6) : cN x n ≤ (n : Int) := by
  induction n with
  | zero => exact Int.le_refl _
  | succ n ih =>
    have h1 := ih (by omega)
    have h2 := bt_01 hx n (by omega)
    show cN x n + bt x n ≤ _
    omega
theorem cN_all {x : Int32} (hx : 0 ≤ x.toInt ∧ x.toInt < 64) (n : Nat) (hn : n ≤ 6) : ((n : Int) ≤ cN x n → ∀ i, i < n → bt x i ≠ 0) ∧ ((∀ i, i < n → bt x i ≠ 0) → (n : Int) ≤ cN x n) := by
  induction n with
  | zero => exact ⟨fun _ i hi => by omega, fun _ => Int.le_refl _⟩
  | succ n ih =>
    have h1 := ih (by omega)
    have h2 := bt_01 hx n (by omega)
    have h3 := cN_le hx n (by omega)
    refine ⟨fun k i hi => ?_, fun k => ?_⟩
    · have k2 : ((n + 1 : Nat) : Int) ≤ cN x n + bt x n := k
      by_cases e : i = n
      · rw [e]; clear h1; omega
      · exact h1.1 (by clear h1; omega) i (by omega)
    · have k2 := h1.2 (fun i hi => k i (by omega))
      have k3 := k n (by omega)
      show _ ≤ cN x n + bt x n
      clear h1 k
      omega
theorem cN_0 (n : Nat) (hn : n ≤ 6) : cN 0 n = 0 := by
  have k : ∀ m : Fin 7, cN 0 m.val = 0 := by decide +kernel
  exact k ⟨n, by omega⟩
/-! One drone's part of a plan; what a plan leaves of the reference's invariant. -/
def PD (f A9 A11 A14 : Nat → Int32) (d : Nat) : Prop := 0 ≤ (A14 d).toInt ∧ (A14 d).toInt < 108 ∧ 0 ≤ (A11 d).toInt ∧ (A11 d).toInt ≤ 60 ∧ ∀ t, t < 61 → 0 ≤ (A9 (61 * d + t)).toInt ∧ (A9 (61 * d + t)).toInt < 108 ∧ DB f (A14 d).toInt.toNat 61 (A9 (61 * d + t)).toInt.toNat
theorem PD.of {f A9 A11 A14 B9 B11 B14 : Nat → Int32} {d : Nat} (h : PD f A9 A11 A14 d) (e9 : ∀ t, t < 61 → B9 (61 * d + t) = A9 (61 * d + t)) (e11 : B11 d = A11 d) (e14 : B14 d = A14 d) : PD f B9 B11 B14 d := by
  unfold PD at h ⊢
  rw [e11, e14]
  exact ⟨h.1, h.2.1, h.2.2.1, h.2.2.2.1, fun t ht => by rw [e9 t ht]; exact h.2.2.2.2 t ht⟩
theorem RI.pln {iv iv2 : gIv} {ar ar2 : gAr} (h : RI iv ar) (e1 : ar2 1 = ar 1) (e2 : ar2 2 = ar 2) (i3 : iv2 0 3 = iv 0 3) (i4 : iv2 0 4 = iv 0 4) (k : KA ar2) (t : TR ar2) (h17 : 0 ≤ (iv2 0 17).toInt) (p : (iv2 0 15).toInt ≠ 0 → PL ar2) : RI iv2 ar2 := by
  obtain ⟨h1, h2, h3, h4, -, -, -, -⟩ := h
  exact ⟨by rw [e1]; exact h1, by rw [i3]; exact h2, fun j hj => SI.of (h3 j (by rw [i3] at hj; exact hj)) (fun i hi => by show ar2 2 _ = ar 2 _; rw [e2]), by rw [i4]; exact h4, k, t, h17, p⟩
/-! A drone alone: while it isn't at its goal the way goes on, nearer by each action's ticks. -/
def AL (ar : gAr) (g : Nat) (t : Int) (c : Nat) : Prop := (ar 1 (3 + c)).toInt ≠ 1 ∧ (t = 0 ∧ DB (ar 1) g 61 c ∨ (ar 6 g).toInt ≠ 0 ∧ (ar 5 (108 * g + c)).toInt + t ≤ 61)
theorem AL.go {ar ar2 : gAr} {g c : Nat} {t : Int} {r : Int32} (h : AL ar g t c) (hg : g < 108) (hc : c < 108) (hne : c ≠ g) (tpos : 0 ≤ t) (k : KA ar) (k2 : KA ar2) (ks : KS ar ar2) (e1 : ar2 1 = ar 1) (p : (1 ≤ r.toInt ∧ r.toInt < 7 ∧ 0 ≤ NX (ar 1) c r.toInt.toNat ∧ (ar2 6 g).toInt ≠ 0 ∧ TK (ar 1) c r.toInt.toNat + (ar2 5 (108 * g + (NX (ar 1) c r.toInt.toNat).toNat)).toInt = (ar2 5 (108 * g + c)).toInt) ∨ ∀ q n : Nat, 1 ≤ q → (q : Int) < 7 → NX (ar 1) c q = (n : Int) → (ar2 6 g).toInt ≠ 0 ∧ TK (ar 1) c q + (ar2 5 (108 * g + n)).toInt ≠ (ar2 5 (108 * g + c)).toInt) : 1 ≤ r.toInt ∧ r.toInt < 7 ∧ 0 ≤ NX (ar 1) c r.toInt.toNat ∧ AL ar2 g (t + TK (ar 1) c r.toInt.toNat) (NX (ar 1) c r.toInt.toNat).toNat ∧ t + TK (ar 1) c r.toInt.toNat ≤ 61 := by
  obtain ⟨ho, h2⟩ := h
  have near : (ar2 6 g).toInt ≠ 0 → (ar2 5 (108 * g + c)).toInt + t ≤ 61 := fun z => by
    rcases h2 with ⟨a, b⟩ | ⟨a, b⟩
    · have h3 := k2 g hg z
      rw [e1] at h3
      have h4 := b.2.2 _ h3
      clear b h3
      omega
    · rw [(ks g hg a).2 c hc]; exact b
  rcases p with ⟨p1, p2, p3, p4, p5⟩ | p
  · have h3 := k2 g hg p4
    rw [e1] at h3
    have h4 := near p4
    have hn := NX_ne (f := ar 1) (c := c) (q := r.toInt.toNat) (n := (NX (ar 1) c r.toInt.toNat).toNat) hc (by omega) (by omega) (by omega)
    have h5 := (h3.1 _ hn.1).1
    have h6 := (NX_nb (f := ar 1) (c := c) (q := r.toInt.toNat) (n := (NX (ar 1) c r.toInt.toNat).toNat) (by omega)).2
    clear h2 h3 hn
    refine ⟨p1, p2, p3, ⟨by rw [e1]; exact h6, Or.inr ⟨p4, by omega⟩⟩, by omega⟩
  · exfalso
    have hk : (ar2 6 g).toInt ≠ 0 := by
      rcases h2 with ⟨a, b⟩ | ⟨a, b⟩
      · rcases b.1 with z | ⟨q, m, q1, q7, z⟩
        · exact absurd z hne
        · exact (p q m q1 (by omega) z).1
      · exact (ks g hg a).1
    have h3 := k2 g hg hk
    rw [e1] at h3
    have h4 := near hk
    obtain ⟨q, n, q1, q7, n1, z1, z2⟩ := h3.act hc ho hne (by clear h2 h3; omega)
    exact (p q n q1 (by omega) z1).2 z2
