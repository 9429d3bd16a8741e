theorem ind_sw {q : Nat} {u v : Nat → Int} (h : ind q u v) : ind q v u := by
  obtain ⟨i, j, hi, hj, w⟩ := h
  exact ⟨i, j, hi, hj, fun x => w (dvd_e (Int.dvd_neg.mpr x) (by unfold pl2; grind))⟩
theorem onP_sw {q : Nat} (hq : q = 2 ∨ q = 3 ∨ q = 5) {a b z : Nat} (ha : a < q ^ 4) (hb : b < q ^ 4) (a0 : a ≠ 0) (hi : ind q (fvq q a) (fvq q b)) (h : onP q a b z) : onP q b a z := by
  have n := onP_n hq ha a0 hi h
  refine onP_i hq hb n.2.1 n.1 n.2.2 (ind_sw hi) ?_
  intro i j k h1 h2 h3
  exact dvd_e (Int.dvd_neg.mpr (onP_c hq ha a0 hi h i j k h1 h2 h3)) (by unfold dt3 pl2; grind)
theorem cal_e (rs : Nat → Nat → Nat) (q : Nat) (rp : Nat → Nat) (b : Nat) : ∀ k r, cal rs q rp b k r = true ↔ ∀ s, r ≤ s → s < r + k → btd b s = true → crx rp (rs s) q = true
  | 0, r => ⟨fun _ s a c => by omega, fun _ => rfl⟩
  | k + 1, r => by
    have e : cal rs q rp b (k + 1) r = if btd b r = true ∧ crx rp (rs r) q = false then false else cal rs q rp b k (r + 1) := rfl
    rw [e]
    by_cases w : btd b r = true ∧ crx rp (rs r) q = false
    · rw [if_pos w]
      exact ⟨fun h => absurd h (by decide), fun h => absurd ((h r (Nat.le_refl _) (by omega) w.1).symm.trans w.2) (by decide)⟩
    · rw [if_neg w, cal_e rs q rp b k (r + 1)]
      constructor
      · intro h s a c d
        by_cases z : s = r
        · rw [z] at d ⊢
          cases e : crx rp (rs r) q with
          | true => rfl
          | false => exact absurd ⟨d, e⟩ w
        · exact h s (by omega) (by omega) d
      · intro h s a c d
        exact h s (by omega) (by omega) d
theorem btd_t (b r : Nat) : btd b r = b.testBit r := by
  unfold btd
  rw [Nat.testBit_eq_decide_div_mod_eq]
theorem rwS_t (q a b w r : Nat) : ∀ n i (R : Nat → Nat) x, (rwS q a b (2 ^ w) n i R x).testBit r = true ↔ (R x).testBit r = true ∨ (w = r ∧ ∃ j, i ≤ j ∧ j < i + n ∧ onl q a b j = x)
  | 0, i, R, x => ⟨fun h => Or.inl h, fun h => h.resolve_right (fun ⟨_, j, h1, h2, _⟩ => by omega)⟩
  | n + 1, i, R, x => by
    rw [rwS_s, rwS_t q a b w r n (i + 1)]
    have k : (if x = onl q a b i then R x ||| 2 ^ w else R x).testBit r = true ↔ (R x).testBit r = true ∨ (w = r ∧ onl q a b i = x) := by
      by_cases z : x = onl q a b i
      · rw [if_pos z, Nat.testBit_or, Bool.or_eq_true, Nat.testBit_two_pow, decide_eq_true_iff]
        exact ⟨fun h => h.elim Or.inl (fun h => Or.inr ⟨h, z.symm⟩), fun h => h.elim Or.inl (fun h => Or.inr h.1)⟩
      · rw [if_neg z]
        exact ⟨Or.inl, fun h => h.resolve_right (fun y => z y.2.symm)⟩
    rw [k]
    constructor
    · rintro ((h | ⟨h, h2⟩) | ⟨h, j, h1, h2, h3⟩)
      · exact Or.inl h
      · exact Or.inr ⟨h, i, Nat.le_refl _, by omega, h2⟩
      · exact Or.inr ⟨h, j, by omega, by omega, h3⟩
    · rintro (h | ⟨h, j, h1, h2, h3⟩)
      · exact Or.inl (Or.inl h)
      · by_cases z : j = i
        · exact Or.inl (Or.inr ⟨h, by rw [← z]; exact h3⟩)
        · exact Or.inr ⟨h, j, by omega, by omega, h3⟩
theorem rdL_t (q : Nat) (ra rb : Nat → Nat) (b t : Nat) : ∀ n r (R : Nat → Nat) x, (rdL q ra rb b n r R x).testBit t = true ↔ (R x).testBit t = true ∨ (r ≤ t ∧ t < r + n ∧ btd b t = true ∧ onP q (ra t) (rb t) x)
  | 0, r, R, x => ⟨fun h => Or.inl h, fun h => h.resolve_right (fun ⟨h1, h2, _⟩ => by omega)⟩
  | n + 1, r, R, x => by
    rw [rdL_s, rdL_t q ra rb b t n (r + 1)]
    have k : ((if b / 2 ^ r % 2 = 1 then rwS q (ra r) (rb r) (2 ^ r) (q + 1) 0 R else R) x).testBit t = true ↔ (R x).testBit t = true ∨ (r = t ∧ btd b r = true ∧ onP q (ra r) (rb r) x) := by
      unfold btd
      rw [decide_eq_true_iff]
      by_cases w : b / 2 ^ r % 2 = 1
      · rw [if_pos w, rwS_t]
        constructor
        · rintro (h | ⟨h, j, h1, h2, h3⟩)
          · exact Or.inl h
          · exact Or.inr ⟨h, w, j, by omega, h3⟩
        · rintro (h | ⟨h, _, j, h2, h3⟩)
          · exact Or.inl h
          · exact Or.inr ⟨h, j, by omega, by omega, h3⟩
      · rw [if_neg w]
        exact ⟨Or.inl, fun h => h.resolve_right (fun y => w y.2.1)⟩
    rw [k]
    constructor
    · rintro ((h | ⟨h, h2⟩) | ⟨h1, h2, h3⟩)
      · exact Or.inl h
      · subst h
        exact Or.inr ⟨Nat.le_refl _, by omega, h2⟩
      · exact Or.inr ⟨by omega, by omega, h3⟩
    · rintro (h | ⟨h1, h2, h3⟩)
      · exact Or.inl (Or.inl h)
      · by_cases z : r = t
        · subst z
          exact Or.inl (Or.inr ⟨rfl, h3⟩)
        · exact Or.inr ⟨by omega, by omega, h3⟩
theorem rdq_t (q : Nat) (ra rb : Nat → Nat) (b t x : Nat) : (rdq q ra rb b x).testBit t = true ↔ t < 8 ∧ btd b t = true ∧ onP q (ra t) (rb t) x := by
  unfold rdq
  rw [rdL_t]
  constructor
  · rintro (h | ⟨_, h2, h3⟩)
    · exact absurd (show (0 : Nat).testBit t = true from h) (by rw [Nat.zero_testBit]; decide)
    · exact ⟨by omega, h3⟩
  · rintro ⟨h2, h3⟩
    exact Or.inr ⟨Nat.zero_le _, by omega, h3⟩
theorem mtq_t (q a b : Nat) (R : Nat → Nat) (t : Nat) : ∀ n i m, (mtq q a b R n i m).testBit t = true ↔ m.testBit t = true ∨ ∃ j, i ≤ j ∧ j < i + n ∧ (R (onl q a b j)).testBit t = true
  | 0, i, m => ⟨fun h => Or.inl h, fun h => h.resolve_right (fun ⟨j, h1, h2, _⟩ => by omega)⟩
  | n + 1, i, m => by
    rw [mtq_s, mtq_t q a b R t n (i + 1), Nat.testBit_or, Bool.or_eq_true]
    constructor
    · rintro ((h | h) | ⟨j, h1, h2, h3⟩)
      · exact Or.inl h
      · exact Or.inr ⟨i, Nat.le_refl _, by omega, h⟩
      · exact Or.inr ⟨j, by omega, by omega, h3⟩
    · rintro (h | ⟨j, h1, h2, h3⟩)
      · exact Or.inl (Or.inl h)
      · by_cases z : j = i
        · rw [z] at h3
          exact Or.inl (Or.inr h3)
        · exact Or.inr ⟨j, by omega, by omega, h3⟩
/-- each told rod is met -/
theorem mtq_q (q : Nat) (ra rb : Nat → Nat) {b : Nat} (hb : b < 256) (a x : Nat) : mtq q a x (rdq q ra rb b) (q + 1) 0 0 &&& b = b ↔ ∀ t, t < 8 → btd b t = true → ∃ z, onP q a x z ∧ onP q (ra t) (rb t) z := by
  have k : ∀ t, (mtq q a x (rdq q ra rb b) (q + 1) 0 0).testBit t = true ↔ t < 8 ∧ btd b t = true ∧ ∃ z, onP q a x z ∧ onP q (ra t) (rb t) z := by
    intro t
    rw [mtq_t]
    constructor
    · rintro (h | ⟨j, _, h2, h3⟩)
      · exact absurd h (by rw [Nat.zero_testBit]; decide)
      · obtain ⟨w1, w2, w3⟩ := (rdq_t q ra rb b t _).mp h3
        exact ⟨w1, w2, _, ⟨j, by omega, rfl⟩, w3⟩
    · rintro ⟨w1, w2, z, ⟨j, h1, h2⟩, h3⟩
      exact Or.inr ⟨j, Nat.zero_le _, by omega, (rdq_t q ra rb b t _).mpr ⟨w1, w2, by rw [h2]; exact h3⟩⟩
  constructor
  · intro h t ht hbt
    have e : (mtq q a x (rdq q ra rb b) (q + 1) 0 0 &&& b).testBit t = true := by rw [h, ← btd_t]; exact hbt
    rw [Nat.testBit_and, Bool.and_eq_true] at e
    exact ((k t).mp e.1).2.2
  · intro h
    refine Nat.eq_of_testBit_eq (fun t => ?_)
    rw [Nat.testBit_and]
    cases e : b.testBit t with
    | false => rw [Bool.and_false]
    | true =>
      rw [Bool.and_true]
      have ht : t < 8 := by
        apply Classical.byContradiction
        intro w
        have := Nat.testBit_lt_two_pow (Nat.lt_of_lt_of_le hb (Nat.pow_le_pow_right (n := 2) (by decide) (show 8 ≤ t by omega)))
        exact absurd (this.symm.trans e) (by decide)
      have hbt : btd b t = true := by rw [btd_t]; exact e
      exact (k t).mpr ⟨ht, hbt, h t ht hbt⟩
