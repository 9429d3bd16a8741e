theorem mkS_i (q a b : Nat) : ∀ n i (S : Nat → Bool) x, mkS q a b n i S x = true ↔ S x = true ∨ ∃ j, i ≤ j ∧ j < i + n ∧ onl q a b j = x
  | 0, i, S, x => ⟨fun h => Or.inl h, fun h => h.resolve_right (fun ⟨j, h1, h2, _⟩ => by omega)⟩
  | n + 1, i, S, x => by
    rw [mkS_s, mkS_i q a b n (i + 1), Bool.or_eq_true]
    constructor
    · rintro ((h | h) | ⟨j, h1, h2, h3⟩)
      · exact Or.inr ⟨i, Nat.le_refl _, by omega, (of_decide_eq_true h).symm⟩
      · exact Or.inl h
      · exact Or.inr ⟨j, by omega, by omega, h3⟩
    · rintro (h | ⟨j, h1, h2, h3⟩)
      · exact Or.inl (Or.inr h)
      · by_cases z : j = i
        · exact Or.inl (Or.inl (decide_eq_true (by rw [← h3, z])))
        · exact Or.inr ⟨j, by omega, by omega, h3⟩
theorem mkS_p (q a b x : Nat) : mkS q a b (q + 1) 0 noS x = true ↔ onP q a b x := by
  rw [mkS_i]
  constructor
  · rintro (h | ⟨j, _, h2, h3⟩)
    · exact absurd (show false = true from h) (by decide)
    · exact ⟨j, by omega, h3⟩
  · rintro ⟨j, h2, h3⟩
    exact Or.inr ⟨j, by omega, by omega, h3⟩
theorem cnb_a (S1 S2 : Nat → Bool) : ∀ n x c, cnb S1 S2 n x c = c + cnb S1 S2 n x 0
  | 0, _, c => (Nat.add_zero c).symm
  | n + 1, x, c => by
    rw [cnb_s, cnb_s, cnb_a S1 S2 n (x + 1) (c + _), cnb_a S1 S2 n (x + 1) (0 + _)]
    omega
/-- there is one in both -/
theorem cnb_0 (S1 S2 : Nat → Bool) : ∀ n x, 0 < cnb S1 S2 n x 0 ↔ ∃ z, x ≤ z ∧ z < x + n ∧ S1 z = true ∧ S2 z = true
  | 0, x => ⟨fun h => absurd h (Nat.lt_irrefl 0), fun ⟨z, h1, h2, _⟩ => by omega⟩
  | n + 1, x => by
    rw [cnb_s, cnb_a, Nat.zero_add]
    have ih := cnb_0 S1 S2 n (x + 1)
    by_cases h : (S1 x && S2 x) = true
    · rw [if_pos h]
      rw [Bool.and_eq_true] at h
      exact ⟨fun _ => ⟨x, Nat.le_refl _, by omega, h.1, h.2⟩, fun _ => by omega⟩
    · rw [if_neg h, Nat.zero_add, ih]
      constructor
      · rintro ⟨z, h1, h2, h3⟩
        exact ⟨z, by omega, by omega, h3⟩
      · rintro ⟨z, h1, h2, h3⟩
        by_cases w : z = x
        · rw [w] at h3
          exact absurd (Bool.and_eq_true_iff.mpr h3) h
        · exact ⟨z, by omega, by omega, h3⟩
/-- all of the second are in the first -/
theorem cnb_e (S1 S2 : Nat → Bool) : ∀ n x, cnb S1 S2 n x 0 ≤ cnb S2 S2 n x 0 ∧ (cnb S1 S2 n x 0 = cnb S2 S2 n x 0 ↔ ∀ z, x ≤ z → z < x + n → S2 z = true → S1 z = true)
  | 0, x => ⟨Nat.le_refl _, fun _ z h1 h2 => by omega, fun _ => rfl⟩
  | n + 1, x => by
    rw [cnb_s, cnb_a, cnb_s S2 S2, cnb_a S2 S2]
    have ih := cnb_e S1 S2 n (x + 1)
    by_cases h2 : S2 x = true
    · by_cases h1 : S1 x = true
      · rw [h1, h2]
        refine ⟨by have := ih.1; simp; omega, ?_, ?_⟩
        · intro w z a b c
          by_cases e : z = x
          · rw [e]; exact h1
          · exact ih.2.mp (by omega) z (by omega) (by omega) c
        · intro w
          have := ih.2.mpr (fun z a b c => w z (by omega) (by omega) c)
          omega
      · have h1f : S1 x = false := by cases e : S1 x with | true => exact absurd e h1 | false => rfl
        rw [h1f, h2]
        have i1 := ih.1
        refine ⟨by simp; omega, ?_, ?_⟩
        · intro w
          simp at w
          omega
        · intro w
          exact absurd (w x (Nat.le_refl _) (by omega) h2) h1
    · have h2f : S2 x = false := by cases e : S2 x with | true => exact absurd e h2 | false => rfl
      rw [h2f, Bool.and_false, Bool.and_false]
      refine ⟨by have := ih.1; omega, ?_, ?_⟩
      · intro w z a b c
        by_cases e : z = x
        · rw [e] at c; exact absurd c h2
        · exact ih.2.mp (by omega) z (by omega) (by omega) c
      · intro w
        have := ih.2.mpr (fun z a b c => w z (by omega) (by omega) c)
        omega
theorem cnb_in (S : Nat → Bool) (y : Nat) (hy : S y = false) : ∀ n x, cnb (fun z => decide (z = y) || S z) (fun z => decide (z = y) || S z) n x 0 = cnb S S n x 0 + if x ≤ y ∧ y < x + n then 1 else 0
  | 0, x => by rw [if_neg (by omega)]; rfl
  | n + 1, x => by
    rw [cnb_s, cnb_a, cnb_s S S, cnb_a S S, cnb_in S y hy n (x + 1)]
    by_cases e : x = y
    · rw [e, hy, if_neg (show ¬ (y + 1 ≤ y ∧ y < y + 1 + n) by omega), if_pos (show y ≤ y ∧ y < y + (n + 1) by omega)]
      simp
      omega
    · rw [decide_eq_false e, Bool.false_or]
      by_cases w : x + 1 ≤ y ∧ y < x + 1 + n
      · rw [if_pos w, if_pos (show x ≤ y ∧ y < x + (n + 1) by omega)]
        omega
      · rw [if_neg w, if_neg (show ¬ (x ≤ y ∧ y < x + (n + 1)) by omega)]
        omega
theorem cnb_id (S S2 : Nat → Bool) (h : ∀ z, S z = S2 z) : S = S2 := funext h
/-- how many are marked anew: all that are marked in the end, less the first -/
theorem mkn_c (q a b : Nat) (hl : ∀ i, onl q a b i < 625) : ∀ n i (S : Nat → Bool) c, mkn q a b n i S c + cnb S S 625 0 0 = c + cnb (mkS q a b n i S) (mkS q a b n i S) 625 0 0
  | 0, _, _, _ => rfl
  | n + 1, i, S, c => by
    rw [mkn_s, mkS_s]
    have ih := mkn_c q a b hl n (i + 1) (fun x => decide (x = onl q a b i) || S x) (c + if S (onl q a b i) = true then 0 else 1)
    by_cases h : S (onl q a b i) = true
    · have e : (fun x => decide (x = onl q a b i) || S x) = S := funext (fun x => by
        by_cases z : x = onl q a b i
        · rw [z, h, Bool.or_true]
        · rw [decide_eq_false z, Bool.false_or])
      rw [e, if_pos h] at ih ⊢
      omega
    · have hf : S (onl q a b i) = false := by cases e : S (onl q a b i) with | true => exact absurd e h | false => rfl
      have e := cnb_in S (onl q a b i) hf 625 0
      rw [if_pos (show 0 ≤ onl q a b i ∧ onl q a b i < 0 + 625 from ⟨Nat.zero_le _, by have := hl i; omega⟩)] at e
      rw [if_neg h] at ih ⊢
      omega
theorem cnb_n (n x : Nat) : cnb noS noS n x 0 = 0 := by
  apply Classical.byContradiction
  intro w
  obtain ⟨z, _, _, h, _⟩ := (cnb_0 noS noS n x).mp (by omega)
  exact absurd (show false = true from h) (by decide)
theorem mtv_q {q : Nat} (hq : q = 2 ∨ q = 3 ∨ q = 5) {r r2 : Nat → Nat} {e f g h : Nat} (h1 : rdl q r e f) (h2 : rdl q r2 g h) : mtv q e f g h = if lke r r2 = true then 2 else if crx r r2 q = true then 1 else 0 := by
  have h0 : 0 < q := by omega
  have h625 := q4_le hq
  have hl : ∀ i, onl q g h i < 625 := fun i => by have := onl_lt h0 (a := g) (b := h) (i := i) h2.1.1; omega
  have hm := mkn_c q g h hl (q + 1) 0 noS 0
  rw [cnb_n] at hm
  have k1 := cnb_e (mkS q e f (q + 1) 0 noS) (mkS q g h (q + 1) 0 noS) 625 0
  have k2 := cnb_0 (mkS q e f (q + 1) 0 noS) (mkS q g h (q + 1) 0 noS) 625 0
  have e1 : cnb (mkS q e f (q + 1) 0 noS) (mkS q g h (q + 1) 0 noS) 625 0 0 = mkn q g h (q + 1) 0 noS 0 ↔ lke r r2 = true := by
    rw [lke_q hq h1 h2, show mkn q g h (q + 1) 0 noS 0 = cnb (mkS q g h (q + 1) 0 noS) (mkS q g h (q + 1) 0 noS) 625 0 0 by omega, k1.2]
    constructor
    · intro w z hz
      have hz2 := hz
      obtain ⟨i, _, hi⟩ := hz
      exact (mkS_p q e f z).mp (w z (Nat.zero_le _) (by have := hl i; omega) ((mkS_p q g h z).mpr hz2))
    · intro w z _ _ hz
      exact (mkS_p q e f z).mpr (w z ((mkS_p q g h z).mp hz))
  have e2 : 0 < cnb (mkS q e f (q + 1) 0 noS) (mkS q g h (q + 1) 0 noS) 625 0 0 ↔ crx r r2 q = true := by
    rw [crx_q hq h1 h2, k2]
    constructor
    · rintro ⟨z, _, _, a, b⟩
      exact ⟨z, (mkS_p q e f z).mp a, (mkS_p q g h z).mp b⟩
    · rintro ⟨z, a, b⟩
      have b2 := b
      obtain ⟨i, _, hi⟩ := b
      exact ⟨z, Nat.zero_le _, by have := hl i; omega, (mkS_p q e f z).mpr a, (mkS_p q g h z).mpr b2⟩
  unfold mtv
  by_cases w : lke r r2 = true
  · rw [if_pos w, if_pos (e1.mpr w)]
  · rw [if_neg w, if_neg (fun x => w (e1.mp x))]
    by_cases w2 : crx r r2 q = true
    · rw [if_pos w2, if_pos (e2.mpr w2)]
    · rw [if_neg w2, if_neg (fun x => w2 (e2.mp x))]
