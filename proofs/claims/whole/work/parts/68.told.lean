/-- a point told as four figures, and its place in the list -/
def vpt (q a x : Nat) : Prop := x < q ^ 4 ∧ x ≠ 0 ∧ ∀ k, k < 4 → fgq q x k = pfg a k
theorem pqo_t {q : Nat} (hq : q = 2 ∨ q = 3 ∨ q = 5) (p : Int) : (isPt q p = true ∧ ∃ x : Nat, pqo q p = (x : Int) ∧ vpt q p.toNat x) ∨ (isPt q p = false ∧ pqo q p = -1) := by
  by_cases hp : 1 ≤ p ∧ p ≤ 9999
  · obtain ⟨n, rfl⟩ : ∃ n : Nat, p = (n : Int) := ⟨p.toNat, by omega⟩
    have hn : 1 ≤ n ∧ n ≤ 9999 := by omega
    have e1 : isPt q (n : Int) = ptl q n 4 0 := by
      unfold isPt
      rw [decide_eq_true (by omega), Bool.true_and, Int.toNat_natCast]
    have e2 : pqo q (n : Int) = pqf q n 4 1000 0 := by
      unfold pqo
      rw [if_pos hp, Int.toNat_natCast]
    have e3 : ptl q n 4 0 = if n / 1000 % 10 < q then (if n / 100 % 10 < q then (if n / 10 % 10 < q then (if n / 1 % 10 < q then true else false) else false) else false) else false := rfl
    have e4 : pqf q n 4 1000 0 = if n / 1000 % 10 < q then (if n / 100 % 10 < q then (if n / 10 % 10 < q then (if n / 1 % 10 < q then ((q * (q * (q * (q * 0 + n / 1000 % 10) + n / 100 % 10) + n / 10 % 10) + n / 1 % 10 : Nat) : Int) else -1) else -1) else -1) else -1 := rfl
    rw [e1, e2, e3, e4]
    by_cases h0 : n / 1000 % 10 < q
    · by_cases h1 : n / 100 % 10 < q
      · by_cases h2 : n / 10 % 10 < q
        · by_cases h3 : n / 1 % 10 < q
          · left
            rw [if_pos h0, if_pos h1, if_pos h2, if_pos h3, if_pos h0, if_pos h1, if_pos h2, if_pos h3]
            refine ⟨rfl, _, rfl, ?_⟩
            rw [Int.toNat_natCast]
            have w : n / 1000 % 10 ≠ 0 ∨ n / 100 % 10 ≠ 0 ∨ n / 10 % 10 ≠ 0 ∨ n / 1 % 10 ≠ 0 := by omega
            have p0 : pfg n 0 = n / 1000 % 10 := rfl
            have p1 : pfg n 1 = n / 100 % 10 := rfl
            have p2 : pfg n 2 = n / 10 % 10 := rfl
            have p3 : pfg n 3 = n / 1 % 10 := rfl
            generalize n / 1000 % 10 = d0 at *
            generalize n / 100 % 10 = d1 at *
            generalize n / 10 % 10 = d2 at *
            generalize n / 1 % 10 = d3 at *
            refine ⟨?_, ?_, fun k hk => ?_⟩
            · rcases hq with rfl | rfl | rfl
              · show _ < 16; omega
              · show _ < 81; omega
              · show _ < 625; omega
            · rcases hq with rfl | rfl | rfl <;> omega
            · have hh : k = 0 ∨ k = 1 ∨ k = 2 ∨ k = 3 := by omega
              rcases hh with rfl | rfl | rfl | rfl
              · rw [p0]; unfold fgq
                rcases hq with rfl | rfl | rfl <;> (simp only [Nat.reducePow, Nat.reduceSub]; omega)
              · rw [p1]; unfold fgq
                rcases hq with rfl | rfl | rfl <;> (simp only [Nat.reducePow, Nat.reduceSub]; omega)
              · rw [p2]; unfold fgq
                rcases hq with rfl | rfl | rfl <;> (simp only [Nat.reducePow, Nat.reduceSub]; omega)
              · rw [p3]; unfold fgq
                rcases hq with rfl | rfl | rfl <;> (simp only [Nat.reducePow, Nat.reduceSub]; omega)
          · right
            rw [if_pos h0, if_pos h1, if_pos h2, if_neg h3, if_pos h0, if_pos h1, if_pos h2, if_neg h3]
            exact ⟨rfl, rfl⟩
        · right
          rw [if_pos h0, if_pos h1, if_neg h2, if_pos h0, if_pos h1, if_neg h2]
          exact ⟨rfl, rfl⟩
      · right
        rw [if_pos h0, if_neg h1, if_pos h0, if_neg h1]
        exact ⟨rfl, rfl⟩
    · right
      rw [if_neg h0, if_neg h0]
      exact ⟨rfl, rfl⟩
  · right
    unfold isPt pqo
    rw [if_neg hp, decide_eq_false (by omega)]
    exact ⟨rfl, rfl⟩
theorem plz_e {q a b x y : Nat} (ha : vpt q a x) (hb : vpt q b y) {i j : Nat} (hi : i < 4) (hj : j < 4) : plz a b i j = pl2 (fvq q x) (fvq q y) i j := by
  unfold plz pl2 fvq
  rw [ha.2.2 i hi, ha.2.2 j hj, hb.2.2 i hi, hb.2.2 j hj, Int.natCast_mul, Int.natCast_mul]
theorem pli_b : ∀ j, j < 6 → pli j < 4 ∧ plj j < 4 := by decide
theorem plk_d {q a b x y : Nat} (h : 0 < q) (ha : vpt q a x) (hb : vpt q b y) {j : Nat} (hj : j < 6) : (q : Int) ∣ (plk a b q j : Int) - pl2 (fvq q x) (fvq q y) (pli j) (plj j) := by
  have w := pli_b j hj
  rw [← plz_e ha hb w.1 w.2]
  exact md_d h _
theorem plk_lt {q : Nat} (h : 0 < q) (a b : Nat) : ∀ j, j < 6 → plk a b q j < q := fun _ _ => md_lt _ h
theorem pl2_a (u v : Nat → Int) (i j : Nat) : pl2 u v j i = - pl2 u v i j := by unfold pl2; grind
theorem pl2_z (u v : Nat → Int) (i : Nat) : pl2 u v i i = 0 := by unfold pl2; grind
/-- six of them tell all -/
theorem pl2_6 {P : Nat → Nat → Prop} (hz : ∀ i, P i i) (ha : ∀ i j, P i j → P j i) (h : ∀ j, j < 6 → P (pli j) (plj j)) : ∀ i j, i < 4 → j < 4 → P i j := by
  have srt : ∀ i j, i < j → j < 4 → P i j := by
    intro i j a b
    have hh : (i = 0 ∧ j = 1) ∨ (i = 0 ∧ j = 2) ∨ (i = 0 ∧ j = 3) ∨ (i = 1 ∧ j = 2) ∨ (i = 1 ∧ j = 3) ∨ (i = 2 ∧ j = 3) := by omega
    rcases hh with ⟨rfl, rfl⟩ | ⟨rfl, rfl⟩ | ⟨rfl, rfl⟩ | ⟨rfl, rfl⟩ | ⟨rfl, rfl⟩ | ⟨rfl, rfl⟩
    · exact h 0 (by decide)
    · exact h 1 (by decide)
    · exact h 2 (by decide)
    · exact h 3 (by decide)
    · exact h 4 (by decide)
    · exact h 5 (by decide)
  intro i j hi hj
  by_cases e : i = j
  · rw [e]; exact hz j
  by_cases w : i < j
  · exact srt i j w hj
  · exact ha _ _ (srt j i (by omega) hi)
theorem plk_0 {q a b x y : Nat} (hq : q = 2 ∨ q = 3 ∨ q = 5) (ha : vpt q a x) (hb : vpt q b y) : ldf (plk a b q) ≠ 0 ↔ evq q x ≠ evq q y := by
  have h0 : 0 < q := by omega
  have key : ldf (plk a b q) = 0 ↔ ¬ ind q (fvq q x) (fvq q y) := by
    rw [ldf_0]
    constructor
    · rintro h ⟨i, j, hi, hj, w⟩
      refine w (pl2_6 (P := fun i j => (q : Int) ∣ pl2 (fvq q x) (fvq q y) i j) (fun i => by rw [pl2_z]; exact Int.dvd_zero _) (fun i j e => by rw [pl2_a]; exact Int.dvd_neg.mpr e) (fun j hj => ?_) i j hi hj)
      have e := plk_d h0 ha hb hj
      rw [h j hj] at e
      exact dvd_e (Int.dvd_neg.mpr e) (by grind)
    · intro h j hj
      have w := pli_b j hj
      have e := plk_d h0 ha hb hj
      refine sml_e (plk_lt h0 a b j hj) h0 ?_
      apply Classical.byContradiction
      intro z
      refine h ⟨pli j, plj j, w.1, w.2, fun z2 => z ?_⟩
      obtain ⟨m, hm⟩ := e
      obtain ⟨n, hn⟩ := z2
      exact ⟨m + n, by grind⟩
  constructor
  · intro h e
    refine h (key.mpr (fun w => ?_))
    obtain ⟨c, hc, h1⟩ := evq_f hq ha.1 ha.2.1
    obtain ⟨d, hd, h2⟩ := evq_f hq hb.1 hb.2.1
    obtain ⟨d2, n, hd2⟩ := inv_q hq hd
    refine ind_n w (c := d2 * c) (fun k hk => ?_)
    obtain ⟨m1, g1⟩ := h1 k hk
    obtain ⟨m2, g2⟩ := h2 k hk
    rw [e] at g1
    exact ⟨d2 * m1 - d2 * m2 - n * fvq q y k, by grind⟩
  · intro h e
    exact key.mp e (ind_i hq ha.1 hb.1 ha.2.1 hb.2.1 h)
