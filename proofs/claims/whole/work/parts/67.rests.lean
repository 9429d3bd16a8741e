theorem md_d {q : Nat} (h : 0 < q) (v : Int) : (q : Int) ∣ (md v q : Int) - v := by
  unfold md
  rw [Int.toNat_of_nonneg (Int.emod_nonneg _ (by omega))]
  have := Int.emod_add_mul_ediv v q
  exact ⟨-(v / q), by rw [Int.mul_neg]; omega⟩
theorem md_z {q : Nat} (h : 0 < q) (v : Int) : md v q = 0 ↔ (q : Int) ∣ v := by
  unfold md
  have h1 := Int.emod_nonneg v (show (q : Int) ≠ 0 by omega)
  constructor
  · intro w
    exact Int.dvd_of_emod_eq_zero (by omega)
  · intro w
    rw [Int.emod_eq_zero_of_dvd w]
    rfl
/-- two small numbers that differ by a multiple -/
theorem sml_e {q a b : Nat} (ha : a < q) (hb : b < q) (h : (q : Int) ∣ (a : Int) - b) : a = b := by
  obtain ⟨m, hm⟩ := h
  have h0 : m = 0 := by
    apply Classical.byContradiction
    intro w
    have w2 : 1 ≤ m ∨ m ≤ -1 := by omega
    rcases w2 with w2 | w2
    · have := Int.mul_le_mul_of_nonneg_left w2 (show (0 : Int) ≤ q by omega)
      omega
    · have := Int.mul_le_mul_of_nonneg_left w2 (show (0 : Int) ≤ q by omega)
      omega
  rw [h0, Int.mul_zero] at hm
  omega
theorem ldl_w (r : Nat → Nat) : ∀ k a, ldl r k a 0 = 0 → ∀ j, a ≤ j → j + 1 < a + k → r j = 0
  | 0, a, _, j, h1, h2 => by omega
  | k + 1, a, h, j, h1, h2 => by
    have e : ldl r (k + 1) a 0 = ldl r k (a + 1) (r a) := rfl
    rw [e] at h
    by_cases z : r a = 0
    · rw [z] at h
      by_cases w : j = a
      · rw [w, z]
      · exact ldl_w r k (a + 1) h j (by omega) (by omega)
    · cases k with
      | zero => omega
      | succ k =>
        have e2 : ldl r (k + 1) (a + 1) (r a) = r a := if_neg z
        rw [e2] at h
        exact absurd h z
theorem ldf_e (r : Nat → Nat) : ldf r = if r 0 ≠ 0 then r 0 else if r 1 ≠ 0 then r 1 else if r 2 ≠ 0 then r 2 else if r 3 ≠ 0 then r 3 else if r 4 ≠ 0 then r 4 else r 5 := by
  unfold ldf
  simp only [ldl]
  by_cases h0 : r 0 = 0 <;> by_cases h1 : r 1 = 0 <;> by_cases h2 : r 2 = 0 <;> by_cases h3 : r 3 = 0 <;> by_cases h4 : r 4 = 0 <;> simp [h0, h1, h2, h3, h4]
theorem ldf_0 (r : Nat → Nat) : ldf r = 0 ↔ ∀ j, j < 6 → r j = 0 := by
  rw [ldf_e]
  constructor
  · intro h
    have e : r 0 = 0 ∧ r 1 = 0 ∧ r 2 = 0 ∧ r 3 = 0 ∧ r 4 = 0 ∧ r 5 = 0 := by
      refine ⟨?_, ?_, ?_, ?_, ?_, ?_⟩ <;> (apply Classical.byContradiction; intro w; (repeat' split at h) <;> omega)
    intro j hj
    have hh : j = 0 ∨ j = 1 ∨ j = 2 ∨ j = 3 ∨ j = 4 ∨ j = 5 := by omega
    rcases hh with rfl | rfl | rfl | rfl | rfl | rfl
    · exact e.1
    · exact e.2.1
    · exact e.2.2.1
    · exact e.2.2.2.1
    · exact e.2.2.2.2.1
    · exact e.2.2.2.2.2
  · intro h
    simp [h 0, h 1, h 2, h 3, h 4, h 5]
theorem ldf_l (r : Nat → Nat) (_h : ldf r ≠ 0) : ∃ L, L < 6 ∧ ldf r = r L ∧ ∀ j, j < L → r j = 0 := by
  clear _h
  rw [ldf_e]
  by_cases h0 : r 0 = 0
  · by_cases h1 : r 1 = 0
    · by_cases h2 : r 2 = 0
      · by_cases h3 : r 3 = 0
        · by_cases h4 : r 4 = 0
          · refine ⟨5, by decide, by simp [h0, h1, h2, h3, h4], fun j hj => ?_⟩
            have hh : j = 0 ∨ j = 1 ∨ j = 2 ∨ j = 3 ∨ j = 4 := by omega
            rcases hh with rfl | rfl | rfl | rfl | rfl <;> assumption
          · refine ⟨4, by decide, by simp [h0, h1, h2, h3, h4], fun j hj => ?_⟩
            have hh : j = 0 ∨ j = 1 ∨ j = 2 ∨ j = 3 := by omega
            rcases hh with rfl | rfl | rfl | rfl <;> assumption
        · refine ⟨3, by decide, by simp [h0, h1, h2, h3], fun j hj => ?_⟩
          have hh : j = 0 ∨ j = 1 ∨ j = 2 := by omega
          rcases hh with rfl | rfl | rfl <;> assumption
      · refine ⟨2, by decide, by simp [h0, h1, h2], fun j hj => ?_⟩
        have hh : j = 0 ∨ j = 1 := by omega
        rcases hh with rfl | rfl <;> assumption
    · refine ⟨1, by decide, by simp [h0, h1], fun j hj => ?_⟩
      have hh : j = 0 := by omega
      rw [hh]; exact h0
  · exact ⟨0, by decide, by simp [h0], fun j hj => by omega⟩
theorem fc_k : (List.range' 1 1).all (fun l => fc 2 l * l % 2 == 1) = true ∧ (List.range' 1 2).all (fun l => fc 3 l * l % 3 == 1) = true ∧ (List.range' 1 4).all (fun l => fc 5 l * l % 5 == 1) = true := by decide +kernel
theorem fc_1 {q l : Nat} (hq : q = 2 ∨ q = 3 ∨ q = 5) (h1 : l ≠ 0) (h2 : l < q) : (q : Int) ∣ (l : Int) * fc q l - 1 := by
  have k := fc_k
  have e : fc q l * l % q = 1 := by
    rcases hq with rfl | rfl | rfl
    · exact beq_iff_eq.mp (List.all_eq_true.mp k.1 l (List.mem_range'_1.mpr ⟨by omega, by omega⟩))
    · exact beq_iff_eq.mp (List.all_eq_true.mp k.2.1 l (List.mem_range'_1.mpr ⟨by omega, by omega⟩))
    · exact beq_iff_eq.mp (List.all_eq_true.mp k.2.2 l (List.mem_range'_1.mpr ⟨by omega, by omega⟩))
  have d := Nat.mod_add_div (fc q l * l) q
  rw [e] at d
  refine ⟨((fc q l * l / q : Nat) : Int), ?_⟩
  have d2 : ((1 + q * (fc q l * l / q) : Nat) : Int) = ((fc q l * l : Nat) : Int) := congrArg (fun x : Nat => (x : Int)) d
  rw [Int.natCast_add, Int.natCast_mul, Int.natCast_mul] at d2
  rw [Int.mul_comm (l : Int)]
  omega
/-- the row with a first 1 is a multiple -/
theorem lnr_m {q : Nat} (hq : q = 2 ∨ q = 3 ∨ q = 5) {r : Nat → Nat} (hr : ∀ j, j < 6 → r j < q) (h : ldf r ≠ 0) : ∃ f L : Nat, ¬ (q : Int) ∣ f ∧ L < 6 ∧ ¬ (q : Int) ∣ r L ∧ (∀ j, j < L → r j = 0) ∧ (q : Int) ∣ (r L : Int) * f - 1 ∧ ∀ j, (q : Int) ∣ (lnr q r j : Int) - r j * f := by
  obtain ⟨L, h1, h2, h3⟩ := ldf_l r h
  have e := fc_1 hq h (by rw [h2]; exact hr L h1)
  rw [h2] at e
  refine ⟨fc q (r L), L, ?_, h1, ?_, h3, e, fun j => ?_⟩
  · rintro ⟨m, hm⟩
    rw [hm] at e
    obtain ⟨n, hn⟩ := e
    exact one_n hq ⟨r L * m - n, by grind⟩
  · rintro ⟨m, hm⟩
    rw [hm] at e
    obtain ⟨n, hn⟩ := e
    exact one_n hq ⟨m * fc q (r L) - n, by grind⟩
  · unfold lnr
    rw [if_neg h]
    unfold nrm
    rw [h2]
    have := md_d (q := q) (by omega) ((r j * fc q (r L) : Nat) : Int)
    rw [Int.natCast_mul] at this ⊢
    exact this
theorem lnr_lt {q : Nat} (h : 0 < q) {r : Nat → Nat} (hr : ∀ j, j < 6 → r j < q) {j : Nat} (hj : j < 6) : lnr q r j < q := by
  unfold lnr
  split
  · exact hr j hj
  · exact md_lt _ h
theorem lnr_eq {q : Nat} (hq : q = 2 ∨ q = 3 ∨ q = 5) {r r2 : Nat → Nat} (hr : ∀ j, j < 6 → r j < q) (hr2 : ∀ j, j < 6 → r2 j < q) (h : ldf r ≠ 0) (h2 : ldf r2 ≠ 0) : (∀ j, j < 6 → lnr q r j = lnr q r2 j) ↔ ∃ x : Int, ¬ (q : Int) ∣ x ∧ ∀ j, j < 6 → (q : Int) ∣ (r2 j : Int) - x * r j := by
  obtain ⟨f, L, a1, a2, a3, a4, a5, a6⟩ := lnr_m hq hr h
  obtain ⟨g, M, b1, b2, b3, b4, b5, b6⟩ := lnr_m hq hr2 h2
  constructor
  · intro w
    obtain ⟨c, n, e⟩ := inv_q hq b1
    refine ⟨f * c, ?_, fun j hj => ?_⟩
    · intro z
      have z2 := dvd_u hq z a1
      obtain ⟨m, hm⟩ := z2
      exact one_n hq ⟨g * m - n, by grind⟩
    · obtain ⟨m1, e1⟩ := a6 j
      obtain ⟨m2, e2⟩ := b6 j
      rw [w j hj] at e1
      exact ⟨c * m1 - c * m2 - r2 j * n, by grind⟩
  · rintro ⟨x, hx, w⟩ j hj
    have hLM : L = M := by
      apply Classical.byContradiction
      intro z
      have z2 : L < M ∨ M < L := by omega
      rcases z2 with z2 | z2
      · have := w L a2
        rw [b4 L z2] at this
        have t : (q : Int) ∣ x * r L := dvd_e (Int.dvd_neg.mpr this) (by grind)
        exact a3 (dvd_u hq t hx)
      · have := w M b2
        rw [a4 M z2] at this
        exact b3 (dvd_e this (by grind))
    subst hLM
    refine sml_e (lnr_lt (by omega) hr hj) (lnr_lt (by omega) hr2 hj) ?_
    obtain ⟨m1, e1⟩ := a6 j
    obtain ⟨m2, e2⟩ := b6 j
    obtain ⟨m3, e3⟩ := w j hj
    obtain ⟨m4, e4⟩ := w L a2
    obtain ⟨m5, e5⟩ := a5
    obtain ⟨m6, e6⟩ := b5
    have key : (q : Int) ∣ (r L : Int) * (f - x * g) := ⟨m5 - m6 + m4 * g, by
      clear e1 e2 e3 hr hr2 a4 a6 b4 b6 w hq a1 a3 b1 b3 hx h h2
      generalize (r L : Int) = u at *
      generalize (r2 L : Int) = v at *
      generalize (f : Int) = f at *
      generalize (g : Int) = g at *
      grind⟩
    obtain ⟨m7, e7⟩ := dvd_u hq key a3
    refine ⟨m1 - m2 - m3 * g + r j * m7, ?_⟩
    clear key e4 e5 e6 hr hr2 a4 a6 b4 b6 w hq a1 a3 b1 b3 hx h h2
    generalize (lnr q r j : Int) = y at *
    generalize (lnr q r2 j : Int) = z at *
    generalize (r j : Int) = u at *
    generalize (r2 j : Int) = v at *
    generalize (f : Int) = f at *
    generalize (g : Int) = g at *
    grind
