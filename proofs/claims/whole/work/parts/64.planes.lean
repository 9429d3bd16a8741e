def pl2 (u v : Nat → Int) (i j : Nat) : Int := u i * v j - u j * v i
def dt3 (u v w : Nat → Int) (i j k : Nat) : Int := w i * pl2 u v j k - w j * pl2 u v i k + w k * pl2 u v i j
/-- all four determinants of three rows are 0 -/
def col (q : Nat) (u v w : Nat → Int) : Prop := ∀ i j k, i < 4 → j < 4 → k < 4 → (q : Int) ∣ dt3 u v w i j k
theorem dt3_a (u v w : Nat → Int) (i j k : Nat) : dt3 u v w j i k = - dt3 u v w i j k := by unfold dt3 pl2; grind
theorem dt3_b (u v w : Nat → Int) (i j k : Nat) : dt3 u v w i k j = - dt3 u v w i j k := by unfold dt3 pl2; grind
theorem dt3_z (u v w : Nat → Int) (i k : Nat) : dt3 u v w i i k = 0 := by unfold dt3 pl2; grind
theorem dt3_y (u v w : Nat → Int) (i k : Nat) : dt3 u v w i k k = 0 := by unfold dt3 pl2; grind
theorem dt3_x (u v w : Nat → Int) (i k : Nat) : dt3 u v w i k i = 0 := by unfold dt3 pl2; grind
theorem col_4 {q : Nat} {u v w : Nat → Int} (h0 : (q : Int) ∣ dt3 u v w 1 2 3) (h1 : (q : Int) ∣ dt3 u v w 0 2 3) (h2 : (q : Int) ∣ dt3 u v w 0 1 3) (h3 : (q : Int) ∣ dt3 u v w 0 1 2) : col q u v w := by
  have srt : ∀ i j k, i < j → j < k → k < 4 → (q : Int) ∣ dt3 u v w i j k := by
    intro i j k a b c
    have hh : (i = 1 ∧ j = 2 ∧ k = 3) ∨ (i = 0 ∧ j = 2 ∧ k = 3) ∨ (i = 0 ∧ j = 1 ∧ k = 3) ∨ (i = 0 ∧ j = 1 ∧ k = 2) := by omega
    rcases hh with ⟨rfl, rfl, rfl⟩ | ⟨rfl, rfl, rfl⟩ | ⟨rfl, rfl, rfl⟩ | ⟨rfl, rfl, rfl⟩
    · exact h0
    · exact h1
    · exact h2
    · exact h3
  have sa : ∀ i j k, (q : Int) ∣ dt3 u v w i j k → (q : Int) ∣ dt3 u v w j i k := fun i j k h => by rw [dt3_a]; exact Int.dvd_neg.mpr h
  have sb : ∀ i j k, (q : Int) ∣ dt3 u v w i j k → (q : Int) ∣ dt3 u v w i k j := fun i j k h => by rw [dt3_b]; exact Int.dvd_neg.mpr h
  intro i j k hi hj hk
  by_cases e1 : i = j
  · rw [e1, dt3_z]; exact Int.dvd_zero _
  by_cases e2 : j = k
  · rw [e2, dt3_y]; exact Int.dvd_zero _
  by_cases e3 : i = k
  · rw [e3, dt3_x]; exact Int.dvd_zero _
  have hh : (i < j ∧ j < k) ∨ (j < i ∧ i < k) ∨ (i < k ∧ k < j) ∨ (k < i ∧ i < j) ∨ (j < k ∧ k < i) ∨ (k < j ∧ j < i) := by omega
  rcases hh with ⟨a, b⟩ | ⟨a, b⟩ | ⟨a, b⟩ | ⟨a, b⟩ | ⟨a, b⟩ | ⟨a, b⟩
  · exact srt i j k a b hk
  · exact sa _ _ _ (srt j i k a b hk)
  · exact sb _ _ _ (srt i k j a b hj)
  · exact sb _ _ _ (sa _ _ _ (srt k i j a b hj))
  · exact sa _ _ _ (sb _ _ _ (srt j k i a b hi))
  · exact sa _ _ _ (sb _ _ _ (sa _ _ _ (srt k j i a b hi)))
theorem inv_q {q : Nat} (hq : q = 2 ∨ q = 3 ∨ q = 5) {x : Int} (h : ¬ (q : Int) ∣ x) : ∃ c n : Int, x * c = 1 + q * n := by
  rcases hq with rfl | rfl | rfl
  · exact ⟨1, x / 2, by omega⟩
  · have w : x % 3 = 1 ∨ x % 3 = 2 := by omega
    rcases w with w | w
    · exact ⟨1, x / 3, by omega⟩
    · exact ⟨2, 2 * (x / 3) + 1, by omega⟩
  · have w : x % 5 = 1 ∨ x % 5 = 2 ∨ x % 5 = 3 ∨ x % 5 = 4 := by omega
    rcases w with w | w | w | w
    · exact ⟨1, x / 5, by omega⟩
    · exact ⟨3, 3 * (x / 5) + 1, by omega⟩
    · exact ⟨2, 2 * (x / 5) + 1, by omega⟩
    · exact ⟨4, 4 * (x / 5) + 3, by omega⟩
/-- w is in the span of u and v -/
def spn (q : Nat) (u v w : Nat → Int) (s t : Int) : Prop := ∀ k, k < 4 → (q : Int) ∣ w k - (s * u k + t * v k)
theorem col_spn {q : Nat} (hq : q = 2 ∨ q = 3 ∨ q = 5) {u v w : Nat → Int} {i j : Nat} (hi : i < 4) (hj : j < 4) (hp : ¬ (q : Int) ∣ pl2 u v i j) (h : col q u v w) : ∃ s t, spn q u v w s t := by
  obtain ⟨c, n, e⟩ := inv_q hq hp
  refine ⟨c * (w i * v j - w j * v i), c * (u i * w j - u j * w i), fun k hk => ?_⟩
  obtain ⟨m, hm⟩ := h i j k hi hj hk
  refine ⟨c * m - w k * n, ?_⟩
  unfold dt3 at hm
  unfold pl2 at hm e
  grind
theorem spn_col {q : Nat} {u v w : Nat → Int} {s t : Int} (h : spn q u v w s t) : col q u v w := by
  intro i j k hi hj hk
  obtain ⟨a, ha⟩ := h i hi
  obtain ⟨b, hb⟩ := h j hj
  obtain ⟨c, hc⟩ := h k hk
  refine ⟨a * pl2 u v j k - b * pl2 u v i k + c * pl2 u v i j, ?_⟩
  unfold dt3 pl2
  grind
/-- the determinant of two lines -/
def dt4 (a b c d : Nat → Int) : Int := pl2 a b 0 1 * pl2 c d 2 3 - pl2 a b 0 2 * pl2 c d 1 3 + pl2 a b 0 3 * pl2 c d 1 2 + pl2 a b 1 2 * pl2 c d 0 3 - pl2 a b 1 3 * pl2 c d 0 2 + pl2 a b 2 3 * pl2 c d 0 1
theorem dvd_e {q x y : Int} (h : q ∣ x) (e : y = x) : q ∣ y := e ▸ h
theorem dvd_u {q : Nat} (hq : q = 2 ∨ q = 3 ∨ q = 5) {x y : Int} (h : (q : Int) ∣ x * y) (hx : ¬ (q : Int) ∣ x) : (q : Int) ∣ y := by
  obtain ⟨c, n, e⟩ := inv_q hq hx
  obtain ⟨m, hm⟩ := h
  exact ⟨c * m - n * y, by grind⟩
/-- the planes through a line and two points: their minors are multiples of the determinant -/
theorem pln_d (a b c d : Nat → Int) :
  dt3 a b c 1 2 3 * dt3 a b d 0 2 3 - dt3 a b d 1 2 3 * dt3 a b c 0 2 3 = - (pl2 a b 2 3 * dt4 a b c d) ∧
  dt3 a b c 1 2 3 * dt3 a b d 0 1 3 - dt3 a b d 1 2 3 * dt3 a b c 0 1 3 = - (pl2 a b 1 3 * dt4 a b c d) ∧
  dt3 a b c 1 2 3 * dt3 a b d 0 1 2 - dt3 a b d 1 2 3 * dt3 a b c 0 1 2 = - (pl2 a b 1 2 * dt4 a b c d) ∧
  dt3 a b c 0 2 3 * dt3 a b d 0 1 3 - dt3 a b d 0 2 3 * dt3 a b c 0 1 3 = - (pl2 a b 0 3 * dt4 a b c d) ∧
  dt3 a b c 0 2 3 * dt3 a b d 0 1 2 - dt3 a b d 0 2 3 * dt3 a b c 0 1 2 = - (pl2 a b 0 2 * dt4 a b c d) ∧
  dt3 a b c 0 1 3 * dt3 a b d 0 1 2 - dt3 a b d 0 1 3 * dt3 a b c 0 1 2 = - (pl2 a b 0 1 * dt4 a b c d) := by
  unfold dt4 dt3 pl2
  refine ⟨?_, ?_, ?_, ?_, ?_, ?_⟩ <;> grind
/-- two that are not one point -/
def ind (q : Nat) (u v : Nat → Int) : Prop := ∃ i j, i < 4 ∧ j < 4 ∧ ¬ (q : Int) ∣ pl2 u v i j
def cmb (s t : Int) (u v : Nat → Int) : Nat → Int := fun k => s * u k + t * v k
theorem dt3_l (a b c d : Nat → Int) (s t : Int) (i j k : Nat) : dt3 a b (cmb s t c d) i j k = s * dt3 a b c i j k + t * dt3 a b d i j k := by
  unfold dt3 cmb
  grind
theorem dvd_m {q x y : Int} (h : q ∣ x) : q ∣ y * x := Int.dvd_trans h (Int.dvd_mul_left y x)
theorem meet_1 {q : Nat} {a b c d : Nat → Int} (h : (q : Int) ∣ dt4 a b c d) (hone : ¬ (q : Int) ∣ 1) : ∃ s t : Int, (¬ (q : Int) ∣ s ∨ ¬ (q : Int) ∣ t) ∧ col q a b (cmb s t c d) := by
  have hp := pln_d a b c d
  obtain ⟨p1, p2, p3, p4, p5, p6⟩ := hp
  have z : ∀ x, (q : Int) ∣ -(x * dt4 a b c d) := fun x => Int.dvd_neg.mpr (dvd_m h)
  by_cases h0 : (q : Int) ∣ dt3 a b c 1 2 3
  · by_cases h1 : (q : Int) ∣ dt3 a b c 0 2 3
    · by_cases h2 : (q : Int) ∣ dt3 a b c 0 1 3
      · by_cases h3 : (q : Int) ∣ dt3 a b c 0 1 2
        · refine ⟨1, 0, Or.inl hone, col_4 ?_ ?_ ?_ ?_⟩ <;> (rw [dt3_l, Int.one_mul, Int.zero_mul, Int.add_zero]; assumption)
        · refine ⟨dt3 a b d 0 1 2, - dt3 a b c 0 1 2, Or.inr (fun w => h3 (Int.dvd_neg.mp w)), col_4 ?_ ?_ ?_ ?_⟩ <;> rw [dt3_l]
          · exact dvd_e (z (pl2 a b 1 2)) (by rw [← p3]; grind)
          · exact dvd_e (z (pl2 a b 0 2)) (by rw [← p5]; grind)
          · exact dvd_e (z (pl2 a b 0 1)) (by rw [← p6]; grind)
          · exact dvd_e (Int.dvd_zero _) (by grind)
      · refine ⟨dt3 a b d 0 1 3, - dt3 a b c 0 1 3, Or.inr (fun w => h2 (Int.dvd_neg.mp w)), col_4 ?_ ?_ ?_ ?_⟩ <;> rw [dt3_l]
        · exact dvd_e (z (pl2 a b 1 3)) (by rw [← p2]; grind)
        · exact dvd_e (z (pl2 a b 0 3)) (by rw [← p4]; grind)
        · exact dvd_e (Int.dvd_zero _) (by grind)
        · exact dvd_e (Int.dvd_neg.mpr (z (pl2 a b 0 1))) (by rw [← p6]; grind)
    · refine ⟨dt3 a b d 0 2 3, - dt3 a b c 0 2 3, Or.inr (fun w => h1 (Int.dvd_neg.mp w)), col_4 ?_ ?_ ?_ ?_⟩ <;> rw [dt3_l]
      · exact dvd_e (z (pl2 a b 2 3)) (by rw [← p1]; grind)
      · exact dvd_e (Int.dvd_zero _) (by grind)
      · exact dvd_e (Int.dvd_neg.mpr (z (pl2 a b 0 3))) (by rw [← p4]; grind)
      · exact dvd_e (Int.dvd_neg.mpr (z (pl2 a b 0 2))) (by rw [← p5]; grind)
  · refine ⟨dt3 a b d 1 2 3, - dt3 a b c 1 2 3, Or.inr (fun w => h0 (Int.dvd_neg.mp w)), col_4 ?_ ?_ ?_ ?_⟩ <;> rw [dt3_l]
    · exact dvd_e (Int.dvd_zero _) (by grind)
    · exact dvd_e (Int.dvd_neg.mpr (z (pl2 a b 2 3))) (by rw [← p1]; grind)
    · exact dvd_e (Int.dvd_neg.mpr (z (pl2 a b 1 3))) (by rw [← p2]; grind)
    · exact dvd_e (Int.dvd_neg.mpr (z (pl2 a b 1 2))) (by rw [← p3]; grind)
theorem dt4_s {q : Nat} {a b z : Nat → Int} {s t : Int} (h : spn q a b z s t) (d : Nat → Int) : (q : Int) ∣ dt4 a b z d := by
  obtain ⟨m0, h0⟩ := h 0 (by decide)
  obtain ⟨m1, h1⟩ := h 1 (by decide)
  obtain ⟨m2, h2⟩ := h 2 (by decide)
  obtain ⟨m3, h3⟩ := h 3 (by decide)
  refine ⟨pl2 a b 0 1 * (m2 * d 3 - m3 * d 2) - pl2 a b 0 2 * (m1 * d 3 - m3 * d 1) + pl2 a b 0 3 * (m1 * d 2 - m2 * d 1) + pl2 a b 1 2 * (m0 * d 3 - m3 * d 0) - pl2 a b 1 3 * (m0 * d 2 - m2 * d 0) + pl2 a b 2 3 * (m0 * d 1 - m1 * d 0), ?_⟩
  have e0 : z 0 = s * a 0 + t * b 0 + q * m0 := by grind
  have e1 : z 1 = s * a 1 + t * b 1 + q * m1 := by grind
  have e2 : z 2 = s * a 2 + t * b 2 + q * m2 := by grind
  have e3 : z 3 = s * a 3 + t * b 3 + q * m3 := by grind
  unfold dt4 pl2
  rw [e0, e1, e2, e3]
  grind
theorem dt4_a (a b c d : Nat → Int) : dt4 a b d c = - dt4 a b c d := by unfold dt4 pl2; grind
theorem meet_2 {q : Nat} (hq : q = 2 ∨ q = 3 ∨ q = 5) {a b c d : Nat → Int} (hi : ind q a b) {s t : Int} (hst : ¬ (q : Int) ∣ s ∨ ¬ (q : Int) ∣ t) (h : col q a b (cmb s t c d)) : (q : Int) ∣ dt4 a b c d := by
  obtain ⟨i, j, h1, h2, h3⟩ := hi
  obtain ⟨x, y, hs⟩ := col_spn hq h1 h2 h3 h
  rcases hst with w | w
  · refine dvd_u hq (x := s) ?_ w
    exact dvd_e (dt4_s hs d) (by unfold dt4 pl2 cmb; grind)
  · refine dvd_u hq (x := t) ?_ w
    exact dvd_e (Int.dvd_neg.mpr (dt4_s hs c)) (by unfold dt4 pl2 cmb; grind)
/-- one line: the rests are in proportion -/
def ppn (q : Nat) (a b c d : Nat → Int) (x : Int) : Prop := ∀ i j, i < 4 → j < 4 → (q : Int) ∣ pl2 c d i j - x * pl2 a b i j
theorem same_1 {q : Nat} (hq : q = 2 ∨ q = 3 ∨ q = 5) {a b c d : Nat → Int} (hi : ind q a b) (hj : ind q c d) (h1 : col q a b c) (h2 : col q a b d) : ∃ x, ¬ (q : Int) ∣ x ∧ ppn q a b c d x := by
  obtain ⟨i, j, e1, e2, e3⟩ := hi
  obtain ⟨s, t, hc⟩ := col_spn hq e1 e2 e3 h1
  obtain ⟨s2, t2, hd⟩ := col_spn hq e1 e2 e3 h2
  have hp : ppn q a b c d (s * t2 - t * s2) := by
    intro i j hi hj
    obtain ⟨m1, g1⟩ := hc i hi
    obtain ⟨m2, g2⟩ := hc j hj
    obtain ⟨m3, g3⟩ := hd i hi
    obtain ⟨m4, g4⟩ := hd j hj
    refine ⟨c i * m4 + m1 * (s2 * a j + t2 * b j) - c j * m3 - m2 * (s2 * a i + t2 * b i), ?_⟩
    unfold pl2
    grind
  refine ⟨_, ?_, hp⟩
  intro w
  obtain ⟨i, j, f1, f2, f3⟩ := hj
  refine f3 ?_
  obtain ⟨m, hm⟩ := hp i j f1 f2
  obtain ⟨n, hn⟩ := w
  exact ⟨m + n * pl2 a b i j, by grind⟩
theorem same_2 {q : Nat} (hq : q = 2 ∨ q = 3 ∨ q = 5) {a b c d : Nat → Int} {x : Int} (hx : ¬ (q : Int) ∣ x) (h : ppn q a b c d x) : col q a b c ∧ col q a b d := by
  have go : ∀ w : Nat → Int, (∀ i j k, dt3 c d w i j k = 0) → col q a b w := by
    intro w hw i j k hi hj hk
    refine dvd_u hq (x := x) ?_ hx
    obtain ⟨m1, g1⟩ := h j k hj hk
    obtain ⟨m2, g2⟩ := h i k hi hk
    obtain ⟨m3, g3⟩ := h i j hi hj
    have h0 := hw i j k
    unfold dt3 at h0 ⊢
    exact ⟨-(w i * m1 - w j * m2 + w k * m3), by grind⟩
  exact ⟨go c (fun i j k => by unfold dt3 pl2; grind), go d (fun i j k => by unfold dt3 pl2; grind)⟩
