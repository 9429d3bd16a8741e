theorem evq_i {q : Nat} (hq : q = 2 ∨ q = 3 ∨ q = 5) {x : Nat} (hx : x < q ^ 4) : evq q (evq q x) = evq q x := by
  by_cases h0 : x = 0
  · rw [h0]; rfl
  · obtain ⟨_, c, h1, h2, e⟩ := evq_x hq hx h0
    rw [e, evq_c hq hx h1 h2, e]
theorem fvq_0 {q : Nat} (k : Nat) : fvq q 0 k = 0 := by
  unfold fvq fgq
  rw [Nat.zero_div, Nat.zero_mod]
  rfl
theorem fvq_n {q : Nat} (hq : q = 2 ∨ q = 3 ∨ q = 5) {x : Nat} (hx : x < q ^ 4) (h0 : x ≠ 0) : ∃ k, k < 4 ∧ ¬ (q : Int) ∣ fvq q x k := by
  apply Classical.byContradiction
  intro w
  refine h0 (fvq_eq hq (Nat.pow_pos (by omega)) hx (fun k hk => ?_))
  rw [fvq_0, Int.sub_zero]
  apply Classical.byContradiction
  intro w2
  exact w ⟨k, hk, w2⟩
theorem col_e {q : Nat} {u v w w2 : Nat → Int} (h : ∀ k, k < 4 → (q : Int) ∣ w2 k - w k) (hc : col q u v w) : col q u v w2 := by
  intro i j k hi hj hk
  obtain ⟨a, ha⟩ := h i hi
  obtain ⟨b, hb⟩ := h j hj
  obtain ⟨c, hc2⟩ := h k hk
  obtain ⟨m, hm⟩ := hc i j k hi hj hk
  refine ⟨m + a * pl2 u v j k - b * pl2 u v i k + c * pl2 u v i j, ?_⟩
  unfold dt3 at hm ⊢
  grind
/-- not in proportion -/
theorem ind_i {q : Nat} (hq : q = 2 ∨ q = 3 ∨ q = 5) {x y : Nat} (hx : x < q ^ 4) (hy : y < q ^ 4) (x0 : x ≠ 0) (y0 : y ≠ 0) (h : evq q x ≠ evq q y) : ind q (fvq q x) (fvq q y) := by
  apply Classical.byContradiction
  intro w
  have all : ∀ i j, i < 4 → j < 4 → (q : Int) ∣ pl2 (fvq q x) (fvq q y) i j := fun i j hi hj => by
    apply Classical.byContradiction
    intro w2
    exact w ⟨i, j, hi, hj, w2⟩
  obtain ⟨k, hk, hn⟩ := fvq_n hq hx x0
  obtain ⟨c, n, e⟩ := inv_q hq hn
  have hp : ∀ j, j < 4 → (q : Int) ∣ fvq q y j - (c * fvq q y k) * fvq q x j := fun j hj => by
    obtain ⟨m, hm⟩ := all k j hk hj
    unfold pl2 at hm
    exact ⟨c * m - n * fvq q y j, by grind⟩
  by_cases z : (q : Int) ∣ c * fvq q y k
  · obtain ⟨m, hm⟩ := z
    refine y0 (fvq_eq hq (Nat.pow_pos (by omega)) hy (fun j hj => ?_))
    obtain ⟨m2, hm2⟩ := hp j hj
    rw [fvq_0]
    exact ⟨m2 + m * fvq q x j, by grind⟩
  · exact h (evq_p hq hx hy z hp).symm
theorem ind_n {q : Nat} {u v : Nat → Int} (h : ind q u v) {c : Int} (hc : ∀ k, k < 4 → (q : Int) ∣ v k - c * u k) : False := by
  obtain ⟨i, j, hi, hj, w⟩ := h
  obtain ⟨m, hm⟩ := hc i hi
  obtain ⟨n, hn⟩ := hc j hj
  exact w ⟨u i * n - u j * m, by unfold pl2; grind⟩
/-- a point of a line in the model -/
def onP (q a b z : Nat) : Prop := ∃ i, i ≤ q ∧ onl q a b i = z
theorem mix_n {q : Nat} (hq : q = 2 ∨ q = 3 ∨ q = 5) {a b i : Nat} (hi : ind q (fvq q a) (fvq q b)) : mxq q a i b 1 ≠ 0 := by
  intro w
  refine ind_n hi (c := -(i : Int)) (fun k hk => ?_)
  have h := fvq_m hq a i b 1 hk
  rw [w, fvq_0] at h
  exact dvd_e (Int.dvd_neg.mpr h) (by grind)
theorem onP_n {q : Nat} (hq : q = 2 ∨ q = 3 ∨ q = 5) {a b z : Nat} (ha : a < q ^ 4) (a0 : a ≠ 0) (hi : ind q (fvq q a) (fvq q b)) (h : onP q a b z) : z ≠ 0 ∧ z < q ^ 4 ∧ evq q z = z := by
  obtain ⟨i, h1, rfl⟩ := h
  have hl := onl_lt (q := q) (by omega) (a := a) (b := b) (i := i) ha
  refine ⟨?_, hl, ?_⟩
  · unfold onl
    split
    · exact (evq_x hq ha a0).1
    · exact (evq_x hq (mxq_lt (by omega) _ _ _ _) (mix_n hq hi)).1
  · unfold onl
    split
    · exact evq_i hq ha
    · exact evq_i hq (mxq_lt (by omega) _ _ _ _)
theorem onP_c {q : Nat} (hq : q = 2 ∨ q = 3 ∨ q = 5) {a b z : Nat} (ha : a < q ^ 4) (a0 : a ≠ 0) (hi : ind q (fvq q a) (fvq q b)) (h : onP q a b z) : col q (fvq q a) (fvq q b) (fvq q z) := by
  obtain ⟨i, h1, rfl⟩ := h
  unfold onl
  split
  · obtain ⟨c, _, e⟩ := evq_f hq ha a0
    exact spn_col (s := c) (t := 0) (fun k hk => dvd_e (e k hk) (by grind))
  · obtain ⟨c, _, e⟩ := evq_f hq (mxq_lt (q := q) (by omega) a i b 1) (mix_n hq hi)
    refine spn_col (s := c * i) (t := c) (fun k hk => ?_)
    obtain ⟨m, hm⟩ := e k hk
    obtain ⟨n, hn⟩ := fvq_m hq a i b 1 hk
    exact ⟨m + c * n, by grind⟩
theorem onP_i {q : Nat} (hq : q = 2 ∨ q = 3 ∨ q = 5) {a b z : Nat} (ha : a < q ^ 4) (hz : z < q ^ 4) (z0 : z ≠ 0) (hn : evq q z = z) (hi : ind q (fvq q a) (fvq q b)) (h : col q (fvq q a) (fvq q b) (fvq q z)) : onP q a b z := by
  obtain ⟨i, j, e1, e2, e3⟩ := hi
  obtain ⟨s, t, hs⟩ := col_spn hq e1 e2 e3 h
  by_cases ht : (q : Int) ∣ t
  · refine ⟨q, Nat.le_refl _, ?_⟩
    unfold onl
    rw [if_pos rfl, ← hn]
    obtain ⟨m, hm⟩ := ht
    have hp : ∀ k, k < 4 → (q : Int) ∣ fvq q z k - s * fvq q a k := fun k hk => by
      obtain ⟨n, e⟩ := hs k hk
      exact ⟨n + m * fvq q b k, by grind⟩
    have hsn : ¬ (q : Int) ∣ s := by
      intro w
      obtain ⟨x, hx⟩ := w
      refine z0 (fvq_eq hq (Nat.pow_pos (by omega)) hz (fun k hk => ?_))
      obtain ⟨n, e⟩ := hp k hk
      rw [fvq_0]
      exact ⟨n + x * fvq q a k, by grind⟩
    exact (evq_p hq ha hz hsn hp).symm
  · obtain ⟨c, n, e⟩ := inv_q hq ht
    obtain ⟨x, hx⟩ : ∃ x : Nat, (x : Int) = (s * c) % q := ⟨((s * c) % q).toNat, Int.toNat_of_nonneg (Int.emod_nonneg _ (by omega))⟩
    have hx1 : x < q := by have := Int.emod_lt_of_pos (s * c) (show (0 : Int) < q by omega); omega
    have hdm := Int.emod_add_mul_ediv (s * c) q
    rw [← hx] at hdm
    refine ⟨x, by omega, ?_⟩
    unfold onl
    rw [if_neg (by omega), ← hn]
    refine (evq_p hq (mxq_lt (by omega) a x b 1) hz ht (fun k hk => ?_)).symm
    obtain ⟨m1, g1⟩ := fvq_m hq a x b 1 hk
    obtain ⟨m2, g2⟩ := hs k hk
    refine ⟨m2 - t * m1 - s * n * fvq q a k + t * (s * c / q) * fvq q a k, ?_⟩
    generalize s * c / (q : Int) = y at *
    grind
theorem one_n {q : Nat} (hq : q = 2 ∨ q = 3 ∨ q = 5) : ¬ (q : Int) ∣ 1 := by
  intro w
  obtain ⟨m, hm⟩ := w
  rcases hq with rfl | rfl | rfl <;> omega
/-- there is a point of each sum -/
theorem cmb_p {q : Nat} (hq : q = 2 ∨ q = 3 ∨ q = 5) (c d : Nat) (s t : Int) : ∃ y, y < q ^ 4 ∧ ∀ k, k < 4 → (q : Int) ∣ fvq q y k - cmb s t (fvq q c) (fvq q d) k := by
  obtain ⟨x, hx⟩ : ∃ x : Nat, (x : Int) = s % q := ⟨(s % q).toNat, Int.toNat_of_nonneg (Int.emod_nonneg _ (by omega))⟩
  obtain ⟨y, hy⟩ : ∃ x : Nat, (x : Int) = t % q := ⟨(t % q).toNat, Int.toNat_of_nonneg (Int.emod_nonneg _ (by omega))⟩
  have h1 := Int.emod_add_mul_ediv s q
  have h2 := Int.emod_add_mul_ediv t q
  rw [← hx] at h1
  rw [← hy] at h2
  refine ⟨mxq q c x d y, mxq_lt (by omega) _ _ _ _, fun k hk => ?_⟩
  obtain ⟨m, hm⟩ := fvq_m hq c x d y hk
  unfold cmb
  refine ⟨m - (s / q) * fvq q c k - (t / q) * fvq q d k, ?_⟩
  generalize s / (q : Int) = s1 at *
  generalize t / (q : Int) = t1 at *
  grind
theorem meet_q {q : Nat} (hq : q = 2 ∨ q = 3 ∨ q = 5) {a b c d : Nat} (ha : a < q ^ 4) (hc : c < q ^ 4) (a0 : a ≠ 0) (c0 : c ≠ 0) (h1 : ind q (fvq q a) (fvq q b)) (h2 : ind q (fvq q c) (fvq q d)) : (∃ z, onP q a b z ∧ onP q c d z) ↔ (q : Int) ∣ dt4 (fvq q a) (fvq q b) (fvq q c) (fvq q d) := by
  constructor
  · rintro ⟨z, g1, g2⟩
    have n1 := onP_n hq ha a0 h1 g1
    have k1 := onP_c hq ha a0 h1 g1
    have k2 := onP_c hq hc c0 h2 g2
    obtain ⟨i, j, e1, e2, e3⟩ := h2
    obtain ⟨s, t, hs⟩ := col_spn hq e1 e2 e3 k2
    refine meet_2 hq h1 (s := s) (t := t) ?_ (col_e (fun k hk => dvd_e (Int.dvd_neg.mpr (hs k hk)) (by unfold cmb; grind)) k1)
    apply Classical.byContradiction
    intro w
    have ws : (q : Int) ∣ s := Classical.byContradiction (fun x => w (Or.inl x))
    have wt : (q : Int) ∣ t := Classical.byContradiction (fun x => w (Or.inr x))
    obtain ⟨m1, g1⟩ := ws
    obtain ⟨m2, g2⟩ := wt
    refine n1.1 (fvq_eq hq (Nat.pow_pos (by omega)) n1.2.1 (fun k hk => ?_))
    obtain ⟨n, e⟩ := hs k hk
    rw [fvq_0]
    exact ⟨n + m1 * fvq q c k + m2 * fvq q d k, by grind⟩
  · intro h
    obtain ⟨s, t, hst, hcol⟩ := meet_1 h (one_n hq)
    obtain ⟨y, hy, hyk⟩ := cmb_p hq c d s t
    have y0 : y ≠ 0 := by
      intro w
      have hz : ∀ k, k < 4 → (q : Int) ∣ s * fvq q c k + t * fvq q d k := fun k hk => by
        have e := hyk k hk
        rw [w, fvq_0] at e
        exact dvd_e (Int.dvd_neg.mpr e) (by unfold cmb; grind)
      rcases hst with u | u
      · obtain ⟨i, j, e1, e2, e3⟩ := h2
        obtain ⟨x, n, e⟩ := inv_q hq u
        obtain ⟨m1, g1⟩ := hz i e1
        obtain ⟨m2, g2⟩ := hz j e2
        exact e3 ⟨x * (m1 * fvq q d j - m2 * fvq q d i) - n * pl2 (fvq q c) (fvq q d) i j, by unfold pl2; grind⟩
      · obtain ⟨i, j, e1, e2, e3⟩ := h2
        obtain ⟨x, n, e⟩ := inv_q hq u
        obtain ⟨m1, g1⟩ := hz i e1
        obtain ⟨m2, g2⟩ := hz j e2
        exact e3 ⟨x * (fvq q c i * m2 - fvq q c j * m1) - n * pl2 (fvq q c) (fvq q d) i j, by unfold pl2; grind⟩
    obtain ⟨x, hx, hxe⟩ := evq_f hq hy y0
    have hn := evq_x hq hy y0
    have hl := evq_lt (q := q) (by omega) hy
    have ez : ∀ k, k < 4 → (q : Int) ∣ fvq q (evq q y) k - cmb (x * s) (x * t) (fvq q c) (fvq q d) k := fun k hk => by
      obtain ⟨m1, g1⟩ := hxe k hk
      obtain ⟨m2, g2⟩ := hyk k hk
      unfold cmb at g2 ⊢
      exact ⟨m1 + x * m2, by grind⟩
    refine ⟨evq q y, onP_i hq ha hl hn.1 (evq_i hq hy) h1 (col_e ez ?_), onP_i hq hc hl hn.1 (evq_i hq hy) h2 (spn_col (s := x * s) (t := x * t) ez)⟩
    intro i j k hi hj hk
    rw [dt3_l]
    have w := hcol i j k hi hj hk
    rw [dt3_l] at w
    exact dvd_e (dvd_m (y := x) w) (by grind)
theorem same_q {q : Nat} (hq : q = 2 ∨ q = 3 ∨ q = 5) {a b c d : Nat} (ha : a < q ^ 4) (hc : c < q ^ 4) (hd : d < q ^ 4) (a0 : a ≠ 0) (c0 : c ≠ 0) (d0 : d ≠ 0) (nc : evq q c = c) (nd : evq q d = d) (h1 : ind q (fvq q a) (fvq q b)) (h2 : ind q (fvq q c) (fvq q d)) : (∀ z, onP q c d z → onP q a b z) ↔ ∃ x, ¬ (q : Int) ∣ x ∧ ppn q (fvq q a) (fvq q b) (fvq q c) (fvq q d) x := by
  constructor
  · intro h
    have pc : onP q c d c := onP_i hq hc hc c0 nc h2 (spn_col (s := 1) (t := 0) (fun k hk => dvd_e (Int.dvd_zero _) (by grind)))
    have pd : onP q c d d := onP_i hq hc hd d0 nd h2 (spn_col (s := 0) (t := 1) (fun k hk => dvd_e (Int.dvd_zero _) (by grind)))
    exact same_1 hq h1 h2 (onP_c hq ha a0 h1 (h c pc)) (onP_c hq ha a0 h1 (h d pd))
  · rintro ⟨x, hx, hp⟩ z hz
    obtain ⟨k1, k2⟩ := same_2 hq hx hp
    have nz := onP_n hq hc c0 h2 hz
    have kz := onP_c hq hc c0 h2 hz
    refine onP_i hq ha nz.2.1 nz.1 nz.2.2 h1 ?_
    obtain ⟨i, j, e1, e2, e3⟩ := h1
    obtain ⟨i2, j2, f1, f2, f3⟩ := h2
    obtain ⟨s, t, hs⟩ := col_spn hq e1 e2 e3 k1
    obtain ⟨s2, t2, hs2⟩ := col_spn hq e1 e2 e3 k2
    obtain ⟨s3, t3, hs3⟩ := col_spn hq f1 f2 f3 kz
    refine spn_col (s := s3 * s + t3 * s2) (t := s3 * t + t3 * t2) (fun k hk => ?_)
    obtain ⟨m1, g1⟩ := hs k hk
    obtain ⟨m2, g2⟩ := hs2 k hk
    obtain ⟨m3, g3⟩ := hs3 k hk
    exact ⟨m3 + s3 * m1 + t3 * m2, by grind⟩
