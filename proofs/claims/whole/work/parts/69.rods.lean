/-- a line of the class's and two points of the model's that lie on it -/
def rdl (q : Nat) (r : Nat → Nat) (e f : Nat) : Prop := (e < q ^ 4 ∧ e ≠ 0 ∧ evq q e = e) ∧ (f < q ^ 4 ∧ f ≠ 0 ∧ evq q f = f) ∧ ind q (fvq q e) (fvq q f) ∧ ∃ (r1 : Nat → Nat) (x : Int), (∀ j, j < 6 → r1 j < q) ∧ ldf r1 ≠ 0 ∧ (∀ j, j < 6 → r j = lnr q r1 j) ∧ ¬ (q : Int) ∣ x ∧ ∀ j, j < 6 → (q : Int) ∣ (r1 j : Int) - x * pl2 (fvq q e) (fvq q f) (pli j) (plj j)
theorem unt_m {q : Nat} (hq : q = 2 ∨ q = 3 ∨ q = 5) {x y : Int} (hx : ¬ (q : Int) ∣ x) (hy : ¬ (q : Int) ∣ y) : ¬ (q : Int) ∣ x * y := fun w => hy (dvd_u hq w hx)
theorem unt_i {q : Nat} (hq : q = 2 ∨ q = 3 ∨ q = 5) {x c n : Int} (e : x * c = 1 + q * n) : ¬ (q : Int) ∣ c := by
  rintro ⟨m, hm⟩
  exact one_n hq ⟨x * m - n, by grind⟩
theorem rdl_of {q a b x y : Nat} (hq : q = 2 ∨ q = 3 ∨ q = 5) (ha : vpt q a x) (hb : vpt q b y) (h : ldf (plk a b q) ≠ 0) : rdl q (pln a b q) (evq q x) (evq q y) := by
  have h0 : 0 < q := by omega
  have hxy := (plk_0 hq ha hb).mp h
  have nx := evq_x hq ha.1 ha.2.1
  have ny := evq_x hq hb.1 hb.2.1
  have lx := evq_lt h0 ha.1
  have ly := evq_lt h0 hb.1
  have ix := evq_i hq ha.1
  have iy := evq_i hq hb.1
  refine ⟨⟨lx, nx.1, ix⟩, ⟨ly, ny.1, iy⟩, ind_i hq lx ly nx.1 ny.1 (by rw [ix, iy]; exact hxy), plk a b q, ?_⟩
  obtain ⟨c, hc, h1⟩ := evq_f hq ha.1 ha.2.1
  obtain ⟨d, hd, h2⟩ := evq_f hq hb.1 hb.2.1
  obtain ⟨z, n, hz⟩ := inv_q hq (unt_m hq hc hd)
  refine ⟨z, plk_lt h0 a b, h, fun _ _ => rfl, unt_i hq hz, fun j hj => ?_⟩
  have w := pli_b j hj
  obtain ⟨m1, g1⟩ := h1 _ w.1
  obtain ⟨m2, g2⟩ := h1 _ w.2
  obtain ⟨m3, g3⟩ := h2 _ w.1
  obtain ⟨m4, g4⟩ := h2 _ w.2
  obtain ⟨m5, g5⟩ := plk_d h0 ha hb hj
  generalize pli j = i at *
  generalize plj j = k at *
  have key : (q : Int) ∣ pl2 (fvq q (evq q x)) (fvq q (evq q y)) i k - c * d * pl2 (fvq q x) (fvq q y) i k := by
    refine ⟨m1 * fvq q (evq q y) k + c * fvq q x i * m4 - m2 * fvq q (evq q y) i - c * fvq q x k * m3, ?_⟩
    clear g5 hz
    unfold pl2
    grind
  obtain ⟨m6, g6⟩ := key
  refine ⟨m5 - z * m6 - n * pl2 (fvq q x) (fvq q y) i k, ?_⟩
  clear g1 g2 g3 g4 h1 h2
  generalize pl2 (fvq q x) (fvq q y) i k = s at *
  generalize pl2 (fvq q (evq q x)) (fvq q (evq q y)) i k = t at *
  grind
theorem rdl_m {q : Nat} (hq : q = 2 ∨ q = 3 ∨ q = 5) {r : Nat → Nat} {e f : Nat} (h : rdl q r e f) : ∃ x : Int, ¬ (q : Int) ∣ x ∧ ∀ j, j < 6 → (q : Int) ∣ (r j : Int) - x * pl2 (fvq q e) (fvq q f) (pli j) (plj j) := by
  obtain ⟨_, _, _, r1, x, k1, k2, k3, k4, k5⟩ := h
  obtain ⟨g, L, a1, _, _, _, _, a6⟩ := lnr_m hq k1 k2
  refine ⟨x * g, unt_m hq k4 a1, fun j hj => ?_⟩
  obtain ⟨m1, e1⟩ := a6 j
  obtain ⟨m2, e2⟩ := k5 j hj
  rw [k3 j hj]
  generalize pl2 (fvq q e) (fvq q f) (pli j) (plj j) = s at *
  clear a6 k1 k2 k3 k4 k5 hq a1
  exact ⟨m1 + m2 * g, by grind⟩
theorem crx_q {q : Nat} (hq : q = 2 ∨ q = 3 ∨ q = 5) {r r2 : Nat → Nat} {e f g h : Nat} (h1 : rdl q r e f) (h2 : rdl q r2 g h) : crx r r2 q = true ↔ ∃ z, onP q e f z ∧ onP q g h z := by
  rw [meet_q hq h1.1.1 h2.1.1 h1.1.2.1 h2.1.2.1 h1.2.2.1 h2.2.2.1]
  obtain ⟨x, hx, kx⟩ := rdl_m hq h1
  obtain ⟨y, hy, ky⟩ := rdl_m hq h2
  have hd : (q : Int) ∣ crs r r2 - (x * y) * dt4 (fvq q e) (fvq q f) (fvq q g) (fvq q h) := by
    have p0 : (q : Int) ∣ (r 0 : Int) - x * pl2 (fvq q e) (fvq q f) 0 1 := kx 0 (by decide)
    have p1 : (q : Int) ∣ (r 1 : Int) - x * pl2 (fvq q e) (fvq q f) 0 2 := kx 1 (by decide)
    have p2 : (q : Int) ∣ (r 2 : Int) - x * pl2 (fvq q e) (fvq q f) 0 3 := kx 2 (by decide)
    have p3 : (q : Int) ∣ (r 3 : Int) - x * pl2 (fvq q e) (fvq q f) 1 2 := kx 3 (by decide)
    have p4 : (q : Int) ∣ (r 4 : Int) - x * pl2 (fvq q e) (fvq q f) 1 3 := kx 4 (by decide)
    have p5 : (q : Int) ∣ (r 5 : Int) - x * pl2 (fvq q e) (fvq q f) 2 3 := kx 5 (by decide)
    have s0 : (q : Int) ∣ (r2 0 : Int) - y * pl2 (fvq q g) (fvq q h) 0 1 := ky 0 (by decide)
    have s1 : (q : Int) ∣ (r2 1 : Int) - y * pl2 (fvq q g) (fvq q h) 0 2 := ky 1 (by decide)
    have s2 : (q : Int) ∣ (r2 2 : Int) - y * pl2 (fvq q g) (fvq q h) 0 3 := ky 2 (by decide)
    have s3 : (q : Int) ∣ (r2 3 : Int) - y * pl2 (fvq q g) (fvq q h) 1 2 := ky 3 (by decide)
    have s4 : (q : Int) ∣ (r2 4 : Int) - y * pl2 (fvq q g) (fvq q h) 1 3 := ky 4 (by decide)
    have s5 : (q : Int) ∣ (r2 5 : Int) - y * pl2 (fvq q g) (fvq q h) 2 3 := ky 5 (by decide)
    have pr : ∀ {u v s t : Int}, (q : Int) ∣ u - x * s → (q : Int) ∣ v - y * t → (q : Int) ∣ u * v - x * y * (s * t) := by
      rintro u v s t ⟨m, hm⟩ ⟨n, hn⟩
      exact ⟨m * v + x * s * n, by grind⟩
    have t0 := pr p0 s5
    have t1 := pr p1 s4
    have t2 := pr p2 s3
    have t3 := pr p3 s2
    have t4 := pr p4 s1
    have t5 := pr p5 s0
    have su := Int.dvd_add (Int.dvd_add (Int.dvd_sub (Int.dvd_add (Int.dvd_sub t0 t1) t2) t4) t3) t5
    refine dvd_e su ?_
    unfold crs dt4
    simp only [Int.natCast_mul]
    clear p0 p1 p2 p3 p4 p5 s0 s1 s2 s3 s4 s5 t0 t1 t2 t3 t4 t5 su pr kx ky
    grind
  obtain ⟨m, hm⟩ := hd
  unfold crx
  rw [decide_eq_true_iff, md_z (by omega)]
  constructor
  · rintro ⟨n, hn⟩
    refine dvd_u hq (x := x * y) ⟨n - m, by grind⟩ (unt_m hq hx hy)
  · rintro ⟨n, hn⟩
    exact ⟨m + x * y * n, by grind⟩
theorem lke_q {q : Nat} (hq : q = 2 ∨ q = 3 ∨ q = 5) {r r2 : Nat → Nat} {e f g h : Nat} (h1 : rdl q r e f) (h2 : rdl q r2 g h) : lke r r2 = true ↔ ∀ z, onP q g h z → onP q e f z := by
  rw [same_q hq h1.1.1 h2.1.1 h2.2.1.1 h1.1.2.1 h2.1.2.1 h2.2.1.2.1 h2.1.2.2 h2.2.1.2.2 h1.2.2.1 h2.2.2.1]
  obtain ⟨_, _, _, r1, x, k1, k2, k3, k4, k5⟩ := h1
  obtain ⟨_, _, _, s1, y, l1, l2, l3, l4, l5⟩ := h2
  have e1 : lke r r2 = true ↔ ∀ j, j < 6 → lnr q r1 j = lnr q s1 j := by
    unfold lke
    rw [decide_eq_true_iff]
    constructor
    · rintro ⟨a0, a1, a2, a3, a4, a5⟩ j hj
      rw [← k3 j hj, ← l3 j hj]
      have hh : j = 0 ∨ j = 1 ∨ j = 2 ∨ j = 3 ∨ j = 4 ∨ j = 5 := by omega
      rcases hh with rfl | rfl | rfl | rfl | rfl | rfl <;> assumption
    · intro w
      have w2 : ∀ j, j < 6 → r j = r2 j := fun j hj => by rw [k3 j hj, l3 j hj]; exact w j hj
      exact ⟨w2 0 (by decide), w2 1 (by decide), w2 2 (by decide), w2 3 (by decide), w2 4 (by decide), w2 5 (by decide)⟩
  rw [e1, lnr_eq hq k1 l1 k2 l2]
  obtain ⟨xi, n, hxi⟩ := inv_q hq k4
  obtain ⟨yi, n2, hyi⟩ := inv_q hq l4
  constructor
  · rintro ⟨t, ht, hp⟩
    refine ⟨yi * t * x, unt_m hq (unt_m hq (unt_i hq hyi) ht) k4, pl2_6 (P := fun i j => (q : Int) ∣ pl2 (fvq q g) (fvq q h) i j - yi * t * x * pl2 (fvq q e) (fvq q f) i j) (fun i => by rw [pl2_z, pl2_z]; exact dvd_e (Int.dvd_zero _) (by grind)) (fun i j w => by rw [pl2_a (fvq q g), pl2_a (fvq q e)]; exact dvd_e (Int.dvd_neg.mpr w) (by grind)) (fun j hj => ?_)⟩
    obtain ⟨m1, g1⟩ := hp j hj
    obtain ⟨m2, g2⟩ := k5 j hj
    obtain ⟨m3, g3⟩ := l5 j hj
    generalize pl2 (fvq q g) (fvq q h) (pli j) (plj j) = u at *
    generalize pl2 (fvq q e) (fvq q f) (pli j) (plj j) = v at *
    clear k1 k2 k3 k4 k5 l1 l2 l3 l4 l5 hp hxi ht hq
    exact ⟨yi * (m1 + t * m2 - m3) - n2 * u, by grind⟩
  · rintro ⟨t, ht, hp⟩
    refine ⟨y * t * xi, unt_m hq (unt_m hq l4 ht) (unt_i hq hxi), fun j hj => ?_⟩
    have w := pli_b j hj
    obtain ⟨m1, g1⟩ := hp _ _ w.1 w.2
    obtain ⟨m2, g2⟩ := k5 j hj
    obtain ⟨m3, g3⟩ := l5 j hj
    generalize pl2 (fvq q g) (fvq q h) (pli j) (plj j) = u at *
    generalize pl2 (fvq q e) (fvq q f) (pli j) (plj j) = v at *
    clear k1 k2 k3 k4 k5 l1 l2 l3 l4 l5 hp hyi ht hq
    exact ⟨m3 + y * m1 - y * t * xi * m2 - y * t * v * n, by grind⟩
theorem hld_q {q : Nat} (hq : q = 2 ∨ q = 3 ∨ q = 5) {r : Nat → Nat} {e f pt z : Nat} (h1 : rdl q r e f) (hz : vpt q pt z) : hld r q pt = true ↔ onP q e f (evq q z) := by
  have h0 : 0 < q := by omega
  obtain ⟨x, hx, kx⟩ := rdl_m hq h1
  have nz := evq_x hq hz.1 hz.2.1
  have lz := evq_lt h0 hz.1
  have iz := evq_i hq hz.1
  obtain ⟨c, hc, hck⟩ := evq_f hq hz.1 hz.2.1
  have cz : onP q e f (evq q z) ↔ col q (fvq q e) (fvq q f) (fvq q z) := by
    constructor
    · intro w
      have w2 := onP_c hq h1.1.1 h1.1.2.1 h1.2.2.1 w
      intro i j k hi hj hk
      refine dvd_u hq (x := c) ?_ hc
      obtain ⟨m1, g1⟩ := hck i hi
      obtain ⟨m2, g2⟩ := hck j hj
      obtain ⟨m3, g3⟩ := hck k hk
      obtain ⟨m, hm⟩ := w2 i j k hi hj hk
      unfold dt3 at hm ⊢
      generalize pl2 (fvq q e) (fvq q f) j k = s1 at *
      generalize pl2 (fvq q e) (fvq q f) i k = s2 at *
      generalize pl2 (fvq q e) (fvq q f) i j = s3 at *
      clear kx hck w2 hq
      exact ⟨m - m1 * s1 + m2 * s2 - m3 * s3, by grind⟩
    · intro w
      refine onP_i hq h1.1.1 lz nz.1 iz h1.2.2.1 ?_
      intro i j k hi hj hk
      obtain ⟨m1, g1⟩ := hck i hi
      obtain ⟨m2, g2⟩ := hck j hj
      obtain ⟨m3, g3⟩ := hck k hk
      obtain ⟨m, hm⟩ := w i j k hi hj hk
      unfold dt3 at hm ⊢
      generalize pl2 (fvq q e) (fvq q f) j k = s1 at *
      generalize pl2 (fvq q e) (fvq q f) i k = s2 at *
      generalize pl2 (fvq q e) (fvq q f) i j = s3 at *
      clear kx hck w hq
      exact ⟨c * m + m1 * s1 - m2 * s2 + m3 * s3, by grind⟩
  rw [cz]
  have p0 : (q : Int) ∣ (r 0 : Int) - x * pl2 (fvq q e) (fvq q f) 0 1 := kx 0 (by decide)
  have p1 : (q : Int) ∣ (r 1 : Int) - x * pl2 (fvq q e) (fvq q f) 0 2 := kx 1 (by decide)
  have p2 : (q : Int) ∣ (r 2 : Int) - x * pl2 (fvq q e) (fvq q f) 0 3 := kx 2 (by decide)
  have p3 : (q : Int) ∣ (r 3 : Int) - x * pl2 (fvq q e) (fvq q f) 1 2 := kx 3 (by decide)
  have p4 : (q : Int) ∣ (r 4 : Int) - x * pl2 (fvq q e) (fvq q f) 1 3 := kx 4 (by decide)
  have p5 : (q : Int) ∣ (r 5 : Int) - x * pl2 (fvq q e) (fvq q f) 2 3 := kx 5 (by decide)
  have go : ∀ {i j k a b d : Nat}, i < 4 → j < 4 → k < 4 → pix j k = a → pix i k = b → pix i j = d → (q : Int) ∣ (r a : Int) - x * pl2 (fvq q e) (fvq q f) j k → (q : Int) ∣ (r b : Int) - x * pl2 (fvq q e) (fvq q f) i k → (q : Int) ∣ (r d : Int) - x * pl2 (fvq q e) (fvq q f) i j → (md (hdt r pt i j k) q = 0 ↔ (q : Int) ∣ dt3 (fvq q e) (fvq q f) (fvq q z) i j k) := by
    intro i j k a b d hi hj hk ea eb ed ga gb gd
    rw [md_z h0]
    obtain ⟨m1, g1⟩ := ga
    obtain ⟨m2, g2⟩ := gb
    obtain ⟨m3, g3⟩ := gd
    have zi : fvq q z i = (pfg pt i : Int) := by unfold fvq; rw [hz.2.2 i hi]
    have zj : fvq q z j = (pfg pt j : Int) := by unfold fvq; rw [hz.2.2 j hj]
    have zk : fvq q z k = (pfg pt k : Int) := by unfold fvq; rw [hz.2.2 k hk]
    have hd : hdt r pt i j k = x * dt3 (fvq q e) (fvq q f) (fvq q z) i j k + q * (fvq q z i * m1 - fvq q z j * m2 + fvq q z k * m3) := by
      unfold hdt dt3
      rw [ea, eb, ed, zi, zj, zk, Int.natCast_mul, Int.natCast_mul, Int.natCast_mul]
      generalize pl2 (fvq q e) (fvq q f) j k = s1 at *
      generalize pl2 (fvq q e) (fvq q f) i k = s2 at *
      generalize pl2 (fvq q e) (fvq q f) i j = s3 at *
      clear kx hck cz hq p0 p1 p2 p3 p4 p5
      grind
    rw [hd]
    generalize dt3 (fvq q e) (fvq q f) (fvq q z) i j k = t at *
    generalize fvq q z i * m1 - fvq q z j * m2 + fvq q z k * m3 = u at *
    constructor
    · rintro ⟨n, hn⟩
      exact dvd_u hq (x := x) ⟨n - u, by grind⟩ hx
    · rintro ⟨n, hn⟩
      exact ⟨x * n + u, by grind⟩
  have b0 := go (i := 1) (j := 2) (k := 3) (by decide) (by decide) (by decide) rfl rfl rfl p5 p4 p3
  have b1 := go (i := 0) (j := 2) (k := 3) (by decide) (by decide) (by decide) rfl rfl rfl p5 p2 p1
  have b2 := go (i := 0) (j := 1) (k := 3) (by decide) (by decide) (by decide) rfl rfl rfl p4 p2 p0
  have b3 := go (i := 0) (j := 1) (k := 2) (by decide) (by decide) (by decide) rfl rfl rfl p3 p1 p0
  unfold hld
  rw [decide_eq_true_iff, b0, b1, b2, b3]
  constructor
  · rintro ⟨w0, w1, w2, w3⟩
    exact col_4 w0 w1 w2 w3
  · intro w
    exact ⟨w 1 2 3 (by decide) (by decide) (by decide), w 0 2 3 (by decide) (by decide) (by decide), w 0 1 3 (by decide) (by decide) (by decide), w 0 1 2 (by decide) (by decide) (by decide)⟩
