theorem kwL_44 : Jvm.Cond.constantLong RL 44 4294967295 ∈ fv_tbl := fv_at 1169 (by decide +kernel) (by decide +kernel)
theorem wl_1 {f g : fv_F} (h : wlds f g) : ∃ fs, f 0 = some (.inr (7, fs)) := by
  obtain ⟨T, t, k, m, bs, q, th, rs, ra, rb, G, L, G', L', rfl, rfl, -⟩ := h
  exact ⟨_, fw_at (T := cT) (a := 0) rfl⟩
theorem wl_2 {f g : fv_F} (h : wlds f g) : ∃ fs, g 0 = some (.inr (8, fs)) := by
  obtain ⟨T, t, k, m, bs, q, th, rs, ra, rb, G, L, G', L', rfl, rfl, -⟩ := h
  exact ⟨_, fw_at (T := mT) (a := 0) rfl⟩
theorem q_length {f g : fv_F} (h : wlds f g) (x1 : Int32) : ∃ v : Int32, pr f g Y10_length Y11_length 3 2 [.int x1] (.int v) := by
  obtain ⟨T, t, k, m, bs, q, th, rs, ra, rb, G, L, G', L', rfl, rfl, hB, hC, hM⟩ := h
  have w := p_length hB hC hM x1.toInt (iI_rng x1).1 (iI_rng x1).2
  rw [iI_of x1] at w
  exact ⟨_, w⟩
theorem q_exchange {f g : fv_F} (h : wlds f g) (x1 : Int32) (x2 : Int32) : ∃ v : Int32, pr f g Y10_exchange Y11_exchange 3 2 [.int x1, .int x2] (.int v) := by
  obtain ⟨T, t, k, m, bs, q, th, rs, ra, rb, G, L, G', L', rfl, rfl, hB, hC, hM⟩ := h
  have w := p_exchange hB hC hM x1.toInt x2.toInt (iI_rng x1).1 (iI_rng x1).2 (iI_rng x2).1 (iI_rng x2).2
  rw [iI_of x1, iI_of x2] at w
  exact ⟨_, w⟩
theorem q_inverse {f g : fv_F} (h : wlds f g) (x1 : Int32) : ∃ v : Int32, pr f g Y10_inverse Y11_inverse 3 2 [.int x1] (.int v) := by
  obtain ⟨T, t, k, m, bs, q, th, rs, ra, rb, G, L, G', L', rfl, rfl, hB, hC, hM⟩ := h
  have w := p_inverse hB hC hM x1.toInt (iI_rng x1).1 (iI_rng x1).2
  rw [iI_of x1] at w
  exact ⟨_, w⟩
theorem q_orders {f g : fv_F} (h : wlds f g) (x1 : Int32) (x2 : Int32) : ∃ v : Int32, pr f g Y10_orders Y11_orders 6 2 [.int x1, .int x2] (.int v) := by
  obtain ⟨T, t, k, m, bs, q, th, rs, ra, rb, G, L, G', L', rfl, rfl, hB, hC, hM⟩ := h
  have w := p_orders hB hC hM x1.toInt x2.toInt (iI_rng x1).1 (iI_rng x1).2 (iI_rng x2).1 (iI_rng x2).2
  rw [iI_of x1, iI_of x2] at w
  exact ⟨_, w⟩
theorem q_step {f g : fv_F} (h : wlds f g) (x1 : Int32) (x2 : Int32) (x3 : Int32) : ∃ v : Int32, pr f g Y10_step Y11_step 6 2 [.int x1, .int x2, .int x3] (.int v) := by
  obtain ⟨T, t, k, m, bs, q, th, rs, ra, rb, G, L, G', L', rfl, rfl, hB, hC, hM⟩ := h
  have w := p_step hB hC hM x1.toInt x2.toInt x3.toInt (iI_rng x1).1 (iI_rng x1).2 (iI_rng x2).1 (iI_rng x2).2 (iI_rng x3).1 (iI_rng x3).2
  rw [iI_of x1, iI_of x2, iI_of x3] at w
  exact ⟨_, w⟩
theorem q_blank {f g : fv_F} (h : wlds f g) (x1 : Int32) : ∃ v : Int32, pr f g Y10_blank Y11_blank 1 2 [.int x1] (.int v) := by
  obtain ⟨T, t, k, m, bs, q, th, rs, ra, rb, G, L, G', L', rfl, rfl, hB, hC, hM⟩ := h
  have w := p_blank hB hC hM x1.toInt (iI_rng x1).1 (iI_rng x1).2
  rw [iI_of x1] at w
  exact ⟨_, w⟩
theorem q_lose {f g : fv_F} (h : wlds f g) (x1 : Int32) : ∃ v : Int32, pr f g Y10_lose Y11_lose 2 2 [.int x1] (.int v) := by
  obtain ⟨T, t, k, m, bs, q, th, rs, ra, rb, G, L, G', L', rfl, rfl, hB, hC, hM⟩ := h
  have w := p_lose hB hC hM x1.toInt (iI_rng x1).1 (iI_rng x1).2
  rw [iI_of x1] at w
  exact ⟨_, w⟩
theorem q_add {f g : fv_F} (h : wlds f g) (x1 : Int32) (y : Int64) (x2 : Int32) : ∃ v : Int32, pr f g Y10_add Y11_add 4 3 [.int x1, .long y, .int x2] (.int v) := by
  obtain ⟨T, t, k, m, bs, q, th, rs, ra, rb, G, L, G', L', rfl, rfl, hB, hC, hM⟩ := h
  have w := p_add hB hC hM x1.toInt y x2.toInt (iI_rng x1).1 (iI_rng x1).2 (iI_rng x2).1 (iI_rng x2).2
  rw [iI_of x1, iI_of x2] at w
  exact ⟨_, w⟩
theorem q_terms {f g : fv_F} (h : wlds f g) (x1 : Int32) : ∃ v : Int32, pr f g Y10_terms Y11_terms 2 2 [.int x1] (.int v) := by
  obtain ⟨T, t, k, m, bs, q, th, rs, ra, rb, G, L, G', L', rfl, rfl, hB, hC, hM⟩ := h
  have w := p_terms hB hC hM x1.toInt (iI_rng x1).1 (iI_rng x1).2
  rw [iI_of x1] at w
  exact ⟨_, w⟩
theorem q_exponents {f g : fv_F} (h : wlds f g) (x1 : Int32) (x2 : Int32) : ∃ v : Int32, pr f g Y10_exponents Y11_exponents 2 2 [.int x1, .int x2] (.int v) := by
  obtain ⟨T, t, k, m, bs, q, th, rs, ra, rb, G, L, G', L', rfl, rfl, hB, hC, hM⟩ := h
  have w := p_exponents hB hC hM x1.toInt x2.toInt (iI_rng x1).1 (iI_rng x1).2 (iI_rng x2).1 (iI_rng x2).2
  rw [iI_of x1, iI_of x2] at w
  exact ⟨_, w⟩
theorem q_number {f g : fv_F} (h : wlds f g) (x1 : Int32) (x2 : Int32) : ∃ v : Int64, pr f g Y10_number Y11_number 3 2 [.int x1, .int x2] (.long v) := by
  obtain ⟨T, t, k, m, bs, q, th, rs, ra, rb, G, L, G', L', rfl, rfl, hB, hC, hM⟩ := h
  have w := p_number hB hC hM x1.toInt x2.toInt (iI_rng x1).1 (iI_rng x1).2 (iI_rng x2).1 (iI_rng x2).2
  rw [iI_of x1, iI_of x2] at w
  exact ⟨_, w⟩
theorem q_sum {f g : fv_F} (h : wlds f g) (x1 : Int32) (x2 : Int32) (x3 : Int32) (x4 : Int32) : ∃ v : Int32, pr f g Y10_sum Y11_sum 4 3 [.int x1, .int x2, .int x3, .int x4] (.int v) := by
  obtain ⟨T, t, k, m, bs, q, th, rs, ra, rb, G, L, G', L', rfl, rfl, hB, hC, hM⟩ := h
  have w := p_sum hB hC hM x1.toInt x2.toInt x3.toInt x4.toInt (iI_rng x1).1 (iI_rng x1).2 (iI_rng x2).1 (iI_rng x2).2 (iI_rng x3).1 (iI_rng x3).2 (iI_rng x4).1 (iI_rng x4).2
  rw [iI_of x1, iI_of x2, iI_of x3, iI_of x4] at w
  exact ⟨_, w⟩
theorem q_product {f g : fv_F} (h : wlds f g) (x1 : Int32) (x2 : Int32) (x3 : Int32) : ∃ v : Int32, pr f g Y10_product Y11_product 5 3 [.int x1, .int x2, .int x3] (.int v) := by
  obtain ⟨T, t, k, m, bs, q, th, rs, ra, rb, G, L, G', L', rfl, rfl, hB, hC, hM⟩ := h
  have w := p_product hB hC hM x1.toInt x2.toInt x3.toInt (iI_rng x1).1 (iI_rng x1).2 (iI_rng x2).1 (iI_rng x2).2 (iI_rng x3).1 (iI_rng x3).2
  rw [iI_of x1, iI_of x2, iI_of x3] at w
  exact ⟨_, w⟩
theorem q_turned {f g : fv_F} (h : wlds f g) (x1 : Int32) (x2 : Int32) (x3 : Int32) : ∃ v : Int32, pr f g Y10_turned Y11_turned 5 3 [.int x1, .int x2, .int x3] (.int v) := by
  obtain ⟨T, t, k, m, bs, q, th, rs, ra, rb, G, L, G', L', rfl, rfl, hB, hC, hM⟩ := h
  have w := p_turned hB hC hM x1.toInt x2.toInt x3.toInt (iI_rng x1).1 (iI_rng x1).2 (iI_rng x2).1 (iI_rng x2).2 (iI_rng x3).1 (iI_rng x3).2
  rw [iI_of x1, iI_of x2, iI_of x3] at w
  exact ⟨_, w⟩
theorem q_difference {f g : fv_F} (h : wlds f g) (x1 : Int32) (x2 : Int32) (x3 : Int32) : ∃ v : Int32, pr f g Y10_difference Y11_difference 5 3 [.int x1, .int x2, .int x3] (.int v) := by
  obtain ⟨T, t, k, m, bs, q, th, rs, ra, rb, G, L, G', L', rfl, rfl, hB, hC, hM⟩ := h
  have w := p_difference hB hC hM x1.toInt x2.toInt x3.toInt (iI_rng x1).1 (iI_rng x1).2 (iI_rng x2).1 (iI_rng x2).2 (iI_rng x3).1 (iI_rng x3).2
  rw [iI_of x1, iI_of x2, iI_of x3] at w
  exact ⟨_, w⟩
theorem q_polynomial {f g : fv_F} (h : wlds f g) (x1 : Int32) (x2 : Int32) : ∃ v : Int32, pr f g Y10_polynomial Y11_polynomial 6 3 [.int x1, .int x2] (.int v) := by
  obtain ⟨T, t, k, m, bs, q, th, rs, ra, rb, G, L, G', L', rfl, rfl, hB, hC, hM⟩ := h
  have w := p_polynomial hB hC hM x1.toInt x2.toInt (iI_rng x1).1 (iI_rng x1).2 (iI_rng x2).1 (iI_rng x2).2
  rw [iI_of x1, iI_of x2] at w
  exact ⟨_, w⟩
theorem q_part {f g : fv_F} (h : wlds f g) (x1 : Int32) (x2 : Int32) : ∃ v : Int64, pr f g Y10_part Y11_part 7 3 [.int x1, .int x2] (.long v) := by
  obtain ⟨T, t, k, m, bs, q, th, rs, ra, rb, G, L, G', L', rfl, rfl, hB, hC, hM⟩ := h
  have w := p_part hB hC hM x1.toInt x2.toInt (iI_rng x1).1 (iI_rng x1).2 (iI_rng x2).1 (iI_rng x2).2
  rw [iI_of x1, iI_of x2] at w
  exact ⟨_, w⟩
theorem q_constant {f g : fv_F} (h : wlds f g) (x1 : Int32) (x2 : Int32) (x3 : Int32) : ∃ v : Int64, pr f g Y10_constant Y11_constant 7 3 [.int x1, .int x2, .int x3] (.long v) := by
  obtain ⟨T, t, k, m, bs, q, th, rs, ra, rb, G, L, G', L', rfl, rfl, hB, hC, hM⟩ := h
  have w := p_constant hB hC hM x1.toInt x2.toInt x3.toInt (iI_rng x1).1 (iI_rng x1).2 (iI_rng x2).1 (iI_rng x2).2 (iI_rng x3).1 (iI_rng x3).2
  rw [iI_of x1, iI_of x2, iI_of x3] at w
  exact ⟨_, w⟩
theorem q_same {f g : fv_F} (h : wlds f g) (x1 : Int32) (x2 : Int32) : ∃ v : Int32, pr f g Y10_same Y11_same 2 2 [.int x1, .int x2] (.int v) := by
  obtain ⟨T, t, k, m, bs, q, th, rs, ra, rb, G, L, G', L', rfl, rfl, hB, hC, hM⟩ := h
  have w := p_same hB hC hM x1.toInt x2.toInt (iI_rng x1).1 (iI_rng x1).2 (iI_rng x2).1 (iI_rng x2).2
  rw [iI_of x1, iI_of x2] at w
  exact ⟨_, w⟩
theorem q_strip {f g : fv_F} (h : wlds f g) (x1 : Int32) (x2 : Int32) (x3 : Int32) (x4 : Int32) (x5 : Int32) : ∃ v : Int32, pr f g Y10_strip Y11_strip 9 2 [.int x1, .int x2, .int x3, .int x4, .int x5] (.int v) := by
  obtain ⟨T, t, k, m, bs, q, th, rs, ra, rb, G, L, G', L', rfl, rfl, hB, hC, hM⟩ := h
  have w := p_strip hB hC hM x1.toInt x2.toInt x3.toInt x4.toInt x5.toInt (iI_rng x1).1 (iI_rng x1).2 (iI_rng x2).1 (iI_rng x2).2 (iI_rng x3).1 (iI_rng x3).2 (iI_rng x4).1 (iI_rng x4).2 (iI_rng x5).1 (iI_rng x5).2
  rw [iI_of x1, iI_of x2, iI_of x3, iI_of x4, iI_of x5] at w
  exact ⟨_, w⟩
theorem q_fillings {f g : fv_F} (h : wlds f g) (x1 : Int32) (x2 : Int32) (x3 : Int32) (x4 : Int32) (x5 : Int32) : ∃ v : Int32, pr f g Y10_fillings Y11_fillings 27 2 [.int x1, .int x2, .int x3, .int x4, .int x5] (.int v) := by
  obtain ⟨T, t, k, m, bs, q, th, rs, ra, rb, G, L, G', L', rfl, rfl, hB, hC, hM⟩ := h
  have w := p_fillings hB hC hM x1.toInt x2.toInt x3.toInt x4.toInt x5.toInt (iI_rng x1).1 (iI_rng x1).2 (iI_rng x2).1 (iI_rng x2).2 (iI_rng x3).1 (iI_rng x3).2 (iI_rng x4).1 (iI_rng x4).2 (iI_rng x5).1 (iI_rng x5).2
  rw [iI_of x1, iI_of x2, iI_of x3, iI_of x4, iI_of x5] at w
  exact ⟨_, w⟩
theorem q_orderOf {f g : fv_F} (h : wlds f g) (x1 : Int32) (x2 : Int32) (x3 : Int32) : ∃ v : Int32, pr f g Y10_orderOf Y11_orderOf 3 2 [.int x1, .int x2, .int x3] (.int v) := by
  obtain ⟨T, t, k, m, bs, q, th, rs, ra, rb, G, L, G', L', rfl, rfl, hB, hC, hM⟩ := h
  have w := p_orderOf hB hC hM x1.toInt x2.toInt x3.toInt (iI_rng x1).1 (iI_rng x1).2 (iI_rng x2).1 (iI_rng x2).2 (iI_rng x3).1 (iI_rng x3).2
  rw [iI_of x1, iI_of x2, iI_of x3] at w
  exact ⟨_, w⟩
theorem q_begin {f g : fv_F} (h : wlds f g) (x1 : Int32) (x2 : Int32) : ∃ v : Int32, pr f g Y10_begin Y11_begin 1 2 [.int x1, .int x2] (.int v) := by
  obtain ⟨T, t, k, m, bs, q, th, rs, ra, rb, G, L, G', L', rfl, rfl, hB, hC, hM⟩ := h
  have w := p_begin hB hC hM x1.toInt x2.toInt (iI_rng x1).1 (iI_rng x1).2 (iI_rng x2).1 (iI_rng x2).2
  rw [iI_of x1, iI_of x2] at w
  exact ⟨_, w⟩
theorem q_condition {f g : fv_F} (h : wlds f g) (x1 : Int32) : ∃ v : Int32, pr f g Y10_condition Y11_condition 3 2 [.int x1] (.int v) := by
  obtain ⟨T, t, k, m, bs, q, th, rs, ra, rb, G, L, G', L', rfl, rfl, hB, hC, hM⟩ := h
  have w := p_condition hB hC hM x1.toInt (iI_rng x1).1 (iI_rng x1).2
  rw [iI_of x1] at w
  exact ⟨_, w⟩
theorem q_meeting {f g : fv_F} (h : wlds f g)  : ∃ v : Int64, pr f g Y10_meeting Y11_meeting 29 3 [] (.long v) := by
  obtain ⟨T, t, k, m, bs, q, th, rs, ra, rb, G, L, G', L', rfl, rfl, hB, hC, hM⟩ := h
  have w := p_meeting hB hC hM  
  exact ⟨_, w⟩
theorem q_field {f g : fv_F} (h : wlds f g) (x1 : Int32) : ∃ v : Int32, pr f g Y10_field Y11_field 2 2 [.int x1] (.int v) := by
  obtain ⟨T, t, k, m, bs, q, th, rs, ra, rb, G, L, G', L', rfl, rfl, hB, hC, hM⟩ := h
  have w := p_field hB hC hM x1.toInt (iI_rng x1).1 (iI_rng x1).2
  rw [iI_of x1] at w
  exact ⟨_, w⟩
theorem q_rod {f g : fv_F} (h : wlds f g) (x1 : Int32) (x2 : Int32) (x3 : Int32) : ∃ v : Int32, pr f g Y10_rod Y11_rod 5 2 [.int x1, .int x2, .int x3] (.int v) := by
  obtain ⟨T, t, k, m, bs, q, th, rs, ra, rb, G, L, G', L', rfl, rfl, hB, hC, hM⟩ := h
  have w := p_rod hB hC hM x1.toInt x2.toInt x3.toInt (iI_rng x1).1 (iI_rng x1).2 (iI_rng x2).1 (iI_rng x2).2 (iI_rng x3).1 (iI_rng x3).2
  rw [iI_of x1, iI_of x2, iI_of x3] at w
  exact ⟨_, w⟩
theorem q_drop {f g : fv_F} (h : wlds f g) (x1 : Int32) : ∃ v : Int32, pr f g Y10_drop Y11_drop 2 1 [.int x1] (.int v) := by
  obtain ⟨T, t, k, m, bs, q, th, rs, ra, rb, G, L, G', L', rfl, rfl, hB, hC, hM⟩ := h
  have w := p_drop hB hC hM x1.toInt (iI_rng x1).1 (iI_rng x1).2
  rw [iI_of x1] at w
  exact ⟨_, w⟩
theorem q_meet {f g : fv_F} (h : wlds f g) (x1 : Int32) (x2 : Int32) : ∃ v : Int32, pr f g Y10_meet Y11_meet 4 4 [.int x1, .int x2] (.int v) := by
  obtain ⟨T, t, k, m, bs, q, th, rs, ra, rb, G, L, G', L', rfl, rfl, hB, hC, hM⟩ := h
  have w := p_meet hB hC hM x1.toInt x2.toInt (iI_rng x1).1 (iI_rng x1).2 (iI_rng x2).1 (iI_rng x2).2
  rw [iI_of x1, iI_of x2] at w
  exact ⟨_, w⟩
theorem q_lines {f g : fv_F} (h : wlds f g) (x1 : Int32) : ∃ v : Int32, pr f g Y10_lines Y11_lines 6 3 [.int x1] (.int v) := by
  obtain ⟨T, t, k, m, bs, q, th, rs, ra, rb, G, L, G', L', rfl, rfl, hB, hC, hM⟩ := h
  have w := p_lines hB hC hM x1.toInt (iI_rng x1).1 (iI_rng x1).2
  rw [iI_of x1] at w
  exact ⟨_, w⟩
theorem q_points {f g : fv_F} (h : wlds f g) (x1 : Int32) : ∃ v : Int32, pr f g Y10_points Y11_points 6 3 [.int x1] (.int v) := by
  obtain ⟨T, t, k, m, bs, q, th, rs, ra, rb, G, L, G', L', rfl, rfl, hB, hC, hM⟩ := h
  have w := p_points hB hC hM x1.toInt (iI_rng x1).1 (iI_rng x1).2
  rw [iI_of x1] at w
  exact ⟨_, w⟩
theorem q_count {f g : fv_F} (h : wlds f g) (x1 : Int32) : ∃ v : Int32, pr f g Y10_count Y11_count 3 0 [.int x1] (.int v) := by
  obtain ⟨T, t, k, m, bs, q, th, rs, ra, rb, G, L, G', L', rfl, rfl, hB, hC, hM⟩ := h
  have w := p_count hB hC hM x1.toInt (iI_rng x1).1 (iI_rng x1).2
  rw [iI_of x1] at w
  exact ⟨_, w⟩
theorem q_digest {f g : fv_F} (h : wlds f g)  : ∃ v : Int64, pr f g Y10_digest Y11_digest 4 2 [] (.long v) := by
  obtain ⟨T, t, k, m, bs, q, th, rs, ra, rb, G, L, G', L', rfl, rfl, hB, hC, hM⟩ := h
  have w := p_digest hB hC hM  
  exact ⟨_, w⟩
theorem lg_eq (x : Int64) : lg_cmp x x = 0 := by
  unfold lg_cmp
  simp
section LC
variable {E : LE} {k t i : Nat} {lv : List (Nat × Value)} {f1 f2 : fv_F}
theorem c_length (hE : E.ok) (hw : wlds f1 f2) (h0 : (0, Value.ref E.b) ∈ lv) (h1 : (1, Value.ref E.N1) ∈ lv) (h2 : (2, Value.ref E.N2) ∈ lv) (h3 : (3, Value.int (nI i)) ∈ lv) (hi : i + 6 ≤ E.L) (hkt : k ≤ 600000 ∧ t ≤ 7302250) (kk : ∀ g1 g2, wlds g1 g2 → lA E k t 1314 lv [] g1 g2) : lA E k t 180 lv [] f1 f2 := by
  obtain ⟨v, P, R, hP, hR, hPR⟩ := q_length hw ((E.xs (i + 1)))
  obtain ⟨fs1, hf1⟩ := wl_1 hw
  obtain ⟨fs2, hf2⟩ := wl_2 hw
  refine la_aload_n hE dL_law_180 rfl h1 ?_
  refine la_arg hE dL_law_181 dL_law_182 dL_law_183 dL_law_184 dL_law_185 (j := 1) (by decide) h0 h3 (by omega) ?_
  refine la_call1 (as := [.int (E.xs (i + 1))]) (rest := []) hE dL_law_186 lkL_13 rfl hf1 hP rfl rfl (fun _ => rfl) (fun _ => rfl) (by decide) (by decide) (fun g1 hg1 => ?_) hkt
  refine la_aload_n hE dL_law_189 rfl h2 ?_
  refine la_arg hE dL_law_190 dL_law_191 dL_law_192 dL_law_193 dL_law_194 (j := 1) (by decide) h0 h3 (by omega) ?_
  refine la_call2 (as := [.int (E.xs (i + 1))]) (rest := [.int v]) hE dL_law_195 lkL_17 rfl hf2 hR rfl rfl (fun _ => rfl) (fun _ => rfl) (by decide) (Nat.le_of_ble_eq_true rfl) (fun g2 hg2 => ?_) hkt
  refine la_icmp_eq hE dL_law_198 (tgt := 1314) (by decide) ?_
  exact kk _ _ (hPR _ _ hg1 hg2)
theorem c_exchange (hE : E.ok) (hw : wlds f1 f2) (h0 : (0, Value.ref E.b) ∈ lv) (h1 : (1, Value.ref E.N1) ∈ lv) (h2 : (2, Value.ref E.N2) ∈ lv) (h3 : (3, Value.int (nI i)) ∈ lv) (hi : i + 6 ≤ E.L) (hkt : k ≤ 600000 ∧ t ≤ 7302250) (kk : ∀ g1 g2, wlds g1 g2 → lA E k t 1314 lv [] g1 g2) : lA E k t 203 lv [] f1 f2 := by
  obtain ⟨v, P, R, hP, hR, hPR⟩ := q_exchange hw ((E.xs (i + 1))) ((E.xs (i + 2)))
  obtain ⟨fs1, hf1⟩ := wl_1 hw
  obtain ⟨fs2, hf2⟩ := wl_2 hw
  refine la_aload_n hE dL_law_203 rfl h1 ?_
  refine la_arg hE dL_law_204 dL_law_205 dL_law_206 dL_law_207 dL_law_208 (j := 1) (by decide) h0 h3 (by omega) ?_
  refine la_arg hE dL_law_209 dL_law_210 dL_law_211 dL_law_212 dL_law_213 (j := 2) (by decide) h0 h3 (by omega) ?_
  refine la_call1 (as := [.int (E.xs (i + 1)), .int (E.xs (i + 2))]) (rest := []) hE dL_law_214 lkL_18 rfl hf1 hP rfl rfl (fun _ => rfl) (fun _ => rfl) (by decide) (by decide) (fun g1 hg1 => ?_) hkt
  refine la_aload_n hE dL_law_217 rfl h2 ?_
  refine la_arg hE dL_law_218 dL_law_219 dL_law_220 dL_law_221 dL_law_222 (j := 1) (by decide) h0 h3 (by omega) ?_
  refine la_arg hE dL_law_223 dL_law_224 dL_law_225 dL_law_226 dL_law_227 (j := 2) (by decide) h0 h3 (by omega) ?_
  refine la_call2 (as := [.int (E.xs (i + 1)), .int (E.xs (i + 2))]) (rest := [.int v]) hE dL_law_228 lkL_22 rfl hf2 hR rfl rfl (fun _ => rfl) (fun _ => rfl) (by decide) (Nat.le_of_ble_eq_true rfl) (fun g2 hg2 => ?_) hkt
  refine la_icmp_eq hE dL_law_231 (tgt := 1314) (by decide) ?_
  exact kk _ _ (hPR _ _ hg1 hg2)
theorem c_inverse (hE : E.ok) (hw : wlds f1 f2) (h0 : (0, Value.ref E.b) ∈ lv) (h1 : (1, Value.ref E.N1) ∈ lv) (h2 : (2, Value.ref E.N2) ∈ lv) (h3 : (3, Value.int (nI i)) ∈ lv) (hi : i + 6 ≤ E.L) (hkt : k ≤ 600000 ∧ t ≤ 7302250) (kk : ∀ g1 g2, wlds g1 g2 → lA E k t 1314 lv [] g1 g2) : lA E k t 236 lv [] f1 f2 := by
  obtain ⟨v, P, R, hP, hR, hPR⟩ := q_inverse hw ((E.xs (i + 1)))
  obtain ⟨fs1, hf1⟩ := wl_1 hw
  obtain ⟨fs2, hf2⟩ := wl_2 hw
  refine la_aload_n hE dL_law_236 rfl h1 ?_
  refine la_arg hE dL_law_237 dL_law_238 dL_law_239 dL_law_240 dL_law_241 (j := 1) (by decide) h0 h3 (by omega) ?_
  refine la_call1 (as := [.int (E.xs (i + 1))]) (rest := []) hE dL_law_242 lkL_23 rfl hf1 hP rfl rfl (fun _ => rfl) (fun _ => rfl) (by decide) (by decide) (fun g1 hg1 => ?_) hkt
  refine la_aload_n hE dL_law_245 rfl h2 ?_
  refine la_arg hE dL_law_246 dL_law_247 dL_law_248 dL_law_249 dL_law_250 (j := 1) (by decide) h0 h3 (by omega) ?_
  refine la_call2 (as := [.int (E.xs (i + 1))]) (rest := [.int v]) hE dL_law_251 lkL_26 rfl hf2 hR rfl rfl (fun _ => rfl) (fun _ => rfl) (by decide) (Nat.le_of_ble_eq_true rfl) (fun g2 hg2 => ?_) hkt
  refine la_icmp_eq hE dL_law_254 (tgt := 1314) (by decide) ?_
  exact kk _ _ (hPR _ _ hg1 hg2)
theorem c_orders (hE : E.ok) (hw : wlds f1 f2) (h0 : (0, Value.ref E.b) ∈ lv) (h1 : (1, Value.ref E.N1) ∈ lv) (h2 : (2, Value.ref E.N2) ∈ lv) (h3 : (3, Value.int (nI i)) ∈ lv) (hi : i + 6 ≤ E.L) (hkt : k ≤ 600000 ∧ t ≤ 7302250) (kk : ∀ g1 g2, wlds g1 g2 → lA E k t 1314 lv [] g1 g2) : lA E k t 259 lv [] f1 f2 := by
  obtain ⟨v, P, R, hP, hR, hPR⟩ := q_orders hw ((E.xs (i + 1))) ((E.xs (i + 2)))
  obtain ⟨fs1, hf1⟩ := wl_1 hw
  obtain ⟨fs2, hf2⟩ := wl_2 hw
  refine la_aload_n hE dL_law_259 rfl h1 ?_
  refine la_arg hE dL_law_260 dL_law_261 dL_law_262 dL_law_263 dL_law_264 (j := 1) (by decide) h0 h3 (by omega) ?_
  refine la_arg hE dL_law_265 dL_law_266 dL_law_267 dL_law_268 dL_law_269 (j := 2) (by decide) h0 h3 (by omega) ?_
  refine la_call1 (as := [.int (E.xs (i + 1)), .int (E.xs (i + 2))]) (rest := []) hE dL_law_270 lkL_27 rfl hf1 hP rfl rfl (fun _ => rfl) (fun _ => rfl) (by decide) (by decide) (fun g1 hg1 => ?_) hkt
  refine la_aload_n hE dL_law_273 rfl h2 ?_
  refine la_arg hE dL_law_274 dL_law_275 dL_law_276 dL_law_277 dL_law_278 (j := 1) (by decide) h0 h3 (by omega) ?_
  refine la_arg hE dL_law_279 dL_law_280 dL_law_281 dL_law_282 dL_law_283 (j := 2) (by decide) h0 h3 (by omega) ?_
  refine la_call2 (as := [.int (E.xs (i + 1)), .int (E.xs (i + 2))]) (rest := [.int v]) hE dL_law_284 lkL_30 rfl hf2 hR rfl rfl (fun _ => rfl) (fun _ => rfl) (by decide) (Nat.le_of_ble_eq_true rfl) (fun g2 hg2 => ?_) hkt
  refine la_icmp_eq hE dL_law_287 (tgt := 1314) (by decide) ?_
  exact kk _ _ (hPR _ _ hg1 hg2)
theorem c_step (hE : E.ok) (hw : wlds f1 f2) (h0 : (0, Value.ref E.b) ∈ lv) (h1 : (1, Value.ref E.N1) ∈ lv) (h2 : (2, Value.ref E.N2) ∈ lv) (h3 : (3, Value.int (nI i)) ∈ lv) (hi : i + 6 ≤ E.L) (hkt : k ≤ 600000 ∧ t ≤ 7302250) (kk : ∀ g1 g2, wlds g1 g2 → lA E k t 1314 lv [] g1 g2) : lA E k t 292 lv [] f1 f2 := by
  obtain ⟨v, P, R, hP, hR, hPR⟩ := q_step hw ((E.xs (i + 1))) ((E.xs (i + 2))) ((E.xs (i + 3)))
  obtain ⟨fs1, hf1⟩ := wl_1 hw
  obtain ⟨fs2, hf2⟩ := wl_2 hw
  refine la_aload_n hE dL_law_292 rfl h1 ?_
  refine la_arg hE dL_law_293 dL_law_294 dL_law_295 dL_law_296 dL_law_297 (j := 1) (by decide) h0 h3 (by omega) ?_
  refine la_arg hE dL_law_298 dL_law_299 dL_law_300 dL_law_301 dL_law_302 (j := 2) (by decide) h0 h3 (by omega) ?_
  refine la_arg hE dL_law_303 dL_law_304 dL_law_305 dL_law_306 dL_law_307 (j := 3) (by decide) h0 h3 (by omega) ?_
  refine la_call1 (as := [.int (E.xs (i + 1)), .int (E.xs (i + 2)), .int (E.xs (i + 3))]) (rest := []) hE dL_law_308 lkL_31 rfl hf1 hP rfl rfl (fun _ => rfl) (fun _ => rfl) (by decide) (by decide) (fun g1 hg1 => ?_) hkt
  refine la_aload_n hE dL_law_311 rfl h2 ?_
  refine la_arg hE dL_law_312 dL_law_313 dL_law_314 dL_law_315 dL_law_316 (j := 1) (by decide) h0 h3 (by omega) ?_
  refine la_arg hE dL_law_317 dL_law_318 dL_law_319 dL_law_320 dL_law_321 (j := 2) (by decide) h0 h3 (by omega) ?_
  refine la_arg hE dL_law_322 dL_law_323 dL_law_324 dL_law_325 dL_law_326 (j := 3) (by decide) h0 h3 (by omega) ?_
  refine la_call2 (as := [.int (E.xs (i + 1)), .int (E.xs (i + 2)), .int (E.xs (i + 3))]) (rest := [.int v]) hE dL_law_327 lkL_35 rfl hf2 hR rfl rfl (fun _ => rfl) (fun _ => rfl) (by decide) (Nat.le_of_ble_eq_true rfl) (fun g2 hg2 => ?_) hkt
  refine la_icmp_eq hE dL_law_330 (tgt := 1314) (by decide) ?_
  exact kk _ _ (hPR _ _ hg1 hg2)
theorem c_blank (hE : E.ok) (hw : wlds f1 f2) (h0 : (0, Value.ref E.b) ∈ lv) (h1 : (1, Value.ref E.N1) ∈ lv) (h2 : (2, Value.ref E.N2) ∈ lv) (h3 : (3, Value.int (nI i)) ∈ lv) (hi : i + 6 ≤ E.L) (hkt : k ≤ 600000 ∧ t ≤ 7302250) (kk : ∀ g1 g2, wlds g1 g2 → lA E k t 1314 lv [] g1 g2) : lA E k t 335 lv [] f1 f2 := by
  obtain ⟨v, P, R, hP, hR, hPR⟩ := q_blank hw ((E.xs (i + 1)))
  obtain ⟨fs1, hf1⟩ := wl_1 hw
  obtain ⟨fs2, hf2⟩ := wl_2 hw
  refine la_aload_n hE dL_law_335 rfl h1 ?_
  refine la_arg hE dL_law_336 dL_law_337 dL_law_338 dL_law_339 dL_law_340 (j := 1) (by decide) h0 h3 (by omega) ?_
  refine la_call1 (as := [.int (E.xs (i + 1))]) (rest := []) hE dL_law_341 lkL_36 rfl hf1 hP rfl rfl (fun _ => rfl) (fun _ => rfl) (by decide) (by decide) (fun g1 hg1 => ?_) hkt
  refine la_aload_n hE dL_law_344 rfl h2 ?_
  refine la_arg hE dL_law_345 dL_law_346 dL_law_347 dL_law_348 dL_law_349 (j := 1) (by decide) h0 h3 (by omega) ?_
  refine la_call2 (as := [.int (E.xs (i + 1))]) (rest := [.int v]) hE dL_law_350 lkL_39 rfl hf2 hR rfl rfl (fun _ => rfl) (fun _ => rfl) (by decide) (Nat.le_of_ble_eq_true rfl) (fun g2 hg2 => ?_) hkt
  refine la_icmp_eq hE dL_law_353 (tgt := 1314) (by decide) ?_
  exact kk _ _ (hPR _ _ hg1 hg2)
theorem c_lose (hE : E.ok) (hw : wlds f1 f2) (h0 : (0, Value.ref E.b) ∈ lv) (h1 : (1, Value.ref E.N1) ∈ lv) (h2 : (2, Value.ref E.N2) ∈ lv) (h3 : (3, Value.int (nI i)) ∈ lv) (hi : i + 6 ≤ E.L) (hkt : k ≤ 600000 ∧ t ≤ 7302250) (kk : ∀ g1 g2, wlds g1 g2 → lA E k t 1314 lv [] g1 g2) : lA E k t 358 lv [] f1 f2 := by
  obtain ⟨v, P, R, hP, hR, hPR⟩ := q_lose hw ((E.xs (i + 1)))
  obtain ⟨fs1, hf1⟩ := wl_1 hw
  obtain ⟨fs2, hf2⟩ := wl_2 hw
  refine la_aload_n hE dL_law_358 rfl h1 ?_
  refine la_arg hE dL_law_359 dL_law_360 dL_law_361 dL_law_362 dL_law_363 (j := 1) (by decide) h0 h3 (by omega) ?_
  refine la_call1 (as := [.int (E.xs (i + 1))]) (rest := []) hE dL_law_364 lkL_40 rfl hf1 hP rfl rfl (fun _ => rfl) (fun _ => rfl) (by decide) (by decide) (fun g1 hg1 => ?_) hkt
  refine la_aload_n hE dL_law_367 rfl h2 ?_
  refine la_arg hE dL_law_368 dL_law_369 dL_law_370 dL_law_371 dL_law_372 (j := 1) (by decide) h0 h3 (by omega) ?_
  refine la_call2 (as := [.int (E.xs (i + 1))]) (rest := [.int v]) hE dL_law_373 lkL_43 rfl hf2 hR rfl rfl (fun _ => rfl) (fun _ => rfl) (by decide) (Nat.le_of_ble_eq_true rfl) (fun g2 hg2 => ?_) hkt
  refine la_icmp_eq hE dL_law_376 (tgt := 1314) (by decide) ?_
  exact kk _ _ (hPR _ _ hg1 hg2)
theorem c_add (hE : E.ok) (hw : wlds f1 f2) (h0 : (0, Value.ref E.b) ∈ lv) (h1 : (1, Value.ref E.N1) ∈ lv) (h2 : (2, Value.ref E.N2) ∈ lv) (h3 : (3, Value.int (nI i)) ∈ lv) (hi : i + 6 ≤ E.L) (hkt : k ≤ 600000 ∧ t ≤ 7302250) (kk : ∀ g1 g2, wlds g1 g2 → lA E k t 1314 lv [] g1 g2) : lA E k t 381 lv [] f1 f2 := by
  obtain ⟨v, P, R, hP, hR, hPR⟩ := q_add hw ((E.xs (i + 1))) ((((E.xs (i + 2)).toInt64 <<< ((nI 32).toInt64 &&& 63)) ||| ((E.xs (i + 3)).toInt64 &&& 4294967295))) ((E.xs (i + 4)))
  obtain ⟨fs1, hf1⟩ := wl_1 hw
  obtain ⟨fs2, hf2⟩ := wl_2 hw
  refine la_aload_n hE dL_law_381 rfl h1 ?_
  refine la_arg hE dL_law_382 dL_law_383 dL_law_384 dL_law_385 dL_law_386 (j := 1) (by decide) h0 h3 (by omega) ?_
  refine la_arg hE dL_law_387 dL_law_388 dL_law_389 dL_law_390 dL_law_391 (j := 2) (by decide) h0 h3 (by omega) ?_
  refine la_i2l hE dL_law_392 ?_
  refine la_bipush hE dL_law_393 (v := nI 32) (by decide) ?_
  refine la_lshl hE dL_law_395 ?_
  refine la_arg hE dL_law_396 dL_law_397 dL_law_398 dL_law_399 dL_law_400 (j := 3) (by decide) h0 h3 (by omega) ?_
  refine la_i2l hE dL_law_401 ?_
  refine la_ldc2 hE dL_law_402 kwL_44 ?_
  refine la_land hE dL_law_405 ?_
  refine la_lor hE dL_law_406 ?_
  refine la_arg hE dL_law_407 dL_law_408 dL_law_409 dL_law_410 dL_law_411 (j := 4) (by decide) h0 h3 (by omega) ?_
  refine la_call1 (as := [.int (E.xs (i + 1)), .long (((E.xs (i + 2)).toInt64 <<< ((nI 32).toInt64 &&& 63)) ||| ((E.xs (i + 3)).toInt64 &&& 4294967295)), .int (E.xs (i + 4))]) (rest := []) hE dL_law_412 lkL_46 rfl hf1 hP rfl rfl (fun _ => rfl) (fun _ => rfl) (by decide) (by decide) (fun g1 hg1 => ?_) hkt
  refine la_aload_n hE dL_law_415 rfl h2 ?_
  refine la_arg hE dL_law_416 dL_law_417 dL_law_418 dL_law_419 dL_law_420 (j := 1) (by decide) h0 h3 (by omega) ?_
  refine la_arg hE dL_law_421 dL_law_422 dL_law_423 dL_law_424 dL_law_425 (j := 2) (by decide) h0 h3 (by omega) ?_
  refine la_i2l hE dL_law_426 ?_
  refine la_bipush hE dL_law_427 (v := nI 32) (by decide) ?_
  refine la_lshl hE dL_law_429 ?_
  refine la_arg hE dL_law_430 dL_law_431 dL_law_432 dL_law_433 dL_law_434 (j := 3) (by decide) h0 h3 (by omega) ?_
  refine la_i2l hE dL_law_435 ?_
  refine la_ldc2 hE dL_law_436 kwL_44 ?_
  refine la_land hE dL_law_439 ?_
  refine la_lor hE dL_law_440 ?_
  refine la_arg hE dL_law_441 dL_law_442 dL_law_443 dL_law_444 dL_law_445 (j := 4) (by decide) h0 h3 (by omega) ?_
  refine la_call2 (as := [.int (E.xs (i + 1)), .long (((E.xs (i + 2)).toInt64 <<< ((nI 32).toInt64 &&& 63)) ||| ((E.xs (i + 3)).toInt64 &&& 4294967295)), .int (E.xs (i + 4))]) (rest := [.int v]) hE dL_law_446 lkL_50 rfl hf2 hR rfl rfl (fun _ => rfl) (fun _ => rfl) (by decide) (Nat.le_of_ble_eq_true rfl) (fun g2 hg2 => ?_) hkt
  refine la_icmp_eq hE dL_law_449 (tgt := 1314) (by decide) ?_
  exact kk _ _ (hPR _ _ hg1 hg2)
theorem c_terms (hE : E.ok) (hw : wlds f1 f2) (h0 : (0, Value.ref E.b) ∈ lv) (h1 : (1, Value.ref E.N1) ∈ lv) (h2 : (2, Value.ref E.N2) ∈ lv) (h3 : (3, Value.int (nI i)) ∈ lv) (hi : i + 6 ≤ E.L) (hkt : k ≤ 600000 ∧ t ≤ 7302250) (kk : ∀ g1 g2, wlds g1 g2 → lA E k t 1314 lv [] g1 g2) : lA E k t 454 lv [] f1 f2 := by
  obtain ⟨v, P, R, hP, hR, hPR⟩ := q_terms hw ((E.xs (i + 1)))
  obtain ⟨fs1, hf1⟩ := wl_1 hw
  obtain ⟨fs2, hf2⟩ := wl_2 hw
  refine la_aload_n hE dL_law_454 rfl h1 ?_
  refine la_arg hE dL_law_455 dL_law_456 dL_law_457 dL_law_458 dL_law_459 (j := 1) (by decide) h0 h3 (by omega) ?_
  refine la_call1 (as := [.int (E.xs (i + 1))]) (rest := []) hE dL_law_460 lkL_51 rfl hf1 hP rfl rfl (fun _ => rfl) (fun _ => rfl) (by decide) (by decide) (fun g1 hg1 => ?_) hkt
  refine la_aload_n hE dL_law_463 rfl h2 ?_
  refine la_arg hE dL_law_464 dL_law_465 dL_law_466 dL_law_467 dL_law_468 (j := 1) (by decide) h0 h3 (by omega) ?_
  refine la_call2 (as := [.int (E.xs (i + 1))]) (rest := [.int v]) hE dL_law_469 lkL_54 rfl hf2 hR rfl rfl (fun _ => rfl) (fun _ => rfl) (by decide) (Nat.le_of_ble_eq_true rfl) (fun g2 hg2 => ?_) hkt
  refine la_icmp_eq hE dL_law_472 (tgt := 1314) (by decide) ?_
  exact kk _ _ (hPR _ _ hg1 hg2)
theorem c_exponents (hE : E.ok) (hw : wlds f1 f2) (h0 : (0, Value.ref E.b) ∈ lv) (h1 : (1, Value.ref E.N1) ∈ lv) (h2 : (2, Value.ref E.N2) ∈ lv) (h3 : (3, Value.int (nI i)) ∈ lv) (hi : i + 6 ≤ E.L) (hkt : k ≤ 600000 ∧ t ≤ 7302250) (kk : ∀ g1 g2, wlds g1 g2 → lA E k t 1314 lv [] g1 g2) : lA E k t 477 lv [] f1 f2 := by
  obtain ⟨v, P, R, hP, hR, hPR⟩ := q_exponents hw ((E.xs (i + 1))) ((E.xs (i + 2)))
  obtain ⟨fs1, hf1⟩ := wl_1 hw
  obtain ⟨fs2, hf2⟩ := wl_2 hw
  refine la_aload_n hE dL_law_477 rfl h1 ?_
  refine la_arg hE dL_law_478 dL_law_479 dL_law_480 dL_law_481 dL_law_482 (j := 1) (by decide) h0 h3 (by omega) ?_
  refine la_arg hE dL_law_483 dL_law_484 dL_law_485 dL_law_486 dL_law_487 (j := 2) (by decide) h0 h3 (by omega) ?_
  refine la_call1 (as := [.int (E.xs (i + 1)), .int (E.xs (i + 2))]) (rest := []) hE dL_law_488 lkL_55 rfl hf1 hP rfl rfl (fun _ => rfl) (fun _ => rfl) (by decide) (by decide) (fun g1 hg1 => ?_) hkt
  refine la_aload_n hE dL_law_491 rfl h2 ?_
  refine la_arg hE dL_law_492 dL_law_493 dL_law_494 dL_law_495 dL_law_496 (j := 1) (by decide) h0 h3 (by omega) ?_
  refine la_arg hE dL_law_497 dL_law_498 dL_law_499 dL_law_500 dL_law_501 (j := 2) (by decide) h0 h3 (by omega) ?_
  refine la_call2 (as := [.int (E.xs (i + 1)), .int (E.xs (i + 2))]) (rest := [.int v]) hE dL_law_502 lkL_58 rfl hf2 hR rfl rfl (fun _ => rfl) (fun _ => rfl) (by decide) (Nat.le_of_ble_eq_true rfl) (fun g2 hg2 => ?_) hkt
  refine la_icmp_eq hE dL_law_505 (tgt := 1314) (by decide) ?_
  exact kk _ _ (hPR _ _ hg1 hg2)
theorem c_number (hE : E.ok) (hw : wlds f1 f2) (h0 : (0, Value.ref E.b) ∈ lv) (h1 : (1, Value.ref E.N1) ∈ lv) (h2 : (2, Value.ref E.N2) ∈ lv) (h3 : (3, Value.int (nI i)) ∈ lv) (hi : i + 6 ≤ E.L) (hkt : k ≤ 600000 ∧ t ≤ 7302250) (kk : ∀ g1 g2, wlds g1 g2 → lA E k t 1314 lv [] g1 g2) : lA E k t 510 lv [] f1 f2 := by
  obtain ⟨v, P, R, hP, hR, hPR⟩ := q_number hw ((E.xs (i + 1))) ((E.xs (i + 2)))
  obtain ⟨fs1, hf1⟩ := wl_1 hw
  obtain ⟨fs2, hf2⟩ := wl_2 hw
  refine la_aload_n hE dL_law_510 rfl h1 ?_
  refine la_arg hE dL_law_511 dL_law_512 dL_law_513 dL_law_514 dL_law_515 (j := 1) (by decide) h0 h3 (by omega) ?_
  refine la_arg hE dL_law_516 dL_law_517 dL_law_518 dL_law_519 dL_law_520 (j := 2) (by decide) h0 h3 (by omega) ?_
  refine la_call1 (as := [.int (E.xs (i + 1)), .int (E.xs (i + 2))]) (rest := []) hE dL_law_521 lkL_59 rfl hf1 hP rfl rfl (fun _ => rfl) (fun _ => rfl) (by decide) (by decide) (fun g1 hg1 => ?_) hkt
  refine la_aload_n hE dL_law_524 rfl h2 ?_
  refine la_arg hE dL_law_525 dL_law_526 dL_law_527 dL_law_528 dL_law_529 (j := 1) (by decide) h0 h3 (by omega) ?_
  refine la_arg hE dL_law_530 dL_law_531 dL_law_532 dL_law_533 dL_law_534 (j := 2) (by decide) h0 h3 (by omega) ?_
  refine la_call2 (as := [.int (E.xs (i + 1)), .int (E.xs (i + 2))]) (rest := [.long v]) hE dL_law_535 lkL_63 rfl hf2 hR rfl rfl (fun _ => rfl) (fun _ => rfl) (by decide) (Nat.le_of_ble_eq_true rfl) (fun g2 hg2 => ?_) hkt
  refine la_lcmp hE dL_law_538 ?_
  refine la_if_eq hE dL_law_539 (tgt := 1314) (by decide) (lg_eq v) ?_
  exact kk _ _ (hPR _ _ hg1 hg2)
theorem c_sum (hE : E.ok) (hw : wlds f1 f2) (h0 : (0, Value.ref E.b) ∈ lv) (h1 : (1, Value.ref E.N1) ∈ lv) (h2 : (2, Value.ref E.N2) ∈ lv) (h3 : (3, Value.int (nI i)) ∈ lv) (hi : i + 6 ≤ E.L) (hkt : k ≤ 600000 ∧ t ≤ 7302250) (kk : ∀ g1 g2, wlds g1 g2 → lA E k t 1314 lv [] g1 g2) : lA E k t 544 lv [] f1 f2 := by
  obtain ⟨v, P, R, hP, hR, hPR⟩ := q_sum hw ((E.xs (i + 1))) ((E.xs (i + 2))) ((E.xs (i + 3))) ((E.xs (i + 4)))
  obtain ⟨fs1, hf1⟩ := wl_1 hw
  obtain ⟨fs2, hf2⟩ := wl_2 hw
  refine la_aload_n hE dL_law_544 rfl h1 ?_
  refine la_arg hE dL_law_545 dL_law_546 dL_law_547 dL_law_548 dL_law_549 (j := 1) (by decide) h0 h3 (by omega) ?_
  refine la_arg hE dL_law_550 dL_law_551 dL_law_552 dL_law_553 dL_law_554 (j := 2) (by decide) h0 h3 (by omega) ?_
  refine la_arg hE dL_law_555 dL_law_556 dL_law_557 dL_law_558 dL_law_559 (j := 3) (by decide) h0 h3 (by omega) ?_
  refine la_arg hE dL_law_560 dL_law_561 dL_law_562 dL_law_563 dL_law_564 (j := 4) (by decide) h0 h3 (by omega) ?_
  refine la_call1 (as := [.int (E.xs (i + 1)), .int (E.xs (i + 2)), .int (E.xs (i + 3)), .int (E.xs (i + 4))]) (rest := []) hE dL_law_565 lkL_64 rfl hf1 hP rfl rfl (fun _ => rfl) (fun _ => rfl) (by decide) (by decide) (fun g1 hg1 => ?_) hkt
  refine la_aload_n hE dL_law_568 rfl h2 ?_
  refine la_arg hE dL_law_569 dL_law_570 dL_law_571 dL_law_572 dL_law_573 (j := 1) (by decide) h0 h3 (by omega) ?_
  refine la_arg hE dL_law_574 dL_law_575 dL_law_576 dL_law_577 dL_law_578 (j := 2) (by decide) h0 h3 (by omega) ?_
  refine la_arg hE dL_law_579 dL_law_580 dL_law_581 dL_law_582 dL_law_583 (j := 3) (by decide) h0 h3 (by omega) ?_
  refine la_arg hE dL_law_584 dL_law_585 dL_law_586 dL_law_587 dL_law_588 (j := 4) (by decide) h0 h3 (by omega) ?_
  refine la_call2 (as := [.int (E.xs (i + 1)), .int (E.xs (i + 2)), .int (E.xs (i + 3)), .int (E.xs (i + 4))]) (rest := [.int v]) hE dL_law_589 lkL_68 rfl hf2 hR rfl rfl (fun _ => rfl) (fun _ => rfl) (by decide) (Nat.le_of_ble_eq_true rfl) (fun g2 hg2 => ?_) hkt
  refine la_icmp_eq hE dL_law_592 (tgt := 1314) (by decide) ?_
  exact kk _ _ (hPR _ _ hg1 hg2)
theorem c_product (hE : E.ok) (hw : wlds f1 f2) (h0 : (0, Value.ref E.b) ∈ lv) (h1 : (1, Value.ref E.N1) ∈ lv) (h2 : (2, Value.ref E.N2) ∈ lv) (h3 : (3, Value.int (nI i)) ∈ lv) (hi : i + 6 ≤ E.L) (hkt : k ≤ 600000 ∧ t ≤ 7302250) (kk : ∀ g1 g2, wlds g1 g2 → lA E k t 1314 lv [] g1 g2) : lA E k t 597 lv [] f1 f2 := by
  obtain ⟨v, P, R, hP, hR, hPR⟩ := q_product hw ((E.xs (i + 1))) ((E.xs (i + 2))) ((E.xs (i + 3)))
  obtain ⟨fs1, hf1⟩ := wl_1 hw
  obtain ⟨fs2, hf2⟩ := wl_2 hw
  refine la_aload_n hE dL_law_597 rfl h1 ?_
  refine la_arg hE dL_law_598 dL_law_599 dL_law_600 dL_law_601 dL_law_602 (j := 1) (by decide) h0 h3 (by omega) ?_
  refine la_arg hE dL_law_603 dL_law_604 dL_law_605 dL_law_606 dL_law_607 (j := 2) (by decide) h0 h3 (by omega) ?_
  refine la_arg hE dL_law_608 dL_law_609 dL_law_610 dL_law_611 dL_law_612 (j := 3) (by decide) h0 h3 (by omega) ?_
  refine la_call1 (as := [.int (E.xs (i + 1)), .int (E.xs (i + 2)), .int (E.xs (i + 3))]) (rest := []) hE dL_law_613 lkL_69 rfl hf1 hP rfl rfl (fun _ => rfl) (fun _ => rfl) (by decide) (by decide) (fun g1 hg1 => ?_) hkt
  refine la_aload_n hE dL_law_616 rfl h2 ?_
  refine la_arg hE dL_law_617 dL_law_618 dL_law_619 dL_law_620 dL_law_621 (j := 1) (by decide) h0 h3 (by omega) ?_
  refine la_arg hE dL_law_622 dL_law_623 dL_law_624 dL_law_625 dL_law_626 (j := 2) (by decide) h0 h3 (by omega) ?_
  refine la_arg hE dL_law_627 dL_law_628 dL_law_629 dL_law_630 dL_law_631 (j := 3) (by decide) h0 h3 (by omega) ?_
  refine la_call2 (as := [.int (E.xs (i + 1)), .int (E.xs (i + 2)), .int (E.xs (i + 3))]) (rest := [.int v]) hE dL_law_632 lkL_72 rfl hf2 hR rfl rfl (fun _ => rfl) (fun _ => rfl) (by decide) (Nat.le_of_ble_eq_true rfl) (fun g2 hg2 => ?_) hkt
  refine la_icmp_eq hE dL_law_635 (tgt := 1314) (by decide) ?_
  exact kk _ _ (hPR _ _ hg1 hg2)
theorem c_turned (hE : E.ok) (hw : wlds f1 f2) (h0 : (0, Value.ref E.b) ∈ lv) (h1 : (1, Value.ref E.N1) ∈ lv) (h2 : (2, Value.ref E.N2) ∈ lv) (h3 : (3, Value.int (nI i)) ∈ lv) (hi : i + 6 ≤ E.L) (hkt : k ≤ 600000 ∧ t ≤ 7302250) (kk : ∀ g1 g2, wlds g1 g2 → lA E k t 1314 lv [] g1 g2) : lA E k t 640 lv [] f1 f2 := by
  obtain ⟨v, P, R, hP, hR, hPR⟩ := q_turned hw ((E.xs (i + 1))) ((E.xs (i + 2))) ((E.xs (i + 3)))
  obtain ⟨fs1, hf1⟩ := wl_1 hw
  obtain ⟨fs2, hf2⟩ := wl_2 hw
  refine la_aload_n hE dL_law_640 rfl h1 ?_
  refine la_arg hE dL_law_641 dL_law_642 dL_law_643 dL_law_644 dL_law_645 (j := 1) (by decide) h0 h3 (by omega) ?_
  refine la_arg hE dL_law_646 dL_law_647 dL_law_648 dL_law_649 dL_law_650 (j := 2) (by decide) h0 h3 (by omega) ?_
  refine la_arg hE dL_law_651 dL_law_652 dL_law_653 dL_law_654 dL_law_655 (j := 3) (by decide) h0 h3 (by omega) ?_
  refine la_call1 (as := [.int (E.xs (i + 1)), .int (E.xs (i + 2)), .int (E.xs (i + 3))]) (rest := []) hE dL_law_656 lkL_73 rfl hf1 hP rfl rfl (fun _ => rfl) (fun _ => rfl) (by decide) (by decide) (fun g1 hg1 => ?_) hkt
  refine la_aload_n hE dL_law_659 rfl h2 ?_
  refine la_arg hE dL_law_660 dL_law_661 dL_law_662 dL_law_663 dL_law_664 (j := 1) (by decide) h0 h3 (by omega) ?_
  refine la_arg hE dL_law_665 dL_law_666 dL_law_667 dL_law_668 dL_law_669 (j := 2) (by decide) h0 h3 (by omega) ?_
  refine la_arg hE dL_law_670 dL_law_671 dL_law_672 dL_law_673 dL_law_674 (j := 3) (by decide) h0 h3 (by omega) ?_
  refine la_call2 (as := [.int (E.xs (i + 1)), .int (E.xs (i + 2)), .int (E.xs (i + 3))]) (rest := [.int v]) hE dL_law_675 lkL_76 rfl hf2 hR rfl rfl (fun _ => rfl) (fun _ => rfl) (by decide) (Nat.le_of_ble_eq_true rfl) (fun g2 hg2 => ?_) hkt
  refine la_icmp_eq hE dL_law_678 (tgt := 1314) (by decide) ?_
  exact kk _ _ (hPR _ _ hg1 hg2)
theorem c_difference (hE : E.ok) (hw : wlds f1 f2) (h0 : (0, Value.ref E.b) ∈ lv) (h1 : (1, Value.ref E.N1) ∈ lv) (h2 : (2, Value.ref E.N2) ∈ lv) (h3 : (3, Value.int (nI i)) ∈ lv) (hi : i + 6 ≤ E.L) (hkt : k ≤ 600000 ∧ t ≤ 7302250) (kk : ∀ g1 g2, wlds g1 g2 → lA E k t 1314 lv [] g1 g2) : lA E k t 683 lv [] f1 f2 := by
  obtain ⟨v, P, R, hP, hR, hPR⟩ := q_difference hw ((E.xs (i + 1))) ((E.xs (i + 2))) ((E.xs (i + 3)))
  obtain ⟨fs1, hf1⟩ := wl_1 hw
  obtain ⟨fs2, hf2⟩ := wl_2 hw
  refine la_aload_n hE dL_law_683 rfl h1 ?_
  refine la_arg hE dL_law_684 dL_law_685 dL_law_686 dL_law_687 dL_law_688 (j := 1) (by decide) h0 h3 (by omega) ?_
  refine la_arg hE dL_law_689 dL_law_690 dL_law_691 dL_law_692 dL_law_693 (j := 2) (by decide) h0 h3 (by omega) ?_
  refine la_arg hE dL_law_694 dL_law_695 dL_law_696 dL_law_697 dL_law_698 (j := 3) (by decide) h0 h3 (by omega) ?_
  refine la_call1 (as := [.int (E.xs (i + 1)), .int (E.xs (i + 2)), .int (E.xs (i + 3))]) (rest := []) hE dL_law_699 lkL_77 rfl hf1 hP rfl rfl (fun _ => rfl) (fun _ => rfl) (by decide) (by decide) (fun g1 hg1 => ?_) hkt
  refine la_aload_n hE dL_law_702 rfl h2 ?_
  refine la_arg hE dL_law_703 dL_law_704 dL_law_705 dL_law_706 dL_law_707 (j := 1) (by decide) h0 h3 (by omega) ?_
  refine la_arg hE dL_law_708 dL_law_709 dL_law_710 dL_law_711 dL_law_712 (j := 2) (by decide) h0 h3 (by omega) ?_
  refine la_arg hE dL_law_713 dL_law_714 dL_law_715 dL_law_716 dL_law_717 (j := 3) (by decide) h0 h3 (by omega) ?_
  refine la_call2 (as := [.int (E.xs (i + 1)), .int (E.xs (i + 2)), .int (E.xs (i + 3))]) (rest := [.int v]) hE dL_law_718 lkL_80 rfl hf2 hR rfl rfl (fun _ => rfl) (fun _ => rfl) (by decide) (Nat.le_of_ble_eq_true rfl) (fun g2 hg2 => ?_) hkt
  refine la_icmp_eq hE dL_law_721 (tgt := 1314) (by decide) ?_
  exact kk _ _ (hPR _ _ hg1 hg2)
theorem c_polynomial (hE : E.ok) (hw : wlds f1 f2) (h0 : (0, Value.ref E.b) ∈ lv) (h1 : (1, Value.ref E.N1) ∈ lv) (h2 : (2, Value.ref E.N2) ∈ lv) (h3 : (3, Value.int (nI i)) ∈ lv) (hi : i + 6 ≤ E.L) (hkt : k ≤ 600000 ∧ t ≤ 7302250) (kk : ∀ g1 g2, wlds g1 g2 → lA E k t 1314 lv [] g1 g2) : lA E k t 726 lv [] f1 f2 := by
  obtain ⟨v, P, R, hP, hR, hPR⟩ := q_polynomial hw ((E.xs (i + 1))) ((E.xs (i + 2)))
  obtain ⟨fs1, hf1⟩ := wl_1 hw
  obtain ⟨fs2, hf2⟩ := wl_2 hw
  refine la_aload_n hE dL_law_726 rfl h1 ?_
  refine la_arg hE dL_law_727 dL_law_728 dL_law_729 dL_law_730 dL_law_731 (j := 1) (by decide) h0 h3 (by omega) ?_
  refine la_arg hE dL_law_732 dL_law_733 dL_law_734 dL_law_735 dL_law_736 (j := 2) (by decide) h0 h3 (by omega) ?_
  refine la_call1 (as := [.int (E.xs (i + 1)), .int (E.xs (i + 2))]) (rest := []) hE dL_law_737 lkL_81 rfl hf1 hP rfl rfl (fun _ => rfl) (fun _ => rfl) (by decide) (by decide) (fun g1 hg1 => ?_) hkt
  refine la_aload_n hE dL_law_740 rfl h2 ?_
  refine la_arg hE dL_law_741 dL_law_742 dL_law_743 dL_law_744 dL_law_745 (j := 1) (by decide) h0 h3 (by omega) ?_
  refine la_arg hE dL_law_746 dL_law_747 dL_law_748 dL_law_749 dL_law_750 (j := 2) (by decide) h0 h3 (by omega) ?_
  refine la_call2 (as := [.int (E.xs (i + 1)), .int (E.xs (i + 2))]) (rest := [.int v]) hE dL_law_751 lkL_84 rfl hf2 hR rfl rfl (fun _ => rfl) (fun _ => rfl) (by decide) (Nat.le_of_ble_eq_true rfl) (fun g2 hg2 => ?_) hkt
  refine la_icmp_eq hE dL_law_754 (tgt := 1314) (by decide) ?_
  exact kk _ _ (hPR _ _ hg1 hg2)
theorem c_part (hE : E.ok) (hw : wlds f1 f2) (h0 : (0, Value.ref E.b) ∈ lv) (h1 : (1, Value.ref E.N1) ∈ lv) (h2 : (2, Value.ref E.N2) ∈ lv) (h3 : (3, Value.int (nI i)) ∈ lv) (hi : i + 6 ≤ E.L) (hkt : k ≤ 600000 ∧ t ≤ 7302250) (kk : ∀ g1 g2, wlds g1 g2 → lA E k t 1314 lv [] g1 g2) : lA E k t 759 lv [] f1 f2 := by
  obtain ⟨v, P, R, hP, hR, hPR⟩ := q_part hw ((E.xs (i + 1))) ((E.xs (i + 2)))
  obtain ⟨fs1, hf1⟩ := wl_1 hw
  obtain ⟨fs2, hf2⟩ := wl_2 hw
  refine la_aload_n hE dL_law_759 rfl h1 ?_
  refine la_arg hE dL_law_760 dL_law_761 dL_law_762 dL_law_763 dL_law_764 (j := 1) (by decide) h0 h3 (by omega) ?_
  refine la_arg hE dL_law_765 dL_law_766 dL_law_767 dL_law_768 dL_law_769 (j := 2) (by decide) h0 h3 (by omega) ?_
  refine la_call1 (as := [.int (E.xs (i + 1)), .int (E.xs (i + 2))]) (rest := []) hE dL_law_770 lkL_85 rfl hf1 hP rfl rfl (fun _ => rfl) (fun _ => rfl) (by decide) (by decide) (fun g1 hg1 => ?_) hkt
  refine la_aload_n hE dL_law_773 rfl h2 ?_
  refine la_arg hE dL_law_774 dL_law_775 dL_law_776 dL_law_777 dL_law_778 (j := 1) (by decide) h0 h3 (by omega) ?_
  refine la_arg hE dL_law_779 dL_law_780 dL_law_781 dL_law_782 dL_law_783 (j := 2) (by decide) h0 h3 (by omega) ?_
  refine la_call2 (as := [.int (E.xs (i + 1)), .int (E.xs (i + 2))]) (rest := [.long v]) hE dL_law_784 lkL_88 rfl hf2 hR rfl rfl (fun _ => rfl) (fun _ => rfl) (by decide) (Nat.le_of_ble_eq_true rfl) (fun g2 hg2 => ?_) hkt
  refine la_lcmp hE dL_law_787 ?_
  refine la_if_eq hE dL_law_788 (tgt := 1314) (by decide) (lg_eq v) ?_
  exact kk _ _ (hPR _ _ hg1 hg2)
theorem c_constant (hE : E.ok) (hw : wlds f1 f2) (h0 : (0, Value.ref E.b) ∈ lv) (h1 : (1, Value.ref E.N1) ∈ lv) (h2 : (2, Value.ref E.N2) ∈ lv) (h3 : (3, Value.int (nI i)) ∈ lv) (hi : i + 6 ≤ E.L) (hkt : k ≤ 600000 ∧ t ≤ 7302250) (kk : ∀ g1 g2, wlds g1 g2 → lA E k t 1314 lv [] g1 g2) : lA E k t 793 lv [] f1 f2 := by
  obtain ⟨v, P, R, hP, hR, hPR⟩ := q_constant hw ((E.xs (i + 1))) ((E.xs (i + 2))) ((E.xs (i + 3)))
  obtain ⟨fs1, hf1⟩ := wl_1 hw
  obtain ⟨fs2, hf2⟩ := wl_2 hw
  refine la_aload_n hE dL_law_793 rfl h1 ?_
  refine la_arg hE dL_law_794 dL_law_795 dL_law_796 dL_law_797 dL_law_798 (j := 1) (by decide) h0 h3 (by omega) ?_
  refine la_arg hE dL_law_799 dL_law_800 dL_law_801 dL_law_802 dL_law_803 (j := 2) (by decide) h0 h3 (by omega) ?_
  refine la_arg hE dL_law_804 dL_law_805 dL_law_806 dL_law_807 dL_law_808 (j := 3) (by decide) h0 h3 (by omega) ?_
  refine la_call1 (as := [.int (E.xs (i + 1)), .int (E.xs (i + 2)), .int (E.xs (i + 3))]) (rest := []) hE dL_law_809 lkL_89 rfl hf1 hP rfl rfl (fun _ => rfl) (fun _ => rfl) (by decide) (by decide) (fun g1 hg1 => ?_) hkt
  refine la_aload_n hE dL_law_812 rfl h2 ?_
  refine la_arg hE dL_law_813 dL_law_814 dL_law_815 dL_law_816 dL_law_817 (j := 1) (by decide) h0 h3 (by omega) ?_
  refine la_arg hE dL_law_818 dL_law_819 dL_law_820 dL_law_821 dL_law_822 (j := 2) (by decide) h0 h3 (by omega) ?_
  refine la_arg hE dL_law_823 dL_law_824 dL_law_825 dL_law_826 dL_law_827 (j := 3) (by decide) h0 h3 (by omega) ?_
  refine la_call2 (as := [.int (E.xs (i + 1)), .int (E.xs (i + 2)), .int (E.xs (i + 3))]) (rest := [.long v]) hE dL_law_828 lkL_93 rfl hf2 hR rfl rfl (fun _ => rfl) (fun _ => rfl) (by decide) (Nat.le_of_ble_eq_true rfl) (fun g2 hg2 => ?_) hkt
  refine la_lcmp hE dL_law_831 ?_
  refine la_if_eq hE dL_law_832 (tgt := 1314) (by decide) (lg_eq v) ?_
  exact kk _ _ (hPR _ _ hg1 hg2)
theorem c_same (hE : E.ok) (hw : wlds f1 f2) (h0 : (0, Value.ref E.b) ∈ lv) (h1 : (1, Value.ref E.N1) ∈ lv) (h2 : (2, Value.ref E.N2) ∈ lv) (h3 : (3, Value.int (nI i)) ∈ lv) (hi : i + 6 ≤ E.L) (hkt : k ≤ 600000 ∧ t ≤ 7302250) (kk : ∀ g1 g2, wlds g1 g2 → lA E k t 1314 lv [] g1 g2) : lA E k t 837 lv [] f1 f2 := by
  obtain ⟨v, P, R, hP, hR, hPR⟩ := q_same hw ((E.xs (i + 1))) ((E.xs (i + 2)))
  obtain ⟨fs1, hf1⟩ := wl_1 hw
  obtain ⟨fs2, hf2⟩ := wl_2 hw
  refine la_aload_n hE dL_law_837 rfl h1 ?_
  refine la_arg hE dL_law_838 dL_law_839 dL_law_840 dL_law_841 dL_law_842 (j := 1) (by decide) h0 h3 (by omega) ?_
  refine la_arg hE dL_law_843 dL_law_844 dL_law_845 dL_law_846 dL_law_847 (j := 2) (by decide) h0 h3 (by omega) ?_
  refine la_call1 (as := [.int (E.xs (i + 1)), .int (E.xs (i + 2))]) (rest := []) hE dL_law_848 lkL_94 rfl hf1 hP rfl rfl (fun _ => rfl) (fun _ => rfl) (by decide) (by decide) (fun g1 hg1 => ?_) hkt
  refine la_aload_n hE dL_law_851 rfl h2 ?_
  refine la_arg hE dL_law_852 dL_law_853 dL_law_854 dL_law_855 dL_law_856 (j := 1) (by decide) h0 h3 (by omega) ?_
  refine la_arg hE dL_law_857 dL_law_858 dL_law_859 dL_law_860 dL_law_861 (j := 2) (by decide) h0 h3 (by omega) ?_
  refine la_call2 (as := [.int (E.xs (i + 1)), .int (E.xs (i + 2))]) (rest := [.int v]) hE dL_law_862 lkL_97 rfl hf2 hR rfl rfl (fun _ => rfl) (fun _ => rfl) (by decide) (Nat.le_of_ble_eq_true rfl) (fun g2 hg2 => ?_) hkt
  refine la_icmp_eq hE dL_law_865 (tgt := 1314) (by decide) ?_
  exact kk _ _ (hPR _ _ hg1 hg2)
theorem c_strip (hE : E.ok) (hw : wlds f1 f2) (h0 : (0, Value.ref E.b) ∈ lv) (h1 : (1, Value.ref E.N1) ∈ lv) (h2 : (2, Value.ref E.N2) ∈ lv) (h3 : (3, Value.int (nI i)) ∈ lv) (hi : i + 6 ≤ E.L) (hkt : k ≤ 600000 ∧ t ≤ 7302250) (kk : ∀ g1 g2, wlds g1 g2 → lA E k t 1314 lv [] g1 g2) : lA E k t 870 lv [] f1 f2 := by
  obtain ⟨v, P, R, hP, hR, hPR⟩ := q_strip hw ((E.xs (i + 1))) ((E.xs (i + 2))) ((E.xs (i + 3))) ((E.xs (i + 4))) ((E.xs (i + 5)))
  obtain ⟨fs1, hf1⟩ := wl_1 hw
  obtain ⟨fs2, hf2⟩ := wl_2 hw
  refine la_aload_n hE dL_law_870 rfl h1 ?_
  refine la_arg hE dL_law_871 dL_law_872 dL_law_873 dL_law_874 dL_law_875 (j := 1) (by decide) h0 h3 (by omega) ?_
  refine la_arg hE dL_law_876 dL_law_877 dL_law_878 dL_law_879 dL_law_880 (j := 2) (by decide) h0 h3 (by omega) ?_
  refine la_arg hE dL_law_881 dL_law_882 dL_law_883 dL_law_884 dL_law_885 (j := 3) (by decide) h0 h3 (by omega) ?_
  refine la_arg hE dL_law_886 dL_law_887 dL_law_888 dL_law_889 dL_law_890 (j := 4) (by decide) h0 h3 (by omega) ?_
  refine la_arg hE dL_law_891 dL_law_892 dL_law_893 dL_law_894 dL_law_895 (j := 5) (by decide) h0 h3 (by omega) ?_
  refine la_call1 (as := [.int (E.xs (i + 1)), .int (E.xs (i + 2)), .int (E.xs (i + 3)), .int (E.xs (i + 4)), .int (E.xs (i + 5))]) (rest := []) hE dL_law_896 lkL_98 rfl hf1 hP rfl rfl (fun _ => rfl) (fun _ => rfl) (by decide) (by decide) (fun g1 hg1 => ?_) hkt
  refine la_aload_n hE dL_law_899 rfl h2 ?_
  refine la_arg hE dL_law_900 dL_law_901 dL_law_902 dL_law_903 dL_law_904 (j := 1) (by decide) h0 h3 (by omega) ?_
  refine la_arg hE dL_law_905 dL_law_906 dL_law_907 dL_law_908 dL_law_909 (j := 2) (by decide) h0 h3 (by omega) ?_
  refine la_arg hE dL_law_910 dL_law_911 dL_law_912 dL_law_913 dL_law_914 (j := 3) (by decide) h0 h3 (by omega) ?_
  refine la_arg hE dL_law_915 dL_law_916 dL_law_917 dL_law_918 dL_law_919 (j := 4) (by decide) h0 h3 (by omega) ?_
  refine la_arg hE dL_law_920 dL_law_921 dL_law_922 dL_law_923 dL_law_924 (j := 5) (by decide) h0 h3 (by omega) ?_
  refine la_call2 (as := [.int (E.xs (i + 1)), .int (E.xs (i + 2)), .int (E.xs (i + 3)), .int (E.xs (i + 4)), .int (E.xs (i + 5))]) (rest := [.int v]) hE dL_law_925 lkL_102 rfl hf2 hR rfl rfl (fun _ => rfl) (fun _ => rfl) (by decide) (Nat.le_of_ble_eq_true rfl) (fun g2 hg2 => ?_) hkt
  refine la_icmp_eq hE dL_law_928 (tgt := 1314) (by decide) ?_
  exact kk _ _ (hPR _ _ hg1 hg2)
theorem c_fillings (hE : E.ok) (hw : wlds f1 f2) (h0 : (0, Value.ref E.b) ∈ lv) (h1 : (1, Value.ref E.N1) ∈ lv) (h2 : (2, Value.ref E.N2) ∈ lv) (h3 : (3, Value.int (nI i)) ∈ lv) (hi : i + 6 ≤ E.L) (hkt : k ≤ 600000 ∧ t ≤ 7302250) (kk : ∀ g1 g2, wlds g1 g2 → lA E k t 1314 lv [] g1 g2) : lA E k t 933 lv [] f1 f2 := by
  obtain ⟨v, P, R, hP, hR, hPR⟩ := q_fillings hw ((E.xs (i + 1))) ((E.xs (i + 2))) ((E.xs (i + 3))) ((E.xs (i + 4))) ((E.xs (i + 5)))
  obtain ⟨fs1, hf1⟩ := wl_1 hw
  obtain ⟨fs2, hf2⟩ := wl_2 hw
  refine la_aload_n hE dL_law_933 rfl h1 ?_
  refine la_arg hE dL_law_934 dL_law_935 dL_law_936 dL_law_937 dL_law_938 (j := 1) (by decide) h0 h3 (by omega) ?_
  refine la_arg hE dL_law_939 dL_law_940 dL_law_941 dL_law_942 dL_law_943 (j := 2) (by decide) h0 h3 (by omega) ?_
  refine la_arg hE dL_law_944 dL_law_945 dL_law_946 dL_law_947 dL_law_948 (j := 3) (by decide) h0 h3 (by omega) ?_
  refine la_arg hE dL_law_949 dL_law_950 dL_law_951 dL_law_952 dL_law_953 (j := 4) (by decide) h0 h3 (by omega) ?_
  refine la_arg hE dL_law_954 dL_law_955 dL_law_956 dL_law_957 dL_law_958 (j := 5) (by decide) h0 h3 (by omega) ?_
  refine la_call1 (as := [.int (E.xs (i + 1)), .int (E.xs (i + 2)), .int (E.xs (i + 3)), .int (E.xs (i + 4)), .int (E.xs (i + 5))]) (rest := []) hE dL_law_959 lkL_103 rfl hf1 hP rfl rfl (fun _ => rfl) (fun _ => rfl) (by decide) (by decide) (fun g1 hg1 => ?_) hkt
  refine la_aload_n hE dL_law_962 rfl h2 ?_
  refine la_arg hE dL_law_963 dL_law_964 dL_law_965 dL_law_966 dL_law_967 (j := 1) (by decide) h0 h3 (by omega) ?_
  refine la_arg hE dL_law_968 dL_law_969 dL_law_970 dL_law_971 dL_law_972 (j := 2) (by decide) h0 h3 (by omega) ?_
  refine la_arg hE dL_law_973 dL_law_974 dL_law_975 dL_law_976 dL_law_977 (j := 3) (by decide) h0 h3 (by omega) ?_
  refine la_arg hE dL_law_978 dL_law_979 dL_law_980 dL_law_981 dL_law_982 (j := 4) (by decide) h0 h3 (by omega) ?_
  refine la_arg hE dL_law_983 dL_law_984 dL_law_985 dL_law_986 dL_law_987 (j := 5) (by decide) h0 h3 (by omega) ?_
  refine la_call2 (as := [.int (E.xs (i + 1)), .int (E.xs (i + 2)), .int (E.xs (i + 3)), .int (E.xs (i + 4)), .int (E.xs (i + 5))]) (rest := [.int v]) hE dL_law_988 lkL_106 rfl hf2 hR rfl rfl (fun _ => rfl) (fun _ => rfl) (by decide) (Nat.le_of_ble_eq_true rfl) (fun g2 hg2 => ?_) hkt
  refine la_icmp_eq hE dL_law_991 (tgt := 1314) (by decide) ?_
  exact kk _ _ (hPR _ _ hg1 hg2)
theorem c_orderOf (hE : E.ok) (hw : wlds f1 f2) (h0 : (0, Value.ref E.b) ∈ lv) (h1 : (1, Value.ref E.N1) ∈ lv) (h2 : (2, Value.ref E.N2) ∈ lv) (h3 : (3, Value.int (nI i)) ∈ lv) (hi : i + 6 ≤ E.L) (hkt : k ≤ 600000 ∧ t ≤ 7302250) (kk : ∀ g1 g2, wlds g1 g2 → lA E k t 1314 lv [] g1 g2) : lA E k t 996 lv [] f1 f2 := by
  obtain ⟨v, P, R, hP, hR, hPR⟩ := q_orderOf hw ((E.xs (i + 1))) ((E.xs (i + 2))) ((E.xs (i + 3)))
  obtain ⟨fs1, hf1⟩ := wl_1 hw
  obtain ⟨fs2, hf2⟩ := wl_2 hw
  refine la_aload_n hE dL_law_996 rfl h1 ?_
  refine la_arg hE dL_law_997 dL_law_998 dL_law_999 dL_law_1000 dL_law_1001 (j := 1) (by decide) h0 h3 (by omega) ?_
  refine la_arg hE dL_law_1002 dL_law_1003 dL_law_1004 dL_law_1005 dL_law_1006 (j := 2) (by decide) h0 h3 (by omega) ?_
  refine la_arg hE dL_law_1007 dL_law_1008 dL_law_1009 dL_law_1010 dL_law_1011 (j := 3) (by decide) h0 h3 (by omega) ?_
  refine la_call1 (as := [.int (E.xs (i + 1)), .int (E.xs (i + 2)), .int (E.xs (i + 3))]) (rest := []) hE dL_law_1012 lkL_107 rfl hf1 hP rfl rfl (fun _ => rfl) (fun _ => rfl) (by decide) (by decide) (fun g1 hg1 => ?_) hkt
  refine la_aload_n hE dL_law_1015 rfl h2 ?_
  refine la_arg hE dL_law_1016 dL_law_1017 dL_law_1018 dL_law_1019 dL_law_1020 (j := 1) (by decide) h0 h3 (by omega) ?_
  refine la_arg hE dL_law_1021 dL_law_1022 dL_law_1023 dL_law_1024 dL_law_1025 (j := 2) (by decide) h0 h3 (by omega) ?_
  refine la_arg hE dL_law_1026 dL_law_1027 dL_law_1028 dL_law_1029 dL_law_1030 (j := 3) (by decide) h0 h3 (by omega) ?_
  refine la_call2 (as := [.int (E.xs (i + 1)), .int (E.xs (i + 2)), .int (E.xs (i + 3))]) (rest := [.int v]) hE dL_law_1031 lkL_110 rfl hf2 hR rfl rfl (fun _ => rfl) (fun _ => rfl) (by decide) (Nat.le_of_ble_eq_true rfl) (fun g2 hg2 => ?_) hkt
  refine la_icmp_eq hE dL_law_1034 (tgt := 1314) (by decide) ?_
  exact kk _ _ (hPR _ _ hg1 hg2)
theorem c_begin (hE : E.ok) (hw : wlds f1 f2) (h0 : (0, Value.ref E.b) ∈ lv) (h1 : (1, Value.ref E.N1) ∈ lv) (h2 : (2, Value.ref E.N2) ∈ lv) (h3 : (3, Value.int (nI i)) ∈ lv) (hi : i + 6 ≤ E.L) (hkt : k ≤ 600000 ∧ t ≤ 7302250) (kk : ∀ g1 g2, wlds g1 g2 → lA E k t 1314 lv [] g1 g2) : lA E k t 1039 lv [] f1 f2 := by
  obtain ⟨v, P, R, hP, hR, hPR⟩ := q_begin hw ((E.xs (i + 1))) ((E.xs (i + 2)))
  obtain ⟨fs1, hf1⟩ := wl_1 hw
  obtain ⟨fs2, hf2⟩ := wl_2 hw
  refine la_aload_n hE dL_law_1039 rfl h1 ?_
  refine la_arg hE dL_law_1040 dL_law_1041 dL_law_1042 dL_law_1043 dL_law_1044 (j := 1) (by decide) h0 h3 (by omega) ?_
  refine la_arg hE dL_law_1045 dL_law_1046 dL_law_1047 dL_law_1048 dL_law_1049 (j := 2) (by decide) h0 h3 (by omega) ?_
  refine la_call1 (as := [.int (E.xs (i + 1)), .int (E.xs (i + 2))]) (rest := []) hE dL_law_1050 lkL_111 rfl hf1 hP rfl rfl (fun _ => rfl) (fun _ => rfl) (by decide) (by decide) (fun g1 hg1 => ?_) hkt
  refine la_aload_n hE dL_law_1053 rfl h2 ?_
  refine la_arg hE dL_law_1054 dL_law_1055 dL_law_1056 dL_law_1057 dL_law_1058 (j := 1) (by decide) h0 h3 (by omega) ?_
  refine la_arg hE dL_law_1059 dL_law_1060 dL_law_1061 dL_law_1062 dL_law_1063 (j := 2) (by decide) h0 h3 (by omega) ?_
  refine la_call2 (as := [.int (E.xs (i + 1)), .int (E.xs (i + 2))]) (rest := [.int v]) hE dL_law_1064 lkL_114 rfl hf2 hR rfl rfl (fun _ => rfl) (fun _ => rfl) (by decide) (Nat.le_of_ble_eq_true rfl) (fun g2 hg2 => ?_) hkt
  refine la_icmp_eq hE dL_law_1067 (tgt := 1314) (by decide) ?_
  exact kk _ _ (hPR _ _ hg1 hg2)
theorem c_condition (hE : E.ok) (hw : wlds f1 f2) (h0 : (0, Value.ref E.b) ∈ lv) (h1 : (1, Value.ref E.N1) ∈ lv) (h2 : (2, Value.ref E.N2) ∈ lv) (h3 : (3, Value.int (nI i)) ∈ lv) (hi : i + 6 ≤ E.L) (hkt : k ≤ 600000 ∧ t ≤ 7302250) (kk : ∀ g1 g2, wlds g1 g2 → lA E k t 1314 lv [] g1 g2) : lA E k t 1072 lv [] f1 f2 := by
  obtain ⟨v, P, R, hP, hR, hPR⟩ := q_condition hw ((E.xs (i + 1)))
  obtain ⟨fs1, hf1⟩ := wl_1 hw
  obtain ⟨fs2, hf2⟩ := wl_2 hw
  refine la_aload_n hE dL_law_1072 rfl h1 ?_
  refine la_arg hE dL_law_1073 dL_law_1074 dL_law_1075 dL_law_1076 dL_law_1077 (j := 1) (by decide) h0 h3 (by omega) ?_
  refine la_call1 (as := [.int (E.xs (i + 1))]) (rest := []) hE dL_law_1078 lkL_115 rfl hf1 hP rfl rfl (fun _ => rfl) (fun _ => rfl) (by decide) (by decide) (fun g1 hg1 => ?_) hkt
  refine la_aload_n hE dL_law_1081 rfl h2 ?_
  refine la_arg hE dL_law_1082 dL_law_1083 dL_law_1084 dL_law_1085 dL_law_1086 (j := 1) (by decide) h0 h3 (by omega) ?_
  refine la_call2 (as := [.int (E.xs (i + 1))]) (rest := [.int v]) hE dL_law_1087 lkL_118 rfl hf2 hR rfl rfl (fun _ => rfl) (fun _ => rfl) (by decide) (Nat.le_of_ble_eq_true rfl) (fun g2 hg2 => ?_) hkt
  refine la_icmp_eq hE dL_law_1090 (tgt := 1314) (by decide) ?_
  exact kk _ _ (hPR _ _ hg1 hg2)
theorem c_meeting (hE : E.ok) (hw : wlds f1 f2) (h0 : (0, Value.ref E.b) ∈ lv) (h1 : (1, Value.ref E.N1) ∈ lv) (h2 : (2, Value.ref E.N2) ∈ lv) (h3 : (3, Value.int (nI i)) ∈ lv) (hi : i + 6 ≤ E.L) (hkt : k ≤ 600000 ∧ t ≤ 7302250) (kk : ∀ g1 g2, wlds g1 g2 → lA E k t 1314 lv [] g1 g2) : lA E k t 1095 lv [] f1 f2 := by
  obtain ⟨v, P, R, hP, hR, hPR⟩ := q_meeting hw 
  obtain ⟨fs1, hf1⟩ := wl_1 hw
  obtain ⟨fs2, hf2⟩ := wl_2 hw
  refine la_aload_n hE dL_law_1095 rfl h1 ?_
  refine la_call1 (as := []) (rest := []) hE dL_law_1096 lkL_119 rfl hf1 hP rfl rfl (fun _ => rfl) (fun _ => rfl) (by decide) (by decide) (fun g1 hg1 => ?_) hkt
  refine la_aload_n hE dL_law_1099 rfl h2 ?_
  refine la_call2 (as := []) (rest := [.long v]) hE dL_law_1100 lkL_123 rfl hf2 hR rfl rfl (fun _ => rfl) (fun _ => rfl) (by decide) (Nat.le_of_ble_eq_true rfl) (fun g2 hg2 => ?_) hkt
  refine la_lcmp hE dL_law_1103 ?_
  refine la_if_eq hE dL_law_1104 (tgt := 1314) (by decide) (lg_eq v) ?_
  exact kk _ _ (hPR _ _ hg1 hg2)
theorem c_field (hE : E.ok) (hw : wlds f1 f2) (h0 : (0, Value.ref E.b) ∈ lv) (h1 : (1, Value.ref E.N1) ∈ lv) (h2 : (2, Value.ref E.N2) ∈ lv) (h3 : (3, Value.int (nI i)) ∈ lv) (hi : i + 6 ≤ E.L) (hkt : k ≤ 600000 ∧ t ≤ 7302250) (kk : ∀ g1 g2, wlds g1 g2 → lA E k t 1314 lv [] g1 g2) : lA E k t 1109 lv [] f1 f2 := by
  obtain ⟨v, P, R, hP, hR, hPR⟩ := q_field hw ((E.xs (i + 1)))
  obtain ⟨fs1, hf1⟩ := wl_1 hw
  obtain ⟨fs2, hf2⟩ := wl_2 hw
  refine la_aload_n hE dL_law_1109 rfl h1 ?_
  refine la_arg hE dL_law_1110 dL_law_1111 dL_law_1112 dL_law_1113 dL_law_1114 (j := 1) (by decide) h0 h3 (by omega) ?_
  refine la_call1 (as := [.int (E.xs (i + 1))]) (rest := []) hE dL_law_1115 lkL_124 rfl hf1 hP rfl rfl (fun _ => rfl) (fun _ => rfl) (by decide) (by decide) (fun g1 hg1 => ?_) hkt
  refine la_aload_n hE dL_law_1118 rfl h2 ?_
  refine la_arg hE dL_law_1119 dL_law_1120 dL_law_1121 dL_law_1122 dL_law_1123 (j := 1) (by decide) h0 h3 (by omega) ?_
  refine la_call2 (as := [.int (E.xs (i + 1))]) (rest := [.int v]) hE dL_law_1124 lkL_127 rfl hf2 hR rfl rfl (fun _ => rfl) (fun _ => rfl) (by decide) (Nat.le_of_ble_eq_true rfl) (fun g2 hg2 => ?_) hkt
  refine la_icmp_eq hE dL_law_1127 (tgt := 1314) (by decide) ?_
  exact kk _ _ (hPR _ _ hg1 hg2)
theorem c_rod (hE : E.ok) (hw : wlds f1 f2) (h0 : (0, Value.ref E.b) ∈ lv) (h1 : (1, Value.ref E.N1) ∈ lv) (h2 : (2, Value.ref E.N2) ∈ lv) (h3 : (3, Value.int (nI i)) ∈ lv) (hi : i + 6 ≤ E.L) (hkt : k ≤ 600000 ∧ t ≤ 7302250) (kk : ∀ g1 g2, wlds g1 g2 → lA E k t 1314 lv [] g1 g2) : lA E k t 1132 lv [] f1 f2 := by
  obtain ⟨v, P, R, hP, hR, hPR⟩ := q_rod hw ((E.xs (i + 1))) ((E.xs (i + 2))) ((E.xs (i + 3)))
  obtain ⟨fs1, hf1⟩ := wl_1 hw
  obtain ⟨fs2, hf2⟩ := wl_2 hw
  refine la_aload_n hE dL_law_1132 rfl h1 ?_
  refine la_arg hE dL_law_1133 dL_law_1134 dL_law_1135 dL_law_1136 dL_law_1137 (j := 1) (by decide) h0 h3 (by omega) ?_
  refine la_arg hE dL_law_1138 dL_law_1139 dL_law_1140 dL_law_1141 dL_law_1142 (j := 2) (by decide) h0 h3 (by omega) ?_
  refine la_arg hE dL_law_1143 dL_law_1144 dL_law_1145 dL_law_1146 dL_law_1147 (j := 3) (by decide) h0 h3 (by omega) ?_
  refine la_call1 (as := [.int (E.xs (i + 1)), .int (E.xs (i + 2)), .int (E.xs (i + 3))]) (rest := []) hE dL_law_1148 lkL_128 rfl hf1 hP rfl rfl (fun _ => rfl) (fun _ => rfl) (by decide) (by decide) (fun g1 hg1 => ?_) hkt
  refine la_aload_n hE dL_law_1151 rfl h2 ?_
  refine la_arg hE dL_law_1152 dL_law_1153 dL_law_1154 dL_law_1155 dL_law_1156 (j := 1) (by decide) h0 h3 (by omega) ?_
  refine la_arg hE dL_law_1157 dL_law_1158 dL_law_1159 dL_law_1160 dL_law_1161 (j := 2) (by decide) h0 h3 (by omega) ?_
  refine la_arg hE dL_law_1162 dL_law_1163 dL_law_1164 dL_law_1165 dL_law_1166 (j := 3) (by decide) h0 h3 (by omega) ?_
  refine la_call2 (as := [.int (E.xs (i + 1)), .int (E.xs (i + 2)), .int (E.xs (i + 3))]) (rest := [.int v]) hE dL_law_1167 lkL_131 rfl hf2 hR rfl rfl (fun _ => rfl) (fun _ => rfl) (by decide) (Nat.le_of_ble_eq_true rfl) (fun g2 hg2 => ?_) hkt
  refine la_icmp_eq hE dL_law_1170 (tgt := 1314) (by decide) ?_
  exact kk _ _ (hPR _ _ hg1 hg2)
theorem c_drop (hE : E.ok) (hw : wlds f1 f2) (h0 : (0, Value.ref E.b) ∈ lv) (h1 : (1, Value.ref E.N1) ∈ lv) (h2 : (2, Value.ref E.N2) ∈ lv) (h3 : (3, Value.int (nI i)) ∈ lv) (hi : i + 6 ≤ E.L) (hkt : k ≤ 600000 ∧ t ≤ 7302250) (kk : ∀ g1 g2, wlds g1 g2 → lA E k t 1314 lv [] g1 g2) : lA E k t 1175 lv [] f1 f2 := by
  obtain ⟨v, P, R, hP, hR, hPR⟩ := q_drop hw ((E.xs (i + 1)))
  obtain ⟨fs1, hf1⟩ := wl_1 hw
  obtain ⟨fs2, hf2⟩ := wl_2 hw
  refine la_aload_n hE dL_law_1175 rfl h1 ?_
  refine la_arg hE dL_law_1176 dL_law_1177 dL_law_1178 dL_law_1179 dL_law_1180 (j := 1) (by decide) h0 h3 (by omega) ?_
  refine la_call1 (as := [.int (E.xs (i + 1))]) (rest := []) hE dL_law_1181 lkL_132 rfl hf1 hP rfl rfl (fun _ => rfl) (fun _ => rfl) (by decide) (by decide) (fun g1 hg1 => ?_) hkt
  refine la_aload_n hE dL_law_1184 rfl h2 ?_
  refine la_arg hE dL_law_1185 dL_law_1186 dL_law_1187 dL_law_1188 dL_law_1189 (j := 1) (by decide) h0 h3 (by omega) ?_
  refine la_call2 (as := [.int (E.xs (i + 1))]) (rest := [.int v]) hE dL_law_1190 lkL_135 rfl hf2 hR rfl rfl (fun _ => rfl) (fun _ => rfl) (by decide) (Nat.le_of_ble_eq_true rfl) (fun g2 hg2 => ?_) hkt
  refine la_icmp_eq hE dL_law_1193 (tgt := 1314) (by decide) ?_
  exact kk _ _ (hPR _ _ hg1 hg2)
theorem c_meet (hE : E.ok) (hw : wlds f1 f2) (h0 : (0, Value.ref E.b) ∈ lv) (h1 : (1, Value.ref E.N1) ∈ lv) (h2 : (2, Value.ref E.N2) ∈ lv) (h3 : (3, Value.int (nI i)) ∈ lv) (hi : i + 6 ≤ E.L) (hkt : k ≤ 600000 ∧ t ≤ 7302250) (kk : ∀ g1 g2, wlds g1 g2 → lA E k t 1314 lv [] g1 g2) : lA E k t 1198 lv [] f1 f2 := by
  obtain ⟨v, P, R, hP, hR, hPR⟩ := q_meet hw ((E.xs (i + 1))) ((E.xs (i + 2)))
  obtain ⟨fs1, hf1⟩ := wl_1 hw
  obtain ⟨fs2, hf2⟩ := wl_2 hw
  refine la_aload_n hE dL_law_1198 rfl h1 ?_
  refine la_arg hE dL_law_1199 dL_law_1200 dL_law_1201 dL_law_1202 dL_law_1203 (j := 1) (by decide) h0 h3 (by omega) ?_
  refine la_arg hE dL_law_1204 dL_law_1205 dL_law_1206 dL_law_1207 dL_law_1208 (j := 2) (by decide) h0 h3 (by omega) ?_
  refine la_call1 (as := [.int (E.xs (i + 1)), .int (E.xs (i + 2))]) (rest := []) hE dL_law_1209 lkL_136 rfl hf1 hP rfl rfl (fun _ => rfl) (fun _ => rfl) (by decide) (by decide) (fun g1 hg1 => ?_) hkt
  refine la_aload_n hE dL_law_1212 rfl h2 ?_
  refine la_arg hE dL_law_1213 dL_law_1214 dL_law_1215 dL_law_1216 dL_law_1217 (j := 1) (by decide) h0 h3 (by omega) ?_
  refine la_arg hE dL_law_1218 dL_law_1219 dL_law_1220 dL_law_1221 dL_law_1222 (j := 2) (by decide) h0 h3 (by omega) ?_
  refine la_call2 (as := [.int (E.xs (i + 1)), .int (E.xs (i + 2))]) (rest := [.int v]) hE dL_law_1223 lkL_139 rfl hf2 hR rfl rfl (fun _ => rfl) (fun _ => rfl) (by decide) (Nat.le_of_ble_eq_true rfl) (fun g2 hg2 => ?_) hkt
  refine la_icmp_eq hE dL_law_1226 (tgt := 1314) (by decide) ?_
  exact kk _ _ (hPR _ _ hg1 hg2)
theorem c_lines (hE : E.ok) (hw : wlds f1 f2) (h0 : (0, Value.ref E.b) ∈ lv) (h1 : (1, Value.ref E.N1) ∈ lv) (h2 : (2, Value.ref E.N2) ∈ lv) (h3 : (3, Value.int (nI i)) ∈ lv) (hi : i + 6 ≤ E.L) (hkt : k ≤ 600000 ∧ t ≤ 7302250) (kk : ∀ g1 g2, wlds g1 g2 → lA E k t 1314 lv [] g1 g2) : lA E k t 1231 lv [] f1 f2 := by
  obtain ⟨v, P, R, hP, hR, hPR⟩ := q_lines hw ((E.xs (i + 1)))
  obtain ⟨fs1, hf1⟩ := wl_1 hw
  obtain ⟨fs2, hf2⟩ := wl_2 hw
  refine la_aload_n hE dL_law_1231 rfl h1 ?_
  refine la_arg hE dL_law_1232 dL_law_1233 dL_law_1234 dL_law_1235 dL_law_1236 (j := 1) (by decide) h0 h3 (by omega) ?_
  refine la_call1 (as := [.int (E.xs (i + 1))]) (rest := []) hE dL_law_1237 lkL_140 rfl hf1 hP rfl rfl (fun _ => rfl) (fun _ => rfl) (by decide) (by decide) (fun g1 hg1 => ?_) hkt
  refine la_aload_n hE dL_law_1240 rfl h2 ?_
  refine la_arg hE dL_law_1241 dL_law_1242 dL_law_1243 dL_law_1244 dL_law_1245 (j := 1) (by decide) h0 h3 (by omega) ?_
  refine la_call2 (as := [.int (E.xs (i + 1))]) (rest := [.int v]) hE dL_law_1246 lkL_143 rfl hf2 hR rfl rfl (fun _ => rfl) (fun _ => rfl) (by decide) (Nat.le_of_ble_eq_true rfl) (fun g2 hg2 => ?_) hkt
  refine la_icmp_eq hE dL_law_1249 (tgt := 1314) (by decide) ?_
  exact kk _ _ (hPR _ _ hg1 hg2)
theorem c_points (hE : E.ok) (hw : wlds f1 f2) (h0 : (0, Value.ref E.b) ∈ lv) (h1 : (1, Value.ref E.N1) ∈ lv) (h2 : (2, Value.ref E.N2) ∈ lv) (h3 : (3, Value.int (nI i)) ∈ lv) (hi : i + 6 ≤ E.L) (hkt : k ≤ 600000 ∧ t ≤ 7302250) (kk : ∀ g1 g2, wlds g1 g2 → lA E k t 1314 lv [] g1 g2) : lA E k t 1254 lv [] f1 f2 := by
  obtain ⟨v, P, R, hP, hR, hPR⟩ := q_points hw ((E.xs (i + 1)))
  obtain ⟨fs1, hf1⟩ := wl_1 hw
  obtain ⟨fs2, hf2⟩ := wl_2 hw
  refine la_aload_n hE dL_law_1254 rfl h1 ?_
  refine la_arg hE dL_law_1255 dL_law_1256 dL_law_1257 dL_law_1258 dL_law_1259 (j := 1) (by decide) h0 h3 (by omega) ?_
  refine la_call1 (as := [.int (E.xs (i + 1))]) (rest := []) hE dL_law_1260 lkL_144 rfl hf1 hP rfl rfl (fun _ => rfl) (fun _ => rfl) (by decide) (by decide) (fun g1 hg1 => ?_) hkt
  refine la_aload_n hE dL_law_1263 rfl h2 ?_
  refine la_arg hE dL_law_1264 dL_law_1265 dL_law_1266 dL_law_1267 dL_law_1268 (j := 1) (by decide) h0 h3 (by omega) ?_
  refine la_call2 (as := [.int (E.xs (i + 1))]) (rest := [.int v]) hE dL_law_1269 lkL_147 rfl hf2 hR rfl rfl (fun _ => rfl) (fun _ => rfl) (by decide) (Nat.le_of_ble_eq_true rfl) (fun g2 hg2 => ?_) hkt
  refine la_icmp_eq hE dL_law_1272 (tgt := 1314) (by decide) ?_
  exact kk _ _ (hPR _ _ hg1 hg2)
theorem c_count (hE : E.ok) (hw : wlds f1 f2) (h0 : (0, Value.ref E.b) ∈ lv) (h1 : (1, Value.ref E.N1) ∈ lv) (h2 : (2, Value.ref E.N2) ∈ lv) (h3 : (3, Value.int (nI i)) ∈ lv) (hi : i + 6 ≤ E.L) (hkt : k ≤ 600000 ∧ t ≤ 7302250) (kk : ∀ g1 g2, wlds g1 g2 → lA E k t 1314 lv [] g1 g2) : lA E k t 1277 lv [] f1 f2 := by
  obtain ⟨v, P, R, hP, hR, hPR⟩ := q_count hw ((E.xs (i + 1)))
  obtain ⟨fs1, hf1⟩ := wl_1 hw
  obtain ⟨fs2, hf2⟩ := wl_2 hw
  refine la_aload_n hE dL_law_1277 rfl h1 ?_
  refine la_arg hE dL_law_1278 dL_law_1279 dL_law_1280 dL_law_1281 dL_law_1282 (j := 1) (by decide) h0 h3 (by omega) ?_
  refine la_call1 (as := [.int (E.xs (i + 1))]) (rest := []) hE dL_law_1283 lkL_148 rfl hf1 hP rfl rfl (fun _ => rfl) (fun _ => rfl) (by decide) (by decide) (fun g1 hg1 => ?_) hkt
  refine la_aload_n hE dL_law_1286 rfl h2 ?_
  refine la_arg hE dL_law_1287 dL_law_1288 dL_law_1289 dL_law_1290 dL_law_1291 (j := 1) (by decide) h0 h3 (by omega) ?_
  refine la_call2 (as := [.int (E.xs (i + 1))]) (rest := [.int v]) hE dL_law_1292 lkL_151 rfl hf2 hR rfl rfl (fun _ => rfl) (fun _ => rfl) (by decide) (Nat.le_of_ble_eq_true rfl) (fun g2 hg2 => ?_) hkt
  refine la_icmp_eq hE dL_law_1295 (tgt := 1314) (by decide) ?_
  exact kk _ _ (hPR _ _ hg1 hg2)
theorem c_digest (hE : E.ok) (hw : wlds f1 f2) (h0 : (0, Value.ref E.b) ∈ lv) (h1 : (1, Value.ref E.N1) ∈ lv) (h2 : (2, Value.ref E.N2) ∈ lv) (h3 : (3, Value.int (nI i)) ∈ lv) (hi : i + 6 ≤ E.L) (hkt : k ≤ 600000 ∧ t ≤ 7302250) (kk : ∀ g1 g2, wlds g1 g2 → lA E k t 1314 lv [] g1 g2) : lA E k t 1300 lv [] f1 f2 := by
  obtain ⟨v, P, R, hP, hR, hPR⟩ := q_digest hw 
  obtain ⟨fs1, hf1⟩ := wl_1 hw
  obtain ⟨fs2, hf2⟩ := wl_2 hw
  refine la_aload_n hE dL_law_1300 rfl h1 ?_
  refine la_call1 (as := []) (rest := []) hE dL_law_1301 lkL_152 rfl hf1 hP rfl rfl (fun _ => rfl) (fun _ => rfl) (by decide) (by decide) (fun g1 hg1 => ?_) hkt
  refine la_aload_n hE dL_law_1304 rfl h2 ?_
  refine la_call2 (as := []) (rest := [.long v]) hE dL_law_1305 lkL_155 rfl hf2 hR rfl rfl (fun _ => rfl) (fun _ => rfl) (by decide) (Nat.le_of_ble_eq_true rfl) (fun g2 hg2 => ?_) hkt
  refine la_lcmp hE dL_law_1308 ?_
  refine la_if_eq hE dL_law_1309 (tgt := 1314) (by decide) (lg_eq v) ?_
  exact kk _ _ (hPR _ _ hg1 hg2)
end LC
