def fvq (q x : Nat) : Nat → Int := fun k => (fgq q x k : Int)
theorem mxq_d {q : Nat} (hq : q = 2 ∨ q = 3 ∨ q = 5) (p i r j : Nat) {k : Nat} (hk : k < 4) : fgq q (mxq q p i r j) k = (i * fgq q p k + j * fgq q r k) % q := by
  have h0 : 0 < q := by omega
  have e : mxq q p i r j = q * (q * (q * (q * 0 + (i * fgq q p 0 + j * fgq q r 0) % q) + (i * fgq q p 1 + j * fgq q r 1) % q) + (i * fgq q p 2 + j * fgq q r 2) % q) + (i * fgq q p 3 + j * fgq q r 3) % q := rfl
  rw [e]
  have b0 := Nat.mod_lt (i * fgq q p 0 + j * fgq q r 0) h0
  have b1 := Nat.mod_lt (i * fgq q p 1 + j * fgq q r 1) h0
  have b2 := Nat.mod_lt (i * fgq q p 2 + j * fgq q r 2) h0
  have b3 := Nat.mod_lt (i * fgq q p 3 + j * fgq q r 3) h0
  have hh : k = 0 ∨ k = 1 ∨ k = 2 ∨ k = 3 := by omega
  rcases hh with rfl | rfl | rfl | rfl <;>
  (generalize (i * fgq q p 0 + j * fgq q r 0) % q = d0 at *
   generalize (i * fgq q p 1 + j * fgq q r 1) % q = d1 at *
   generalize (i * fgq q p 2 + j * fgq q r 2) % q = d2 at *
   generalize (i * fgq q p 3 + j * fgq q r 3) % q = d3 at *
   unfold fgq
   rcases hq with rfl | rfl | rfl
   · simp only [Nat.reducePow, Nat.reduceSub]; omega
   · simp only [Nat.reducePow, Nat.reduceSub]; omega
   · simp only [Nat.reducePow, Nat.reduceSub]; omega)
theorem fgq_u {q x y : Nat} (hq : q = 2 ∨ q = 3 ∨ q = 5) (hx : x < q ^ 4) (hy : y < q ^ 4) (h : ∀ k, k < 4 → fgq q x k = fgq q y k) : x = y := by
  have h0 := h 0 (by decide)
  have h1 := h 1 (by decide)
  have h2 := h 2 (by decide)
  have h3 := h 3 (by decide)
  rcases hq with rfl | rfl | rfl
  · have a0 : x / 8 % 2 = y / 8 % 2 := h0
    have a1 : x / 4 % 2 = y / 4 % 2 := h1
    have a2 : x / 2 % 2 = y / 2 % 2 := h2
    have a3 : x / 1 % 2 = y / 1 % 2 := h3
    have hx2 : x < 16 := hx
    have hy2 : y < 16 := hy
    have ex : x = 8 * (x / 8 % 2) + 4 * (x / 4 % 2) + 2 * (x / 2 % 2) + x / 1 % 2 := by omega
    have ey : y = 8 * (y / 8 % 2) + 4 * (y / 4 % 2) + 2 * (y / 2 % 2) + y / 1 % 2 := by omega
    rw [ex, ey, a0, a1, a2, a3]
  · have a0 : x / 27 % 3 = y / 27 % 3 := h0
    have a1 : x / 9 % 3 = y / 9 % 3 := h1
    have a2 : x / 3 % 3 = y / 3 % 3 := h2
    have a3 : x / 1 % 3 = y / 1 % 3 := h3
    have hx2 : x < 81 := hx
    have hy2 : y < 81 := hy
    have ex : x = 27 * (x / 27 % 3) + 9 * (x / 9 % 3) + 3 * (x / 3 % 3) + x / 1 % 3 := by omega
    have ey : y = 27 * (y / 27 % 3) + 9 * (y / 9 % 3) + 3 * (y / 3 % 3) + y / 1 % 3 := by omega
    rw [ex, ey, a0, a1, a2, a3]
  · have a0 : x / 125 % 5 = y / 125 % 5 := h0
    have a1 : x / 25 % 5 = y / 25 % 5 := h1
    have a2 : x / 5 % 5 = y / 5 % 5 := h2
    have a3 : x / 1 % 5 = y / 1 % 5 := h3
    have hx2 : x < 625 := hx
    have hy2 : y < 625 := hy
    have ex : x = 125 * (x / 125 % 5) + 25 * (x / 25 % 5) + 5 * (x / 5 % 5) + x / 1 % 5 := by omega
    have ey : y = 125 * (y / 125 % 5) + 25 * (y / 25 % 5) + 5 * (y / 5 % 5) + y / 1 % 5 := by omega
    rw [ex, ey, a0, a1, a2, a3]
def evk (q : Nat) : Bool := (List.range (q ^ 4)).all (fun x => (List.range' 1 (q - 1)).all (fun c => evq q (mxq q x c 0 0) == evq q x) && (x == 0 || ((List.range' 1 (q - 1)).any (fun c => evq q x == mxq q x c 0 0) && evq q x != 0)))
theorem evk_2 : evk 2 = true ∧ evk 3 = true := by decide +kernel
theorem evk_5 : evk 5 = true := by decide +kernel
theorem evk_q {q : Nat} (hq : q = 2 ∨ q = 3 ∨ q = 5) : evk q = true := by
  rcases hq with rfl | rfl | rfl
  · exact evk_2.1
  · exact evk_2.2
  · exact evk_5
theorem evq_c {q x c : Nat} (hq : q = 2 ∨ q = 3 ∨ q = 5) (hx : x < q ^ 4) (h1 : 1 ≤ c) (h2 : c < q) : evq q (mxq q x c 0 0) = evq q x := by
  have h := List.all_eq_true.mp (evk_q hq) x (List.mem_range.mpr hx)
  rw [Bool.and_eq_true] at h
  have h3 := List.all_eq_true.mp h.1 c (List.mem_range'_1.mpr ⟨h1, by omega⟩)
  exact beq_iff_eq.mp h3
theorem evq_x {q x : Nat} (hq : q = 2 ∨ q = 3 ∨ q = 5) (hx : x < q ^ 4) (h0 : x ≠ 0) : evq q x ≠ 0 ∧ ∃ c, 1 ≤ c ∧ c < q ∧ evq q x = mxq q x c 0 0 := by
  have h := List.all_eq_true.mp (evk_q hq) x (List.mem_range.mpr hx)
  rw [Bool.and_eq_true, Bool.or_eq_true, Bool.and_eq_true] at h
  rcases h.2 with w | w
  · exact absurd (beq_iff_eq.mp w) h0
  · refine ⟨bne_iff_ne.mp w.2, ?_⟩
    obtain ⟨c, hc, e⟩ := List.any_eq_true.mp w.1
    have h3 := List.mem_range'_1.mp hc
    exact ⟨c, h3.1, by omega, beq_iff_eq.mp e⟩
theorem fvq_m {q : Nat} (hq : q = 2 ∨ q = 3 ∨ q = 5) (p i r j : Nat) {k : Nat} (hk : k < 4) : (q : Int) ∣ fvq q (mxq q p i r j) k - ((i : Int) * fvq q p k + (j : Int) * fvq q r k) := by
  unfold fvq
  rw [mxq_d hq p i r j hk, Int.natCast_emod, Int.natCast_add, Int.natCast_mul, Int.natCast_mul]
  generalize (i : Int) * (fgq q p k : Int) + (j : Int) * (fgq q r k : Int) = e
  exact ⟨-(e / q), by have := Int.emod_add_mul_ediv e q; rw [Int.mul_neg]; omega⟩
theorem fvq_eq {q : Nat} (hq : q = 2 ∨ q = 3 ∨ q = 5) {x y : Nat} (hx : x < q ^ 4) (hy : y < q ^ 4) (h : ∀ k, k < 4 → (q : Int) ∣ fvq q y k - fvq q x k) : y = x := by
  refine fgq_u hq hy hx (fun k hk => ?_)
  obtain ⟨m, hm⟩ := h k hk
  have h1 := fgq_lt (q := q) (by omega) x k
  have h2 := fgq_lt (q := q) (by omega) y k
  unfold fvq at hm
  rcases hq with rfl | rfl | rfl <;> omega
/-- what is in proportion is one point -/
theorem evq_p {q : Nat} (hq : q = 2 ∨ q = 3 ∨ q = 5) {x y : Nat} (hx : x < q ^ 4) (hy : y < q ^ 4) {c : Int} (hc : ¬ (q : Int) ∣ c) (h : ∀ k, k < 4 → (q : Int) ∣ fvq q y k - c * fvq q x k) : evq q y = evq q x := by
  obtain ⟨n, hn⟩ : ∃ n : Nat, (n : Int) = c % q := ⟨(c % q).toNat, Int.toNat_of_nonneg (Int.emod_nonneg _ (by omega))⟩
  have hn1 : n < q := by have := Int.emod_lt_of_pos c (show (0 : Int) < q by omega); omega
  have hn0 : 1 ≤ n := by
    have : ¬ c % q = 0 := fun w => hc (Int.dvd_of_emod_eq_zero w)
    omega
  have e : y = mxq q x n 0 0 := by
    refine fvq_eq hq (mxq_lt (by omega) _ _ _ _) hy (fun k hk => ?_)
    obtain ⟨m, hm⟩ := h k hk
    obtain ⟨m2, hm2⟩ := fvq_m hq x n 0 0 hk
    have h3 := Int.emod_add_mul_ediv c q
    refine ⟨m - m2 + (c / q) * fvq q x k, ?_⟩
    rw [← hn] at h3
    grind
  rw [e]
  exact evq_c hq hx hn0 hn1
theorem evq_f {q : Nat} (hq : q = 2 ∨ q = 3 ∨ q = 5) {x : Nat} (hx : x < q ^ 4) (h0 : x ≠ 0) : ∃ c : Int, ¬ (q : Int) ∣ c ∧ ∀ k, k < 4 → (q : Int) ∣ fvq q (evq q x) k - c * fvq q x k := by
  obtain ⟨_, c, h1, h2, e⟩ := evq_x hq hx h0
  refine ⟨c, ?_, fun k hk => ?_⟩
  · intro w
    obtain ⟨m, hm⟩ := w
    rcases hq with rfl | rfl | rfl <;> omega
  · rw [e]
    have := fvq_m hq x c 0 0 hk
    exact dvd_e this (by grind)
