theorem gal_fk : (List.range 5).all (fun k => (List.range 5).all (fun m => decide (k < 1 ∨ m < 1) || ((List.range' 0 (10 ^ k)).filter (fun c => bxl (dgt c k) k 0 m) == gal k m 0))) = true := by decide +kernel
theorem gal_f {k m : Nat} (hk1 : 1 ≤ k) (hk : k ≤ 4) (hm1 : 1 ≤ m) (hm : m ≤ 4) : (List.range' 0 (10 ^ k)).filter (fun c : Nat => isBx (k : Int) (m : Int) (c : Int)) = gal k m 0 := by
  have q := List.all_eq_true.mp (List.all_eq_true.mp gal_fk k (List.mem_range.mpr (by omega))) m (List.mem_range.mpr (by omega))
  rw [Bool.or_eq_true] at q
  rcases q with q | q
  · have := of_decide_eq_true q
    omega
  · rw [← (beq_iff_eq.mp q)]
    refine fil_cong _ _ (fun x _ hx => ?_)
    exact isBx_f hk1 hk hm1 hm (by omega)
theorem gal_p : ∀ k, k < 5 → ∀ m, m < 5 → 1 ≤ k → 1 ≤ m → (gal k m 0).Pairwise (fun a b => a < b) := by
  have h : (List.range 5).all (fun k => (List.range 5).all (fun m => decide (k < 1 ∨ m < 1) || decide ((gal k m 0).Pairwise (fun a b => a < b)))) = true := by decide +kernel
  intro k hk m hm h1 h2
  have q := List.all_eq_true.mp (List.all_eq_true.mp h k (List.mem_range.mpr hk)) m (List.mem_range.mpr hm)
  rw [Bool.or_eq_true] at q
  rcases q with q | q
  · have := of_decide_eq_true q
    omega
  · exact of_decide_eq_true q
theorem gal_lt {k m : Nat} (hk1 : 1 ≤ k) (hk : k ≤ 4) (hm1 : 1 ≤ m) (hm : m ≤ 4) {i j : Nat} (h : i < j) (hj : j < (gal k m 0).length) : (gal k m 0).getD i 0 < (gal k m 0).getD j 0 := by
  have q := gal_p k (by omega) m (by omega) hk1 hm1
  rw [List.getD_eq_getElem?_getD, List.getD_eq_getElem?_getD, List.getElem?_eq_getElem hj, List.getElem?_eq_getElem (show i < (gal k m 0).length by omega)]
  exact List.pairwise_iff_getElem.mp q i j (by omega) hj h
theorem dgt_le {k x y : Nat} (hk1 : 1 ≤ k) (hk : k ≤ 4) (hx : x < 10 ^ k) (h : ∀ p, p < k → dgt x k p ≤ dgt y k p) (hy : y < 10 ^ k) : x ≤ y := by
  have hh : k = 1 ∨ k = 2 ∨ k = 3 ∨ k = 4 := by omega
  rcases hh with rfl | rfl | rfl | rfl
  · have h0 : x / 1 % 10 ≤ y / 1 % 10 := h 0 (by decide)
    omega
  · have h0 : x / 10 % 10 ≤ y / 10 % 10 := h 0 (by decide)
    have h1 : x / 1 % 10 ≤ y / 1 % 10 := h 1 (by decide)
    omega
  · have h0 : x / 100 % 10 ≤ y / 100 % 10 := h 0 (by decide)
    have h1 : x / 10 % 10 ≤ y / 10 % 10 := h 1 (by decide)
    have h2 : x / 1 % 10 ≤ y / 1 % 10 := h 2 (by decide)
    omega
  · have h0 : x / 1000 % 10 ≤ y / 1000 % 10 := h 0 (by decide)
    have h1 : x / 100 % 10 ≤ y / 100 % 10 := h 1 (by decide)
    have h2 : x / 10 % 10 ≤ y / 10 % 10 := h 2 (by decide)
    have h3 : x / 1 % 10 ≤ y / 1 % 10 := h 3 (by decide)
    have ex : x = 1000 * (x / 1000 % 10) + 100 * (x / 100 % 10) + 10 * (x / 10 % 10) + x / 1 % 10 := by omega
    have ey : y = 1000 * (y / 1000 % 10) + 100 * (y / 100 % 10) + 10 * (y / 10 % 10) + y / 1 % 10 := by omega
    calc x = _ := ex
      _ ≤ 1000 * (y / 1000 % 10) + 100 * (y / 100 % 10) + 10 * (y / 10 % 10) + y / 1 % 10 := Nat.add_le_add (Nat.add_le_add (Nat.add_le_add (Nat.mul_le_mul_left _ h0) (Nat.mul_le_mul_left _ h1)) (Nat.mul_le_mul_left _ h2)) h3
      _ = y := ey.symm
theorem ptN_0 (o : Nat → Int64) (F : Nat → Nat) : ∀ n a x, (∀ b, a ≤ b → b < a + n → F b = 0) → ptN o F n a x = x
  | 0, _, _, _ => rfl
  | n + 1, a, x, h => by
    rw [ptN_s, h a (Nat.le_refl _) (by omega), show (nI 0).toInt64 = 0 by decide, Int64.mul_zero, Int64.add_zero, ptN_0 o F n (a + 1) _ (fun b p q => h b (by omega) (by omega))]
    split <;> rfl
theorem ptN_a (o : Nat → Int64) (F : Nat → Nat) : ∀ n n2 a x, ptN o F (n + n2) a x = ptN o F n2 (a + n) (ptN o F n a x)
  | 0, n2, a, x => by rw [Nat.zero_add]; rfl
  | n + 1, n2, a, x => by rw [show n + 1 + n2 = (n + n2) + 1 by omega, ptN_s, ptN_s, ptN_a o F n n2 (a + 1), show a + 1 + n = a + (n + 1) by omega]
theorem xFil_0 {k x y : Nat} (hk1 : 1 ≤ k) (hk : k ≤ 4) (hx : x < 10 ^ k) (hy : y < 10 ^ k) (h : y < x) (hB : Nat → Nat) : xFil k (dgt x k) hB (dgt y k) = 0 := by
  unfold xFil
  refine if_neg (fun w => ?_)
  have := dgt_le hk1 hk hx w.2 hy
  omega
/-- what comes from boxes up to one's own is all that comes -/
theorem ptO_c {k m : Nat} (hk1 : 1 ≤ k) (hk : k ≤ 4) (hm1 : 1 ≤ m) (hm : m ≤ 4) (h10 : ∀ j, j < (gal k m 0).length → (gal k m 0).getD j 0 < 10 ^ k) (b : Nat) (o : Nat → Int64) {c : Nat} (hc : c < (gal k m 0).length) : ptO k (gal k m 0) b o c = ptN o (fun a => xFil k (dgt ((gal k m 0).getD a 0) k) (dgt b k) (dgt ((gal k m 0).getD c 0) k)) (c + 1) 0 0 := by
  unfold ptO
  rw [show (gal k m 0).length = (c + 1) + ((gal k m 0).length - (c + 1)) by omega, ptN_a]
  exact ptN_0 _ _ _ _ _ (fun a p q => xFil_0 hk1 hk (h10 a (by omega)) (h10 c hc) (gal_lt hk1 hk hm1 hm (by omega) (by omega)) _)
