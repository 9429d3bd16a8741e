theorem adS_comm (S : Nat → Int64) (c d : Nat) (x y : Int64) : adS (adS S c x) d y = adS (adS S d y) c x := by
  funext j
  unfold adS upS
  by_cases e : c = d
  · subst e
    rw [if_pos rfl, if_pos rfl]
    by_cases q : j = c
    · rw [if_pos q, if_pos q, Int64.add_assoc, Int64.add_assoc, Int64.add_comm x y]
    · rw [if_neg q, if_neg q, if_neg q, if_neg q]
  · have e2 : ¬ d = c := fun h => e h.symm
    by_cases q : j = c
    · have e3 : ¬ j = d := fun h => e (q.symm.trans h)
      simp [q, e, e3]
    · by_cases w : j = d
      · simp [w, e2]
      · simp [w, q]
theorem adS_two (S : Nat → Int64) (c : Nat) (x y : Int64) : adS S c (x + y) = adS (adS S c x) c y := by
  funext j
  unfold adS upS
  rw [if_pos rfl]
  by_cases q : j = c
  · rw [if_pos q, if_pos q, Int64.add_assoc]
  · rw [if_neg q, if_neg q, if_neg q]
theorem adS_0 (S : Nat → Int64) (c : Nat) : adS S c 0 = S := by
  funext j
  unfold adS upS
  by_cases q : j = c
  · rw [if_pos q, q, Int64.add_zero]
  · rw [if_neg q]
theorem pdl_s (x i : Nat) (m : Int64) (k e : Nat) (S : Nat → Int64) : pdl x i m (k + 1) e S = pdl x i m k (e + 1) (adS S (dC x i e) m) := rfl
theorem pdl_ad (x i : Nat) (m : Int64) : ∀ (k e : Nat) (S : Nat → Int64) (d : Nat) (y : Int64), pdl x i m k e (adS S d y) = adS (pdl x i m k e S) d y
  | 0, _, _, _, _ => rfl
  | k + 1, e, S, d, y => by rw [pdl_s, pdl_s, adS_comm, pdl_ad x i m k]
theorem pdl_rev (x i : Nat) (m : Int64) : ∀ (k e : Nat) (S : Nat → Int64), pdl x i m (k + 1) e S = pdl x i m k e (adS S (dC x i (e + k)) m)
  | 0, _, _ => rfl
  | k + 1, e, S => by
    rw [pdl_s, pdl_rev x i m k (e + 1), pdl_s, adS_comm, show e + 1 + k = e + (k + 1) by omega]
theorem pdl_pdl (x i : Nat) (m : Int64) (k e : Nat) (y j : Nat) (n : Int64) : ∀ (k2 e2 : Nat) (S : Nat → Int64), pdl x i m k e (pdl y j n k2 e2 S) = pdl y j n k2 e2 (pdl x i m k e S)
  | 0, _, _ => rfl
  | k2 + 1, e2, S => by rw [pdl_s, pdl_s, pdl_pdl x i m k e y j n k2, pdl_ad]
theorem pdl_two (x i : Nat) (a b : Int64) : ∀ (k e : Nat) (S : Nat → Int64), pdl x i (a + b) k e S = pdl x i b k e (pdl x i a k e S)
  | 0, _, _ => rfl
  | k + 1, e, S => by rw [pdl_s, pdl_s, pdl_s, adS_two, pdl_two x i a b k, pdl_ad]
theorem pdl_0 (x i : Nat) : ∀ (k e : Nat) (S : Nat → Int64), pdl x i 0 k e S = S
  | 0, _, _ => rfl
  | k + 1, e, S => by rw [pdl_s, adS_0, pdl_0 x i k]
/-- the difference of a term, its number a long -/
def pd6 (x i : Nat) (m : Int64) (A : Nat → Int64) : Nat → Int64 := pdl x i (if dQ x i < dP x i then m else -m) (max (dP x i) (dQ x i) - min (dP x i) (dQ x i)) (min (dP x i) (dQ x i)) A
theorem pd6_comm (x y i j : Nat) (m n : Int64) (A : Nat → Int64) : pd6 x i m (pd6 y j n A) = pd6 y j n (pd6 x i m A) := pdl_pdl _ _ _ _ _ _ _ _ _ _ _
theorem pd6_0 (x i : Nat) (A : Nat → Int64) : pd6 x i 0 A = A := by
  unfold pd6
  split
  · exact pdl_0 _ _ _ _ _
  · rw [Int64.neg_zero]; exact pdl_0 _ _ _ _ _
theorem pd6_two (x i : Nat) (a b : Int64) (A : Nat → Int64) : pd6 x i (a + b) A = pd6 x i b (pd6 x i a A) := by
  unfold pd6
  split
  · exact pdl_two _ _ _ _ _ _ _
  · rw [Int64.neg_add, Int64.sub_eq_add_neg]; exact pdl_two _ _ _ _ _ _ _
/-- the differences of what is at work, place by place -/
def D9 (i : Nat) (S : Nat → Int64) : Nat → Nat → (Nat → Int64) → Nat → Int64
  | 0, _, A => A
  | k + 1, e, A => D9 i S k (e + 1) (pd6 (nex e) i (S (nex e)) A)
theorem D9_s (i : Nat) (S : Nat → Int64) (k e : Nat) (A : Nat → Int64) : D9 i S (k + 1) e A = D9 i S k (e + 1) (pd6 (nex e) i (S (nex e)) A) := rfl
def DF (i : Nat) (S : Nat → Int64) : Nat → Int64 := D9 i S 59049 0 zS
theorem D9_pd6 (i : Nat) (S : Nat → Int64) (x j : Nat) (m : Int64) : ∀ (k e : Nat) (A : Nat → Int64), D9 i S k e (pd6 x j m A) = pd6 x j m (D9 i S k e A)
  | 0, _, _ => rfl
  | k + 1, e, A => by rw [D9_s, D9_s, pd6_comm, D9_pd6 i S x j m k]
theorem D9_cong (i : Nat) {S S2 : Nat → Int64} : ∀ (k e : Nat) (A : Nat → Int64), (∀ p, e ≤ p → p < e + k → S (nex p) = S2 (nex p)) → D9 i S k e A = D9 i S2 k e A
  | 0, _, _, _ => rfl
  | k + 1, e, A, h => by rw [D9_s, D9_s, h e (by omega) (by omega), D9_cong i k (e + 1) _ (fun p a b => h p (by omega) (by omega))]
theorem D9_z (i : Nat) : ∀ (k e : Nat) (A : Nat → Int64), D9 i zS k e A = A
  | 0, _, _ => rfl
  | k + 1, e, A => by rw [D9_s, show zS (nex e) = 0 from rfl, pd6_0, D9_z i k]
theorem D9_ad (i : Nat) (S : Nat → Int64) {x : Nat} (hx : okc x) (m : Int64) : ∀ (k e : Nat) (A : Nat → Int64), e + k ≤ 59049 → e ≤ nin x → nin x < e + k → D9 i (adS S x m) k e A = pd6 x i m (D9 i S k e A)
  | 0, e, _, _, h1, h2 => by omega
  | k + 1, e, A, h0, h1, h2 => by
    rw [D9_s, D9_s]
    by_cases q : e = nin x
    · have hn : nex e = x := by rw [q, nex_nin hx]
      have h3 : D9 i (adS S x m) k (e + 1) = D9 i S k (e + 1) := by
        funext B
        exact D9_cong i k (e + 1) B (fun p a b => by
          unfold adS upS
          rw [if_neg (fun w => by have := (nin_nex (show p < 59049 by omega)).2; rw [w] at this; omega)])
      rw [hn, h3, show adS S x m x = S x + m from if_pos rfl, pd6_two, D9_pd6]
    · have h3 : adS S x m (nex e) = S (nex e) := if_neg (fun w => q (by rw [← w, (nin_nex (show e < 59049 by omega)).2]))
      rw [h3]
      exact D9_ad i S hx m k (e + 1) _ (by omega) (by omega) (by omega)
theorem DF_ad (i : Nat) (S : Nat → Int64) {x : Nat} (hx : okc x) (m : Int64) : DF i (adS S x m) = pd6 x i m (DF i S) := D9_ad i S hx m 59049 0 zS (Nat.le_refl _) (Nat.zero_le _) (by have := nin_in hx; omega)
theorem nbd_neg {n : Int32} (h : nbd n) : (-n).toInt64 = -(n.toInt64) := by
  unfold nbd at h
  rw [← Int64.toInt_inj, Int32.toInt_toInt64, Int32.toInt_neg, Int64.toInt_neg, Int32.toInt_toInt64, Int.bmod_eq_of_le (by omega) (by omega), Int.bmod_eq_of_le (by omega) (by omega)]
theorem pdt_6 {x i : Nat} {n : Int32} (h : nbd n) (S : Nat → Int64) : pdt x i n S = pd6 x i n.toInt64 S := by
  unfold pdt pd6 dN
  split
  · rfl
  · rw [nbd_neg h]
theorem DF_pal (i K : Nat) (hK : K = 59049) : ∀ (ts : tms) (S B : Nat → Int64), pvd ts → (∀ j, j < ts.length → nbd (tn ts j)) → D9 i S K 0 zS = B → D9 i (pal 1 ts S) K 0 zS = pdf i ts B
  | [], _, _, _, _, hB => hB
  | q :: r, S, B, h, hn, hB => by
    have h0 : okc q.1 := h 0 (by simp)
    have n0 : nbd q.2 := hn 0 (by simp)
    have h1 := nin_in h0
    show D9 i (pal 1 r (adS S q.1 (1 * q.2.toInt64))) K 0 zS = pdf i r (pdt q.1 i q.2 B)
    exact DF_pal i K hK r _ _ (fun j hj => h (j + 1) (by simp; exact hj)) (fun j hj => hn (j + 1) (by simp; exact hj)) (by rw [D9_ad i S h0 _ K 0 zS (by omega) (Nat.zero_le _) (by omega), hB, Int64.one_mul, pdt_6 n0])
theorem DF_ts (i : Nat) {ts : tms} (h : pvd ts) (hn : ∀ j, j < ts.length → nbd (tn ts j)) : DF i (pal 1 ts zS) = pdf i ts zS := DF_pal i 59049 rfl ts zS zS h hn (D9_z i 59049 0 zS)
theorem pal_9 {S : Nat → Int64} (hb : anB (dw9 S 59049) = false) {x : Nat} (hx : okc x) : ∀ (E : Nat) (A : Nat → Int64), E ≤ 59049 → (∀ q, q ∈ dw9 S E → q ∈ dw9 S 59049) → pal 1 ((dw9 S E).map (fun q => (q.1, q.2.toInt32))) A x = A x + (if nin x < E then S x else 0)
  | 0, A, _, _ => by rw [if_neg (Nat.not_lt_zero _), Int64.add_zero]; rfl
  | E + 1, A, hE, hm => by
    have e := dw9_s S E
    by_cases q : S (nex E) = 0
    · rw [if_neg (fun w => w q)] at e
      rw [e, pal_9 hb hx E A (by omega) (by rw [← e]; exact hm)]
      by_cases w : nin x = E
      · have hn : nex E = x := by rw [← w, nex_nin hx]
        rw [if_neg (by omega), if_pos (by omega), ← hn, q]
      · by_cases w2 : nin x < E
        · rw [if_pos w2, if_pos (by omega)]
        · rw [if_neg w2, if_neg (by omega)]
    · rw [if_pos q] at e
      have hb2 : byd (S (nex E)) = false := by
        cases z : byd (S (nex E)) with
        | false => rfl
        | true =>
          have hq : anB (dw9 S 59049) = true := List.any_eq_true.mpr ⟨(nex E, S (nex E)), hm _ (by rw [e]; exact List.mem_cons_self), z⟩
          rw [hb] at hq
          exact absurd hq (by decide)
      rw [e, List.map_cons]
      show pal 1 ((dw9 S E).map (fun q => (q.1, q.2.toInt32))) (adS A (nex E) (1 * (S (nex E)).toInt32.toInt64)) x = _
      rw [pal_9 hb hx E _ (by omega) (fun p hp => hm p (by rw [e]; exact List.mem_cons_of_mem _ hp)), (toI hb2).1, Int64.one_mul]
      by_cases w : nin x = E
      · have hn : nex E = x := by rw [← w, nex_nin hx]
        rw [hn, if_neg (by omega), if_pos (by omega), show adS A x (S x) x = A x + S x from if_pos rfl, Int64.add_zero]
      · have h3 : adS A (nex E) (S (nex E)) x = A x := if_neg (fun z => w (by rw [z, (nin_nex (show E < 59049 by omega)).2]))
        rw [h3]
        by_cases w2 : nin x < E
        · rw [if_pos w2, if_pos (by omega)]
        · rw [if_neg w2, if_neg (by omega)]
theorem trm_pal {S : Nat → Int64} (hS : sok S) (h : 0 ≤ stl S) {x : Nat} (hx : okc x) : pal 1 (trm S) zS x = S x := by
  have h1 := (stl_0 hS h).1
  rw [trm_9 hS, pal_9 h1 hx 59049 zS (Nat.le_refl _) (fun _ q => q), if_pos (nin_in hx)]
  exact Int64.zero_add _
theorem DF_trm (i : Nat) {S : Nat → Int64} (hS : sok S) (h : 0 ≤ stl S) : DF i S = pdf i (trm S) zS := by
  have w := trm_ok hS h
  rw [← DF_ts i w.1 (fun j hj => (w.2.2.2.2 j hj).2.2)]
  exact D9_cong i 59049 0 zS (fun p _ hp => (trm_pal hS h (nin_nex (by omega)).1).symm)
theorem sok_pd6 {x i : Nat} (hx : okc x) (hi : i < 4) (m : Int64) {S : Nat → Int64} (hS : sok S) : sok (pd6 x i m S) := sok_pdl _ _ hS (fun j a b => okc_dC hx hi (by omega) (by omega))
theorem sok_D9 {i : Nat} (hi : i < 4) (S : Nat → Int64) : ∀ (k e : Nat) (A : Nat → Int64), e + k ≤ 59049 → sok A → sok (D9 i S k e A)
  | 0, _, _, _, h => h
  | k + 1, e, A, he, h => sok_D9 hi S k (e + 1) _ (by omega) (sok_pd6 (nin_nex (by omega)).1 hi _ h)
theorem sok_DF {i : Nat} (hi : i < 4) (S : Nat → Int64) : sok (DF i S) := sok_D9 hi S 59049 0 zS (Nat.le_refl _) sok_z

theorem dPQ_0 {a4 a3 a2 a1 a0 : Nat} (b4 : a4 ≤ 8) (b3 : a3 ≤ 8) (b2 : a2 ≤ 8) (b1 : a1 ≤ 8) (b0 : a0 ≤ 8) : dP (a4 * 10000 + a3 * 1000 + a2 * 100 + a1 * 10 + a0) 0 = a4 ∧ dQ (a4 * 10000 + a3 * 1000 + a2 * 100 + a1 * 10 + a0) 0 = a3 := by
  obtain ⟨f0, f1, f2, f3, f4⟩ := dig_fat b4 b3 b2 b1 b0
  exact ⟨f4, f3⟩
theorem nd_0 {a4 a3 a2 a1 a0 : Nat} (b4 : a4 ≤ 8) (b3 : a3 ≤ 8) (b2 : a2 ≤ 8) (b1 : a1 ≤ 8) (b0 : a0 ≤ 8) : nin (a4 * 10000 + a3 * 1000 + a2 * 100 + a1 * 10 + a0) / 9 ^ 4 % 9 = a4 ∧ nin (a4 * 10000 + a3 * 1000 + a2 * 100 + a1 * 10 + a0) / 9 ^ 3 % 9 = a3 := by
  rw [nin_d b4 b3 b2 b1 b0]
  simp only [Nat.reducePow]
  refine ⟨?_, ?_⟩ <;> omega
theorem ndC_0 {a4 a3 a2 a1 a0 ee ff : Nat} (b4 : a4 ≤ 8) (b3 : a3 ≤ 8) (b2 : a2 ≤ 8) (b1 : a1 ≤ 8) (b0 : a0 ≤ 8) (he : ee ≤ 8) (hf : ff ≤ 8) (h : ee + ff + 1 = a4 + a3) : nin (dC (a4 * 10000 + a3 * 1000 + a2 * 100 + a1 * 10 + a0) 0 ee) = nin (a4 * 10000 + a3 * 1000 + a2 * 100 + a1 * 10 + a0) - a4 * 9 ^ 4 - a3 * 9 ^ 3 + ee * 9 ^ 4 + ff * 9 ^ 3 := by
  obtain ⟨p1, p2⟩ := dPQ_0 b4 b3 b2 b1 b0
  have e : dC (a4 * 10000 + a3 * 1000 + a2 * 100 + a1 * 10 + a0) 0 ee = ee * 10000 + ff * 1000 + a2 * 100 + a1 * 10 + a0 := by
    unfold dC dO
    rw [p1, p2]
    show a4 * 10000 + a3 * 1000 + a2 * 100 + a1 * 10 + a0 - a4 * 10000 - a3 * 1000 + ee * 10000 + (a4 + a3 - 1 - ee) * 1000 = _
    omega
  rw [e, nin_d he hf b2 b1 b0, nin_d b4 b3 b2 b1 b0]
  simp only [Nat.reducePow]
  omega
theorem dPQ_1 {a4 a3 a2 a1 a0 : Nat} (b4 : a4 ≤ 8) (b3 : a3 ≤ 8) (b2 : a2 ≤ 8) (b1 : a1 ≤ 8) (b0 : a0 ≤ 8) : dP (a4 * 10000 + a3 * 1000 + a2 * 100 + a1 * 10 + a0) 1 = a3 ∧ dQ (a4 * 10000 + a3 * 1000 + a2 * 100 + a1 * 10 + a0) 1 = a2 := by
  obtain ⟨f0, f1, f2, f3, f4⟩ := dig_fat b4 b3 b2 b1 b0
  exact ⟨f3, f2⟩
theorem nd_1 {a4 a3 a2 a1 a0 : Nat} (b4 : a4 ≤ 8) (b3 : a3 ≤ 8) (b2 : a2 ≤ 8) (b1 : a1 ≤ 8) (b0 : a0 ≤ 8) : nin (a4 * 10000 + a3 * 1000 + a2 * 100 + a1 * 10 + a0) / 9 ^ 3 % 9 = a3 ∧ nin (a4 * 10000 + a3 * 1000 + a2 * 100 + a1 * 10 + a0) / 9 ^ 2 % 9 = a2 := by
  rw [nin_d b4 b3 b2 b1 b0]
  simp only [Nat.reducePow]
  refine ⟨?_, ?_⟩ <;> omega
theorem ndC_1 {a4 a3 a2 a1 a0 ee ff : Nat} (b4 : a4 ≤ 8) (b3 : a3 ≤ 8) (b2 : a2 ≤ 8) (b1 : a1 ≤ 8) (b0 : a0 ≤ 8) (he : ee ≤ 8) (hf : ff ≤ 8) (h : ee + ff + 1 = a3 + a2) : nin (dC (a4 * 10000 + a3 * 1000 + a2 * 100 + a1 * 10 + a0) 1 ee) = nin (a4 * 10000 + a3 * 1000 + a2 * 100 + a1 * 10 + a0) - a3 * 9 ^ 3 - a2 * 9 ^ 2 + ee * 9 ^ 3 + ff * 9 ^ 2 := by
  obtain ⟨p1, p2⟩ := dPQ_1 b4 b3 b2 b1 b0
  have e : dC (a4 * 10000 + a3 * 1000 + a2 * 100 + a1 * 10 + a0) 1 ee = a4 * 10000 + ee * 1000 + ff * 100 + a1 * 10 + a0 := by
    unfold dC dO
    rw [p1, p2]
    show a4 * 10000 + a3 * 1000 + a2 * 100 + a1 * 10 + a0 - a3 * 1000 - a2 * 100 + ee * 1000 + (a3 + a2 - 1 - ee) * 100 = _
    omega
  rw [e, nin_d b4 he hf b1 b0, nin_d b4 b3 b2 b1 b0]
  simp only [Nat.reducePow]
  omega
theorem dPQ_2 {a4 a3 a2 a1 a0 : Nat} (b4 : a4 ≤ 8) (b3 : a3 ≤ 8) (b2 : a2 ≤ 8) (b1 : a1 ≤ 8) (b0 : a0 ≤ 8) : dP (a4 * 10000 + a3 * 1000 + a2 * 100 + a1 * 10 + a0) 2 = a2 ∧ dQ (a4 * 10000 + a3 * 1000 + a2 * 100 + a1 * 10 + a0) 2 = a1 := by
  obtain ⟨f0, f1, f2, f3, f4⟩ := dig_fat b4 b3 b2 b1 b0
  exact ⟨f2, f1⟩
theorem nd_2 {a4 a3 a2 a1 a0 : Nat} (b4 : a4 ≤ 8) (b3 : a3 ≤ 8) (b2 : a2 ≤ 8) (b1 : a1 ≤ 8) (b0 : a0 ≤ 8) : nin (a4 * 10000 + a3 * 1000 + a2 * 100 + a1 * 10 + a0) / 9 ^ 2 % 9 = a2 ∧ nin (a4 * 10000 + a3 * 1000 + a2 * 100 + a1 * 10 + a0) / 9 ^ 1 % 9 = a1 := by
  rw [nin_d b4 b3 b2 b1 b0]
  simp only [Nat.reducePow]
  refine ⟨?_, ?_⟩ <;> omega
theorem ndC_2 {a4 a3 a2 a1 a0 ee ff : Nat} (b4 : a4 ≤ 8) (b3 : a3 ≤ 8) (b2 : a2 ≤ 8) (b1 : a1 ≤ 8) (b0 : a0 ≤ 8) (he : ee ≤ 8) (hf : ff ≤ 8) (h : ee + ff + 1 = a2 + a1) : nin (dC (a4 * 10000 + a3 * 1000 + a2 * 100 + a1 * 10 + a0) 2 ee) = nin (a4 * 10000 + a3 * 1000 + a2 * 100 + a1 * 10 + a0) - a2 * 9 ^ 2 - a1 * 9 ^ 1 + ee * 9 ^ 2 + ff * 9 ^ 1 := by
  obtain ⟨p1, p2⟩ := dPQ_2 b4 b3 b2 b1 b0
  have e : dC (a4 * 10000 + a3 * 1000 + a2 * 100 + a1 * 10 + a0) 2 ee = a4 * 10000 + a3 * 1000 + ee * 100 + ff * 10 + a0 := by
    unfold dC dO
    rw [p1, p2]
    show a4 * 10000 + a3 * 1000 + a2 * 100 + a1 * 10 + a0 - a2 * 100 - a1 * 10 + ee * 100 + (a2 + a1 - 1 - ee) * 10 = _
    omega
  rw [e, nin_d b4 b3 he hf b0, nin_d b4 b3 b2 b1 b0]
  simp only [Nat.reducePow]
  omega
theorem dPQ_3 {a4 a3 a2 a1 a0 : Nat} (b4 : a4 ≤ 8) (b3 : a3 ≤ 8) (b2 : a2 ≤ 8) (b1 : a1 ≤ 8) (b0 : a0 ≤ 8) : dP (a4 * 10000 + a3 * 1000 + a2 * 100 + a1 * 10 + a0) 3 = a1 ∧ dQ (a4 * 10000 + a3 * 1000 + a2 * 100 + a1 * 10 + a0) 3 = a0 := by
  obtain ⟨f0, f1, f2, f3, f4⟩ := dig_fat b4 b3 b2 b1 b0
  exact ⟨f1, f0⟩
theorem nd_3 {a4 a3 a2 a1 a0 : Nat} (b4 : a4 ≤ 8) (b3 : a3 ≤ 8) (b2 : a2 ≤ 8) (b1 : a1 ≤ 8) (b0 : a0 ≤ 8) : nin (a4 * 10000 + a3 * 1000 + a2 * 100 + a1 * 10 + a0) / 9 ^ 1 % 9 = a1 ∧ nin (a4 * 10000 + a3 * 1000 + a2 * 100 + a1 * 10 + a0) / 9 ^ 0 % 9 = a0 := by
  rw [nin_d b4 b3 b2 b1 b0]
  simp only [Nat.reducePow]
  refine ⟨?_, ?_⟩ <;> omega
theorem ndC_3 {a4 a3 a2 a1 a0 ee ff : Nat} (b4 : a4 ≤ 8) (b3 : a3 ≤ 8) (b2 : a2 ≤ 8) (b1 : a1 ≤ 8) (b0 : a0 ≤ 8) (he : ee ≤ 8) (hf : ff ≤ 8) (h : ee + ff + 1 = a1 + a0) : nin (dC (a4 * 10000 + a3 * 1000 + a2 * 100 + a1 * 10 + a0) 3 ee) = nin (a4 * 10000 + a3 * 1000 + a2 * 100 + a1 * 10 + a0) - a1 * 9 ^ 1 - a0 * 9 ^ 0 + ee * 9 ^ 1 + ff * 9 ^ 0 := by
  obtain ⟨p1, p2⟩ := dPQ_3 b4 b3 b2 b1 b0
  have e : dC (a4 * 10000 + a3 * 1000 + a2 * 100 + a1 * 10 + a0) 3 ee = a4 * 10000 + a3 * 1000 + a2 * 100 + ee * 10 + ff := by
    unfold dC dO
    rw [p1, p2]
    show a4 * 10000 + a3 * 1000 + a2 * 100 + a1 * 10 + a0 - a1 * 10 - a0 * 1 + ee * 10 + (a1 + a0 - 1 - ee) * 1 = _
    omega
  rw [e, nin_d b4 b3 b2 he hf, nin_d b4 b3 b2 b1 b0]
  simp only [Nat.reducePow]
  omega
theorem dP_8 {x i : Nat} (h : okc x) : dP x i ≤ 8 ∧ dQ x i ≤ 8 := ⟨fat_ok h _, fat_ok h _⟩
theorem nin_dP {x i : Nat} (h : okc x) (hi : i < 4) : nin x / 9 ^ (4 - i) % 9 = dP x i ∧ nin x / 9 ^ (3 - i) % 9 = dQ x i := by
  obtain ⟨a4, a3, a2, a1, a0, b4, b3, b2, b1, b0, hx⟩ := okc_dig h
  rw [hx]
  have hh : i = 0 ∨ i = 1 ∨ i = 2 ∨ i = 3 := by omega
  rcases hh with rfl | rfl | rfl | rfl
  · rw [(dPQ_0 b4 b3 b2 b1 b0).1, (dPQ_0 b4 b3 b2 b1 b0).2]; exact nd_0 b4 b3 b2 b1 b0
  · rw [(dPQ_1 b4 b3 b2 b1 b0).1, (dPQ_1 b4 b3 b2 b1 b0).2]; exact nd_1 b4 b3 b2 b1 b0
  · rw [(dPQ_2 b4 b3 b2 b1 b0).1, (dPQ_2 b4 b3 b2 b1 b0).2]; exact nd_2 b4 b3 b2 b1 b0
  · rw [(dPQ_3 b4 b3 b2 b1 b0).1, (dPQ_3 b4 b3 b2 b1 b0).2]; exact nd_3 b4 b3 b2 b1 b0
theorem nin_dC {x i ee ff : Nat} (h : okc x) (hi : i < 4) (he : ee ≤ 8) (hf : ff ≤ 8) (hs : ee + ff + 1 = dP x i + dQ x i) : nin (dC x i ee) = nin x - dP x i * 9 ^ (4 - i) - dQ x i * 9 ^ (3 - i) + ee * 9 ^ (4 - i) + ff * 9 ^ (3 - i) := by
  obtain ⟨a4, a3, a2, a1, a0, b4, b3, b2, b1, b0, hx⟩ := okc_dig h
  rw [hx] at hs ⊢
  have hh : i = 0 ∨ i = 1 ∨ i = 2 ∨ i = 3 := by omega
  rcases hh with rfl | rfl | rfl | rfl
  · rw [(dPQ_0 b4 b3 b2 b1 b0).1, (dPQ_0 b4 b3 b2 b1 b0).2] at hs ⊢; exact ndC_0 b4 b3 b2 b1 b0 he hf hs
  · rw [(dPQ_1 b4 b3 b2 b1 b0).1, (dPQ_1 b4 b3 b2 b1 b0).2] at hs ⊢; exact ndC_1 b4 b3 b2 b1 b0 he hf hs
  · rw [(dPQ_2 b4 b3 b2 b1 b0).1, (dPQ_2 b4 b3 b2 b1 b0).2] at hs ⊢; exact ndC_2 b4 b3 b2 b1 b0 he hf hs
  · rw [(dPQ_3 b4 b3 b2 b1 b0).1, (dPQ_3 b4 b3 b2 b1 b0).2] at hs ⊢; exact ndC_3 b4 b3 b2 b1 b0 he hf hs
theorem dPQ_le {x i : Nat} (h : okc x) (hi : i < 4) : dP x i * 9 ^ (4 - i) + dQ x i * 9 ^ (3 - i) ≤ nin x := by
  have q := nin_dP h hi
  have e1 : nin x / 9 ^ (3 - i) / 9 = nin x / 9 ^ (4 - i) := by rw [Nat.div_div_eq_div_mul, ← Nat.pow_succ, show (3 - i).succ = 4 - i by omega]
  have e2 : 9 ^ (4 - i) = 9 ^ (3 - i) * 9 := by rw [← Nat.pow_succ, show (3 - i).succ = 4 - i by omega]
  have e3 : dP x i * 9 + dQ x i ≤ nin x / 9 ^ (3 - i) := by
    generalize nin x / 9 ^ (4 - i) = u at *
    generalize nin x / 9 ^ (3 - i) = v at *
    omega
  have e4 := Nat.mul_le_mul_right (9 ^ (3 - i)) e3
  have e5 := Nat.div_mul_le_self (nin x) (9 ^ (3 - i))
  rw [e2, ← Nat.mul_assoc, Nat.mul_right_comm, ← Nat.add_mul]
  exact Nat.le_trans e4 e5
theorem wk8_ad {L : Nat → Nat → Int64} {S : Nat → Int64} (h : ∀ p, p < 59049 → L 8 p = S (nex p)) {x : Nat} (hx : okc x) {y : Int64} : ∀ p, p < 59049 → g2 L 8 (nin x) (S x + y) 8 p = adS S x y (nex p) := by
  intro e he
  unfold adS upS
  by_cases q : e = nin x
  · rw [q, g2_eq, nex_nin hx, if_pos rfl]
  · rw [g2_ne _ _ (fun w => q w.2), if_neg (fun w => q (by rw [← w, (nin_nex he).2])), h e he]
/-- an answer of differ's -/
def qwd (G : Nat → Nat → Int32) (L : Nat → Nat → Int64) (S : Nat → Int64) : Option Value → fv_F → Option Nat → Prop := fun r2 f2 al2 => ∃ L2 : Nat → Nat → Int64, r2 = none ∧ f2 = fw mT G L2 ∧ al2 = none ∧ (∀ i, i ≠ 7 → i ≠ 8 → L2 i = L i) ∧ wkd L2 S

set_option maxRecDepth 4000 in
set_option maxHeartbeats 1000000 in
theorem C11_differ  (G : Nat → Nat → Int32) (L : Nat → Nat → Int64) (i : Nat) (hi : i < 4) (S : Nat → Int64) (hW : wkd L S) : fv_M Y11_differ 1 0 0 [.ref 0, .int (nI (i + 1))] (fw mT G L) none (qwd G L (DF i S)) := by
  refine fv_enter rfl (Nat.le_of_ble_eq_true rfl) ?_
  obtain ⟨Q, hQ⟩ : ∃ Q : Option Value → fv_F → Option Nat → Prop, Q = (qwd G L (DF i S)) := ⟨_, rfl⟩
  rw [← hQ]
  show fv_At Y11_differ 1 0 0 Q 0 [(0, .ref 0), (1, .int (nI (i + 1)))] [] (fw mT G L) none 0 0
  refine fx_iconst (v := (nI 5)) dX11_differ_0 (by decide) ?_
  refine fx_iload_n dX11_differ_1 rfl (i := 1) rfl ?_
  refine fn_isub dX11_differ_2 (by omega) ?_
  refine fn_to (show _ = (nI (4 - i)) from (congrArg nI (by omega))) ?_
  refine fn_cS dX11_differ_3 lk11_196 (C11_nines (n := 4 - i) (by omega) (f := (fw mT G L))) rfl rfl (by decide) (Nat.le_of_ble_eq_true rfl) ?_
  show fv_At Y11_differ 1 0 0 Q 6 [(0, .ref 0), (1, .int (nI (i + 1)))] [.int (nI (9 ^ (4 - i)))] (fw mT G L) none 0 0
  refine fx_istore_n (lv2 := [(0, .ref 0), (1, .int (nI (i + 1))), (2, .int (nI (9 ^ (4 - i))))]) dX11_differ_6 (i := 2) rfl (by decide) rfl ?_
  refine fx_iconst (v := (nI 4)) dX11_differ_7 (by decide) ?_
  refine fx_iload_n dX11_differ_8 rfl (i := 1) rfl ?_
  refine fn_isub dX11_differ_9 (by omega) ?_
  refine fn_to (show _ = (nI (3 - i)) from (congrArg nI (by omega))) ?_
  refine fn_cS dX11_differ_10 lk11_196 (C11_nines (n := 3 - i) (by omega) (f := (fw mT G L))) rfl rfl (by decide) (Nat.le_of_ble_eq_true rfl) ?_
  show fv_At Y11_differ 1 0 0 Q 13 [(0, .ref 0), (1, .int (nI (i + 1))), (2, .int (nI (9 ^ (4 - i))))] [.int (nI (9 ^ (3 - i)))] (fw mT G L) none 0 0
  refine fx_istore_n (lv2 := [(0, .ref 0), (1, .int (nI (i + 1))), (2, .int (nI (9 ^ (4 - i)))), (3, .int (nI (9 ^ (3 - i))))]) dX11_differ_13 (i := 3) rfl (by decide) rfl ?_
  have hp1 : 9 ^ (4 - i) ≤ 9 ^ 4 := Nat.pow_le_pow_right (by decide) (by omega)
  have hp2 : 9 ^ (3 - i) ≤ 9 ^ 4 := Nat.pow_le_pow_right (by decide) (by omega)
  have hp3 : 0 < 9 ^ (4 - i) := Nat.pow_pos (by decide)
  have hp4 : 0 < 9 ^ (3 - i) := Nat.pow_pos (by decide)
  refine fx_iconst (v := (nI 0)) dX11_differ_14 (by decide) ?_
  refine fx_istore (lv2 := [(0, .ref 0), (1, .int (nI (i + 1))), (2, .int (nI (9 ^ (4 - i)))), (3, .int (nI (9 ^ (3 - i)))), (4, .int (nI 0))]) dX11_differ_15 (by decide) rfl ?_
  have L17 : ∀ (k1 : Nat) (e1 : Nat) (L1 : Nat → Nat → Int64), (e1 + k1 = 59049) → (∀ q, q ≠ 8 → L1 q = L q) → (∀ j, j < e1 → L1 8 j = 0) → fv_At Y11_differ 1 0 0 Q 17 [(0, .ref 0), (1, .int (nI (i + 1))), (2, .int (nI (9 ^ (4 - i)))), (3, .int (nI (9 ^ (3 - i)))), (4, .int (nI e1))] [] (fw mT G L1) none 0 0 := by
    intro k1
    induction k1 with
    | zero =>
      intro e1 L1 he hoL hN
      refine fx_iload dX11_differ_17 rfl ?_
      refine fx_ldc dX11_differ_19 kc11_30 (fn_to (show _ = (nI 59049) by decide) ?_)
      refine fn_icmp_ge (tgt := 38) dX11_differ_21 (by decide) (by omega) (by omega) (fun c21 => ?_) (fun c21 => ?_)
      · skip
        refine fx_iconst (v := (nI 0)) dX11_differ_38 (by decide) ?_
        refine fx_istore (lv2 := [(0, .ref 0), (1, .int (nI (i + 1))), (2, .int (nI (9 ^ (4 - i)))), (3, .int (nI (9 ^ (3 - i)))), (4, .int (nI 0))]) dX11_differ_39 (by decide) rfl ?_
        have L41 : ∀ (k : Nat) (e : Nat) (A : Nat → Int64) (L2 : Nat → Nat → Int64), (e + k = 59049) → (∀ q, q ≠ 8 → L2 q = L q) → (∀ p, p < 59049 → L2 8 p = A (nex p)) → (D9 i S k e A = DF i S) → fv_At Y11_differ 1 0 0 Q 41 [(0, .ref 0), (1, .int (nI (i + 1))), (2, .int (nI (9 ^ (4 - i)))), (3, .int (nI (9 ^ (3 - i)))), (4, .int (nI e))] [] (fw mT G L2) none 0 0 := by
          intro k
          induction k with
          | zero =>
            intro e A L2 he2 hoL2 hA hR
            refine fx_iload dX11_differ_41 rfl ?_
            refine fx_ldc dX11_differ_43 kc11_30 (fn_to (show _ = (nI 59049) by decide) ?_)
            refine fn_icmp_ge (tgt := 202) dX11_differ_45 (by decide) (by omega) (by omega) (fun c45 => ?_) (fun c45 => ?_)
            · skip
              have hAD : A = DF i S := hR
              refine fx_iconst (v := (nI 0)) dX11_differ_202 (by decide) ?_
              refine fx_istore (lv2 := [(0, .ref 0), (1, .int (nI (i + 1))), (2, .int (nI (9 ^ (4 - i)))), (3, .int (nI (9 ^ (3 - i)))), (4, .int (nI 0))]) dX11_differ_203 (by decide) rfl ?_
              have L205 : ∀ (k4 : Nat) (e2 : Nat) (L4 : Nat → Nat → Int64), (e2 + k4 = 59049) → (∀ q, q ≠ 7 → q ≠ 8 → L4 q = L q) → (∀ p, p < 59049 → L4 8 p = A (nex p)) → (∀ p, p < e2 → L4 7 p = A (nex p)) → fv_At Y11_differ 1 0 0 Q 205 [(0, .ref 0), (1, .int (nI (i + 1))), (2, .int (nI (9 ^ (4 - i)))), (3, .int (nI (9 ^ (3 - i)))), (4, .int (nI e2))] [] (fw mT G L4) none 0 0 := by
                intro k4
                induction k4 with
                | zero =>
                  intro e2 L4 he4 hoL4 hA4 hC4
                  refine fx_iload dX11_differ_205 rfl ?_
                  refine fx_ldc dX11_differ_207 kc11_30 (fn_to (show _ = (nI 59049) by decide) ?_)
                  refine fn_icmp_ge (tgt := 232) dX11_differ_209 (by decide) (by omega) (by omega) (fun c209 => ?_) (fun c209 => ?_)
                  · skip
                    exact fx_vret dX11_differ_232 rfl rfl rfl (by rw [hQ]; exact ⟨L4, rfl, rfl, rfl, hoL4, fun p q => by rw [hC4 p (by omega), hAD]⟩)
                  · exfalso; omega
                | succ k4 ih205 =>
                  intro e2 L4 he4 hoL4 hA4 hC4
                  refine fx_iload dX11_differ_205 rfl ?_
                  refine fx_ldc dX11_differ_207 kc11_30 (fn_to (show _ = (nI 59049) by decide) ?_)
                  refine fn_icmp_ge (tgt := 232) dX11_differ_209 (by decide) (by omega) (by omega) (fun c209 => ?_) (fun c209 => ?_)
                  · exfalso; omega
                  · skip
                    refine fx_aload_n dX11_differ_212 rfl (i := 0) rfl ?_
                    refine fw_getr dX11_differ_213 fd11_31 rfl rfl ?_
                    refine fx_iload dX11_differ_216 rfl ?_
                    refine fx_aload_n dX11_differ_218 rfl (i := 0) rfl ?_
                    refine fw_getr dX11_differ_219 fd11_34 rfl rfl ?_
                    refine fx_iload dX11_differ_222 rfl ?_
                    refine fw_lald e2 dX11_differ_224 rfl rfl (by omega) (by decide) ?_
                    refine fn_toL (show _ = (A (nex e2)) from (hA4 e2 (by omega))) ?_
                    refine fw_last e2 dX11_differ_225 rfl rfl (by omega) (by decide) ?_
                    refine fn_iinc (c := 1) (lv2 := [(0, .ref 0), (1, .int (nI (i + 1))), (2, .int (nI (9 ^ (4 - i)))), (3, .int (nI (9 ^ (3 - i)))), (4, .int (nI (e2 + 1)))]) dX11_differ_226 (by decide) rfl (by decide) rfl ?_
                    refine fx_goto (tgt := 205) dX11_differ_229 (by decide) ?_
                    exact (ih205 (e2 + 1) (g2 L4 7 e2 ((A (nex e2)))) (by omega) (fun q w1 w2 => (g2_rowL w1).trans (hoL4 q w1 w2)) (fun p q => (g2_ne _ _ (fun z => absurd z.1 (by decide))).trans (hA4 p q)) (fun p q => by by_cases w : p = e2; (rw [w]; exact g2_eq _ _ _ _); exact (g2_ne _ _ (fun z => w z.2)).trans (hC4 p (by omega))))
              exact (L205 59049 0 L2 (by omega) (fun q _ w => hoL2 q w) hA (fun p q => absurd q (Nat.not_lt_zero _)))
            · exfalso; omega
          | succ k ih41 =>
            intro e A L2 he2 hoL2 hA hR
            refine fx_iload dX11_differ_41 rfl ?_
            refine fx_ldc dX11_differ_43 kc11_30 (fn_to (show _ = (nI 59049) by decide) ?_)
            refine fn_icmp_ge (tgt := 202) dX11_differ_45 (by decide) (by omega) (by omega) (fun c45 => ?_) (fun c45 => ?_)
            · exfalso; omega
            · skip
              refine fx_aload_n dX11_differ_48 rfl (i := 0) rfl ?_
              refine fw_getr dX11_differ_49 fd11_31 rfl rfl ?_
              refine fx_iload dX11_differ_52 rfl ?_
              refine fw_lald e dX11_differ_54 rfl rfl (by omega) (by decide) ?_
              refine fn_toL (show _ = (S (nex e)) from (by rw [hoL2 7 (by decide)]; exact hW e (by omega))) ?_
              refine fx_lconst (v := 0) dX11_differ_55 (by decide) ?_
              refine fx_lcmp dX11_differ_56 ?_
              refine fn_if_eqC (tgt := 196) dX11_differ_57 (by decide) (fun c57 => ?_) (fun c57 => ?_)
              · skip
                refine fn_iinc (c := 1) (lv2 := [(0, .ref 0), (1, .int (nI (i + 1))), (2, .int (nI (9 ^ (4 - i)))), (3, .int (nI (9 ^ (3 - i)))), (4, .int (nI (e + 1)))]) dX11_differ_196 (by decide) rfl (by decide) rfl ?_
                refine fx_goto (tgt := 41) dX11_differ_199 (by decide) ?_
                exact (ih41 (e + 1) A L2 (by omega) hoL2 hA (by rw [← hR, D9_s, c57, pd6_0]))
              · skip
                have h8 := nin_nex (show e < 59049 by omega)
                have h9 := nin_dP h8.1 hi
                have h10 := dPQ_le h8.1 hi
                rw [h8.2] at h10
                have h11 : e / 9 ^ (4 - i) < 2147483648 := Nat.lt_of_le_of_lt (Nat.div_le_self _ _) (by omega)
                have h12 : e / 9 ^ (3 - i) < 2147483648 := Nat.lt_of_le_of_lt (Nat.div_le_self _ _) (by omega)
                have h13 := dP_8 (i := i) h8.1
                refine fx_iload dX11_differ_60 rfl ?_
                refine fx_iload_n dX11_differ_62 rfl (i := 2) rfl ?_
                refine fn_idiv dX11_differ_63 (by omega) (by omega) (by omega) ?_
                refine fx_bipush (v := (nI 9)) dX11_differ_64 (by decide) ?_
                refine fn_irem dX11_differ_66 (by omega) (by omega) (by omega) ?_
                refine fn_to (show _ = (nI (dP (nex e) i)) from (congrArg nI (by rw [← h9.1, h8.2]))) ?_
                refine fx_istore (lv2 := [(0, .ref 0), (1, .int (nI (i + 1))), (2, .int (nI (9 ^ (4 - i)))), (3, .int (nI (9 ^ (3 - i)))), (4, .int (nI e)), (5, .int (nI (dP (nex e) i)))]) dX11_differ_67 (by decide) rfl ?_
                refine fx_iload dX11_differ_69 rfl ?_
                refine fx_iload_n dX11_differ_71 rfl (i := 3) rfl ?_
                refine fn_idiv dX11_differ_72 (by omega) (by omega) (by omega) ?_
                refine fx_bipush (v := (nI 9)) dX11_differ_73 (by decide) ?_
                refine fn_irem dX11_differ_75 (by omega) (by omega) (by omega) ?_
                refine fn_to (show _ = (nI (dQ (nex e) i)) from (congrArg nI (by rw [← h9.2, h8.2]))) ?_
                refine fx_istore (lv2 := [(0, .ref 0), (1, .int (nI (i + 1))), (2, .int (nI (9 ^ (4 - i)))), (3, .int (nI (9 ^ (3 - i)))), (4, .int (nI e)), (5, .int (nI (dP (nex e) i))), (6, .int (nI (dQ (nex e) i)))]) dX11_differ_76 (by decide) rfl ?_
                refine fx_iload dX11_differ_78 rfl ?_
                refine fx_iload dX11_differ_80 rfl ?_
                refine fx_iload_n dX11_differ_82 rfl (i := 2) rfl ?_
                refine fn_imul dX11_differ_83 ?_
                refine fn_isub dX11_differ_84 (by omega) ?_
                refine fx_iload dX11_differ_85 rfl ?_
                refine fx_iload_n dX11_differ_87 rfl (i := 3) rfl ?_
                refine fn_imul dX11_differ_88 ?_
                refine fn_isub dX11_differ_89 (by omega) ?_
                refine fx_istore (lv2 := [(0, .ref 0), (1, .int (nI (i + 1))), (2, .int (nI (9 ^ (4 - i)))), (3, .int (nI (9 ^ (3 - i)))), (4, .int (nI e)), (5, .int (nI (dP (nex e) i))), (6, .int (nI (dQ (nex e) i))), (7, .int (nI ((e - ((dP (nex e) i) * (9 ^ (4 - i)))) - ((dQ (nex e) i) * (9 ^ (3 - i))))))]) dX11_differ_90 (by decide) rfl ?_
                refine fx_iload dX11_differ_92 rfl ?_
                refine fx_iload dX11_differ_94 rfl ?_
                refine fn_icmp_le (tgt := 104) dX11_differ_96 (by decide) (by omega) (by omega) (fun c96 => ?_) (fun c96 => ?_)
                · skip
                  refine fx_iload dX11_differ_104 rfl ?_
                  refine fn_to (show _ = (nI (max (dP (nex e) i) (dQ (nex e) i))) from (congrArg nI (by omega))) ?_
                  refine fx_istore (lv2 := [(0, .ref 0), (1, .int (nI (i + 1))), (2, .int (nI (9 ^ (4 - i)))), (3, .int (nI (9 ^ (3 - i)))), (4, .int (nI e)), (5, .int (nI (dP (nex e) i))), (6, .int (nI (dQ (nex e) i))), (7, .int (nI ((e - ((dP (nex e) i) * (9 ^ (4 - i)))) - ((dQ (nex e) i) * (9 ^ (3 - i)))))), (8, .int (nI (max (dP (nex e) i) (dQ (nex e) i))))]) dX11_differ_106 (by decide) rfl ?_
                  refine fx_iload dX11_differ_108 rfl ?_
                  refine fx_iload dX11_differ_110 rfl ?_
                  refine fn_icmp_le (tgt := 120) dX11_differ_112 (by decide) (by omega) (by omega) (fun c112 => ?_) (fun c112 => ?_)
                  · skip
                    refine fx_iload dX11_differ_120 rfl ?_
                    refine fn_to (show _ = (nI (min (dP (nex e) i) (dQ (nex e) i))) from (congrArg nI (by omega))) ?_
                    refine fx_istore (lv2 := [(0, .ref 0), (1, .int (nI (i + 1))), (2, .int (nI (9 ^ (4 - i)))), (3, .int (nI (9 ^ (3 - i)))), (4, .int (nI e)), (5, .int (nI (dP (nex e) i))), (6, .int (nI (dQ (nex e) i))), (7, .int (nI ((e - ((dP (nex e) i) * (9 ^ (4 - i)))) - ((dQ (nex e) i) * (9 ^ (3 - i)))))), (8, .int (nI (max (dP (nex e) i) (dQ (nex e) i)))), (9, .int (nI (min (dP (nex e) i) (dQ (nex e) i))))]) dX11_differ_122 (by decide) rfl ?_
                    refine fx_iconst (v := (nI 0)) dX11_differ_124 (by decide) ?_
                    refine fx_istore (lv2 := [(0, .ref 0), (1, .int (nI (i + 1))), (2, .int (nI (9 ^ (4 - i)))), (3, .int (nI (9 ^ (3 - i)))), (4, .int (nI e)), (5, .int (nI (dP (nex e) i))), (6, .int (nI (dQ (nex e) i))), (7, .int (nI ((e - ((dP (nex e) i) * (9 ^ (4 - i)))) - ((dQ (nex e) i) * (9 ^ (3 - i)))))), (8, .int (nI (max (dP (nex e) i) (dQ (nex e) i)))), (9, .int (nI (min (dP (nex e) i) (dQ (nex e) i)))), (10, .int (nI 0))]) dX11_differ_125 (by decide) rfl ?_
                    have L127 : ∀ (k2 : Nat) (j : Nat) (A2 : Nat → Int64) (L3 : Nat → Nat → Int64), (j + k2 = max (dP (nex e) i) (dQ (nex e) i) - min (dP (nex e) i) (dQ (nex e) i)) → (∀ q, q ≠ 8 → L3 q = L q) → (∀ p, p < 59049 → L3 8 p = A2 (nex p)) → (pdl (nex e) i (if dQ (nex e) i < dP (nex e) i then S (nex e) else -S (nex e)) k2 (min (dP (nex e) i) (dQ (nex e) i)) A2 = pd6 (nex e) i (S (nex e)) A) → fv_At Y11_differ 1 0 0 Q 127 [(0, .ref 0), (1, .int (nI (i + 1))), (2, .int (nI (9 ^ (4 - i)))), (3, .int (nI (9 ^ (3 - i)))), (4, .int (nI e)), (5, .int (nI (dP (nex e) i))), (6, .int (nI (dQ (nex e) i))), (7, .int (nI ((e - ((dP (nex e) i) * (9 ^ (4 - i)))) - ((dQ (nex e) i) * (9 ^ (3 - i)))))), (8, .int (nI (max (dP (nex e) i) (dQ (nex e) i)))), (9, .int (nI (min (dP (nex e) i) (dQ (nex e) i)))), (10, .int (nI j))] [] (fw mT G L3) none 0 0 := by
                      intro k2
                      induction k2 with
                      | zero =>
                        intro j A2 L3 hj hoL3 hA3 hR2
                        refine fx_iload dX11_differ_127 rfl ?_
                        refine fx_iload dX11_differ_129 rfl ?_
                        refine fx_iload dX11_differ_131 rfl ?_
                        refine fn_isub dX11_differ_133 (by omega) ?_
                        refine fn_icmp_ge (tgt := 196) dX11_differ_134 (by decide) (by omega) (by omega) (fun c134 => ?_) (fun c134 => ?_)
                        · skip
                          refine fn_iinc (c := 1) (lv2 := [(0, .ref 0), (1, .int (nI (i + 1))), (2, .int (nI (9 ^ (4 - i)))), (3, .int (nI (9 ^ (3 - i)))), (4, .int (nI (e + 1))), (5, .int (nI (dP (nex e) i))), (6, .int (nI (dQ (nex e) i))), (7, .int (nI ((e - ((dP (nex e) i) * (9 ^ (4 - i)))) - ((dQ (nex e) i) * (9 ^ (3 - i)))))), (8, .int (nI (max (dP (nex e) i) (dQ (nex e) i)))), (9, .int (nI (min (dP (nex e) i) (dQ (nex e) i)))), (10, .int (nI j))]) dX11_differ_196 (by decide) rfl (by decide) rfl ?_
                          refine fx_goto (tgt := 41) dX11_differ_199 (by decide) ?_
                          exact fn_sub [0, 1, 2, 3, 4] rfl (ih41 (e + 1) A2 L3 (by omega) hoL3 hA3 (by rw [← hR]; exact congrArg (D9 i S k (e + 1)) hR2))
                        · exfalso; omega
                      | succ k2 ih127 =>
                        intro j A2 L3 hj hoL3 hA3 hR2
                        refine fx_iload dX11_differ_127 rfl ?_
                        refine fx_iload dX11_differ_129 rfl ?_
                        refine fx_iload dX11_differ_131 rfl ?_
                        refine fn_isub dX11_differ_133 (by omega) ?_
                        refine fn_icmp_ge (tgt := 196) dX11_differ_134 (by decide) (by omega) (by omega) (fun c134 => ?_) (fun c134 => ?_)
                        · exfalso; omega
                        · skip
                          have h14 := okc_dC h8.1 hi (e := min (dP (nex e) i) (dQ (nex e) i) + k2) (by omega) (by omega)
                          have h15 := nin_in h14
                          refine fx_aload_n dX11_differ_137 rfl (i := 0) rfl ?_
                          refine fw_getr dX11_differ_138 fd11_34 rfl rfl ?_
                          refine fx_iload dX11_differ_141 rfl ?_
                          refine fx_iload dX11_differ_143 rfl ?_
                          refine fx_iconst (v := (nI 1)) dX11_differ_145 (by decide) ?_
                          refine fn_isub dX11_differ_146 (by omega) ?_
                          refine fx_iload dX11_differ_147 rfl ?_
                          refine fn_isub dX11_differ_149 (by omega) ?_
                          refine fx_iload_n dX11_differ_150 rfl (i := 2) rfl ?_
                          refine fn_imul dX11_differ_151 ?_
                          refine fn_iadd dX11_differ_152 ?_
                          refine fx_iload dX11_differ_153 rfl ?_
                          refine fx_iload dX11_differ_155 rfl ?_
                          refine fn_iadd dX11_differ_157 ?_
                          refine fx_iload_n dX11_differ_158 rfl (i := 3) rfl ?_
                          refine fn_imul dX11_differ_159 ?_
                          refine fn_iadd dX11_differ_160 ?_
                          refine fn_to (show _ = (nI (nin (dC (nex e) i (min (dP (nex e) i) (dQ (nex e) i) + k2)))) from (congrArg nI (by rw [nin_dC h8.1 hi (ee := min (dP (nex e) i) (dQ (nex e) i) + k2) (ff := min (dP (nex e) i) (dQ (nex e) i) + j) (by omega) (by omega) (by omega), h8.2, show max (dP (nex e) i) (dQ (nex e) i) - 1 - j = min (dP (nex e) i) (dQ (nex e) i) + k2 by omega]))) ?_
                          refine fx_dup2 dX11_differ_161 rfl rfl ?_
                          refine fw_lald (nin (dC (nex e) i (min (dP (nex e) i) (dQ (nex e) i) + k2))) dX11_differ_162 rfl rfl (by omega) (by decide) ?_
                          refine fn_toL (show _ = (A2 (dC (nex e) i (min (dP (nex e) i) (dQ (nex e) i) + k2))) from (by rw [hA3 _ h15, nex_nin h14])) ?_
                          refine fx_iload dX11_differ_163 rfl ?_
                          refine fx_iload dX11_differ_165 rfl ?_
                          refine fn_icmp_le (tgt := 180) dX11_differ_167 (by decide) (by omega) (by omega) (fun c167 => ?_) (fun c167 => ?_)
                          · skip
                            refine fx_aload_n dX11_differ_180 rfl (i := 0) rfl ?_
                            refine fw_getr dX11_differ_181 fd11_31 rfl rfl ?_
                            refine fx_iload dX11_differ_184 rfl ?_
                            refine fw_lald e dX11_differ_186 rfl rfl (by omega) (by decide) ?_
                            refine fn_toL (show _ = (S (nex e)) from (by rw [hoL3 7 (by decide)]; exact hW e (by omega))) ?_
                            refine fx_lneg dX11_differ_187 ?_
                            refine fx_ladd dX11_differ_188 ?_
                            refine fn_toL (show _ = (A2 (dC (nex e) i (min (dP (nex e) i) (dQ (nex e) i) + k2)) + (if dQ (nex e) i < dP (nex e) i then S (nex e) else -S (nex e))) from (by rw [if_neg (by omega)])) ?_
                            refine fw_last (nin (dC (nex e) i (min (dP (nex e) i) (dQ (nex e) i) + k2))) dX11_differ_189 rfl rfl (by omega) (by decide) ?_
                            refine fn_iinc (c := 1) (lv2 := [(0, .ref 0), (1, .int (nI (i + 1))), (2, .int (nI (9 ^ (4 - i)))), (3, .int (nI (9 ^ (3 - i)))), (4, .int (nI e)), (5, .int (nI (dP (nex e) i))), (6, .int (nI (dQ (nex e) i))), (7, .int (nI ((e - ((dP (nex e) i) * (9 ^ (4 - i)))) - ((dQ (nex e) i) * (9 ^ (3 - i)))))), (8, .int (nI (max (dP (nex e) i) (dQ (nex e) i)))), (9, .int (nI (min (dP (nex e) i) (dQ (nex e) i)))), (10, .int (nI (j + 1)))]) dX11_differ_190 (by decide) rfl (by decide) rfl ?_
                            refine fx_goto (tgt := 127) dX11_differ_193 (by decide) ?_
                            exact (ih127 (j + 1) (adS A2 (dC (nex e) i (min (dP (nex e) i) (dQ (nex e) i) + k2)) (if dQ (nex e) i < dP (nex e) i then S (nex e) else -S (nex e))) (g2 L3 8 (nin (dC (nex e) i (min (dP (nex e) i) (dQ (nex e) i) + k2))) ((A2 (dC (nex e) i (min (dP (nex e) i) (dQ (nex e) i) + k2)) + (if dQ (nex e) i < dP (nex e) i then S (nex e) else -S (nex e))))) (by omega) (fun i q => (g2_rowL q).trans (hoL3 i q)) (wk8_ad hA3 h14) (by rw [← hR2, pdl_rev]))
                          · exfalso; omega
                    exact (L127 (max (dP (nex e) i) (dQ (nex e) i) - min (dP (nex e) i) (dQ (nex e) i)) 0 A L2 (by omega) hoL2 hA rfl)
                  · exfalso; omega
                · skip
                  refine fx_iload dX11_differ_99 rfl ?_
                  refine fn_to (show _ = (nI (max (dP (nex e) i) (dQ (nex e) i))) from (congrArg nI (by omega))) ?_
                  refine fx_goto (tgt := 106) dX11_differ_101 (by decide) ?_
                  refine fx_istore (lv2 := [(0, .ref 0), (1, .int (nI (i + 1))), (2, .int (nI (9 ^ (4 - i)))), (3, .int (nI (9 ^ (3 - i)))), (4, .int (nI e)), (5, .int (nI (dP (nex e) i))), (6, .int (nI (dQ (nex e) i))), (7, .int (nI ((e - ((dP (nex e) i) * (9 ^ (4 - i)))) - ((dQ (nex e) i) * (9 ^ (3 - i)))))), (8, .int (nI (max (dP (nex e) i) (dQ (nex e) i))))]) dX11_differ_106 (by decide) rfl ?_
                  refine fx_iload dX11_differ_108 rfl ?_
                  refine fx_iload dX11_differ_110 rfl ?_
                  refine fn_icmp_le (tgt := 120) dX11_differ_112 (by decide) (by omega) (by omega) (fun c112 => ?_) (fun c112 => ?_)
                  · exfalso; omega
                  · skip
                    refine fx_iload dX11_differ_115 rfl ?_
                    refine fn_to (show _ = (nI (min (dP (nex e) i) (dQ (nex e) i))) from (congrArg nI (by omega))) ?_
                    refine fx_goto (tgt := 122) dX11_differ_117 (by decide) ?_
                    refine fx_istore (lv2 := [(0, .ref 0), (1, .int (nI (i + 1))), (2, .int (nI (9 ^ (4 - i)))), (3, .int (nI (9 ^ (3 - i)))), (4, .int (nI e)), (5, .int (nI (dP (nex e) i))), (6, .int (nI (dQ (nex e) i))), (7, .int (nI ((e - ((dP (nex e) i) * (9 ^ (4 - i)))) - ((dQ (nex e) i) * (9 ^ (3 - i)))))), (8, .int (nI (max (dP (nex e) i) (dQ (nex e) i)))), (9, .int (nI (min (dP (nex e) i) (dQ (nex e) i))))]) dX11_differ_122 (by decide) rfl ?_
                    refine fx_iconst (v := (nI 0)) dX11_differ_124 (by decide) ?_
                    refine fx_istore (lv2 := [(0, .ref 0), (1, .int (nI (i + 1))), (2, .int (nI (9 ^ (4 - i)))), (3, .int (nI (9 ^ (3 - i)))), (4, .int (nI e)), (5, .int (nI (dP (nex e) i))), (6, .int (nI (dQ (nex e) i))), (7, .int (nI ((e - ((dP (nex e) i) * (9 ^ (4 - i)))) - ((dQ (nex e) i) * (9 ^ (3 - i)))))), (8, .int (nI (max (dP (nex e) i) (dQ (nex e) i)))), (9, .int (nI (min (dP (nex e) i) (dQ (nex e) i)))), (10, .int (nI 0))]) dX11_differ_125 (by decide) rfl ?_
                    have L127 : ∀ (k2 : Nat) (j : Nat) (A2 : Nat → Int64) (L3 : Nat → Nat → Int64), (j + k2 = max (dP (nex e) i) (dQ (nex e) i) - min (dP (nex e) i) (dQ (nex e) i)) → (∀ q, q ≠ 8 → L3 q = L q) → (∀ p, p < 59049 → L3 8 p = A2 (nex p)) → (pdl (nex e) i (if dQ (nex e) i < dP (nex e) i then S (nex e) else -S (nex e)) k2 (min (dP (nex e) i) (dQ (nex e) i)) A2 = pd6 (nex e) i (S (nex e)) A) → fv_At Y11_differ 1 0 0 Q 127 [(0, .ref 0), (1, .int (nI (i + 1))), (2, .int (nI (9 ^ (4 - i)))), (3, .int (nI (9 ^ (3 - i)))), (4, .int (nI e)), (5, .int (nI (dP (nex e) i))), (6, .int (nI (dQ (nex e) i))), (7, .int (nI ((e - ((dP (nex e) i) * (9 ^ (4 - i)))) - ((dQ (nex e) i) * (9 ^ (3 - i)))))), (8, .int (nI (max (dP (nex e) i) (dQ (nex e) i)))), (9, .int (nI (min (dP (nex e) i) (dQ (nex e) i)))), (10, .int (nI j))] [] (fw mT G L3) none 0 0 := by
                      intro k2
                      induction k2 with
                      | zero =>
                        intro j A2 L3 hj hoL3 hA3 hR2
                        refine fx_iload dX11_differ_127 rfl ?_
                        refine fx_iload dX11_differ_129 rfl ?_
                        refine fx_iload dX11_differ_131 rfl ?_
                        refine fn_isub dX11_differ_133 (by omega) ?_
                        refine fn_icmp_ge (tgt := 196) dX11_differ_134 (by decide) (by omega) (by omega) (fun c134 => ?_) (fun c134 => ?_)
                        · skip
                          refine fn_iinc (c := 1) (lv2 := [(0, .ref 0), (1, .int (nI (i + 1))), (2, .int (nI (9 ^ (4 - i)))), (3, .int (nI (9 ^ (3 - i)))), (4, .int (nI (e + 1))), (5, .int (nI (dP (nex e) i))), (6, .int (nI (dQ (nex e) i))), (7, .int (nI ((e - ((dP (nex e) i) * (9 ^ (4 - i)))) - ((dQ (nex e) i) * (9 ^ (3 - i)))))), (8, .int (nI (max (dP (nex e) i) (dQ (nex e) i)))), (9, .int (nI (min (dP (nex e) i) (dQ (nex e) i)))), (10, .int (nI j))]) dX11_differ_196 (by decide) rfl (by decide) rfl ?_
                          refine fx_goto (tgt := 41) dX11_differ_199 (by decide) ?_
                          exact fn_sub [0, 1, 2, 3, 4] rfl (ih41 (e + 1) A2 L3 (by omega) hoL3 hA3 (by rw [← hR]; exact congrArg (D9 i S k (e + 1)) hR2))
                        · exfalso; omega
                      | succ k2 ih127 =>
                        intro j A2 L3 hj hoL3 hA3 hR2
                        refine fx_iload dX11_differ_127 rfl ?_
                        refine fx_iload dX11_differ_129 rfl ?_
                        refine fx_iload dX11_differ_131 rfl ?_
                        refine fn_isub dX11_differ_133 (by omega) ?_
                        refine fn_icmp_ge (tgt := 196) dX11_differ_134 (by decide) (by omega) (by omega) (fun c134 => ?_) (fun c134 => ?_)
                        · exfalso; omega
                        · skip
                          have h14 := okc_dC h8.1 hi (e := min (dP (nex e) i) (dQ (nex e) i) + k2) (by omega) (by omega)
                          have h15 := nin_in h14
                          refine fx_aload_n dX11_differ_137 rfl (i := 0) rfl ?_
                          refine fw_getr dX11_differ_138 fd11_34 rfl rfl ?_
                          refine fx_iload dX11_differ_141 rfl ?_
                          refine fx_iload dX11_differ_143 rfl ?_
                          refine fx_iconst (v := (nI 1)) dX11_differ_145 (by decide) ?_
                          refine fn_isub dX11_differ_146 (by omega) ?_
                          refine fx_iload dX11_differ_147 rfl ?_
                          refine fn_isub dX11_differ_149 (by omega) ?_
                          refine fx_iload_n dX11_differ_150 rfl (i := 2) rfl ?_
                          refine fn_imul dX11_differ_151 ?_
                          refine fn_iadd dX11_differ_152 ?_
                          refine fx_iload dX11_differ_153 rfl ?_
                          refine fx_iload dX11_differ_155 rfl ?_
                          refine fn_iadd dX11_differ_157 ?_
                          refine fx_iload_n dX11_differ_158 rfl (i := 3) rfl ?_
                          refine fn_imul dX11_differ_159 ?_
                          refine fn_iadd dX11_differ_160 ?_
                          refine fn_to (show _ = (nI (nin (dC (nex e) i (min (dP (nex e) i) (dQ (nex e) i) + k2)))) from (congrArg nI (by rw [nin_dC h8.1 hi (ee := min (dP (nex e) i) (dQ (nex e) i) + k2) (ff := min (dP (nex e) i) (dQ (nex e) i) + j) (by omega) (by omega) (by omega), h8.2, show max (dP (nex e) i) (dQ (nex e) i) - 1 - j = min (dP (nex e) i) (dQ (nex e) i) + k2 by omega]))) ?_
                          refine fx_dup2 dX11_differ_161 rfl rfl ?_
                          refine fw_lald (nin (dC (nex e) i (min (dP (nex e) i) (dQ (nex e) i) + k2))) dX11_differ_162 rfl rfl (by omega) (by decide) ?_
                          refine fn_toL (show _ = (A2 (dC (nex e) i (min (dP (nex e) i) (dQ (nex e) i) + k2))) from (by rw [hA3 _ h15, nex_nin h14])) ?_
                          refine fx_iload dX11_differ_163 rfl ?_
                          refine fx_iload dX11_differ_165 rfl ?_
                          refine fn_icmp_le (tgt := 180) dX11_differ_167 (by decide) (by omega) (by omega) (fun c167 => ?_) (fun c167 => ?_)
                          · exfalso; omega
                          · skip
                            refine fx_aload_n dX11_differ_170 rfl (i := 0) rfl ?_
                            refine fw_getr dX11_differ_171 fd11_31 rfl rfl ?_
                            refine fx_iload dX11_differ_174 rfl ?_
                            refine fw_lald e dX11_differ_176 rfl rfl (by omega) (by decide) ?_
                            refine fn_toL (show _ = (S (nex e)) from (by rw [hoL3 7 (by decide)]; exact hW e (by omega))) ?_
                            refine fx_goto (tgt := 188) dX11_differ_177 (by decide) ?_
                            refine fx_ladd dX11_differ_188 ?_
                            refine fn_toL (show _ = (A2 (dC (nex e) i (min (dP (nex e) i) (dQ (nex e) i) + k2)) + (if dQ (nex e) i < dP (nex e) i then S (nex e) else -S (nex e))) from (by rw [if_pos (by omega)])) ?_
                            refine fw_last (nin (dC (nex e) i (min (dP (nex e) i) (dQ (nex e) i) + k2))) dX11_differ_189 rfl rfl (by omega) (by decide) ?_
                            refine fn_iinc (c := 1) (lv2 := [(0, .ref 0), (1, .int (nI (i + 1))), (2, .int (nI (9 ^ (4 - i)))), (3, .int (nI (9 ^ (3 - i)))), (4, .int (nI e)), (5, .int (nI (dP (nex e) i))), (6, .int (nI (dQ (nex e) i))), (7, .int (nI ((e - ((dP (nex e) i) * (9 ^ (4 - i)))) - ((dQ (nex e) i) * (9 ^ (3 - i)))))), (8, .int (nI (max (dP (nex e) i) (dQ (nex e) i)))), (9, .int (nI (min (dP (nex e) i) (dQ (nex e) i)))), (10, .int (nI (j + 1)))]) dX11_differ_190 (by decide) rfl (by decide) rfl ?_
                            refine fx_goto (tgt := 127) dX11_differ_193 (by decide) ?_
                            exact (ih127 (j + 1) (adS A2 (dC (nex e) i (min (dP (nex e) i) (dQ (nex e) i) + k2)) (if dQ (nex e) i < dP (nex e) i then S (nex e) else -S (nex e))) (g2 L3 8 (nin (dC (nex e) i (min (dP (nex e) i) (dQ (nex e) i) + k2))) ((A2 (dC (nex e) i (min (dP (nex e) i) (dQ (nex e) i) + k2)) + (if dQ (nex e) i < dP (nex e) i then S (nex e) else -S (nex e))))) (by omega) (fun i q => (g2_rowL q).trans (hoL3 i q)) (wk8_ad hA3 h14) (by rw [← hR2, pdl_rev]))
                    exact (L127 (max (dP (nex e) i) (dQ (nex e) i) - min (dP (nex e) i) (dQ (nex e) i)) 0 A L2 (by omega) hoL2 hA rfl)
        exact (L41 59049 0 zS L1 (by omega) hoL (fun p q => hN p (by omega)) rfl)
      · exfalso; omega
    | succ k1 ih17 =>
      intro e1 L1 he hoL hN
      refine fx_iload dX11_differ_17 rfl ?_
      refine fx_ldc dX11_differ_19 kc11_30 (fn_to (show _ = (nI 59049) by decide) ?_)
      refine fn_icmp_ge (tgt := 38) dX11_differ_21 (by decide) (by omega) (by omega) (fun c21 => ?_) (fun c21 => ?_)
      · exfalso; omega
      · skip
        refine fx_aload_n dX11_differ_24 rfl (i := 0) rfl ?_
        refine fw_getr dX11_differ_25 fd11_34 rfl rfl ?_
        refine fx_iload dX11_differ_28 rfl ?_
        refine fx_lconst (v := 0) dX11_differ_30 (by decide) ?_
        refine fw_last e1 dX11_differ_31 rfl rfl (by omega) (by decide) ?_
        refine fn_iinc (c := 1) (lv2 := [(0, .ref 0), (1, .int (nI (i + 1))), (2, .int (nI (9 ^ (4 - i)))), (3, .int (nI (9 ^ (3 - i)))), (4, .int (nI (e1 + 1)))]) dX11_differ_32 (by decide) rfl (by decide) rfl ?_
        refine fx_goto (tgt := 17) dX11_differ_35 (by decide) ?_
        exact (ih17 (e1 + 1) (g2 L1 8 e1 0) (by omega) (fun i q => (g2_rowL q).trans (hoL i q)) (fun j q => by by_cases w : j = e1; (rw [w]; exact g2_eq _ _ _ _); exact (g2_ne _ _ (fun z => w z.2)).trans (hN j (by omega))))
  exact (L17 59049 0 L (by omega) (fun _ _ => rfl) (fun j q => absurd q (Nat.not_lt_zero _)))

set_option maxRecDepth 4000 in
set_option maxHeartbeats 1000000 in
theorem C11_difference  (G : Nat → Nat → Int32) (L : Nat → Nat → Int64) (T : Nat → tms) (t : Nat → Bool) (hM : msh G L T t) (hV : pvs T t) (c a i : Int) (c1 : -2147483648 ≤ c) (c2 : c < 2147483648) (a1 : -2147483648 ≤ a) (a2 : a < 2147483648) (i1 : -2147483648 ≤ i) (i2 : i < 2147483648) : fv_M Y11_difference 3 0 0 [.ref 0, .int (iI c), .int (iI a), .int (iI i)] (fw mT G L) none (qms G L T t (xDif T t c a i) c.toNat (trm (uDif T a i))) := by
  refine fv_enter rfl (Nat.le_of_ble_eq_true rfl) ?_
  obtain ⟨Q, hQ⟩ : ∃ Q : Option Value → fv_F → Option Nat → Prop, Q = (qms G L T t (xDif T t c a i) c.toNat (trm (uDif T a i))) := ⟨_, rfl⟩
  rw [← hQ]
  show fv_At Y11_difference 3 0 0 Q 0 [(0, .ref 0), (1, .int (iI c)), (2, .int (iI a)), (3, .int (iI i))] [] (fw mT G L) none 0 0
  refine fx_iload_n dX11_difference_0 rfl (i := 1) rfl ?_
  refine fn_cS dX11_difference_1 lk11_169 (C11_isSheet (s := c) (by omega) (by omega) (f := (fw mT G L))) rfl rfl (by decide) (Nat.le_of_ble_eq_true rfl) ?_
  show fv_At Y11_difference 3 0 0 Q 4 [(0, .ref 0), (1, .int (iI c)), (2, .int (iI a)), (3, .int (iI i))] [.int (bI (isSt c))] (fw mT G L) none 0 0
  refine fn_if_eqB (tgt := 26) dX11_difference_4 (by decide) (fun c4 => ?_) (fun c4 => ?_)
  · skip
    refine fx_bipush (v := (iI (-2))) dX11_difference_26 (by decide) ?_
    exact fx_iret dX11_difference_28 rfl rfl rfl (by rw [hQ]; exact (by rw [show xDif T t c a i = -2 by unfold xDif; exact if_neg (fun q => by first | (have h3 := of_decide_eq_false c23; omega) | simp_all)]; exact qms_n hM moff_r (by decide) _ _))
  · skip
    refine fx_iload_n dX11_difference_7 rfl (i := 2) rfl ?_
    refine fn_cS dX11_difference_8 lk11_169 (C11_isSheet (s := a) (by omega) (by omega) (f := (fw mT G L))) rfl rfl (by decide) (Nat.le_of_ble_eq_true rfl) ?_
    show fv_At Y11_difference 3 0 0 Q 11 [(0, .ref 0), (1, .int (iI c)), (2, .int (iI a)), (3, .int (iI i))] [.int (bI (isSt a))] (fw mT G L) none 0 0
    refine fn_if_eqB (tgt := 26) dX11_difference_11 (by decide) (fun c11 => ?_) (fun c11 => ?_)
    · skip
      refine fx_bipush (v := (iI (-2))) dX11_difference_26 (by decide) ?_
      exact fx_iret dX11_difference_28 rfl rfl rfl (by rw [hQ]; exact (by rw [show xDif T t c a i = -2 by unfold xDif; exact if_neg (fun q => by first | (have h3 := of_decide_eq_false c23; omega) | simp_all)]; exact qms_n hM moff_r (by decide) _ _))
    · skip
      refine fx_iload_n dX11_difference_14 rfl (i := 3) rfl ?_
      refine fx_i2l dX11_difference_15 ?_
      refine fn_toL (show _ = lI i from lI_of (z := i) (by omega) (by omega)) ?_
      refine fx_lconst (v := 1) dX11_difference_16 (by decide) ?_
      refine fn_toL (show _ = (lI 1) from (by decide)) ?_
      refine fx_ldc2 dX11_difference_17 kc11_194 (fn_toL (show _ = lI (4) by decide) ?_)
      refine fn_cS dX11_difference_20 lk11_126 (C11_in (v := i) (a := 1) (b := 4) (by omega) (by omega) (by omega) (by omega) (by omega) (by omega) (f := (fw mT G L))) rfl rfl (by decide) (Nat.le_of_ble_eq_true rfl) ?_
      show fv_At Y11_difference 3 0 0 Q 23 [(0, .ref 0), (1, .int (iI c)), (2, .int (iI a)), (3, .int (iI i))] [.int (bI (decide (1 ≤ i ∧ i ≤ 4)))] (fw mT G L) none 0 0
      refine fn_if_neB (tgt := 29) dX11_difference_23 (by decide) (fun c23 => ?_) (fun c23 => ?_)
      · skip
        have him := of_decide_eq_true c23
        have hin : isSt c = true ∧ isSt a = true ∧ 1 ≤ i ∧ i < 5 := ⟨c4, c11, by omega, by omega⟩
        have hs1 := isSt_1 c4
        have hs2 := isSt_1 c11
        obtain ⟨c0, rfl⟩ : ∃ z : Nat, c = (z : Int) := ⟨c.toNat, by omega⟩
        obtain ⟨a0, rfl⟩ : ∃ z : Nat, a = (z : Int) := ⟨a.toNat, by omega⟩
        obtain ⟨i0, rfl⟩ : ∃ w : Nat, i = ((w + 1 : Nat) : Int) := ⟨i.toNat - 1, by omega⟩
        show fv_At Y11_difference 3 0 0 Q 29 [(0, .ref 0), (1, .int (nI c0)), (2, .int (nI a0)), (3, .int (nI (i0 + 1)))] [] (fw mT G L) none 0 0
        refine fx_aload_n dX11_difference_29 rfl (i := 0) rfl ?_
        refine fw_getr dX11_difference_30 fd11_16 rfl rfl ?_
        refine fx_iload_n dX11_difference_33 rfl (i := 2) rfl ?_
        refine fw_zald a0 dX11_difference_34 rfl rfl (by omega) (by decide) ?_
        refine fn_to (show _ = (bI (t a0)) from (hM a0 (by omega)).1) ?_
        refine fn_if_neB (tgt := 41) dX11_difference_35 (by decide) (fun c35 => ?_) (fun c35 => ?_)
        · skip
          have hta0 : t a0 = true := by simpa using c35
          refine fx_aload_n dX11_difference_41 rfl (i := 0) rfl ?_
          refine fx_callV dX11_difference_42 lk11_172 fv_c8 rfl (fw_at (show mT 0 = some (3, 8, 38, [some 1, none, some 2, some 3, some 4, some 5, some 6, some 7, some 8, some 9, some 10, some 11, some 12, some 13, some 14, some 15, some 16, some 17, some 18, some 19, none, none, none, some 20, some 21, some 22, some 23, none, some 24, some 25, some 26, some 27, some 28, some 29, some 30, some 31, none, some 32]) from rfl)) (C11_wipe G L) rfl rfl (by decide) (Nat.le_of_ble_eq_true rfl) (by decide) (by decide) (fun r42 f42 al42 h42 => ?_)
          obtain ⟨L42, rfl, rfl, rfl, hl42, hw42⟩ := h42
          show fv_At Y11_difference 3 0 0 Q 45 [(0, .ref 0), (1, .int (nI c0)), (2, .int (nI a0)), (3, .int (nI (i0 + 1)))] [] (fw mT G L42) none 0 0
          refine fx_aload_n dX11_difference_45 rfl (i := 0) rfl ?_
          refine fx_iload_n dX11_difference_46 rfl (i := 2) rfl ?_
          refine fx_lconst (v := 1) dX11_difference_47 (by decide) ?_
          refine fx_callV dX11_difference_48 lk11_175 fv_c8 rfl (fw_at (show mT 0 = some (3, 8, 38, [some 1, none, some 2, some 3, some 4, some 5, some 6, some 7, some 8, some 9, some 10, some 11, some 12, some 13, some 14, some 15, some 16, some 17, some 18, some 19, none, none, none, some 20, some 21, some 22, some 23, none, some 24, some 25, some 26, some 27, some 28, some 29, some 30, some 31, none, some 32]) from rfl)) (C11_takes G L42 T t (msh_L hM (hl42 6 (by decide))) hV a0 (by omega) hta0 1 zS hw42) rfl rfl (by decide) (Nat.le_of_ble_eq_true rfl) (by decide) (by decide) (fun r48 f48 al48 h48 => ?_)
          obtain ⟨L48, rfl, rfl, rfl, hl48, hw48⟩ := h48
          show fv_At Y11_difference 3 0 0 Q 51 [(0, .ref 0), (1, .int (nI c0)), (2, .int (nI a0)), (3, .int (nI (i0 + 1)))] [] (fw mT G L48) none 0 0
          refine fx_aload_n dX11_difference_51 rfl (i := 0) rfl ?_
          refine fx_iload_n dX11_difference_52 rfl (i := 3) rfl ?_
          refine fx_callV dX11_difference_53 lk11_199 fv_c8 rfl (fw_at (show mT 0 = some (3, 8, 38, [some 1, none, some 2, some 3, some 4, some 5, some 6, some 7, some 8, some 9, some 10, some 11, some 12, some 13, some 14, some 15, some 16, some 17, some 18, some 19, none, none, none, some 20, some 21, some 22, some 23, none, some 24, some 25, some 26, some 27, some 28, some 29, some 30, some 31, none, some 32]) from rfl)) (C11_differ G L48 i0 (by omega) (pal 1 (T a0) zS) hw48) rfl rfl (by decide) (Nat.le_of_ble_eq_true rfl) (by decide) (by decide) (fun r53 f53 al53 h53 => ?_)
          obtain ⟨L53, rfl, rfl, rfl, hl53, hw53⟩ := h53
          show fv_At Y11_difference 3 0 0 Q 56 [(0, .ref 0), (1, .int (nI c0)), (2, .int (nI a0)), (3, .int (nI (i0 + 1)))] [] (fw mT G L53) none 0 0
          have e : DF i0 (pal 1 (T a0) zS) = pdf i0 (T a0) zS := DF_ts i0 (hV a0 (by omega) hta0).1 (hV a0 (by omega) hta0).2
          rw [e] at hw53
          refine fx_aload_n dX11_difference_56 rfl (i := 0) rfl ?_
          refine fx_iload_n dX11_difference_57 rfl (i := 1) rfl ?_
          refine fx_callV dX11_difference_58 lk11_179 fv_c8 rfl (fw_at (show mT 0 = some (3, 8, 38, [some 1, none, some 2, some 3, some 4, some 5, some 6, some 7, some 8, some 9, some 10, some 11, some 12, some 13, some 14, some 15, some 16, some 17, some 18, some 19, none, none, none, some 20, some 21, some 22, some 23, none, some 24, some 25, some 26, some 27, some 28, some 29, some 30, some 31, none, some 32]) from rfl)) (C11_lays G L53 T t (msh_L hM (by rw [hl53 6 (by decide) (by decide), hl48 6 (by decide), hl42 6 (by decide)])) c0 (by omega) (pdf i0 (T a0) zS) hw53 (sok_pdf (by omega) sok_z (hV a0 (by omega) hta0).1)) rfl rfl (by decide) (Nat.le_of_ble_eq_true rfl) (by decide) (by decide) (fun r58 f58 al58 h58 => ?_)
          have hq := h58
          obtain ⟨G2, L2, rfl, rfl, rfl, -, -⟩ := h58
          show fv_At Y11_difference 3 0 0 Q 61 [(0, .ref 0), (1, .int (nI c0)), (2, .int (nI a0)), (3, .int (nI (i0 + 1)))] [.int (iI (stl (pdf i0 (T a0) zS)))] (fw mT G2 L2) none 0 0
          exact fx_iret dX11_difference_61 rfl rfl rfl (by rw [hQ]; exact (by rw [show xDif T t (c0 : Int) (a0 : Int) ((i0 + 1 : Nat) : Int) = stl (pdf i0 (T a0) zS) by unfold xDif; rw [if_pos hin]; exact if_pos hta0]; exact qms_L hq (fun i hi => (hl53 i (by omega) (by omega)).trans ((hl48 i (by omega)).trans (hl42 i (by omega))))))
        · skip
          refine fx_bipush (v := (iI (-3))) dX11_difference_38 (by decide) ?_
          exact fx_iret dX11_difference_40 rfl rfl rfl (by rw [hQ]; exact (by rw [show xDif T t (c0 : Int) (a0 : Int) ((i0 + 1 : Nat) : Int) = -3 by unfold xDif; rw [if_pos hin]; exact if_neg (by simpa using c35)]; exact qms_n hM moff_r (by decide) _ _))
      · skip
        refine fx_bipush (v := (iI (-2))) dX11_difference_26 (by decide) ?_
        exact fx_iret dX11_difference_28 rfl rfl rfl (by rw [hQ]; exact (by rw [show xDif T t c a i = -2 by unfold xDif; exact if_neg (fun q => by first | (have h3 := of_decide_eq_false c23; omega) | simp_all)]; exact qms_n hM moff_r (by decide) _ _))
