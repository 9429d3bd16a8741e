/-- how great a number is -/
def na (x : Int64) : Nat := x.toInt.natAbs
theorem na_add (x y : Int64) : na (x + y) ≤ na x + na y := by
  unfold na
  have h1 := Int64.le_toInt (x + y)
  have h2 := Int64.toInt_lt (x + y)
  have e := Int64.toInt_add x y
  by_cases q : -9223372036854775808 ≤ x.toInt + y.toInt ∧ x.toInt + y.toInt < 9223372036854775808
  · rw [Int.bmod_eq_of_le (by omega) (by omega)] at e
    omega
  · omega
theorem na_neg (x : Int64) : na (-x) ≤ na x := by
  unfold na
  have h1 := Int64.le_toInt (-x)
  have h2 := Int64.toInt_lt (-x)
  have h3 := Int64.le_toInt x
  have e := Int64.toInt_neg x
  by_cases q : -9223372036854775808 ≤ -x.toInt ∧ -x.toInt < 9223372036854775808
  · rw [Int.bmod_eq_of_le (by omega) (by omega)] at e
    omega
  · omega
theorem na_0 : na 0 = 0 := by decide
/-- how great all numbers are together, each weighed -/
def nrF (W : Nat → Nat) (S : Nat → Int64) : Nat → Nat → Nat
  | 0, _ => 0
  | k + 1, e => W (nex e) * na (S (nex e)) + nrF W S k (e + 1)
theorem nrF_s (W : Nat → Nat) (S : Nat → Int64) (k e : Nat) : nrF W S (k + 1) e = W (nex e) * na (S (nex e)) + nrF W S k (e + 1) := rfl
theorem nrF_z (W : Nat → Nat) : ∀ k e, nrF W zS k e = 0
  | 0, _ => rfl
  | k + 1, e => by rw [nrF_s, nrF_z W k, show na (zS (nex e)) = 0 from na_0, Nat.mul_zero]
theorem nrF_cong (W : Nat → Nat) {S S2 : Nat → Int64} : ∀ k e, (∀ p, e ≤ p → p < e + k → S (nex p) = S2 (nex p)) → nrF W S k e = nrF W S2 k e
  | 0, _, _ => rfl
  | k + 1, e, h => by rw [nrF_s, nrF_s, h e (by omega) (by omega), nrF_cong W k (e + 1) (fun p a b => h p (by omega) (by omega))]
theorem nrF_ad (W : Nat → Nat) (S : Nat → Int64) {c : Nat} (hc : okc c) (m : Int64) : ∀ k e, e + k ≤ 59049 → nrF W (adS S c m) k e ≤ nrF W S k e + W c * na m
  | 0, _, _ => Nat.zero_le _
  | k + 1, e, he => by
    rw [nrF_s, nrF_s]
    by_cases q : nex e = c
    · have hn := (nin_nex (show e < 59049 by omega)).2
      rw [nrF_cong W (S := adS S c m) (S2 := S) k (e + 1) (fun p a b => if_neg (fun w => by have h2 := (nin_nex (show p < 59049 by omega)).2; rw [w, ← q, hn] at h2; omega))]
      rw [q, show adS S c m c = S c + m from if_pos rfl]
      have h1 := Nat.mul_le_mul_left (W c) (na_add (S c) m)
      rw [Nat.mul_add] at h1
      omega
    · have ih := nrF_ad W S hc m k (e + 1) (by omega)
      rw [show adS S c m (nex e) = S (nex e) from if_neg q]
      omega
/-- the weights that a term's difference has -/
def wsum (W : Nat → Nat) (x i : Nat) : Nat → Nat → Nat
  | 0, _ => 0
  | k + 1, e => W (dC x i e) + wsum W x i k (e + 1)
def wch (W : Nat → Nat) (i x : Nat) : Nat := wsum W x i (max (dP x i) (dQ x i) - min (dP x i) (dQ x i)) (min (dP x i) (dQ x i))
theorem nrF_pdl (W : Nat → Nat) {x i : Nat} (m : Int64) : ∀ (k e : Nat) (A : Nat → Int64), (∀ j, e ≤ j → j < e + k → okc (dC x i j)) → nrF W (pdl x i m k e A) 59049 0 ≤ nrF W A 59049 0 + wsum W x i k e * na m
  | 0, _, _, _ => Nat.le_add_right _ _
  | k + 1, e, A, h => by
    have h1 := nrF_pdl W m k (e + 1) (adS A (dC x i e) m) (fun j a b => h j (by omega) (by omega))
    have h2 := nrF_ad W A (h e (Nat.le_refl _) (by omega)) m 59049 0 (Nat.le_refl _)
    rw [pdl_s]
    have e1 : wsum W x i (k + 1) e = W (dC x i e) + wsum W x i k (e + 1) := rfl
    rw [e1, Nat.add_mul]
    omega
theorem nrF_pd6 (W : Nat → Nat) {x i : Nat} (hx : okc x) (hi : i < 4) (m : Int64) (A : Nat → Int64) : nrF W (pd6 x i m A) 59049 0 ≤ nrF W A 59049 0 + wch W i x * na m := by
  have h := nrF_pdl W (if dQ x i < dP x i then m else -m) (max (dP x i) (dQ x i) - min (dP x i) (dQ x i)) (min (dP x i) (dQ x i)) A (fun j a b => okc_dC hx hi a (by omega))
  have h2 : na (if dQ x i < dP x i then m else -m) ≤ na m := by
    split
    · exact Nat.le_refl _
    · exact na_neg m
  exact Nat.le_trans h (Nat.add_le_add_left (Nat.mul_le_mul_left _ h2) _)
theorem nrF_D9 (W W2 : Nat → Nat) {i : Nat} (hi : i < 4) (S : Nat → Int64) (hW : ∀ x, okc x → S x ≠ 0 → wch W2 i x ≤ W x) : ∀ (k e : Nat) (A : Nat → Int64), e + k ≤ 59049 → nrF W2 (D9 i S k e A) 59049 0 ≤ nrF W2 A 59049 0 + nrF W S k e
  | 0, _, _, _ => Nat.le_add_right _ _
  | k + 1, e, A, he => by
    rw [D9_s]
    have h1 := nrF_D9 W W2 hi S hW k (e + 1) (pd6 (nex e) i (S (nex e)) A) (by omega)
    have hx := (nin_nex (show e < 59049 by omega)).1
    have h2 : nrF W2 (pd6 (nex e) i (S (nex e)) A) 59049 0 ≤ nrF W2 A 59049 0 + W (nex e) * na (S (nex e)) := by
      by_cases q : S (nex e) = 0
      · rw [q, pd6_0]
        omega
      · exact Nat.le_trans (nrF_pd6 W2 hx hi _ A) (Nat.add_le_add_left (Nat.mul_le_mul_right _ (hW _ hx q)) _)
    have e1 := nrF_s W S k e
    omega
theorem nrF_DF (W W2 : Nat → Nat) {i : Nat} (hi : i < 4) (S : Nat → Int64) (hW : ∀ x, okc x → S x ≠ 0 → wch W2 i x ≤ W x) : nrF W2 (DF i S) 59049 0 ≤ nrF W S 59049 0 := by
  have h := nrF_D9 W W2 hi S hW 59049 0 zS (Nat.le_refl _)
  rw [nrF_z, Nat.zero_add] at h
  exact h
/-- one number alone is no greater -/
theorem nrF_one (W : Nat → Nat) (S : Nat → Int64) {p : Nat} : ∀ k e, e ≤ p → p < e + k → W (nex p) * na (S (nex p)) ≤ nrF W S k e
  | 0, e, h1, h2 => by omega
  | k + 1, e, h1, h2 => by
    rw [nrF_s]
    by_cases q : e = p
    · rw [q]; exact Nat.le_add_right _ _
    · exact Nat.le_trans (nrF_one W S k (e + 1) (by omega) (by omega)) (Nat.le_add_left _ _)
theorem nrF_byd {S : Nat → Int64} (h : nrF (fun _ => 1) S 59049 0 ≤ 100000000) {c : Nat} (hc : okc c) : byd (S c) = false := by
  have h1 := nrF_one (fun _ => 1) S (p := nin c) 59049 0 (Nat.zero_le _) (by have := nin_in hc; omega)
  rw [nex_nin hc, Nat.one_mul] at h1
  unfold na at h1
  rw [byd_t]
  exact decide_eq_false (by omega)
theorem anB_f {S : Nat → Int64} (h : ∀ c, okc c → byd (S c) = false) : ∀ E, E ≤ 59049 → anB (dw9 S E) = false
  | 0, _ => rfl
  | E + 1, hE => by
    have ih := anB_f h E (by omega)
    have hx := h _ (nin_nex (show E < 59049 by omega)).1
    rw [dw9_s]
    split
    · show (byd (S (nex E)) || anB (dw9 S E)) = false
      rw [hx, ih]
      rfl
    · exact ih
theorem dw9_le {S : Nat → Int64} : ∀ (E : Nat) (l : List Nat), E ≤ 59049 → (∀ e, e < E → S (nex e) ≠ 0 → nex e ∈ l) → (dw9 S E).length ≤ l.length
  | 0, _, _, _ => Nat.zero_le _
  | E + 1, l, hE, h => by
    rw [dw9_s]
    split
    · rename_i q
      have hm := h E (by omega) q
      have ih := dw9_le E (l.erase (nex E)) (by omega) (fun e he hq => (List.mem_erase_of_ne (fun w => by have := nex_mono he (by omega); omega)).mpr (h e (by omega) hq))
      rw [List.length_erase_of_mem hm] at ih
      have h0 : 0 < l.length := List.length_pos_of_mem hm
      rw [List.length_cons]
      omega
    · exact dw9_le E l (by omega) (fun e he hq => h e (by omega) hq)
/-- never too much: few terms, small numbers -/
theorem stl_ok {S : Nat → Int64} (hS : sok S) (l : List Nat) (hl : l.length ≤ 600) (h : ∀ e, e < 59049 → S (nex e) ≠ 0 → nex e ∈ l) (hn : nrF (fun _ => 1) S 59049 0 ≤ 100000000) : 0 ≤ stl S := by
  have h1 := anB_f (fun c hc => nrF_byd hn hc) 59049 (Nat.le_refl _)
  have h2 := dw9_le 59049 l (Nat.le_refl _) h
  rw [stl_9 hS, h1, if_neg (by decide), if_neg (by omega)]
  omega
/-- all along a list of differences nothing is too much -/
def gdc : List Nat → (Nat → Int64) → Prop
  | [], S => 0 ≤ stl S
  | i :: r, S => 0 ≤ stl S ∧ gdc r (DF (i - 1) S)
theorem gdc_0 {l : List Nat} {S : Nat → Int64} (h : gdc l S) : 0 ≤ stl S := by
  cases l with
  | nil => exact h
  | cons i r => exact h.1
theorem gdc_e : ∀ {l : List Nat} {S : Nat → Int64}, gdc l S → 0 ≤ stl (mch l S)
  | [], _, h => h
  | _ :: r, _, h => gdc_e (l := r) h.2
theorem cpd_m : ∀ (l : List Nat) (S : Nat → Int64), lok l → sok S → gdc l S → cpd l (trm S) = trm (mch l S)
  | [], _, _, _, _ => rfl
  | i :: r, S, hl, hS, h => by
    have hi := hl i List.mem_cons_self
    have e : nxt (i - 1) (trm S) = trm (DF (i - 1) S) := by
      unfold nxt
      rw [← DF_trm (i - 1) hS h.1, if_neg (by have := gdc_0 h.2; omega)]
    show cpd r (nxt (i - 1) (trm S)) = trm (mch r (DF (i - 1) S))
    rw [e]
    exact cpd_m r _ (fun j hj => hl j (List.mem_cons_of_mem _ hj)) (sok_DF (by omega) S) h.2
theorem pfl_f : ∀ (l : List Nat) (S : Nat → Int64), lok l → sok S → gdc l S → pfl l (trm S) = mfl false l S
  | [], S, _, hS, h => nof_trm hS h okc_0
  | i :: r, S, hl, hS, h => by
    have hi := hl i List.mem_cons_self
    unfold pfl mfl
    rw [← DF_trm (i - 1) hS h.1, if_neg (by have := gdc_0 h.2; omega), if_neg (fun w => absurd w.1 (by decide))]
    exact pfl_f r _ (fun j hj => hl j (List.mem_cons_of_mem _ hj)) (sok_DF (by omega) S) h.2
/-- the exponents of at most 4, 3, 2, 1, 0 -/
def stL : List Nat := (List.range 5).flatMap (fun a => (List.range 4).flatMap (fun b => (List.range 3).flatMap (fun c => (List.range 2).map (fun d => a * 10000 + b * 1000 + c * 100 + d * 10 + 0))))
theorem stL_in {c : Nat} (h : stc c) : c ∈ stL := by
  obtain ⟨a4, a3, a2, a1, h4, h3, h2, h1, hc⟩ := h
  unfold stL
  exact List.mem_flatMap.mpr ⟨a4, List.mem_range.mpr (by omega), List.mem_flatMap.mpr ⟨a3, List.mem_range.mpr (by omega), List.mem_flatMap.mpr ⟨a2, List.mem_range.mpr (by omega), List.mem_map.mpr ⟨a1, List.mem_range.mpr (by omega), hc.symm⟩⟩⟩⟩
theorem wsum_c (C x i : Nat) : ∀ k e, wsum (fun _ => C) x i k e = k * C
  | 0, _ => by rw [Nat.zero_mul]; rfl
  | k + 1, e => by
    have h : wsum (fun _ => C) x i (k + 1) e = C + wsum (fun _ => C) x i k (e + 1) := rfl
    rw [h, wsum_c C x i k, Nat.add_mul]
    omega
theorem nrF_c (C : Nat) (S : Nat → Int64) : ∀ k e, nrF (fun _ => C) S k e = C * nrF (fun _ => 1) S k e
  | 0, _ => rfl
  | k + 1, e => by rw [nrF_s, nrF_s, nrF_c C S k, Nat.mul_add, Nat.one_mul]
theorem stc_4 {x i : Nat} (hi : i < 4) (h : stc x) : max (dP x i) (dQ x i) - min (dP x i) (dQ x i) ≤ 4 := by
  obtain ⟨a4, a3, a2, a1, b4, b3, b2, b1, hc⟩ := h
  rw [hc]
  have hh : i = 0 ∨ i = 1 ∨ i = 2 ∨ i = 3 := by omega
  rcases hh with rfl | rfl | rfl | rfl
  · rw [(dPQ_0 (by omega) (by omega) (by omega) (by omega) (by omega)).1, (dPQ_0 (by omega) (by omega) (by omega) (by omega) (by omega)).2]; omega
  · rw [(dPQ_1 (by omega) (by omega) (by omega) (by omega) (by omega)).1, (dPQ_1 (by omega) (by omega) (by omega) (by omega) (by omega)).2]; omega
  · rw [(dPQ_2 (by omega) (by omega) (by omega) (by omega) (by omega)).1, (dPQ_2 (by omega) (by omega) (by omega) (by omega) (by omega)).2]; omega
  · rw [(dPQ_3 (by omega) (by omega) (by omega) (by omega) (by omega)).1, (dPQ_3 (by omega) (by omega) (by omega) (by omega) (by omega)).2]; omega
theorem nrF_4 {i : Nat} (hi : i < 4) {S : Nat → Int64} (h : sup stc S) : nrF (fun _ => 1) (DF i S) 59049 0 ≤ 4 * nrF (fun _ => 1) S 59049 0 := by
  rw [← nrF_c]
  refine nrF_DF _ _ hi S (fun x _ hx => ?_)
  unfold wch
  rw [wsum_c, Nat.mul_one]
  exact stc_4 hi (h x hx)
theorem gdc_st (l : List Nat) : ∀ S : Nat → Int64, lok l → sup stc S → 4 ^ l.length * nrF (fun _ => 1) S 59049 0 ≤ 100000000 → gdc l S := by
  induction l with
  | nil =>
    intro S _ h hn
    have h1 : nrF (fun _ => 1) S 59049 0 ≤ 100000000 := by
      rw [List.length_nil, Nat.pow_zero, Nat.one_mul] at hn
      exact hn
    show 0 ≤ stl S
    exact stl_ok (fun c _ q => stc_o (h c q)) stL (by decide +kernel) (fun e _ q => stL_in (h _ q)) h1
  | cons i r ih =>
    intro S hl h hn
    have hi := hl i List.mem_cons_self
    rw [List.length_cons, Nat.pow_succ, Nat.mul_assoc] at hn
    have h4 := nrF_4 (i := i - 1) (by omega) h
    have hp : 0 < 4 ^ r.length := Nat.pow_pos (by decide)
    have h5 := Nat.le_mul_of_pos_left (4 * nrF (fun _ => 1) S 59049 0) hp
    have h6 : 0 ≤ stl S := stl_ok (fun c _ q => stc_o (h c q)) stL (by decide +kernel) (fun e _ q => stL_in (h _ q)) (by omega)
    exact ⟨h6, ih _ (fun j hj => hl j (List.mem_cons_of_mem _ hj)) (sup_DF (stc_d (by omega)) h) (Nat.le_trans (Nat.mul_le_mul_left _ h4) hn)⟩
theorem nrF_1 {c : Nat} (hc : okc c) : nrF (fun _ => 1) (adS zS c 1) 59049 0 ≤ 1 := by
  have h := nrF_ad (fun _ => 1) zS hc 1 59049 0 (Nat.le_refl _)
  rw [nrF_z] at h
  exact h
theorem dw9_1 {c : Nat} (hc : okc c) : ∀ E, E ≤ 59049 → dw9 (adS zS c 1) E = if nin c < E then [(c, 1)] else []
  | 0, _ => by rw [if_neg (Nat.not_lt_zero _)]; rfl
  | E + 1, hE => by
    have ih := dw9_1 hc E (by omega)
    rw [dw9_s, ih]
    by_cases q : nin c = E
    · have hn : nex E = c := by rw [← q, nex_nin hc]
      rw [hn, show adS zS c 1 c = 1 from if_pos rfl, if_pos (by decide), if_neg (by omega), if_pos (by omega)]
    · have h3 : adS zS c 1 (nex E) = 0 := if_neg (fun w => q (by rw [← w, (nin_nex (show E < 59049 by omega)).2]))
      rw [h3, if_neg (fun z => z rfl)]
      by_cases w2 : nin c < E
      · rw [if_pos w2, if_pos (by omega)]
      · rw [if_neg w2, if_neg (by omega)]
theorem trm_1 {c : Nat} (hc : okc c) : trm (adS zS c 1) = [(c, 1)] := by
  rw [trm_9 (sok_ad sok_z hc 1), dw9_1 hc 59049 (Nat.le_refl _), if_pos (nin_in hc)]
  rfl
theorem gdc_mpo {o : Nat} (ho : o ∈ ordL) : gdc (cq false o).reverse (adS zS (str (figN o)) 1) := by
  have hs := str_st _ (ord_b o ho).2.1
  refine gdc_st _ _ (lok_r (cq_ok o ho false)) (sup_ad (sup_z _) hs 1) ?_
  have h1 := nrF_1 (stc_o hs)
  have h2 : 4 ^ (cq false o).reverse.length ≤ 4 ^ 10 := Nat.pow_le_pow_right (by decide) (by rw [List.length_reverse]; exact (ord_q o ho false).1)
  have h3 := Nat.mul_le_mul h2 h1
  omega
/-- the polynomial of an order is the same in class and model -/
theorem mpo_ok {o : Nat} (ho : o ∈ ordL) : cpo (figN o) o = trm (mpo o) ∧ 0 ≤ stl (mpo o) := by
  have hg := gdc_mpo ho
  have hs := stc_o (str_st _ (ord_b o ho).2.1)
  refine ⟨?_, gdc_e hg⟩
  unfold cpo mpo
  rw [cps_b, ← cpd_m _ _ (lok_r (cq_ok o ho false)) (sok_ad sok_z hs 1) hg, trm_1 hs]
  rfl
theorem yPol_x (c o : Int) : yPol c o = xPol c o ∧ (figs o ≠ 0 → trm (mpo o.toNat) = uPol o) := by
  have h : figs o ≠ 0 → figs o = figN o.toNat ∧ o.toNat ∈ ordL := by
    intro q
    have hb := figs_b q
    have w := figs_N (w := o.toNat) (by rw [show ((o.toNat : Nat) : Int) = o by omega]; exact q)
    rw [show ((o.toNat : Nat) : Int) = o by omega] at w
    exact w
  refine ⟨?_, fun q => ?_⟩
  · unfold yPol xPol
    by_cases q : isSt c = true ∧ figs o ≠ 0
    · rw [if_pos q, if_pos q]
      obtain ⟨a, b⟩ := h q.2
      have w := mpo_ok b
      unfold uPol
      rw [a, w.1, (trm_ok (sok_mpo b) w.2).2.2.2.1]
    · rw [if_neg q, if_neg q]
  · obtain ⟨a, b⟩ := h q
    unfold uPol
    rw [a, (mpo_ok b).1]
