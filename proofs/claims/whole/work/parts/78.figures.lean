/-- exponents of at most 4, 3, 2, 1, 0 which make D together with k -/
def std (D k c : Nat) : Prop := ∃ a4 a3 a2 a1 : Nat, a4 ≤ 4 ∧ a3 ≤ 3 ∧ a2 ≤ 2 ∧ a1 ≤ 1 ∧ a4 + a3 + a2 + a1 + k = D ∧ c = a4 * 10000 + a3 * 1000 + a2 * 100 + a1 * 10 + 0
theorem std_d {D k i : Nat} (hi : i < 4) : ∀ x, okc x → std D k x → ∀ e, min (dP x i) (dQ x i) ≤ e → e < max (dP x i) (dQ x i) → std D (k + 1) (dC x i e) := by
  intro x _ hx e h1 h2
  obtain ⟨a4, a3, a2, a1, b4, b3, b2, b1, hD, hc⟩ := hx
  have hh : i = 0 ∨ i = 1 ∨ i = 2 ∨ i = 3 := by omega
  have c4 : a4 ≤ 8 := by omega
  have c3 : a3 ≤ 8 := by omega
  have c2 : a2 ≤ 8 := by omega
  have c1 : a1 ≤ 8 := by omega
  have c0 : 0 ≤ 8 := by decide
  rw [hc] at h1 h2 ⊢
  rcases hh with rfl | rfl | rfl | rfl
  · rw [(dPQ_0 c4 c3 c2 c1 c0).1, (dPQ_0 c4 c3 c2 c1 c0).2] at h1 h2
    rw [dC_0 c4 c3 c2 c1 c0]
    exact ⟨e, a4 + a3 - 1 - e, a2, a1, by omega, by omega, b2, b1, by omega, rfl⟩
  · rw [(dPQ_1 c4 c3 c2 c1 c0).1, (dPQ_1 c4 c3 c2 c1 c0).2] at h1 h2
    rw [dC_1 c4 c3 c2 c1 c0]
    exact ⟨a4, e, a3 + a2 - 1 - e, a1, b4, by omega, by omega, b1, by omega, rfl⟩
  · rw [(dPQ_2 c4 c3 c2 c1 c0).1, (dPQ_2 c4 c3 c2 c1 c0).2] at h1 h2
    rw [dC_2 c4 c3 c2 c1 c0]
    exact ⟨a4, a3, e, a2 + a1 - 1 - e, b4, b3, by omega, by omega, by omega, rfl⟩
  · rw [(dPQ_3 c4 c3 c2 c1 c0).1, (dPQ_3 c4 c3 c2 c1 c0).2] at h1 h2
    rw [dC_3 c4 c3 c2 c1 c0]
    exact ⟨a4, a3, a2, e, b4, b3, b2, by omega, by omega, by omega⟩
theorem sup_mchd {D : Nat} : ∀ (l : List Nat) (S : Nat → Int64) (k : Nat), lok l → sup (std D k) S → sup (std D (k + l.length)) (mch l S)
  | [], _, _, _, h => h
  | i :: r, S, k, hl, h => by
    have h2 := sup_mchd r _ (k + 1) (fun j hj => hl j (List.mem_cons_of_mem _ hj)) (sup_DF (std_d (i := i - 1) (by have := hl i List.mem_cons_self; omega)) h)
    rw [List.length_cons, show k + (r.length + 1) = k + 1 + r.length by omega]
    exact h2
theorem str_d : ∀ n, n ≤ 5 → ∃ D, D ≤ 10 ∧ std D 0 (str n) := by
  intro n hn
  match n, hn with
  | 0, _ => exact ⟨0, by decide, 0, 0, 0, 0, by decide, by decide, by decide, by decide, by decide, by decide⟩
  | 1, _ => exact ⟨0, by decide, 0, 0, 0, 0, by decide, by decide, by decide, by decide, by decide, by decide⟩
  | 2, _ => exact ⟨1, by decide, 1, 0, 0, 0, by decide, by decide, by decide, by decide, by decide, by decide⟩
  | 3, _ => exact ⟨3, by decide, 2, 1, 0, 0, by decide, by decide, by decide, by decide, by decide, by decide⟩
  | 4, _ => exact ⟨6, by decide, 3, 2, 1, 0, by decide, by decide, by decide, by decide, by decide, by decide⟩
  | 5, _ => exact ⟨10, by decide, 4, 3, 2, 1, by decide, by decide, by decide, by decide, by decide, by decide⟩
theorem mpo_d {o : Nat} (ho : o ∈ ordL) : ∃ D k, D ≤ 10 ∧ sup (std D k) (mpo o) := by
  obtain ⟨D, hD, h⟩ := str_d _ (ord_b o ho).2.1
  exact ⟨D, _, hD, sup_mchd _ _ 0 (lok_r (cq_ok o ho false)) (sup_ad (sup_z _) h 1)⟩
def sb (b : Bool) (f : Nat) : Nat := if b = true then f else 0
theorem sb_t (f : Nat) : sb true f = f := rfl
theorem sb_f (f : Nat) : sb false f = 0 := rfl
theorem sb_m (b : Bool) {f g : Nat} (h : f ≤ g) : sb b f ≤ sb b g := by
  cases b
  · exact Nat.le_refl _
  · exact h
/-- what some of five figures make -/
def ss (b0 b1 b2 b3 b4 : Bool) (f0 f1 f2 f3 f4 : Nat) : Nat := sb b0 f0 + sb b1 f1 + sb b2 f2 + sb b3 f3 + sb b4 f4
def ix (b0 b1 b2 b3 b4 : Bool) : Nat := sb b0 1 + sb b1 2 + sb b2 4 + sb b3 8 + sb b4 16
def h2 (h : List Nat) : Bool → Bool → Nat → Nat → Nat → Nat
  | true, true, j, _, _ => h.getD j 0 - 1
  | false, false, j, _, _ => h.getD j 0
  | true, false, _, p, q => max (h.getD p 0) (h.getD q 0) - 1
  | false, true, _, p, q => max (h.getD p 0) (h.getD q 0) - 1
/-- how much some of five make behind a difference -/
def hs (h : List Nat) (i : Nat) (b0 b1 b2 b3 b4 : Bool) : Nat :=
  if i = 0 then h2 h b0 b1 (ix b0 b1 b2 b3 b4) (ix true false b2 b3 b4) (ix false true b2 b3 b4)
  else if i = 1 then h2 h b1 b2 (ix b0 b1 b2 b3 b4) (ix b0 true false b3 b4) (ix b0 false true b3 b4)
  else if i = 2 then h2 h b2 b3 (ix b0 b1 b2 b3 b4) (ix b0 b1 true false b4) (ix b0 b1 false true b4)
  else h2 h b3 b4 (ix b0 b1 b2 b3 b4) (ix b0 b1 b2 true false) (ix b0 b1 b2 false true)
def hst (h : List Nat) (i : Nat) : List Nat := (List.range 32).map (fun A => hs h i (A % 2 == 1) (A / 2 % 2 == 1) (A / 4 % 2 == 1) (A / 8 % 2 == 1) (A / 16 % 2 == 1))
theorem hst_g (h : List Nat) (i : Nat) (b0 b1 b2 b3 b4 : Bool) : (hst h i).getD (ix b0 b1 b2 b3 b4) 0 = hs h i b0 b1 b2 b3 b4 := by
  cases b0 <;> cases b1 <;> cases b2 <;> cases b3 <;> cases b4 <;> rfl
/-- exponents whose figures, some of them together, make no more than told; all of them make D together with k -/
def PH (h : List Nat) (D k c : Nat) : Prop := ∃ f0 f1 f2 f3 f4 : Nat, f0 ≤ 8 ∧ f1 ≤ 8 ∧ f2 ≤ 8 ∧ f3 ≤ 8 ∧ f4 ≤ 8 ∧ (∀ b0 b1 b2 b3 b4, ss b0 b1 b2 b3 b4 f0 f1 f2 f3 f4 ≤ h.getD (ix b0 b1 b2 b3 b4) 0) ∧ f0 + f1 + f2 + f3 + f4 + k = D ∧ c = f0 * 10000 + f1 * 1000 + f2 * 100 + f3 * 10 + f4
theorem PH_o {h : List Nat} {D k c : Nat} (w : PH h D k c) : okc c := by
  obtain ⟨f0, f1, f2, f3, f4, a0, a1, a2, a3, a4, _, _, hc⟩ := w
  rw [hc]
  exact okc_of a0 a1 a2 a3 a4
theorem h2_ok {h : List Nat} {x y e T j p q : Nat} (a b : Bool) (e1 : min x y ≤ e) (e2 : e < max x y) (hj : sb a x + sb b y + T ≤ h.getD j 0) (hp : x + T ≤ h.getD p 0) (hq : y + T ≤ h.getD q 0) : sb a e + sb b (x + y - 1 - e) + T ≤ h2 h a b j p q := by
  cases a <;> cases b
  · exact hj
  · show 0 + (x + y - 1 - e) + T ≤ max (h.getD p 0) (h.getD q 0) - 1
    omega
  · show e + 0 + T ≤ max (h.getD p 0) (h.getD q 0) - 1
    omega
  · show e + (x + y - 1 - e) + T ≤ h.getD j 0 - 1
    have hj2 : x + y + T ≤ h.getD j 0 := hj
    omega
theorem PH_d {h : List Nat} {D k i : Nat} (hi : i < 4) : ∀ x, okc x → PH h D k x → ∀ e, min (dP x i) (dQ x i) ≤ e → e < max (dP x i) (dQ x i) → PH (hst h i) D (k + 1) (dC x i e) := by
  intro x _ hx e h1 h2
  obtain ⟨f0, f1, f2, f3, f4, c0, c1, c2, c3, c4, H, hD, hc⟩ := hx
  have hh : i = 0 ∨ i = 1 ∨ i = 2 ∨ i = 3 := by omega
  rw [hc] at h1 h2 ⊢
  rcases hh with rfl | rfl | rfl | rfl
  · rw [(dPQ_0 c0 c1 c2 c3 c4).1, (dPQ_0 c0 c1 c2 c3 c4).2] at h1 h2
    rw [dC_0 c0 c1 c2 c3 c4]
    refine ⟨e, f0 + f1 - 1 - e, f2, f3, f4, by omega, by omega, c2, c3, c4, fun b0 b1 b2 b3 b4 => ?_, by omega, rfl⟩
    rw [hst_g]
    have w := h2_ok (T := sb b2 f2 + sb b3 f3 + sb b4 f4) b0 b1 h1 h2 (Nat.le_trans (Nat.le_of_eq (by unfold ss; omega)) (H b0 b1 b2 b3 b4)) (Nat.le_trans (Nat.le_of_eq (by unfold ss; rw [sb_t, sb_f]; omega)) (H true false b2 b3 b4)) (Nat.le_trans (Nat.le_of_eq (by unfold ss; rw [sb_t, sb_f]; omega)) (H false true b2 b3 b4))
    exact Nat.le_trans (Nat.le_of_eq (by unfold ss; omega)) w
  · rw [(dPQ_1 c0 c1 c2 c3 c4).1, (dPQ_1 c0 c1 c2 c3 c4).2] at h1 h2
    rw [dC_1 c0 c1 c2 c3 c4]
    refine ⟨f0, e, f1 + f2 - 1 - e, f3, f4, c0, by omega, by omega, c3, c4, fun b0 b1 b2 b3 b4 => ?_, by omega, rfl⟩
    rw [hst_g]
    have w := h2_ok (T := sb b0 f0 + sb b3 f3 + sb b4 f4) b1 b2 h1 h2 (Nat.le_trans (Nat.le_of_eq (by unfold ss; omega)) (H b0 b1 b2 b3 b4)) (Nat.le_trans (Nat.le_of_eq (by unfold ss; rw [sb_t, sb_f]; omega)) (H b0 true false b3 b4)) (Nat.le_trans (Nat.le_of_eq (by unfold ss; rw [sb_t, sb_f]; omega)) (H b0 false true b3 b4))
    exact Nat.le_trans (Nat.le_of_eq (by unfold ss; omega)) w
  · rw [(dPQ_2 c0 c1 c2 c3 c4).1, (dPQ_2 c0 c1 c2 c3 c4).2] at h1 h2
    rw [dC_2 c0 c1 c2 c3 c4]
    refine ⟨f0, f1, e, f2 + f3 - 1 - e, f4, c0, c1, by omega, by omega, c4, fun b0 b1 b2 b3 b4 => ?_, by omega, rfl⟩
    rw [hst_g]
    have w := h2_ok (T := sb b0 f0 + sb b1 f1 + sb b4 f4) b2 b3 h1 h2 (Nat.le_trans (Nat.le_of_eq (by unfold ss; omega)) (H b0 b1 b2 b3 b4)) (Nat.le_trans (Nat.le_of_eq (by unfold ss; rw [sb_t, sb_f]; omega)) (H b0 b1 true false b4)) (Nat.le_trans (Nat.le_of_eq (by unfold ss; rw [sb_t, sb_f]; omega)) (H b0 b1 false true b4))
    exact Nat.le_trans (Nat.le_of_eq (by unfold ss; omega)) w
  · rw [(dPQ_3 c0 c1 c2 c3 c4).1, (dPQ_3 c0 c1 c2 c3 c4).2] at h1 h2
    rw [dC_3 c0 c1 c2 c3 c4]
    refine ⟨f0, f1, f2, e, f3 + f4 - 1 - e, c0, c1, c2, by omega, by omega, fun b0 b1 b2 b3 b4 => ?_, by omega, by omega⟩
    rw [hst_g]
    have w := h2_ok (T := sb b0 f0 + sb b1 f1 + sb b2 f2) b3 b4 h1 h2 (Nat.le_trans (Nat.le_of_eq (by unfold ss; omega)) (H b0 b1 b2 b3 b4)) (Nat.le_trans (Nat.le_of_eq (by unfold ss; rw [sb_t, sb_f]; omega)) (H b0 b1 b2 true false)) (Nat.le_trans (Nat.le_of_eq (by unfold ss; rw [sb_t, sb_f]; omega)) (H b0 b1 b2 false true))
    exact Nat.le_trans (Nat.le_of_eq (by unfold ss; omega)) w
def hl : List Nat → List Nat → List Nat
  | [], h => h
  | i :: r, h => hl r (hst h (i - 1))
theorem sup_mchh {D : Nat} : ∀ (l : List Nat) (S : Nat → Int64) (h : List Nat) (k : Nat), lok l → sup (PH h D k) S → sup (PH (hl l h) D (k + l.length)) (mch l S)
  | [], _, _, _, _, w => w
  | i :: r, S, h, k, hl, w => by
    have w2 := sup_mchh r _ (hst h (i - 1)) (k + 1) (fun j hj => hl j (List.mem_cons_of_mem _ hj)) (sup_DF (PH_d (i := i - 1) (by have := hl i List.mem_cons_self; omega)) w)
    rw [List.length_cons, show k + (r.length + 1) = k + 1 + r.length by omega]
    exact w2
def h0L : List Nat := [0, 8, 6, 14, 4, 12, 10, 18, 2, 10, 8, 16, 6, 14, 12, 20, 0, 8, 6, 14, 4, 12, 10, 18, 2, 10, 8, 16, 6, 14, 12, 20]
theorem h0_ss (b0 b1 b2 b3 b4 : Bool) : ss b0 b1 b2 b3 b4 8 6 4 2 0 = h0L.getD (ix b0 b1 b2 b3 b4) 0 := by
  cases b0 <;> cases b1 <;> cases b2 <;> cases b3 <;> cases b4 <;> rfl
theorem std_2 {D1 D2 k1 k2 : Nat} (c d : Nat) (hc : std D1 k1 c) (hd : std D2 k2 d) : PH h0L (D1 + D2) (k1 + k2) (c + d) := by
  obtain ⟨a4, a3, a2, a1, b4, b3, b2, b1, hD, hc⟩ := hc
  obtain ⟨e4, e3, e2, e1, g4, g3, g2, g1, hE, hd⟩ := hd
  refine ⟨a4 + e4, a3 + e3, a2 + e2, a1 + e1, 0, by omega, by omega, by omega, by omega, by omega, fun b0 b1 b2 b3 b4 => ?_, by omega, by omega⟩
  rw [← h0_ss]
  have w0 := sb_m b0 (show a4 + e4 ≤ 8 by omega)
  have w1 := sb_m b1 (show a3 + e3 ≤ 6 by omega)
  have w2 := sb_m b2 (show a2 + e2 ≤ 4 by omega)
  have w3 := sb_m b3 (show a1 + e1 ≤ 2 by omega)
  have w4 := sb_m b4 (show 0 ≤ 0 by omega)
  unfold ss
  omega
/-- sums and rows over the first places -/
def smr : Nat → (Nat → Nat) → Nat
  | 0, _ => 0
  | k + 1, f => f k + smr k f
def lsr : Nat → (Nat → List Nat) → List Nat
  | 0, _ => []
  | k + 1, f => f k ++ lsr k f
theorem lsr_len {f : Nat → List Nat} {g : Nat → Nat} (h : ∀ i, (f i).length = g i) : ∀ k, (lsr k f).length = smr k g
  | 0 => rfl
  | k + 1 => by
    show (f k ++ lsr k f).length = g k + smr k g
    rw [List.length_append, h, lsr_len h k]
theorem lsr_mem {f : Nat → List Nat} {x i : Nat} : ∀ k, i < k → x ∈ f i → x ∈ lsr k f
  | 0, h, _ => absurd h (Nat.not_lt_zero _)
  | k + 1, h, hx => by
    show x ∈ f k ++ lsr k f
    by_cases q : i = k
    · rw [← q]; exact List.mem_append_left _ hx
    · exact List.mem_append_right _ (lsr_mem k (by omega) hx)
def cdH (h : List Nat) (s f4 f3 f2 f1 : Nat) : Bool := Nat.ble (f4 + f3 + f2 + f1) s && (Nat.ble (s - (f4 + f3 + f2 + f1)) (h.getD 1 0) && (Nat.ble (s - (f4 + f3 + f2 + f1) + f1) (h.getD 3 0) && (Nat.ble (s - (f4 + f3 + f2 + f1) + f2) (h.getD 5 0) && (Nat.ble (f1 + f2) (h.getD 6 0) && Nat.ble (s - (f4 + f3 + f2 + f1) + f3) (h.getD 9 0)))))
def LH (h : List Nat) (s : Nat) : List Nat := lsr (h.getD 16 0 + 1) (fun f4 => lsr (min (h.getD 8 0) (h.getD 24 0 - f4) + 1) (fun f3 => lsr (min (h.getD 4 0) (h.getD 28 0 - (f4 + f3)) + 1) (fun f2 => lsr (min (h.getD 2 0) (h.getD 30 0 - (f4 + f3 + f2)) + 1) (fun f1 => if cdH h s f4 f3 f2 f1 = true then [(s - (f4 + f3 + f2 + f1)) * 10000 + f1 * 1000 + f2 * 100 + f3 * 10 + f4] else []))))
def CH (h : List Nat) (s : Nat) : Nat := smr (h.getD 16 0 + 1) (fun f4 => smr (min (h.getD 8 0) (h.getD 24 0 - f4) + 1) (fun f3 => smr (min (h.getD 4 0) (h.getD 28 0 - (f4 + f3)) + 1) (fun f2 => smr (min (h.getD 2 0) (h.getD 30 0 - (f4 + f3 + f2)) + 1) (fun f1 => if cdH h s f4 f3 f2 f1 = true then 1 else 0))))
theorem LH_len (h : List Nat) (s : Nat) : (LH h s).length = CH h s := by
  unfold LH CH
  refine lsr_len (fun f4 => lsr_len (fun f3 => lsr_len (fun f2 => lsr_len (fun f1 => ?_) _) _) _) _
  split <;> rfl
theorem LH_mem {h : List Nat} {D k c : Nat} (w : PH h D k c) : c ∈ LH h (D - k) := by
  obtain ⟨f0, f1, f2, f3, f4, a0, a1, a2, a3, a4, H, hD, hc⟩ := w
  have g1 : f0 ≤ h.getD 1 0 := Nat.le_trans (Nat.le_of_eq (by simp only [ss, sb_t, sb_f]; omega)) (H true false false false false)
  have g2 : f1 ≤ h.getD 2 0 := Nat.le_trans (Nat.le_of_eq (by simp only [ss, sb_t, sb_f]; omega)) (H false true false false false)
  have g4 : f2 ≤ h.getD 4 0 := Nat.le_trans (Nat.le_of_eq (by simp only [ss, sb_t, sb_f]; omega)) (H false false true false false)
  have g8 : f3 ≤ h.getD 8 0 := Nat.le_trans (Nat.le_of_eq (by simp only [ss, sb_t, sb_f]; omega)) (H false false false true false)
  have g16 : f4 ≤ h.getD 16 0 := Nat.le_trans (Nat.le_of_eq (by simp only [ss, sb_t, sb_f]; omega)) (H false false false false true)
  have g3 : f0 + f1 ≤ h.getD 3 0 := Nat.le_trans (Nat.le_of_eq (by simp only [ss, sb_t, sb_f]; omega)) (H true true false false false)
  have g5 : f0 + f2 ≤ h.getD 5 0 := Nat.le_trans (Nat.le_of_eq (by simp only [ss, sb_t, sb_f]; omega)) (H true false true false false)
  have g6 : f1 + f2 ≤ h.getD 6 0 := Nat.le_trans (Nat.le_of_eq (by simp only [ss, sb_t, sb_f]; omega)) (H false true true false false)
  have g9 : f0 + f3 ≤ h.getD 9 0 := Nat.le_trans (Nat.le_of_eq (by simp only [ss, sb_t, sb_f]; omega)) (H true false false true false)
  have g24 : f4 + f3 ≤ h.getD 24 0 := Nat.le_trans (Nat.le_of_eq (by simp only [ss, sb_t, sb_f]; omega)) (H false false false true true)
  have g28 : f4 + f3 + f2 ≤ h.getD 28 0 := Nat.le_trans (Nat.le_of_eq (by simp only [ss, sb_t, sb_f]; omega)) (H false false true true true)
  have g30 : f4 + f3 + f2 + f1 ≤ h.getD 30 0 := Nat.le_trans (Nat.le_of_eq (by simp only [ss, sb_t, sb_f]; omega)) (H false true true true true)
  have hs : D - k - (f4 + f3 + f2 + f1) = f0 := by omega
  unfold LH
  refine lsr_mem (i := f4) _ (by omega) (lsr_mem (i := f3) _ (by omega) (lsr_mem (i := f2) _ (by omega) (lsr_mem (i := f1) _ (by omega) ?_)))
  have hcd : cdH h (D - k) f4 f3 f2 f1 = true := by
    unfold cdH
    rw [hs]
    simp only [Bool.and_eq_true, Nat.ble_eq]
    exact ⟨by omega, g1, g3, g5, g6, g9⟩
  rw [if_pos hcd, hs, hc]
  exact List.mem_singleton.mpr rfl
/-- how many terms come of one, without any that cancel -/
def rsm (g : Nat → Nat) : Nat → Nat → Nat
  | 0, _ => 0
  | k + 1, e => g e + rsm g k (e + 1)
def wF : List Nat → Nat → Nat → Nat → Nat → Nat → Nat
  | [], _, _, _, _, _ => 1
  | i :: r, f0, f1, f2, f3, f4 =>
    if i = 1 then rsm (fun e => wF r e (f0 + f1 - 1 - e) f2 f3 f4) (max f0 f1 - min f0 f1) (min f0 f1)
    else if i = 2 then rsm (fun e => wF r f0 e (f1 + f2 - 1 - e) f3 f4) (max f1 f2 - min f1 f2) (min f1 f2)
    else if i = 3 then rsm (fun e => wF r f0 f1 e (f2 + f3 - 1 - e) f4) (max f2 f3 - min f2 f3) (min f2 f3)
    else rsm (fun e => wF r f0 f1 f2 e (f3 + f4 - 1 - e)) (max f3 f4 - min f3 f4) (min f3 f4)
def wL : List Nat → Nat → Nat
  | [] => fun _ => 1
  | i :: r => wch (wL r) (i - 1)
theorem wsum_r {W g : Nat → Nat} {x i : Nat} : ∀ k e, (∀ j, e ≤ j → j < e + k → W (dC x i j) = g j) → wsum W x i k e = rsm g k e
  | 0, _, _ => rfl
  | k + 1, e, h => by
    show W (dC x i e) + wsum W x i k (e + 1) = g e + rsm g k (e + 1)
    rw [h e (Nat.le_refl _) (by omega), wsum_r k (e + 1) (fun j a b => h j (by omega) (by omega))]
theorem wL_F : ∀ (l : List Nat), lok l → ∀ f0 f1 f2 f3 f4 : Nat, f0 ≤ 8 → f1 ≤ 8 → f2 ≤ 8 → f3 ≤ 8 → f4 ≤ 8 → wL l (f0 * 10000 + f1 * 1000 + f2 * 100 + f3 * 10 + f4) = wF l f0 f1 f2 f3 f4
  | [], _, _, _, _, _, _, _, _, _, _, _ => rfl
  | i :: r, hl, f0, f1, f2, f3, f4, c0, c1, c2, c3, c4 => by
    have hr : lok r := fun j hj => hl j (List.mem_cons_of_mem _ hj)
    have hi := hl i List.mem_cons_self
    have ih := wL_F r hr
    have hh : i = 1 ∨ i = 2 ∨ i = 3 ∨ i = 4 := by omega
    show wch (wL r) (i - 1) _ = _
    unfold wch wF
    rcases hh with rfl | rfl | rfl | rfl
    · rw [if_pos rfl, show 1 - 1 = 0 from rfl, (dPQ_0 c0 c1 c2 c3 c4).1, (dPQ_0 c0 c1 c2 c3 c4).2]
      exact wsum_r _ _ (fun j a b => by rw [dC_0 c0 c1 c2 c3 c4]; exact ih j _ f2 f3 f4 (by omega) (by omega) c2 c3 c4)
    · rw [if_neg (by decide), if_pos rfl, show 2 - 1 = 1 from rfl, (dPQ_1 c0 c1 c2 c3 c4).1, (dPQ_1 c0 c1 c2 c3 c4).2]
      exact wsum_r _ _ (fun j a b => by rw [dC_1 c0 c1 c2 c3 c4]; exact ih f0 j _ f3 f4 c0 (by omega) (by omega) c3 c4)
    · rw [if_neg (by decide), if_neg (by decide), if_pos rfl, show 3 - 1 = 2 from rfl, (dPQ_2 c0 c1 c2 c3 c4).1, (dPQ_2 c0 c1 c2 c3 c4).2]
      exact wsum_r _ _ (fun j a b => by rw [dC_2 c0 c1 c2 c3 c4]; exact ih f0 f1 j _ f4 c0 c1 (by omega) (by omega) c4)
    · rw [if_neg (by decide), if_neg (by decide), if_neg (by decide), show 4 - 1 = 3 from rfl, (dPQ_3 c0 c1 c2 c3 c4).1, (dPQ_3 c0 c1 c2 c3 c4).2]
      exact wsum_r _ _ (fun j a b => by rw [dC_3 c0 c1 c2 c3 c4]; exact ih f0 f1 f2 j _ c0 c1 c2 (by omega) (by omega))
theorem nrF_mch : ∀ (l : List Nat) (S : Nat → Int64), lok l → nrF (fun _ => 1) (mch l S) 59049 0 ≤ nrF (wL l) S 59049 0
  | [], _, _ => Nat.le_refl _
  | i :: r, S, hl => Nat.le_trans (nrF_mch r _ (fun j hj => hl j (List.mem_cons_of_mem _ hj))) (nrF_DF _ _ (by have := hl i List.mem_cons_self; omega) S (fun _ _ _ => Nat.le_refl _))
theorem nrF_le {W : Nat → Nat} {S : Nat → Int64} {A C : Nat} (h : ∀ c, S c ≠ 0 → W c * A ≤ C) : ∀ k e, nrF W S k e * A ≤ C * nrF (fun _ => 1) S k e
  | 0, _ => by rw [show nrF W S 0 _ = 0 from rfl, Nat.zero_mul]; exact Nat.zero_le _
  | k + 1, e => by
    rw [nrF_s, nrF_s (fun _ => 1), Nat.add_mul, Nat.one_mul, Nat.mul_add]
    have ih := nrF_le h k (e + 1)
    refine Nat.add_le_add ?_ ih
    by_cases q : S (nex e) = 0
    · rw [q, na_0, Nat.mul_zero, Nat.zero_mul]; exact Nat.zero_le _
    · have w := Nat.mul_le_mul_right (na (S (nex e))) (h _ q)
      rw [Nat.mul_right_comm]
      exact w
theorem mch_app : ∀ (a b : List Nat) (S : Nat → Int64), mch (a ++ b) S = mch b (mch a S)
  | [], _, _ => rfl
  | _ :: r, b, S => mch_app r b _
theorem hl_app : ∀ (a b h : List Nat), hl (a ++ b) h = hl b (hl a h)
  | [], _, _ => rfl
  | _ :: r, b, _ => hl_app r b _
theorem gdc_all : ∀ (l : List Nat) (S : Nat → Int64), (∀ k, 0 ≤ stl (mch (l.take k) S)) → gdc l S
  | [], _, h => h 0
  | i :: r, S, h => ⟨h 0, gdc_all r _ (fun k => h (k + 1))⟩
theorem str_f (n : Nat) : str n = (n - 1) * 10000 + (n - 2) * 1000 + (n - 3) * 100 + (n - 4) * 10 + (n - 5) := by
  unfold str
  omega
