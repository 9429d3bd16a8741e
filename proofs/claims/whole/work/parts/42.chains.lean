/-- the exchanges at the first step up (down), gone through -/
def cpb (n : Nat) (b : Bool) : Nat → Nat → List Nat
  | 0, _ => []
  | k + 1, w => if ofst (dgt w n) b (n - 1) 0 = 0 then [] else ofst (dgt w n) b (n - 1) 0 :: cpb n b k (swp w n (ofst (dgt w n) b (n - 1) 0 - 1) (ofst (dgt w n) b (n - 1) 0))
theorem cps_b (n : Nat) : ∀ k w, cps n k w = cpb n false k w
  | 0, _ => rfl
  | k + 1, w => by
    unfold cps cpb
    rw [cps_b n k]
def cq (b : Bool) (w : Nat) : List Nat := cpb (figN w) b 10 w
def ordc (o : Nat) : Bool := (List.range (figN o - 1)).all (fun a => ordL.contains (swp o (figN o) a (a + 1)) && (figN (swp o (figN o) a (a + 1)) == figN o) && (List.range (figN o)).all (fun p => dgt (swp o (figN o) a (a + 1)) (figN o) p == swh (dgt o (figN o)) a (a + 1) p) && (dgt o (figN o) a != dgt o (figN o) (a + 1)))
theorem ord_c : ∀ o, o ∈ ordL → ∀ a, a + 1 < figN o → swp o (figN o) a (a + 1) ∈ ordL ∧ figN (swp o (figN o) a (a + 1)) = figN o ∧ (∀ p, p < figN o → dgt (swp o (figN o) a (a + 1)) (figN o) p = swh (dgt o (figN o)) a (a + 1) p) ∧ dgt o (figN o) a ≠ dgt o (figN o) (a + 1) := by
  have h : ordL.all ordc = true := by decide +kernel
  intro o ho a ha
  have h1 := List.all_eq_true.mp h o ho
  unfold ordc at h1
  have h2 := List.all_eq_true.mp h1 a (List.mem_range.mpr (by omega))
  rw [Bool.and_eq_true, Bool.and_eq_true, Bool.and_eq_true] at h2
  obtain ⟨⟨⟨q1, q2⟩, q3⟩, q4⟩ := h2
  refine ⟨List.contains_iff_mem.mp q1, of_decide_eq_true q2, fun p hp => of_decide_eq_true (List.all_eq_true.mp q3 p (List.mem_range.mpr hp)), fun e => ?_⟩
  rw [e] at q4
  simp at q4
theorem ord_b : ∀ o, o ∈ ordL → 1 ≤ figN o ∧ figN o ≤ 5 ∧ o < 100000 := by
  have h : ordL.all (fun o => decide (1 ≤ figN o ∧ figN o ≤ 5 ∧ o < 100000)) = true := by decide +kernel
  intro o ho
  exact of_decide_eq_true (List.all_eq_true.mp h o ho)
theorem ord_q : ∀ o, o ∈ ordL → ∀ b, (cq b o).length ≤ 10 ∧ cq b o = if ofst (dgt o (figN o)) b (figN o - 1) 0 = 0 then [] else ofst (dgt o (figN o)) b (figN o - 1) 0 :: cq b (swp o (figN o) (ofst (dgt o (figN o)) b (figN o - 1) 0 - 1) (ofst (dgt o (figN o)) b (figN o - 1) 0)) := by
  have h : ordL.all (fun o => [true, false].all (fun b => decide ((cq b o).length ≤ 10 ∧ cq b o = if ofst (dgt o (figN o)) b (figN o - 1) 0 = 0 then [] else ofst (dgt o (figN o)) b (figN o - 1) 0 :: cq b (swp o (figN o) (ofst (dgt o (figN o)) b (figN o - 1) 0 - 1) (ofst (dgt o (figN o)) b (figN o - 1) 0))))) = true := by decide +kernel
  intro o ho b
  refine of_decide_eq_true (List.all_eq_true.mp (List.all_eq_true.mp h o ho) b ?_)
  cases b <;> simp
theorem cq_s {w : Nat} (hw : w ∈ ordL) (b : Bool) {i k : Nat} (hi : i + (k + 1) = figN w - 1) (hs : ofst (dgt w (figN w)) b (k + 1) i = ofst (dgt w (figN w)) b (figN w - 1) 0) (hc : decide (dgt w (figN w) (i + 1) < dgt w (figN w) i) = b) : cq b w = (i + 1) :: cq b (swp w (figN w) i (i + 1)) ∧ swp w (figN w) i (i + 1) ∈ ordL ∧ figN (swp w (figN w) i (i + 1)) = figN w := by
  have e : ofst (dgt w (figN w)) b (figN w - 1) 0 = i + 1 := by rw [← hs, ofst, if_pos hc]
  have q := (ord_q w hw b).2
  rw [e, if_neg (by omega)] at q
  have c := ord_c w hw i (by omega)
  exact ⟨q, c.1, c.2.1⟩
theorem cq_e {w : Nat} (hw : w ∈ ordL) (b : Bool) {i : Nat} (hs : ofst (dgt w (figN w)) b 0 i = ofst (dgt w (figN w)) b (figN w - 1) 0) : cq b w = [] := by
  have q := (ord_q w hw b).2
  rw [← hs] at q
  rw [q]
  rfl
theorem mor_ord {G : Nat → Nat → Int32} {w n i : Nat} (hw : w ∈ ordL) (hn : figN w = n) (hm : mor G n (dgt w n)) (hi : i + 1 < n) : mor (g2 (g2 G 1 i (G 1 (i + 1))) 1 (i + 1) (G 1 i)) n (dgt (swp w n i (i + 1)) n) := by
  subst hn
  have c := (ord_c w hw i hi).2.2.1
  have q := mor_swh (a := i) (b := i + 1) hm (by omega) hi
  exact ⟨q.1, q.2.1, fun p hp => by rw [c p hp]; exact q.2.2 p hp⟩
/-- differences one behind the other -/
def mch : List Nat → (Nat → Int64) → Nat → Int64
  | [], S => S
  | i :: r, S => mch r (DF (i - 1) S)
/-- the polynomial of an order, at work -/
def mpo (o : Nat) : Nat → Int64 := mch (cq false o).reverse (adS zS (str (figN o)) 1)
/-- the part, by differences one behind the other; asked for too much behind each, or not -/
def mfl (asked : Bool) : List Nat → (Nat → Int64) → Int64
  | [], S => S 0
  | i :: r, S => if asked = true ∧ stl (DF (i - 1) S) < 0 then rfs (stl (DF (i - 1) S)) else mfl asked r (DF (i - 1) S)
def pfl : List Nat → tms → Int64
  | [], ts => (nofL ts 0).toInt64
  | i :: r, ts => if stl (pdf (i - 1) ts zS) < 0 then rfs (stl (pdf (i - 1) ts zS)) else pfl r (trm (pdf (i - 1) ts zS))
theorem pfq_l (n : Nat) : ∀ k w ts, pfq n k w ts = pfl (cpb n true k w) ts
  | 0, _, _ => rfl
  | k + 1, w, ts => by
    unfold pfq cpb
    by_cases q : ofst (dgt w n) true (n - 1) 0 = 0
    · rw [if_pos q, if_pos q]
      rfl
    · rw [if_neg q, if_neg q, pfl, pfq_l n k]
/-- exchanges told are 1 to 4 -/
def lok (l : List Nat) : Prop := ∀ i, i ∈ l → 1 ≤ i ∧ i ≤ 4
theorem cq_ok : ∀ o, o ∈ ordL → ∀ b, lok (cq b o) := by
  have h : ordL.all (fun o => [true, false].all (fun b => (cq b o).all (fun i => decide (1 ≤ i ∧ i ≤ 4)))) = true := by decide +kernel
  intro o ho b i hi
  refine of_decide_eq_true (List.all_eq_true.mp (List.all_eq_true.mp (List.all_eq_true.mp h o ho) b ?_) i hi)
  cases b <;> simp
theorem sok_mch : ∀ (l : List Nat) (S : Nat → Int64), lok l → sok S → sok (mch l S)
  | [], _, _, h => h
  | i :: r, S, hl, _ => sok_mch r _ (fun j hj => hl j (List.mem_cons_of_mem _ hj)) (sok_DF (by have := hl i List.mem_cons_self; omega) S)
theorem nof_9 (S : Nat → Int64) {x : Nat} (hx : okc x) : ∀ E, E ≤ 59049 → nofL ((dw9 S E).map (fun q => (q.1, q.2.toInt32))) x = if nin x < E then (S x).toInt32 else 0
  | 0, _ => by rw [if_neg (Nat.not_lt_zero _)]; rfl
  | E + 1, hE => by
    have e := dw9_s S E
    have ih := nof_9 S hx E (by omega)
    by_cases w : nin x = E
    · have hn : nex E = x := by rw [← w, nex_nin hx]
      rw [hn] at e
      rw [if_pos (show nin x < E + 1 by omega)]
      by_cases q : S x = 0
      · rw [if_neg (fun z => z q)] at e
        rw [e, ih, if_neg (by omega), q]
        rfl
      · rw [if_pos q] at e
        rw [e, List.map_cons, nofL, if_pos rfl]
    · have hr : nofL ((dw9 S (E + 1)).map (fun q => (q.1, q.2.toInt32))) x = nofL ((dw9 S E).map (fun q => (q.1, q.2.toInt32))) x := by
        by_cases q : S (nex E) = 0
        · rw [if_neg (fun z => z q)] at e
          rw [e]
        · rw [if_pos q] at e
          rw [e, List.map_cons, nofL, if_neg (fun z => w (by rw [← z, (nin_nex (show E < 59049 by omega)).2]))]
      rw [hr, ih]
      by_cases w2 : nin x < E
      · rw [if_pos w2, if_pos (by omega)]
      · rw [if_neg w2, if_neg (by omega)]
theorem byd_9 {S : Nat → Int64} (hb : anB (dw9 S 59049) = false) {x : Nat} (hx : okc x) : byd (S x) = false := by
  have h1 : ∀ E, nin x < E → S x ≠ 0 → (x, S x) ∈ dw9 S E := by
    intro E
    induction E with
    | zero => intro h; exact absurd h (Nat.not_lt_zero _)
    | succ E ih =>
      intro h h2
      rw [dw9_s]
      by_cases w : nin x = E
      · have hn : nex E = x := by rw [← w, nex_nin hx]
        rw [hn, if_pos h2]
        exact List.mem_cons_self
      · have := ih (by omega) h2
        split
        · exact List.mem_cons_of_mem _ this
        · exact this
  by_cases q : S x = 0
  · rw [q]; decide
  · cases z : byd (S x) with
    | false => rfl
    | true =>
      have hq : anB (dw9 S 59049) = true := List.any_eq_true.mpr ⟨(x, S x), h1 59049 (nin_in hx) q, z⟩
      rw [hb] at hq
      exact absurd hq (by decide)
theorem nof_trm {S : Nat → Int64} (hS : sok S) (h : 0 ≤ stl S) {x : Nat} (hx : okc x) : (nofL (trm S) x).toInt64 = S x := by
  have h1 := (stl_0 hS h).1
  rw [trm_9 hS, nof_9 S hx 59049 (Nat.le_refl _), if_pos (nin_in hx)]
  exact (toI (byd_9 h1 hx)).1
theorem okc_0 : okc 0 := by unfold okc; decide
/-- the parts of class and model, asked -/
theorem pfl_m : ∀ (l : List Nat) (S : Nat → Int64), lok l → sok S → 0 ≤ stl S → pfl l (trm S) = mfl true l S
  | [], S, _, hS, h => nof_trm hS h okc_0
  | i :: r, S, hl, hS, h => by
    have hi := hl i List.mem_cons_self
    unfold pfl mfl
    rw [← DF_trm (i - 1) hS h]
    by_cases q : stl (DF (i - 1) S) < 0
    · rw [if_pos q, if_pos ⟨rfl, q⟩]
    · rw [if_neg q, if_neg (fun w => q w.2)]
      exact pfl_m r _ (fun j hj => hl j (List.mem_cons_of_mem _ hj)) (sok_DF (by omega) S) (by omega)
theorem dsc_t {q : Nat × Int32} {r : tms} (h : dsc (q :: r)) : dsc r ∧ ∀ j, j < r.length → tx r j < q.1 := ⟨fun i j a b => h (i + 1) (j + 1) (by omega) (by simp; exact b), fun j hj => h 0 (j + 1) (by omega) (by simp; exact hj)⟩
theorem pal_n {c : Nat} : ∀ (ts : tms) (S : Nat → Int64), (∀ j, j < ts.length → tx ts j < c) → pal 1 ts S c = S c
  | [], _, _ => rfl
  | q :: r, S, h => by
    have h0 : q.1 < c := h 0 (by simp)
    show pal 1 r (adS S q.1 (1 * q.2.toInt64)) c = _
    rw [pal_n r _ (fun j hj => h (j + 1) (by simp; exact hj))]
    exact if_neg (by omega)
theorem nof_pal : ∀ (ts : tms) (S : Nat → Int64) (c : Nat), dsc ts → S c = 0 → pal 1 ts S c = (nofL ts c).toInt64
  | [], S, c, _, h => h
  | q :: r, S, c, hd, h => by
    have hd2 := dsc_t hd
    show pal 1 r (adS S q.1 (1 * q.2.toInt64)) c = (if q.1 = c then q.2 else nofL r c).toInt64
    by_cases w : q.1 = c
    · rw [if_pos w, pal_n r _ (fun j hj => by have := hd2.2 j hj; omega), w, Int64.one_mul]
      show (if c = c then S c + q.2.toInt64 else S c) = _
      rw [if_pos rfl, h, Int64.zero_add]
    · rw [if_neg w]
      exact nof_pal r _ c hd2.1 (by show (if c = q.1 then _ else S c) = 0; rw [if_neg (fun z => w z.symm)]; exact h)
/-- the parts of class and model: of a sheet -/
theorem pfl_s {ts : tms} (hd : dsc ts) (hv : pvd ts) (hn : ∀ j, j < ts.length → nbd (tn ts j)) (l : List Nat) (hl : lok l) : pfl l ts = mfl true l (pal 1 ts zS) := by
  cases l with
  | nil => exact (nof_pal ts zS 0 hd rfl).symm
  | cons i r =>
    have hi := hl i List.mem_cons_self
    unfold pfl mfl
    rw [DF_ts (i - 1) hv hn]
    by_cases q : stl (pdf (i - 1) ts zS) < 0
    · rw [if_pos q, if_pos ⟨rfl, q⟩]
    · rw [if_neg q, if_neg (fun w => q w.2)]
      exact pfl_m r _ (fun j hj => hl j (List.mem_cons_of_mem _ hj)) (sok_pdf (by omega) sok_z hv) (by omega)
theorem nex_mono {a b : Nat} (h : a < b) (hb : b < 59049) : nex a < nex b := by
  obtain ⟨a1, a2⟩ := nin_nex (show a < 59049 by omega)
  obtain ⟨b1, b2⟩ := nin_nex hb
  rcases Nat.lt_trichotomy (nex a) (nex b) with q | q | q
  · exact q
  · rw [q, b2] at a2
    omega
  · have := nin_lt b1 a1 q
    omega
theorem dsc_trm {S : Nat → Int64} (hS : sok S) (h : 0 ≤ stl S) : dsc (trm S) := by
  have w := trm_ok hS h
  have h1 : ∀ E, E ≤ 59049 → ∀ j, j < (dw9 S E).length → ∃ e, e < E ∧ ((dw9 S E).getD j (0, 0)).1 = nex e := by
    intro E
    induction E with
    | zero => intro _ j hj; exact absurd hj (Nat.not_lt_zero _)
    | succ E ih =>
      intro hE j hj
      rw [dw9_s] at hj ⊢
      by_cases q : S (nex E) = 0
      · rw [if_neg (fun z => z q)] at hj ⊢
        obtain ⟨e, a, b⟩ := ih (by omega) j hj
        exact ⟨e, by omega, b⟩
      · rw [if_pos q] at hj ⊢
        cases j with
        | zero => exact ⟨E, by omega, rfl⟩
        | succ j =>
          obtain ⟨e, a, b⟩ := ih (by omega) j (by rw [List.length_cons] at hj; omega)
          exact ⟨e, by omega, b⟩
  have h2 : ∀ E, E ≤ 59049 → ∀ i j, i < j → j < (dw9 S E).length → ((dw9 S E).getD j (0, 0)).1 < ((dw9 S E).getD i (0, 0)).1 := by
    intro E
    induction E with
    | zero => intro _ i j _ hj; exact absurd hj (Nat.not_lt_zero _)
    | succ E ih =>
      intro hE i j hij hj
      rw [dw9_s] at hj ⊢
      by_cases q : S (nex E) = 0
      · rw [if_neg (fun z => z q)] at hj ⊢
        exact ih (by omega) i j hij hj
      · rw [if_pos q] at hj ⊢
        rw [List.length_cons] at hj
        cases j with
        | zero => omega
        | succ j =>
          cases i with
          | zero =>
            obtain ⟨e, a, b⟩ := h1 E (by omega) j (by omega)
            show ((dw9 S E).getD j (0, 0)).1 < nex E
            rw [b]
            exact nex_mono a (by omega)
          | succ i => exact ih (by omega) i j (by omega) (by omega)
  intro i j hij hj
  rw [(w.2.2.2.2 j hj).1, (w.2.2.2.2 i (by omega)).1]
  exact h2 59049 (Nat.le_refl _) i j hij (by rw [← w.2.2.1]; exact hj)
