/-- five figures up to 8 -/
def okc (x : Nat) : Prop := x < 100000 ∧ x % 10 ≤ 8 ∧ x / 10 % 10 ≤ 8 ∧ x / 100 % 10 ≤ 8 ∧ x / 1000 % 10 ≤ 8 ∧ x / 10000 % 10 ≤ 8
theorem okc_le {x : Nat} (h : okc x) : x ≤ 88888 := by
  unfold okc at h
  omega
theorem okc_dig {x : Nat} (h : okc x) : ∃ a4 a3 a2 a1 a0 : Nat, a4 ≤ 8 ∧ a3 ≤ 8 ∧ a2 ≤ 8 ∧ a1 ≤ 8 ∧ a0 ≤ 8 ∧ x = a4 * 10000 + a3 * 1000 + a2 * 100 + a1 * 10 + a0 := by
  unfold okc at h
  exact ⟨x / 10000 % 10, x / 1000 % 10, x / 100 % 10, x / 10 % 10, x % 10, by omega, by omega, by omega, by omega, by omega, by omega⟩
theorem okc_of {a4 a3 a2 a1 a0 : Nat} (h4 : a4 ≤ 8) (h3 : a3 ≤ 8) (h2 : a2 ≤ 8) (h1 : a1 ≤ 8) (h0 : a0 ≤ 8) : okc (a4 * 10000 + a3 * 1000 + a2 * 100 + a1 * 10 + a0) := by
  unfold okc
  omega
theorem okc_dC {x i e : Nat} (h : okc x) (hi : i < 4) (h1 : min (dP x i) (dQ x i) ≤ e) (h2 : e < max (dP x i) (dQ x i)) : okc (dC x i e) := by
  obtain ⟨a4, a3, a2, a1, a0, b4, b3, b2, b1, b0, hx⟩ := okc_dig h
  match i, hi with
  | 0, _ =>
    have e1 : dP x 0 = a4 := by simp only [dP, fat, Nat.reduceAdd, Nat.reduceSub, Nat.reducePow, Nat.div_one]; omega
    have e2 : dQ x 0 = a3 := by simp only [dQ, fat, Nat.reduceAdd, Nat.reduceSub, Nat.reducePow, Nat.div_one]; omega
    rw [e1, e2] at h1 h2
    have e3 : dC x 0 e = e * 10000 + (a4 + a3 - 1 - e) * 1000 + a2 * 100 + a1 * 10 + a0 := by
      unfold dC dO
      rw [e1, e2]
      simp only [Nat.reduceAdd, Nat.reduceSub, Nat.reducePow]
      omega
    rw [e3]
    exact okc_of (by omega) (by omega) (by omega) (by omega) (by omega)
  | 1, _ =>
    have e1 : dP x 1 = a3 := by simp only [dP, fat, Nat.reduceAdd, Nat.reduceSub, Nat.reducePow, Nat.div_one]; omega
    have e2 : dQ x 1 = a2 := by simp only [dQ, fat, Nat.reduceAdd, Nat.reduceSub, Nat.reducePow, Nat.div_one]; omega
    rw [e1, e2] at h1 h2
    have e3 : dC x 1 e = a4 * 10000 + e * 1000 + (a3 + a2 - 1 - e) * 100 + a1 * 10 + a0 := by
      unfold dC dO
      rw [e1, e2]
      simp only [Nat.reduceAdd, Nat.reduceSub, Nat.reducePow]
      omega
    rw [e3]
    exact okc_of (by omega) (by omega) (by omega) (by omega) (by omega)
  | 2, _ =>
    have e1 : dP x 2 = a2 := by simp only [dP, fat, Nat.reduceAdd, Nat.reduceSub, Nat.reducePow, Nat.div_one]; omega
    have e2 : dQ x 2 = a1 := by simp only [dQ, fat, Nat.reduceAdd, Nat.reduceSub, Nat.reducePow, Nat.div_one]; omega
    rw [e1, e2] at h1 h2
    have e3 : dC x 2 e = a4 * 10000 + a3 * 1000 + e * 100 + (a2 + a1 - 1 - e) * 10 + a0 := by
      unfold dC dO
      rw [e1, e2]
      simp only [Nat.reduceAdd, Nat.reduceSub, Nat.reducePow]
      omega
    rw [e3]
    exact okc_of (by omega) (by omega) (by omega) (by omega) (by omega)
  | 3, _ =>
    have e1 : dP x 3 = a1 := by simp only [dP, fat, Nat.reduceAdd, Nat.reduceSub, Nat.reducePow, Nat.div_one]; omega
    have e2 : dQ x 3 = a0 := by simp only [dQ, fat, Nat.reduceAdd, Nat.reduceSub, Nat.reducePow, Nat.div_one]; omega
    rw [e1, e2] at h1 h2
    have e3 : dC x 3 e = a4 * 10000 + a3 * 1000 + a2 * 100 + e * 10 + (a1 + a0 - 1 - e) := by
      unfold dC dO
      rw [e1, e2]
      simp only [Nat.reduceAdd, Nat.reduceSub, Nat.reducePow]
      omega
    rw [e3]
    exact okc_of (by omega) (by omega) (by omega) (by omega) (by omega)
theorem okc_okd {x i : Nat} (h : okc x) (hi : i < 4) : okd x i := fun _ h1 h2 => okc_le (okc_dC h hi h1 h2)
/-- all terms are such -/
def pvd (ts : tms) : Prop := ∀ j, j < ts.length → okc (tx ts j)
def sok (S : Nat → Int64) : Prop := ∀ c, c ≤ 88888 → S c ≠ 0 → okc c
theorem sok_z : sok zS := fun _ _ h => absurd rfl h
theorem sok_ad {S : Nat → Int64} (h : sok S) {c : Nat} (hc : okc c) (x : Int64) : sok (adS S c x) := by
  intro d hd hn
  unfold adS upS at hn
  by_cases e : d = c
  · rw [e]; exact hc
  · rw [if_neg e] at hn
    exact h d hd hn
theorem sok_pdl {x i : Nat} {m : Int64} : ∀ (k e : Nat) {S : Nat → Int64}, sok S → (∀ j, e ≤ j → j < e + k → okc (dC x i j)) → sok (pdl x i m k e S)
  | 0, _, _, h, _ => h
  | k + 1, e, _, h, hx => sok_pdl k (e + 1) (sok_ad h (hx e (Nat.le_refl _) (by omega)) m) (fun j h1 h2 => hx j (by omega) (by omega))
theorem sok_pdf {i : Nat} (hi : i < 4) : ∀ {ts : tms} {S : Nat → Int64}, sok S → pvd ts → sok (pdf i ts S)
  | [], _, h, _ => h
  | q :: r, _, h, hv => sok_pdf hi (ts := r) (sok_pdl _ _ h (fun j h1 h2 => okc_dC (hv 0 (by simp)) hi h1 (by show j < max (dP q.1 i) (dQ q.1 i); omega))) (fun j hj => hv (j + 1) (by simp; exact hj))
theorem dwn_mem {S : Nat → Int64} : ∀ k c q, q ∈ dwn S k c → q.1 ≤ c ∧ S q.1 ≠ 0
  | 0, _, _, h => absurd h List.not_mem_nil
  | k + 1, c, q, h => by
    unfold dwn at h
    split at h
    · rename_i hn
      rcases List.mem_cons.mp h with e | h
      · rw [e]; exact ⟨Nat.le_refl _, hn⟩
      · have := dwn_mem k (c - 1) q h
        exact ⟨by omega, this.2⟩
    · have := dwn_mem k (c - 1) q h
      exact ⟨by omega, this.2⟩
theorem pvd_mem {ts : tms} (h : ∀ q, q ∈ ts → okc q.1) : pvd ts := by
  intro j hj
  unfold tx
  rw [List.getD_eq_getElem?_getD, List.getElem?_eq_getElem hj]
  exact h _ (List.getElem_mem hj)
theorem pvd_trm {S : Nat → Int64} (h : sok S) : pvd (trm S) := by
  refine pvd_mem (fun q hq => ?_)
  unfold trm at hq
  obtain ⟨q0, h0, rfl⟩ := List.mem_map.mp hq
  obtain ⟨h1, h2⟩ := dwn_mem _ _ _ h0
  exact h _ h1 h2
theorem pvd_txs {ts : tms} (h : pvd ts) : txs ts := fun j hj => okc_le (h j hj)
/-- the difference by letter i, or what it was where that is refused -/
def nxt (i : Nat) (ts : tms) : tms := if stl (pdf i ts zS) < 0 then ts else trm (pdf i ts zS)
theorem nxt_pvd {i : Nat} (hi : i < 4) {ts : tms} (h : pvd ts) : pvd (nxt i ts) := by
  unfold nxt
  split
  · exact h
  · exact pvd_trm (sok_pdf hi sok_z h)
theorem nxt_len {i : Nat} {ts : tms} (h : ts.length ≤ 600) : (nxt i ts).length ≤ 600 := by
  unfold nxt
  split
  · exact h
  · rename_i q
    unfold stl at q
    unfold trm
    rw [List.length_map]
    split at q
    · exact absurd (by decide) q
    · split at q
      · exact absurd (by decide) q
      · omega
/-- the way up to n .. 1 -/
def cps (n : Nat) : Nat → Nat → List Nat
  | 0, _ => []
  | k + 1, w => if ofst (dgt w n) false (n - 1) 0 = 0 then [] else ofst (dgt w n) false (n - 1) 0 :: cps n k (swp w n (ofst (dgt w n) false (n - 1) 0 - 1) (ofst (dgt w n) false (n - 1) 0))
def wr : List Nat → Nat
  | [] => 0
  | i :: r => wr r * 10 + i
def cpd : List Nat → tms → tms
  | [], ts => ts
  | i :: r, ts => cpd r (nxt (i - 1) ts)
/-- the polynomial of an order -/
def cpo (n o : Nat) : tms := cpd (cps n 10 o).reverse [(str n, 1)]
theorem ofst_b (h : Nat → Nat) (b : Bool) : ∀ k i, ofst h b k i ≤ i + k ∧ (ofst h b k i ≠ 0 → i < ofst h b k i)
  | 0, _ => ⟨Nat.zero_le _, fun h => absurd rfl h⟩
  | k + 1, i => by
    have := ofst_b h b k (i + 1)
    unfold ofst
    split
    · omega
    · omega
theorem wr_b : ∀ l : List Nat, (∀ d, d ∈ l → d < 10) → wr l < 10 ^ l.length
  | [], _ => by decide
  | i :: r, h => by
    have h1 := wr_b r (fun d hd => h d (List.mem_cons_of_mem _ hd))
    have h2 := h i List.mem_cons_self
    rw [List.length_cons, Nat.pow_succ]
    show wr r * 10 + i < _
    omega
/-- an answer of compose -/
def qcp (G : Nat → Nat → Int32) (L : Nat → Nat → Int64) (p : Nat) (ts : tms) : Option Value → fv_F → Option Nat → Prop := fun r2 f2 al2 => ∃ (G2 : Nat → Nat → Int32) (L2 : Nat → Nat → Int64), r2 = some (.int (nI ts.length)) ∧ f2 = fw cT G2 L2 ∧ al2 = none ∧ emp G2 L2 ∧ (∀ i, i ≠ 4 → L2 i = L i) ∧
  (∀ i, i ≠ 3 → i ≠ 5 → i ≠ 6 → i ≠ 7 → i ≠ 8 → i ≠ p → i ≠ p + 1 → i ≠ p + 2 → G2 i = G i) ∧ pat G2 p ts true ∧ pvd ts
theorem str_ok : ∀ n, n ≤ 5 → okc (str n) := by
  intro n hn
  unfold okc
  match n, hn with
  | 0, _ => decide
  | 1, _ => decide
  | 2, _ => decide
  | 3, _ => decide
  | 4, _ => decide
  | 5, _ => decide

theorem max_sub (n j : Nat) : (max ((n : Int) - (j : Int)) 0) = ((n - j : Nat) : Int) := by omega
