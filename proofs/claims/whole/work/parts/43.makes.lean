theorem dC_0 {a4 a3 a2 a1 a0 e : Nat} (b4 : a4 ≤ 8) (b3 : a3 ≤ 8) (b2 : a2 ≤ 8) (b1 : a1 ≤ 8) (b0 : a0 ≤ 8) : dC (a4 * 10000 + a3 * 1000 + a2 * 100 + a1 * 10 + a0) 0 e = e * 10000 + (a4 + a3 - 1 - e) * 1000 + a2 * 100 + a1 * 10 + a0 := by
  obtain ⟨p1, p2⟩ := dPQ_0 b4 b3 b2 b1 b0
  unfold dC dO
  rw [p1, p2]
  show a4 * 10000 + a3 * 1000 + a2 * 100 + a1 * 10 + a0 - a4 * 10000 - a3 * 1000 + e * 10000 + (a4 + a3 - 1 - e) * 1000 = _
  omega
theorem dC_1 {a4 a3 a2 a1 a0 e : Nat} (b4 : a4 ≤ 8) (b3 : a3 ≤ 8) (b2 : a2 ≤ 8) (b1 : a1 ≤ 8) (b0 : a0 ≤ 8) : dC (a4 * 10000 + a3 * 1000 + a2 * 100 + a1 * 10 + a0) 1 e = a4 * 10000 + e * 1000 + (a3 + a2 - 1 - e) * 100 + a1 * 10 + a0 := by
  obtain ⟨p1, p2⟩ := dPQ_1 b4 b3 b2 b1 b0
  unfold dC dO
  rw [p1, p2]
  show a4 * 10000 + a3 * 1000 + a2 * 100 + a1 * 10 + a0 - a3 * 1000 - a2 * 100 + e * 1000 + (a3 + a2 - 1 - e) * 100 = _
  omega
theorem dC_2 {a4 a3 a2 a1 a0 e : Nat} (b4 : a4 ≤ 8) (b3 : a3 ≤ 8) (b2 : a2 ≤ 8) (b1 : a1 ≤ 8) (b0 : a0 ≤ 8) : dC (a4 * 10000 + a3 * 1000 + a2 * 100 + a1 * 10 + a0) 2 e = a4 * 10000 + a3 * 1000 + e * 100 + (a2 + a1 - 1 - e) * 10 + a0 := by
  obtain ⟨p1, p2⟩ := dPQ_2 b4 b3 b2 b1 b0
  unfold dC dO
  rw [p1, p2]
  show a4 * 10000 + a3 * 1000 + a2 * 100 + a1 * 10 + a0 - a2 * 100 - a1 * 10 + e * 100 + (a2 + a1 - 1 - e) * 10 = _
  omega
theorem dC_3 {a4 a3 a2 a1 a0 e : Nat} (b4 : a4 ≤ 8) (b3 : a3 ≤ 8) (b2 : a2 ≤ 8) (b1 : a1 ≤ 8) (b0 : a0 ≤ 8) : dC (a4 * 10000 + a3 * 1000 + a2 * 100 + a1 * 10 + a0) 3 e = a4 * 10000 + a3 * 1000 + a2 * 100 + e * 10 + (a1 + a0 - 1 - e) := by
  obtain ⟨p1, p2⟩ := dPQ_3 b4 b3 b2 b1 b0
  unfold dC dO
  rw [p1, p2]
  show a4 * 10000 + a3 * 1000 + a2 * 100 + a1 * 10 + a0 - a1 * 10 - a0 * 1 + e * 10 + (a1 + a0 - 1 - e) * 1 = _
  omega
/-- what is not 0 is of a kind -/
def sup (P : Nat → Prop) (S : Nat → Int64) : Prop := ∀ c, S c ≠ 0 → P c
theorem sup_z (P : Nat → Prop) : sup P zS := fun _ h => absurd rfl h
theorem sup_ad {P : Nat → Prop} {S : Nat → Int64} (h : sup P S) {c : Nat} (hc : P c) (x : Int64) : sup P (adS S c x) := by
  intro d hd
  by_cases e : d = c
  · rw [e]; exact hc
  · exact h d (by rw [show adS S c x d = S d from if_neg e] at hd; exact hd)
theorem sup_pdl {P : Nat → Prop} {x i : Nat} {m : Int64} : ∀ (k e : Nat) {S : Nat → Int64}, sup P S → (∀ j, e ≤ j → j < e + k → P (dC x i j)) → sup P (pdl x i m k e S)
  | 0, _, _, h, _ => h
  | k + 1, e, S, h, hc => sup_pdl k (e + 1) (sup_ad h (hc e (Nat.le_refl _) (by omega)) m) (fun j a b => hc j (by omega) (by omega))
theorem sup_D9 {P P2 : Nat → Prop} {i : Nat} (hP : ∀ x, okc x → P x → ∀ e, min (dP x i) (dQ x i) ≤ e → e < max (dP x i) (dQ x i) → P2 (dC x i e)) {S : Nat → Int64} (hS : sup P S) : ∀ (k e : Nat) (A : Nat → Int64), e + k ≤ 59049 → sup P2 A → sup P2 (D9 i S k e A)
  | 0, _, _, _, h => h
  | k + 1, e, A, he, h => by
    rw [D9_s]
    refine sup_D9 hP hS k (e + 1) _ (by omega) ?_
    by_cases q : S (nex e) = 0
    · rw [q, pd6_0]; exact h
    · exact sup_pdl _ _ h (fun j a b => hP _ (nin_nex (by omega)).1 (hS _ q) j a (by omega))
theorem sup_DF {P P2 : Nat → Prop} {i : Nat} (hP : ∀ x, okc x → P x → ∀ e, min (dP x i) (dQ x i) ≤ e → e < max (dP x i) (dQ x i) → P2 (dC x i e)) {S : Nat → Int64} (hS : sup P S) : sup P2 (DF i S) := sup_D9 hP hS 59049 0 zS (Nat.le_refl _) (sup_z _)
/-- exponents of at most 4, 3, 2, 1, 0 -/
def stc (c : Nat) : Prop := ∃ a4 a3 a2 a1 : Nat, a4 ≤ 4 ∧ a3 ≤ 3 ∧ a2 ≤ 2 ∧ a1 ≤ 1 ∧ c = a4 * 10000 + a3 * 1000 + a2 * 100 + a1 * 10 + 0
theorem stc_o {c : Nat} (h : stc c) : okc c := by
  obtain ⟨a4, a3, a2, a1, h4, h3, h2, h1, hc⟩ := h
  rw [hc]
  exact okc_of (by omega) (by omega) (by omega) (by omega) (by omega)
theorem stc_add {c d : Nat} (h : stc c) (h2 : stc d) : okc (c + d) := by
  obtain ⟨a4, a3, a2, a1, b4, b3, b2, b1, hc⟩ := h
  obtain ⟨e4, e3, e2, e1, f4, f3, f2, f1, hd⟩ := h2
  have q := okc_of (a4 := a4 + e4) (a3 := a3 + e3) (a2 := a2 + e2) (a1 := a1 + e1) (a0 := 0) (by omega) (by omega) (by omega) (by omega) (by omega)
  rw [show c + d = (a4 + e4) * 10000 + (a3 + e3) * 1000 + (a2 + e2) * 100 + (a1 + e1) * 10 + 0 by omega]
  exact q
theorem stc_d {i : Nat} (hi : i < 4) : ∀ x, okc x → stc x → ∀ e, min (dP x i) (dQ x i) ≤ e → e < max (dP x i) (dQ x i) → stc (dC x i e) := by
  intro x _ hx e h1 h2
  obtain ⟨a4, a3, a2, a1, b4, b3, b2, b1, hc⟩ := hx
  have hh : i = 0 ∨ i = 1 ∨ i = 2 ∨ i = 3 := by omega
  have c4 : a4 ≤ 8 := by omega
  have c3 : a3 ≤ 8 := by omega
  have c2 : a2 ≤ 8 := by omega
  have c1 : a1 ≤ 8 := by omega
  have c0 : 0 ≤ 8 := by decide
  rw [hc] at h1 h2 ⊢
  rcases hh with rfl | rfl | rfl | rfl
  · rw [(dPQ_0 c4 c3 c2 c1 c0).1, (dPQ_0 c4 c3 c2 c1 c0).2] at h1 h2
    rw [dC_0 c4 c3 c2 c1 c0]
    exact ⟨e, a4 + a3 - 1 - e, a2, a1, by omega, by omega, b2, b1, rfl⟩
  · rw [(dPQ_1 c4 c3 c2 c1 c0).1, (dPQ_1 c4 c3 c2 c1 c0).2] at h1 h2
    rw [dC_1 c4 c3 c2 c1 c0]
    exact ⟨a4, e, a3 + a2 - 1 - e, a1, b4, by omega, by omega, b1, rfl⟩
  · rw [(dPQ_2 c4 c3 c2 c1 c0).1, (dPQ_2 c4 c3 c2 c1 c0).2] at h1 h2
    rw [dC_2 c4 c3 c2 c1 c0]
    exact ⟨a4, a3, e, a2 + a1 - 1 - e, b4, b3, by omega, by omega, rfl⟩
  · rw [(dPQ_3 c4 c3 c2 c1 c0).1, (dPQ_3 c4 c3 c2 c1 c0).2] at h1 h2
    rw [dC_3 c4 c3 c2 c1 c0]
    exact ⟨a4, a3, a2, e, b4, b3, b2, by omega, by omega⟩
theorem sup_mch : ∀ (l : List Nat) (S : Nat → Int64), lok l → sup stc S → sup stc (mch l S)
  | [], _, _, h => h
  | i :: r, S, hl, h => sup_mch r _ (fun j hj => hl j (List.mem_cons_of_mem _ hj)) (sup_DF (stc_d (by have := hl i List.mem_cons_self; omega)) h)
theorem str_st : ∀ n, n ≤ 5 → stc (str n) := by
  intro n hn
  match n, hn with
  | 0, _ => exact ⟨0, 0, 0, 0, by decide, by decide, by decide, by decide, by decide⟩
  | 1, _ => exact ⟨0, 0, 0, 0, by decide, by decide, by decide, by decide, by decide⟩
  | 2, _ => exact ⟨1, 0, 0, 0, by decide, by decide, by decide, by decide, by decide⟩
  | 3, _ => exact ⟨2, 1, 0, 0, by decide, by decide, by decide, by decide, by decide⟩
  | 4, _ => exact ⟨3, 2, 1, 0, by decide, by decide, by decide, by decide, by decide⟩
  | 5, _ => exact ⟨4, 3, 2, 1, by decide, by decide, by decide, by decide, by decide⟩
theorem lok_r {l : List Nat} (h : lok l) : lok l.reverse := fun i hi => h i (List.mem_reverse.mp hi)
theorem sup_mpo {o : Nat} (ho : o ∈ ordL) : sup stc (mpo o) := sup_mch _ _ (lok_r (cq_ok o ho false)) (sup_ad (sup_z _) (str_st _ (ord_b o ho).2.1) 1)
theorem sok_mpo {o : Nat} (ho : o ∈ ordL) : sok (mpo o) := fun c _ h => stc_o (sup_mpo ho c h)
/-- what two at work come to when multiplied, place by place -/
def mI (A B : Nat → Int64) (e : Nat) : Nat → Nat → (Nat → Int64) → Nat → Int64
  | 0, _, R => R
  | k + 1, f, R => mI A B e k (f + 1) (if B (nex f) = 0 then R else adS R (nex e + nex f) (A (nex e) * B (nex f)))
def mO (A B : Nat → Int64) : Nat → Nat → (Nat → Int64) → Nat → Int64
  | 0, _, R => R
  | k + 1, e, R => mO A B k (e + 1) (if A (nex e) = 0 then R else mI A B e 59049 0 R)
theorem mI_s (A B : Nat → Int64) (e k f : Nat) (R : Nat → Int64) : mI A B e (k + 1) f R = mI A B e k (f + 1) (if B (nex f) = 0 then R else adS R (nex e + nex f) (A (nex e) * B (nex f))) := rfl
theorem mO_s (A B : Nat → Int64) (k e : Nat) (R : Nat → Int64) : mO A B (k + 1) e R = mO A B k (e + 1) (if A (nex e) = 0 then R else mI A B e 59049 0 R) := rfl
theorem sok_mI {A B : Nat → Int64} (hB : sup stc B) {e : Nat} (he : stc (nex e)) : ∀ (k f : Nat) (R : Nat → Int64), sok R → sok (mI A B e k f R)
  | 0, _, _, h => h
  | k + 1, f, R, h => by
    rw [mI_s]
    refine sok_mI hB he k (f + 1) _ ?_
    split
    · exact h
    · rename_i q
      exact sok_ad h (stc_add he (hB _ q)) _
theorem sok_mO {A B : Nat → Int64} (hA : sup stc A) (hB : sup stc B) : ∀ (k e : Nat) (R : Nat → Int64), sok R → sok (mO A B k e R)
  | 0, _, _, h => h
  | k + 1, e, R, h => by
    rw [mO_s]
    refine sok_mO hA hB k (e + 1) _ ?_
    split
    · exact h
    · rename_i q
      exact sok_mI hB (hA _ q) _ _ _ h
theorem sum_10 (a4 a3 a2 a1 e4 e3 e2 e1 : Nat) : a4 * 10000 + a3 * 1000 + a2 * 100 + a1 * 10 + 0 + (e4 * 10000 + e3 * 1000 + e2 * 100 + e1 * 10 + 0) = (a4 + e4) * 10000 + (a3 + e3) * 1000 + (a2 + e2) * 100 + (a1 + e1) * 10 + 0 := by omega
theorem sum_9 (a4 a3 a2 a1 e4 e3 e2 e1 : Nat) : (a4 + e4) * 6561 + (a3 + e3) * 729 + (a2 + e2) * 81 + (a1 + e1) * 9 + 0 = (a4 * 6561 + a3 * 729 + a2 * 81 + a1 * 9 + 0) + (e4 * 6561 + e3 * 729 + e2 * 81 + e1 * 9 + 0) := by omega
theorem nin_add {e f : Nat} (he : e < 59049) (hf : f < 59049) (h1 : stc (nex e)) (h2 : stc (nex f)) : nin (nex e + nex f) = e + f := by
  have p1 := (nin_nex he).2
  have p2 := (nin_nex hf).2
  obtain ⟨a4, a3, a2, a1, b4, b3, b2, b1, hc⟩ := h1
  obtain ⟨e4, e3, e2, e1, f4, f3, f2, f1, hd⟩ := h2
  rw [hc, nin_d (by omega) (by omega) (by omega) (by omega) (by omega)] at p1
  rw [hd, nin_d (by omega) (by omega) (by omega) (by omega) (by omega)] at p2
  rw [hc, hd, sum_10, nin_d (by omega) (by omega) (by omega) (by omega) (by omega), sum_9, p1, p2]
theorem gdN_l (l r : List Nat) {j : Nat} (h : j < l.length) : (l ++ r).getD j 0 = l.getD j 0 := by
  rw [List.getD_eq_getElem?_getD, List.getD_eq_getElem?_getD, List.getElem?_append_left h]
theorem gdN_e (l : List Nat) (q : Nat) : (l ++ [q]).getD l.length 0 = q := by
  rw [List.getD_eq_getElem?_getD, List.getElem?_append_right (Nat.le_refl _), Nat.sub_self]
  rfl
theorem lok_get {l : List Nat} (h : lok l) {j : Nat} (hj : j < l.length) : 1 ≤ l.getD j 0 ∧ l.getD j 0 ≤ 4 := by
  rw [List.getD_eq_getElem?_getD, List.getElem?_eq_getElem hj]
  exact h _ (List.getElem_mem hj)
theorem tk_s {l : List Nat} {j : Nat} (h : j < l.length) : (l.take (j + 1)).reverse = l.getD j 0 :: (l.take j).reverse := by
  rw [List.take_succ, List.getElem?_eq_getElem h, List.getD_eq_getElem?_getD, List.getElem?_eq_getElem h, List.reverse_append]
  rfl
theorem mor_9 {G : Nat → Nat → Int32} {n : Nat} {h : Nat → Nat} (hm : mor G n h) (m : Nat) (v : Int32) : mor (g2 G 9 m v) n h := ⟨hm.1, by rw [g2_ne _ _ (fun q => absurd q.1 (by decide))]; exact hm.2.1, fun p hp => by rw [g2_ne _ _ (fun q => absurd q.1 (by decide))]; exact hm.2.2 p hp⟩
def stn (n : Nat) : Nat → Nat → Nat → Nat
  | 0, _, e => e
  | k + 1, i, e => stn n k (i + 1) (e + (n - 1 - i) * 9 ^ (4 - i))
theorem stn_s (n k i e : Nat) : stn n (k + 1) i e = stn n k (i + 1) (e + (n - 1 - i) * 9 ^ (4 - i)) := rfl
theorem stn_n : ∀ n, n ≤ 5 → stn n n 0 0 = nin (str n) := by
  intro n hn
  match n, hn with
  | 0, _ => decide +kernel
  | 1, _ => decide +kernel
  | 2, _ => decide +kernel
  | 3, _ => decide +kernel
  | 4, _ => decide +kernel
  | 5, _ => decide +kernel
/-- an answer of makes -/
def qmk (G : Nat → Nat → Int32) (L : Nat → Nat → Int64) (S : Nat → Int64) : Option Value → fv_F → Option Nat → Prop := fun r2 f2 al2 => ∃ (G2 : Nat → Nat → Int32) (L2 : Nat → Nat → Int64), r2 = none ∧ f2 = fw mT G2 L2 ∧ al2 = none ∧ (∀ i j, i ≠ 1 → i ≠ 9 → ¬ (i = 0 ∧ j = 1) → G2 i j = G i j) ∧ (∀ i, i ≠ 7 → i ≠ 8 → L2 i = L i) ∧ wkd L2 S
def qpm (G : Nat → Nat → Int32) (L : Nat → Nat → Int64) (v : Int64) : Option Value → fv_F → Option Nat → Prop := fun r2 f2 al2 => ∃ (G2 : Nat → Nat → Int32) (L2 : Nat → Nat → Int64), r2 = some (.long v) ∧ f2 = fw mT G2 L2 ∧ al2 = none ∧ (∀ i j, i ≠ 1 → ¬ (i = 0 ∧ j = 1) → G2 i j = G i j) ∧ ∀ i, i ≠ 7 → i ≠ 8 → L2 i = L i

set_option maxRecDepth 4000 in
set_option maxHeartbeats 1000000 in
theorem C11_makes  (G : Nat → Nat → Int32) (L : Nat → Nat → Int64) (o : Nat) (hf : figs (o : Int) ≠ 0) : fv_M Y11_makes 2 0 0 [.ref 0, .int (nI o)] (fw mT G L) none (qmk G L (mpo o)) := by
  refine fv_enter rfl (Nat.le_of_ble_eq_true rfl) ?_
  obtain ⟨Q, hQ⟩ : ∃ Q : Option Value → fv_F → Option Nat → Prop, Q = (qmk G L (mpo o)) := ⟨_, rfl⟩
  rw [← hQ]
  show fv_At Y11_makes 2 0 0 Q 0 [(0, .ref 0), (1, .int (nI o))] [] (fw mT G L) none 0 0
  have hfb := figs_b hf
  refine fx_aload_n dX11_makes_0 rfl (i := 0) rfl ?_
  refine fx_iload_n dX11_makes_1 rfl (i := 1) rfl ?_
  refine fx_callV dX11_makes_2 lk11_133 fv_c8 rfl (fw_at (show mT 0 = some (3, 8, 38, [some 1, none, some 2, some 3, some 4, some 5, some 6, some 7, some 8, some 9, some 10, some 11, some 12, some 13, some 14, some 15, some 16, some 17, some 18, some 19, none, none, none, some 20, some 21, some 22, some 23, none, some 24, some 25, some 26, some 27, some 28, some 29, some 30, some 31, none, some 32]) from rfl)) (C11_reads G L (((o : Nat) : Int)) (by omega) (by omega)) rfl rfl (by decide) (Nat.le_of_ble_eq_true rfl) (by decide) (by decide) (fun r2 f2 al2 h2 => ?_)
  obtain ⟨G2, rfl, rfl, rfl, ho2, hm2⟩ := h2
  show fv_At Y11_makes 2 0 0 Q 5 [(0, .ref 0), (1, .int (nI o))] [.int (bI (decide (figs (((o : Nat) : Int)) ≠ 0)))] (fw mT G2 L) none 0 0
  refine fx_istore_n (lv2 := [(0, .ref 0), (1, .int (nI o)), (2, .int (bI (decide (figs (((o : Nat) : Int)) ≠ 0))))]) dX11_makes_5 (i := 2) rfl (by decide) rfl ?_
  obtain ⟨hfN, hoL⟩ := figs_N hf
  have hb := ord_b o hoL
  have hm3 := hm2 hf
  rw [hfN] at hm3
  refine fx_iconst (v := (nI 0)) dX11_makes_6 (by decide) ?_
  refine fx_istore_n (lv2 := [(0, .ref 0), (1, .int (nI o)), (2, .int (bI (decide (figs (((o : Nat) : Int)) ≠ 0)))), (3, .int (nI 0))]) dX11_makes_7 (i := 3) rfl (by decide) rfl ?_
  refine fx_iconst (v := (nI 1)) dX11_makes_8 (by decide) ?_
  refine fn_to (show _ = (bI true) from rfl) ?_
  refine fx_istore (lv2 := [(0, .ref 0), (1, .int (nI o)), (2, .int (bI (decide (figs (((o : Nat) : Int)) ≠ 0)))), (3, .int (nI 0)), (4, .int (bI true))]) dX11_makes_9 (by decide) rfl ?_
  have L11 : ∀ (k : Nat) (w : Nat) (m : Nat) (u : List Nat) (q : Bool) (G1 : Nat → Nat → Int32), (w ∈ ordL ∧ figN w = figN o) → (mor G1 (figN o) (dgt w (figN o))) → (∀ i j, i ≠ 1 → i ≠ 9 → ¬ (i = 0 ∧ j = 1) → G1 i j = G i j) → (m = u.length) → (u ++ cq false w = cq false o) → (∀ p, p < m → G1 9 p = nI (u.getD p 0)) → ((q = true ∧ k = (cq false w).length + 1) ∨ (q = false ∧ k = 0 ∧ cq false w = [])) → fv_At Y11_makes 2 0 0 Q 11 [(0, .ref 0), (1, .int (nI o)), (2, .int (bI (decide (figs (((o : Nat) : Int)) ≠ 0)))), (3, .int (nI m)), (4, .int (bI q))] [] (fw mT G1 L) none 0 0 := by
    intro k
    induction k with
    | zero =>
      intro w m u q G1 hw_w hmo_w hoG_w hm_w hu_w hup_w hk
      refine fx_iload dX11_makes_11 rfl ?_
      refine fn_if_eqB (tgt := 92) dX11_makes_13 (by decide) (fun c13 => ?_) (fun c13 => ?_)
      · skip
        have hcw : cq false w = [] := by
          rcases hk with ⟨a, b⟩ | ⟨a, b, c⟩
          · omega
          · exact c
        have hun : u = cq false o := by rw [← hu_w, hcw, List.append_nil]
        have hlu := cq_ok o hoL false
        rw [← hun] at hlu
        refine fx_aload_n dX11_makes_92 rfl (i := 0) rfl ?_
        refine fx_callV dX11_makes_93 lk11_172 fv_c8 rfl (fw_at (show mT 0 = some (3, 8, 38, [some 1, none, some 2, some 3, some 4, some 5, some 6, some 7, some 8, some 9, some 10, some 11, some 12, some 13, some 14, some 15, some 16, some 17, some 18, some 19, none, none, none, some 20, some 21, some 22, some 23, none, some 24, some 25, some 26, some 27, some 28, some 29, some 30, some 31, none, some 32]) from rfl)) (C11_wipe G1 L) rfl rfl (by decide) (Nat.le_of_ble_eq_true rfl) (by decide) (by decide) (fun r93 f93 al93 h93 => ?_)
        obtain ⟨L93, rfl, rfl, rfl, hl93, hw93⟩ := h93
        show fv_At Y11_makes 2 0 0 Q 96 [(0, .ref 0), (1, .int (nI o)), (2, .int (bI (decide (figs (((o : Nat) : Int)) ≠ 0)))), (3, .int (nI m)), (4, .int (bI q))] [] (fw mT G1 L93) none 0 0
        refine fx_iconst (v := (nI 0)) dX11_makes_96 (by decide) ?_
        refine fx_istore (lv2 := [(0, .ref 0), (1, .int (nI o)), (2, .int (bI (decide (figs (((o : Nat) : Int)) ≠ 0)))), (3, .int (nI m)), (4, .int (bI q)), (5, .int (nI 0))]) dX11_makes_97 (by decide) rfl ?_
        refine fx_iconst (v := (nI 0)) dX11_makes_99 (by decide) ?_
        refine fx_istore (lv2 := [(0, .ref 0), (1, .int (nI o)), (2, .int (bI (decide (figs (((o : Nat) : Int)) ≠ 0)))), (3, .int (nI m)), (4, .int (bI q)), (5, .int (nI 0)), (6, .int (nI 0))]) dX11_makes_100 (by decide) rfl ?_
        have L102 : ∀ (k3 : Nat) (i : Nat) (e : Nat), (i + k3 = figN o) → (stn (figN o) k3 i e = nin (str (figN o))) → fv_At Y11_makes 2 0 0 Q 102 [(0, .ref 0), (1, .int (nI o)), (2, .int (bI (decide (figs (((o : Nat) : Int)) ≠ 0)))), (3, .int (nI m)), (4, .int (bI q)), (5, .int (nI e)), (6, .int (nI i))] [] (fw mT G1 L93) none 0 0 := by
          intro k3
          induction k3 with
          | zero =>
            intro i e hi3 hE
            refine fx_iload dX11_makes_102 rfl ?_
            refine fx_aload_n dX11_makes_104 rfl (i := 0) rfl ?_
            refine fw_geti dX11_makes_105 fd11_130 rfl rfl ?_
            refine fn_to (show _ = (nI (figN o)) from hmo_w.2.1) ?_
            refine fn_icmp_ge (tgt := 139) dX11_makes_108 (by decide) (by omega) (by omega) (fun c108 => ?_) (fun c108 => ?_)
            · skip
              have he0 : e = nin (str (figN o)) := hE
              subst he0
              have hso := str_ok (figN o) hb.2.1
              have hsi := nin_in hso
              show fv_At Y11_makes 2 0 0 Q 139 [(0, .ref 0), (1, .int (nI o)), (2, .int (bI (decide (figs (((o : Nat) : Int)) ≠ 0)))), (3, .int (nI m)), (4, .int (bI q)), (5, .int (nI (nin (str (figN o))))), (6, .int (nI i))] [] (fw mT G1 L93) none 0 0
              refine fx_aload_n dX11_makes_139 rfl (i := 0) rfl ?_
              refine fw_getr dX11_makes_140 fd11_31 rfl rfl ?_
              refine fx_iload dX11_makes_143 rfl ?_
              refine fx_lconst (v := 1) dX11_makes_145 (by decide) ?_
              refine fw_last (nin (str (figN o))) dX11_makes_146 rfl rfl (by omega) (by decide) ?_
              have hw0 := wkd_ad hw93 hso (y := 1)
              rw [show zS (str (figN o)) + 1 = (1 : Int64) from Int64.zero_add 1] at hw0
              have hul : u.length ≤ 10 := by rw [hun]; exact (ord_q o hoL false).1
              refine fx_iload_n dX11_makes_147 rfl (i := 3) rfl ?_
              refine fx_iconst (v := (nI 1)) dX11_makes_148 (by decide) ?_
              refine fn_isubZ (a := ((m : Nat) : Int)) (b := ((1 : Nat) : Int)) dX11_makes_149 ?_
              refine fx_istore (lv2 := [(0, .ref 0), (1, .int (nI o)), (2, .int (bI (decide (figs (((o : Nat) : Int)) ≠ 0)))), (3, .int (nI m)), (4, .int (bI q)), (5, .int (nI (nin (str (figN o))))), (6, .int (iI ((((m : Nat) : Int)) - (((1 : Nat) : Int)))))]) dX11_makes_150 (by decide) rfl ?_
              have L152 : ∀ (k4 : Nat) (x : Int) (S4 : Nat → Int64) (L4 : Nat → Nat → Int64), (x = (k4 : Int) - 1 ∧ k4 ≤ m) → (wkd L4 S4) → (∀ i, i ≠ 7 → i ≠ 8 → L4 i = L i) → (mch (u.take k4).reverse S4 = mpo o) → fv_At Y11_makes 2 0 0 Q 152 [(0, .ref 0), (1, .int (nI o)), (2, .int (bI (decide (figs (((o : Nat) : Int)) ≠ 0)))), (3, .int (nI m)), (4, .int (bI q)), (5, .int (nI (nin (str (figN o))))), (6, .int (iI x))] [] (fw mT G1 L4) none 0 0 := by
                intro k4
                induction k4 with
                | zero =>
                  intro x S4 L4 hx hW4 hoL4 hR
                  refine fx_iload dX11_makes_152 rfl ?_
                  refine fn_if_ltZ (tgt := 174) dX11_makes_154 (by decide) (by omega) (by omega) (fun c154 => ?_) (fun c154 => ?_)
                  · skip
                    exact fx_vret dX11_makes_174 rfl rfl rfl (by rw [hQ]; exact ⟨G1, L4, rfl, rfl, rfl, hoG_w, hoL4, by rw [← hR]; exact hW4⟩)
                  · exfalso; omega
                | succ k4 ih152 =>
                  intro x S4 L4 hx hW4 hoL4 hR
                  refine fx_iload dX11_makes_152 rfl ?_
                  refine fn_if_ltZ (tgt := 174) dX11_makes_154 (by decide) (by omega) (by omega) (fun c154 => ?_) (fun c154 => ?_)
                  · exfalso; omega
                  · skip
                    obtain rfl : x = (k4 : Int) := by omega
                    have hlg := lok_get hlu (j := k4) (by omega)
                    show fv_At Y11_makes 2 0 0 Q 157 [(0, .ref 0), (1, .int (nI o)), (2, .int (bI (decide (figs (((o : Nat) : Int)) ≠ 0)))), (3, .int (nI m)), (4, .int (bI q)), (5, .int (nI (nin (str (figN o))))), (6, .int (nI k4))] [] (fw mT G1 L4) none 0 0
                    refine fx_aload_n dX11_makes_157 rfl (i := 0) rfl ?_
                    refine fx_aload_n dX11_makes_158 rfl (i := 0) rfl ?_
                    refine fw_getr dX11_makes_159 fd11_37 rfl rfl ?_
                    refine fx_iload dX11_makes_162 rfl ?_
                    refine fw_iald k4 dX11_makes_164 rfl rfl (by omega) (by decide) ?_
                    refine fn_to (show _ = (nI (u.getD k4 0 - 1 + 1)) from (by rw [hup_w k4 (by omega)]; exact congrArg nI (by omega))) ?_
                    refine fx_callV dX11_makes_165 lk11_199 fv_c8 rfl (fw_at (show mT 0 = some (3, 8, 38, [some 1, none, some 2, some 3, some 4, some 5, some 6, some 7, some 8, some 9, some 10, some 11, some 12, some 13, some 14, some 15, some 16, some 17, some 18, some 19, none, none, none, some 20, some 21, some 22, some 23, none, some 24, some 25, some 26, some 27, some 28, some 29, some 30, some 31, none, some 32]) from rfl)) (C11_differ G1 L4 (u.getD k4 0 - 1) (by omega) S4 hW4) rfl rfl (by decide) (Nat.le_of_ble_eq_true rfl) (by decide) (by decide) (fun r165 f165 al165 h165 => ?_)
                    obtain ⟨L165, rfl, rfl, rfl, hl165, hw165⟩ := h165
                    show fv_At Y11_makes 2 0 0 Q 168 [(0, .ref 0), (1, .int (nI o)), (2, .int (bI (decide (figs (((o : Nat) : Int)) ≠ 0)))), (3, .int (nI m)), (4, .int (bI q)), (5, .int (nI (nin (str (figN o))))), (6, .int (nI k4))] [] (fw mT G1 L165) none 0 0
                    show fv_At Y11_makes 2 0 0 Q 168 [(0, .ref 0), (1, .int (nI o)), (2, .int (bI (decide (figs (((o : Nat) : Int)) ≠ 0)))), (3, .int (nI m)), (4, .int (bI q)), (5, .int (nI (nin (str (figN o))))), (6, .int (iI ((k4 : Int))))] [] (fw mT G1 L165) none 0 0
                    refine fn_iincZ (lv2 := [(0, .ref 0), (1, .int (nI o)), (2, .int (bI (decide (figs (((o : Nat) : Int)) ≠ 0)))), (3, .int (nI m)), (4, .int (bI q)), (5, .int (nI (nin (str (figN o))))), (6, .int (iI ((k4 : Int) + (-1))))]) dX11_makes_168  rfl (by decide) rfl ?_
                    refine fx_goto (tgt := 152) dX11_makes_171 (by decide) ?_
                    exact (ih152 ((k4 : Int) + (-1)) (DF (u.getD k4 0 - 1) S4) L165 (by omega) hw165 (fun i a b => (hl165 i a b).trans (hoL4 i a b)) (by rw [← hR, tk_s (show k4 < u.length by omega)]; rfl))
              exact (L152 m ((((m : Nat) : Int)) - (((1 : Nat) : Int))) (adS zS (str (figN o)) 1) (g2 L93 7 (nin (str (figN o))) 1) (by omega) hw0 (fun i a _ => (g2_rowL a).trans (hl93 i a)) (by rw [hm_w, List.take_length, hun]; rfl))
            · exfalso; omega
          | succ k3 ih102 =>
            intro i e hi3 hE
            refine fx_iload dX11_makes_102 rfl ?_
            refine fx_aload_n dX11_makes_104 rfl (i := 0) rfl ?_
            refine fw_geti dX11_makes_105 fd11_130 rfl rfl ?_
            refine fn_to (show _ = (nI (figN o)) from hmo_w.2.1) ?_
            refine fn_icmp_ge (tgt := 139) dX11_makes_108 (by decide) (by omega) (by omega) (fun c108 => ?_) (fun c108 => ?_)
            · exfalso; omega
            · skip
              refine fx_iload dX11_makes_111 rfl ?_
              refine fx_aload_n dX11_makes_113 rfl (i := 0) rfl ?_
              refine fw_geti dX11_makes_114 fd11_130 rfl rfl ?_
              refine fn_to (show _ = (nI (figN o)) from hmo_w.2.1) ?_
              refine fx_iconst (v := (nI 1)) dX11_makes_117 (by decide) ?_
              refine fn_isub dX11_makes_118 (by omega) ?_
              refine fx_iload dX11_makes_119 rfl ?_
              refine fn_isub dX11_makes_121 (by omega) ?_
              refine fx_iconst (v := (nI 4)) dX11_makes_122 (by decide) ?_
              refine fx_iload dX11_makes_123 rfl ?_
              refine fn_isub dX11_makes_125 (by omega) ?_
              refine fn_cS dX11_makes_126 lk11_196 (C11_nines (n := 4 - i) (by omega) (f := (fw mT G1 L93))) rfl rfl (by decide) (Nat.le_of_ble_eq_true rfl) ?_
              show fv_At Y11_makes 2 0 0 Q 129 [(0, .ref 0), (1, .int (nI o)), (2, .int (bI (decide (figs (((o : Nat) : Int)) ≠ 0)))), (3, .int (nI m)), (4, .int (bI q)), (5, .int (nI e)), (6, .int (nI i))] [.int (nI (9 ^ (4 - i))), .int (nI (((figN o) - 1) - i)), .int (nI e)] (fw mT G1 L93) none 0 0
              refine fn_imul dX11_makes_129 ?_
              refine fn_iadd dX11_makes_130 ?_
              refine fx_istore (lv2 := [(0, .ref 0), (1, .int (nI o)), (2, .int (bI (decide (figs (((o : Nat) : Int)) ≠ 0)))), (3, .int (nI m)), (4, .int (bI q)), (5, .int (nI (e + ((((figN o) - 1) - i) * (9 ^ (4 - i)))))), (6, .int (nI i))]) dX11_makes_131 (by decide) rfl ?_
              refine fn_iinc (c := 1) (lv2 := [(0, .ref 0), (1, .int (nI o)), (2, .int (bI (decide (figs (((o : Nat) : Int)) ≠ 0)))), (3, .int (nI m)), (4, .int (bI q)), (5, .int (nI (e + ((((figN o) - 1) - i) * (9 ^ (4 - i)))))), (6, .int (nI (i + 1)))]) dX11_makes_133 (by decide) rfl (by decide) rfl ?_
              refine fx_goto (tgt := 102) dX11_makes_136 (by decide) ?_
              exact (ih102 (i + 1) (e + ((((figN o) - 1) - i) * (9 ^ (4 - i)))) (by omega) (by rw [← hE, stn_s]))
        exact (L102 (figN o) 0 0 (by omega) (stn_n _ hb.2.1))
      · (exfalso; rcases hk with ⟨a, b⟩ | ⟨a, b, c⟩; omega; exact absurd (a.symm.trans c13) (by decide))
    | succ k ih11 =>
      intro w m u q G1 hw_w hmo_w hoG_w hm_w hu_w hup_w hk
      refine fx_iload dX11_makes_11 rfl ?_
      refine fn_if_eqB (tgt := 92) dX11_makes_13 (by decide) (fun c13 => ?_) (fun c13 => ?_)
      · (exfalso; rcases hk with ⟨a, b⟩ | ⟨a, b, c⟩; exact absurd (a.symm.trans c13) (by decide); omega)
      · skip
        refine fx_iconst (v := (nI 0)) dX11_makes_16 (by decide) ?_
        refine fn_to (show _ = (bI false) from rfl) ?_
        refine fx_istore (lv2 := [(0, .ref 0), (1, .int (nI o)), (2, .int (bI (decide (figs (((o : Nat) : Int)) ≠ 0)))), (3, .int (nI m)), (4, .int (bI false))]) dX11_makes_17 (by decide) rfl ?_
        refine fx_iconst (v := (nI 0)) dX11_makes_19 (by decide) ?_
        refine fx_istore (lv2 := [(0, .ref 0), (1, .int (nI o)), (2, .int (bI (decide (figs (((o : Nat) : Int)) ≠ 0)))), (3, .int (nI m)), (4, .int (bI false)), (5, .int (nI 0))]) dX11_makes_20 (by decide) rfl ?_
        have L22 : ∀ (k2 : Nat) (i : Nat) (w2 : Nat) (m2 : Nat) (u2 : List Nat) (q2 : Bool) (G3 : Nat → Nat → Int32), (i + k2 = figN o - 1) → (w2 ∈ ordL ∧ figN w2 = figN o) → (mor G3 (figN o) (dgt w2 (figN o))) → (∀ i j, i ≠ 1 → i ≠ 9 → ¬ (i = 0 ∧ j = 1) → G3 i j = G i j) → (m2 = u2.length) → (u2 ++ cq false w2 = cq false o) → (∀ p, p < m2 → G3 9 p = nI (u2.getD p 0)) → ((q2 = false ∧ ofst (dgt w2 (figN o)) false k2 i = ofst (dgt w2 (figN o)) false (figN o - 1) 0 ∧ k = (cq false w2).length) ∨ (q2 = true ∧ k = (cq false w2).length + 1)) → fv_At Y11_makes 2 0 0 Q 22 [(0, .ref 0), (1, .int (nI o)), (2, .int (bI (decide (figs (((o : Nat) : Int)) ≠ 0)))), (3, .int (nI m2)), (4, .int (bI q2)), (5, .int (nI i))] [] (fw mT G3 L) none 0 0 := by
          intro k2
          induction k2 with
          | zero =>
            intro i w2 m2 u2 q2 G3 hi hw_w2 hmo_w2 hoG_w2 hm_w2 hu_w2 hup_w2 hq
            refine fx_iload dX11_makes_22 rfl ?_
            refine fx_iconst (v := (nI 1)) dX11_makes_24 (by decide) ?_
            refine fn_iadd dX11_makes_25 ?_
            refine fx_aload_n dX11_makes_26 rfl (i := 0) rfl ?_
            refine fw_geti dX11_makes_27 fd11_130 rfl rfl ?_
            refine fn_to (show _ = (nI (figN o)) from hmo_w2.2.1) ?_
            refine fn_icmp_ge (tgt := 89) dX11_makes_30 (by decide) (by omega) (by omega) (fun c30 => ?_) (fun c30 => ?_)
            · skip
              refine fx_goto (tgt := 11) dX11_makes_89 (by decide) ?_
              exact fn_sub [0, 1, 2, 3, 4] rfl (ih11 w2 m2 u2 q2 G3 hw_w2 hmo_w2 hoG_w2 hm_w2 hu_w2 hup_w2 (by rcases hq with ⟨a, b, c⟩ | ⟨a, b⟩; (first | (have e := cq_e (i := i) hw_w2.1 false (by rw [hw_w2.2]; exact b); exact Or.inr ⟨a, by rw [c, e]; rfl, e⟩) | exact absurd (a.symm.trans c35) (by decide)); exact Or.inl ⟨a, b⟩))
            · exfalso; omega
          | succ k2 ih22 =>
            intro i w2 m2 u2 q2 G3 hi hw_w2 hmo_w2 hoG_w2 hm_w2 hu_w2 hup_w2 hq
            refine fx_iload dX11_makes_22 rfl ?_
            refine fx_iconst (v := (nI 1)) dX11_makes_24 (by decide) ?_
            refine fn_iadd dX11_makes_25 ?_
            refine fx_aload_n dX11_makes_26 rfl (i := 0) rfl ?_
            refine fw_geti dX11_makes_27 fd11_130 rfl rfl ?_
            refine fn_to (show _ = (nI (figN o)) from hmo_w2.2.1) ?_
            refine fn_icmp_ge (tgt := 89) dX11_makes_30 (by decide) (by omega) (by omega) (fun c30 => ?_) (fun c30 => ?_)
            · exfalso; omega
            · skip
              refine fx_iload dX11_makes_33 rfl ?_
              refine fn_if_neB (tgt := 89) dX11_makes_35 (by decide) (fun c35 => ?_) (fun c35 => ?_)
              · skip
                refine fx_goto (tgt := 11) dX11_makes_89 (by decide) ?_
                exact fn_sub [0, 1, 2, 3, 4] rfl (ih11 w2 m2 u2 q2 G3 hw_w2 hmo_w2 hoG_w2 hm_w2 hu_w2 hup_w2 (by rcases hq with ⟨a, b, c⟩ | ⟨a, b⟩; (first | (have e := cq_e (i := i) hw_w2.1 false (by rw [hw_w2.2]; exact b); exact Or.inr ⟨a, by rw [c, e]; rfl, e⟩) | exact absurd (a.symm.trans c35) (by decide)); exact Or.inl ⟨a, b⟩))
              · skip
                have hd9a := dgt_lt w2 (figN o) i
                have hd9b := dgt_lt w2 (figN o) (i + 1)
                refine fx_aload_n dX11_makes_38 rfl (i := 0) rfl ?_
                refine fw_getr dX11_makes_39 fd11_7 rfl rfl ?_
                refine fx_iload dX11_makes_42 rfl ?_
                refine fw_iald i dX11_makes_44 rfl rfl (by omega) (by decide) ?_
                refine fn_to (show _ = (nI (dgt w2 (figN o) i)) from (hmo_w2.2.2 i (by omega))) ?_
                refine fx_aload_n dX11_makes_45 rfl (i := 0) rfl ?_
                refine fw_getr dX11_makes_46 fd11_7 rfl rfl ?_
                refine fx_iload dX11_makes_49 rfl ?_
                refine fx_iconst (v := (nI 1)) dX11_makes_51 (by decide) ?_
                refine fn_iadd dX11_makes_52 ?_
                refine fw_iald (i + 1) dX11_makes_53 rfl rfl (by omega) (by decide) ?_
                refine fn_to (show _ = (nI (dgt w2 (figN o) (i + 1))) from (hmo_w2.2.2 (i + 1) (by omega))) ?_
                refine fn_icmp_ge (tgt := 83) dX11_makes_54 (by decide) (by omega) (by omega) (fun c54 => ?_) (fun c54 => ?_)
                · skip
                  refine fn_iinc (c := 1) (lv2 := [(0, .ref 0), (1, .int (nI o)), (2, .int (bI (decide (figs (((o : Nat) : Int)) ≠ 0)))), (3, .int (nI m2)), (4, .int (bI q2)), (5, .int (nI (i + 1)))]) dX11_makes_83 (by decide) rfl (by decide) rfl ?_
                  refine fx_goto (tgt := 22) dX11_makes_86 (by decide) ?_
                  exact (ih22 (i + 1) w2 m2 u2 q2 G3 (by omega) hw_w2 hmo_w2 hoG_w2 hm_w2 hu_w2 hup_w2 (by have ne := (ord_c w2 hw_w2.1 i (by rw [hw_w2.2]; omega)).2.2.2; rw [hw_w2.2] at ne; rcases hq with ⟨a, b, c⟩ | ⟨a, b⟩; (exact Or.inl ⟨a, by rw [← b, ofst, if_neg (by rw [decide_eq_true (by omega)]; decide)], c⟩); exact Or.inr ⟨a, b⟩))
                · skip
                  have hcd : k2 + 1 = k2 + 1 := rfl
                  have hqk : ofst (dgt w2 (figN o)) false (k2 + 1) i = ofst (dgt w2 (figN o)) false (figN o - 1) 0 ∧ k = (cq false w2).length := by
                    rcases hq with ⟨a, b, c⟩ | ⟨a, b⟩
                    · exact ⟨b, c⟩
                    · exact absurd (a.symm.trans c35) (by decide)
                  have cs := cq_s hw_w2.1 false (i := i) (k := k2) (by rw [hw_w2.2]; omega) (by rw [hw_w2.2]; exact hqk.1) (by rw [hw_w2.2]; exact decide_eq_false (by omega))
                  rw [hw_w2.2] at cs
                  have hln : u2.length + (cq false w2).length = (cq false o).length := by rw [← hu_w2, List.length_append]
                  have hl10 := (ord_q o hoL false).1
                  have hl1 : (cq false w2).length = (cq false (swp w2 (figN o) i (i + 1))).length + 1 := by rw [cs.1]; rfl
                  refine fx_aload_n dX11_makes_57 rfl (i := 0) rfl ?_
                  refine fx_iload dX11_makes_58 rfl ?_
                  refine fx_iload dX11_makes_60 rfl ?_
                  refine fx_iconst (v := (nI 1)) dX11_makes_62 (by decide) ?_
                  refine fn_iadd dX11_makes_63 ?_
                  refine fn_cV dX11_makes_64 lk11_141 fv_c8 rfl (fw_at (show mT 0 = some (3, 8, 38, [some 1, none, some 2, some 3, some 4, some 5, some 6, some 7, some 8, some 9, some 10, some 11, some 12, some 13, some 14, some 15, some 16, some 17, some 18, some 19, none, none, none, some 20, some 21, some 22, some 23, none, some 24, some 25, some 26, some 27, some 28, some 29, some 30, some 31, none, some 32]) from rfl)) (C11_change G3 L i (i + 1) (by omega) (by omega)) rfl rfl (by decide) (Nat.le_of_ble_eq_true rfl) ?_
                  show fv_At Y11_makes 2 0 0 Q 67 [(0, .ref 0), (1, .int (nI o)), (2, .int (bI (decide (figs (((o : Nat) : Int)) ≠ 0)))), (3, .int (nI m2)), (4, .int (bI q2)), (5, .int (nI i))] [] (fw mT (g2 (g2 G3 1 i (G3 1 (i + 1))) 1 (i + 1) (G3 1 i)) L) none 0 0
                  refine fx_aload_n dX11_makes_67 rfl (i := 0) rfl ?_
                  refine fw_getr dX11_makes_68 fd11_37 rfl rfl ?_
                  refine fx_iload_n dX11_makes_71 rfl (i := 3) rfl ?_
                  refine fx_iload dX11_makes_72 rfl ?_
                  refine fx_iconst (v := (nI 1)) dX11_makes_74 (by decide) ?_
                  refine fn_iadd dX11_makes_75 ?_
                  refine fw_iast m2 dX11_makes_76 rfl rfl (by omega) (by decide) ?_
                  refine fn_iinc (c := 1) (lv2 := [(0, .ref 0), (1, .int (nI o)), (2, .int (bI (decide (figs (((o : Nat) : Int)) ≠ 0)))), (3, .int (nI (m2 + 1))), (4, .int (bI q2)), (5, .int (nI i))]) dX11_makes_77 (by decide) rfl (by decide) rfl ?_
                  refine fx_iconst (v := (nI 1)) dX11_makes_80 (by decide) ?_
                  refine fn_to (show _ = (bI true) from rfl) ?_
                  refine fx_istore (lv2 := [(0, .ref 0), (1, .int (nI o)), (2, .int (bI (decide (figs (((o : Nat) : Int)) ≠ 0)))), (3, .int (nI (m2 + 1))), (4, .int (bI true)), (5, .int (nI i))]) dX11_makes_81 (by decide) rfl ?_
                  refine fn_iinc (c := 1) (lv2 := [(0, .ref 0), (1, .int (nI o)), (2, .int (bI (decide (figs (((o : Nat) : Int)) ≠ 0)))), (3, .int (nI (m2 + 1))), (4, .int (bI true)), (5, .int (nI (i + 1)))]) dX11_makes_83 (by decide) rfl (by decide) rfl ?_
                  refine fx_goto (tgt := 22) dX11_makes_86 (by decide) ?_
                  exact (ih22 (i + 1) (swp w2 (figN o) i (i + 1)) (m2 + 1) (u2 ++ [i + 1]) true (g2 (g2 (g2 G3 1 i (G3 1 (i + 1))) 1 (i + 1) (G3 1 i)) 9 m2 ((nI (i + 1)))) (by omega) ⟨cs.2.1, cs.2.2⟩ (mor_9 (mor_ord hw_w2.1 hw_w2.2 hmo_w2 (by omega)) _ _) (fun i j a b c => by rw [g2_ne _ _ (fun q => b q.1), g2_ne _ _ (fun q => a q.1), g2_ne _ _ (fun q => a q.1)]; exact hoG_w2 i j a b c) (by simp [hm_w2]) (by rw [← hu_w2, cs.1, List.append_assoc]; rfl) (fun p q => by by_cases z : p = m2; (rw [z, g2_eq, hm_w2, gdN_e]); rw [g2_ne _ _ (fun y => z y.2), g2_ne _ _ (fun y => absurd y.1 (by decide)), g2_ne _ _ (fun y => absurd y.1 (by decide)), gdN_l _ _ (by omega)]; exact hup_w2 p (by omega)) (Or.inr ⟨rfl, by omega⟩))
        exact (L22 (figN o - 1) 0 w m u false G1 (by omega) hw_w hmo_w hoG_w hm_w hu_w hup_w (Or.inl ⟨rfl, rfl, by rcases hk with ⟨a, b⟩ | ⟨a, b, c⟩ <;> omega⟩))
  exact (L11 ((cq false o).length + 1) o 0 ([]) true G2 ⟨hoL, rfl⟩ hm3 (fun i j a _ c => ho2 i j a c) rfl rfl (fun p q => absurd q (Nat.not_lt_zero _)) (Or.inl ⟨rfl, rfl⟩))
