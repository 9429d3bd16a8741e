/-- a refusal where the answer is a long -/
def rfs (c : Int) : Int64 := -9223372036854775808 - (iI c).toInt64
theorem stl_b (S : Nat → Int64) : -6 ≤ stl S ∧ stl S ≤ 600 := by
  unfold stl
  split
  · decide
  · split
    · decide
    · omega
/-- the part by an order of what is left -/
def pfq (n : Nat) : Nat → Nat → tms → Int64
  | 0, _, ts => (nofL ts 0).toInt64
  | k + 1, w, ts => if ofst (dgt w n) true (n - 1) 0 = 0 then (nofL ts 0).toInt64 else if stl (pdf (ofst (dgt w n) true (n - 1) 0 - 1) ts zS) < 0 then rfs (stl (pdf (ofst (dgt w n) true (n - 1) 0 - 1) ts zS)) else pfq n k (swp w n (ofst (dgt w n) true (n - 1) 0 - 1) (ofst (dgt w n) true (n - 1) 0)) (trm (pdf (ofst (dgt w n) true (n - 1) 0 - 1) ts zS))
/-- an answer; the pot is empty again; left is at work -/
def qlp (G : Nat → Nat → Int32) (L : Nat → Nat → Int64) (v : Int64) : Option Value → fv_F → Option Nat → Prop := fun r2 f2 al2 => ∃ (G2 : Nat → Nat → Int32) (L2 : Nat → Nat → Int64), r2 = some (.long v) ∧ f2 = fw cT G2 L2 ∧ al2 = none ∧ emp G2 L2 ∧ (∀ i, i ≠ 4 → L2 i = L i) ∧
  (∀ i, i ≠ 3 → i ≠ 5 → i ≠ 6 → i ≠ 7 → i ≠ 8 → i ≠ 9 → i ≠ 9 + 1 → i ≠ 9 + 2 → G2 i = G i)
theorem dig_fat {a4 a3 a2 a1 a0 : Nat} (h4 : a4 ≤ 8) (h3 : a3 ≤ 8) (h2 : a2 ≤ 8) (h1 : a1 ≤ 8) (h0 : a0 ≤ 8) : fat (a4 * 10000 + a3 * 1000 + a2 * 100 + a1 * 10 + a0) 0 = a0 ∧ fat (a4 * 10000 + a3 * 1000 + a2 * 100 + a1 * 10 + a0) 1 = a1 ∧ fat (a4 * 10000 + a3 * 1000 + a2 * 100 + a1 * 10 + a0) 2 = a2 ∧ fat (a4 * 10000 + a3 * 1000 + a2 * 100 + a1 * 10 + a0) 3 = a3 ∧ fat (a4 * 10000 + a3 * 1000 + a2 * 100 + a1 * 10 + a0) 4 = a4 := by
  simp only [fat, Nat.reducePow, Nat.div_one]
  refine ⟨?_, ?_, ?_, ?_, ?_⟩ <;> omega
theorem okc_add {x y : Nat} (hx : okc x) (hy : okc y) (h : ∀ k, k < 5 → fat x k + fat y k ≤ 8) : okc (x + y) := by
  have h0 := h 0 (by decide)
  have h1 := h 1 (by decide)
  have h2 := h 2 (by decide)
  have h3 := h 3 (by decide)
  have h4 := h 4 (by decide)
  obtain ⟨a4, a3, a2, a1, a0, b4, b3, b2, b1, b0, ex⟩ := okc_dig hx
  obtain ⟨c4, c3, c2, c1, c0, d4, d3, d2, d1, d0, ey⟩ := okc_dig hy
  obtain ⟨p0, p1, p2, p3, p4⟩ := dig_fat b4 b3 b2 b1 b0
  obtain ⟨q0, q1, q2, q3, q4⟩ := dig_fat d4 d3 d2 d1 d0
  rw [ex, ey] at h0 h1 h2 h3 h4
  rw [p0, q0] at h0
  rw [p1, q1] at h1
  rw [p2, q2] at h2
  rw [p3, q3] at h3
  rw [p4, q4] at h4
  have e : x + y = (a4 + c4) * 10000 + (a3 + c3) * 1000 + (a2 + c2) * 100 + (a1 + c1) * 10 + (a0 + c0) := by
    rw [ex, ey]
    clear ex ey hx hy h p0 p1 p2 p3 p4 q0 q1 q2 q3 q4
    omega
  rw [e]
  exact okc_of h4 h3 h2 h1 h0
theorem tpl_ge (l : Nat) : ∀ (ts : tms) (m : Nat), m ≤ tpl l ts m ∧ ∀ q, q ∈ ts → fat q.1 (5 - l) ≤ tpl l ts m
  | [], _ => ⟨Nat.le_refl _, fun _ h => absurd h List.not_mem_nil⟩
  | q :: r, m => by
    have h := tpl_ge l r (max m (fat q.1 (5 - l)))
    refine ⟨by show m ≤ tpl l r _; omega, fun z hz => ?_⟩
    rcases List.mem_cons.mp hz with e | hz
    · rw [e]; show _ ≤ tpl l r _; omega
    · exact h.2 z hz
theorem thl_f (ts us : tms) : ∀ k l, thl ts us k l = false → ∀ j, l ≤ j → j < l + k → tpl j ts 0 + tpl j us 0 ≤ 8
  | 0, _, _, _, h1, h2 => by omega
  | k + 1, l, h, j, h1, h2 => by
    unfold thl at h
    split at h
    · exact absurd h (by decide)
    · by_cases e : j = l
      · rw [e]; omega
      · exact thl_f ts us k (l + 1) h j (by omega) (by omega)
theorem tx_mem {ts : tms} {j : Nat} (h : j < ts.length) : (tx ts j, tn ts j) ∈ ts := by
  unfold tx tn
  rw [List.getD_eq_getElem?_getD, List.getElem?_eq_getElem h]
  exact List.getElem_mem h
theorem thi_ok {ts us : tms} (ht : pvd ts) (hu : pvd us) (h : thi ts us = false) : ∀ i, i < ts.length → ∀ j, j < us.length → okc (tx ts i + tx us j) := by
  intro i hi j hj
  refine okc_add (ht i hi) (hu j hj) (fun k hk => ?_)
  have h1 := thl_f ts us 5 1 h (5 - k) (by omega) (by omega)
  have h2 := (tpl_ge (5 - k) ts 0).2 _ (tx_mem hi)
  have h3 := (tpl_ge (5 - k) us 0).2 _ (tx_mem hj)
  rw [show 5 - (5 - k) = k by omega] at h2 h3
  dsimp only at h2 h3
  omega
theorem sok_pm2 {c : Nat} {m : Int64} : ∀ {us : tms} {S : Nat → Int64}, sok S → (∀ j, j < us.length → okc (c + tx us j)) → sok (pm2 c m us S)
  | [], _, h, _ => h
  | q :: r, _, h, hx => sok_pm2 (us := r) (sok_ad h (hx 0 (by simp)) _) (fun j hj => hx (j + 1) (by simp; exact hj))
theorem sok_pml {us : tms} : ∀ {ts : tms} {S : Nat → Int64}, sok S → (∀ i, i < ts.length → ∀ j, j < us.length → okc (tx ts i + tx us j)) → sok (pml us ts S)
  | [], _, h, _ => h
  | q :: r, _, h, hx => sok_pml (ts := r) (sok_pm2 h (hx 0 (by simp))) (fun i hi => hx (i + 1) (by simp; exact hi))

set_option maxRecDepth 4000 in
set_option maxHeartbeats 1000000 in
theorem C10_refusal (c : Int) (f : fv_F) : fv_M Y10_refusal 0 0 0 [.int (iI c)] f none (fv_eq (some (.long (rfs c))) f) := by
  refine fv_enter rfl (Nat.le_of_ble_eq_true rfl) ?_
  obtain ⟨Q, hQ⟩ : ∃ Q : Option Value → fv_F → Option Nat → Prop, Q = (fv_eq (some (.long (rfs c))) f) := ⟨_, rfl⟩
  rw [← hQ]
  show fv_At Y10_refusal 0 0 0 Q 0 [(0, .int (iI c))] [] f none 0 0
  refine fx_ldc2 (v := -9223372036854775808) dX10_refusal_0 kc10_240 ?_
  refine fx_iload_n dX10_refusal_3 rfl (i := 0) rfl ?_
  refine fx_i2l dX10_refusal_4 ?_
  refine fx_lsub dX10_refusal_5 ?_
  exact fx_lret dX10_refusal_6 rfl rfl rfl (by rw [hQ]; exact ⟨rfl, rfl, rfl⟩)

set_option maxRecDepth 4000 in
set_option maxHeartbeats 1000000 in
theorem C0_partOfLeft  (G : Nat → Nat → Int32) (L : Nat → Nat → Int64) (hem : emp G L) (o n : Nat) (ho : o < 100000) (hn1 : 1 ≤ n) (hn : n ≤ 5) (ts0 : tms) (hP0 : pat G 9 ts0 true) (hv0 : pvd ts0) : fv_M Y0_partOfLeft 5 0 0 [.ref 2, .int (nI o), .int (nI n)] (fw cT G L) none (qlp G L (pfq n 10 o ts0)) := by
  refine fv_enter rfl (Nat.le_of_ble_eq_true rfl) ?_
  obtain ⟨Q, hQ⟩ : ∃ Q : Option Value → fv_F → Option Nat → Prop, Q = (qlp G L (pfq n 10 o ts0)) := ⟨_, rfl⟩
  rw [← hQ]
  show fv_At Y0_partOfLeft 5 0 0 Q 0 [(0, .ref 2), (1, .int (nI o)), (2, .int (nI n))] [] (fw cT G L) none 0 0
  refine fx_iload_n dX0_partOfLeft_0 rfl (i := 1) rfl ?_
  refine fx_istore_n (lv2 := [(0, .ref 2), (1, .int (nI o)), (2, .int (nI n)), (3, .int (nI o))]) dX0_partOfLeft_1 (i := 3) rfl (by decide) rfl ?_
  refine fx_iload_n dX0_partOfLeft_2 rfl (i := 3) rfl ?_
  refine fx_iload_n dX0_partOfLeft_3 rfl (i := 2) rfl ?_
  refine fx_iconst (v := (nI 1)) dX0_partOfLeft_4 (by decide) ?_
  refine fn_to (show _ = (bI true) from rfl) ?_
  refine fn_cS dX0_partOfLeft_5 lk0_85 (C6_firstStep (a := o) (n := n) (b := true) (by omega) (by omega) (f := (fw cT G L))) rfl rfl (by decide) (Nat.le_of_ble_eq_true rfl) ?_
  show fv_At Y0_partOfLeft 5 0 0 Q 8 [(0, .ref 2), (1, .int (nI o)), (2, .int (nI n)), (3, .int (nI o))] [.int (nI (ofst (dgt o n) true (n - 1) 0))] (fw cT G L) none 0 0
  have hb0 := ofst_b (dgt o n) true (n - 1) 0
  refine fx_istore (lv2 := [(0, .ref 2), (1, .int (nI o)), (2, .int (nI n)), (3, .int (nI o)), (4, .int (nI (ofst (dgt o n) true (n - 1) 0)))]) dX0_partOfLeft_8 (by decide) rfl ?_
  refine fx_iconst (v := (nI 0)) dX0_partOfLeft_10 (by decide) ?_
  refine fx_istore (lv2 := [(0, .ref 2), (1, .int (nI o)), (2, .int (nI n)), (3, .int (nI o)), (4, .int (nI (ofst (dgt o n) true (n - 1) 0))), (5, .int (nI 0))]) dX0_partOfLeft_11 (by decide) rfl ?_
  have L13 : ∀ (k : Nat) (w : Nat) (st : Nat) (i : Nat) (ts : tms) (G1 : Nat → Nat → Int32) (L1 : Nat → Nat → Int64), (st + k = 10) → (i = ofst (dgt w n) true (n - 1) 0) → (i ≤ n - 1) → (w < 100000 + 200000 * st) → (pat G1 9 ts true) → (pvd ts) → (emp G1 L1) → (∀ i, i ≠ 3 → i ≠ 5 → i ≠ 6 → i ≠ 7 → i ≠ 8 → i ≠ 9 → i ≠ 9 + 1 → i ≠ 9 + 2 → G1 i = G i) → (∀ i, i ≠ 4 → L1 i = L i) → (pfq n k w ts = pfq n 10 o ts0) → fv_At Y0_partOfLeft 5 0 0 Q 13 [(0, .ref 2), (1, .int (nI o)), (2, .int (nI n)), (3, .int (nI w)), (4, .int (nI i)), (5, .int (nI st))] [] (fw cT G1 L1) none 0 0 := by
    intro k
    induction k with
    | zero =>
      intro w st i ts G1 L1 hst hi hib hw hP1 hv1 he1 hG1 hL1 hR
      refine fx_iload dX0_partOfLeft_13 rfl ?_
      refine fn_if_le (tgt := 78) dX0_partOfLeft_15 (by decide) (by omega) (fun c15 => ?_) (fun c15 => ?_)
      · skip
        refine fx_aload_n dX0_partOfLeft_78 rfl (i := 0) rfl ?_
        refine fw_getr dX0_partOfLeft_79 fd0_21 rfl rfl ?_
        refine fx_iconst (v := (nI 0)) dX0_partOfLeft_82 (by decide) ?_
        refine fn_cV dX0_partOfLeft_83 lk0_128 fv_c4 rfl (fw_at (show cT 9 = some (3, 4, 4, [some 10, some 11, none, none]) from rfl)) (C7_numberOf cT 9 rfl rfl rfl G1 L1 ts true hP1 0 (by omega)) rfl rfl (by decide) (Nat.le_of_ble_eq_true rfl) ?_
        show fv_At Y0_partOfLeft 5 0 0 Q 86 [(0, .ref 2), (1, .int (nI o)), (2, .int (nI n)), (3, .int (nI w)), (4, .int (nI i)), (5, .int (nI st))] [.int (nofL ts 0)] (fw cT G1 L1) none 0 0
        refine fx_i2l dX0_partOfLeft_86 ?_
        exact fx_lret dX0_partOfLeft_87 rfl rfl rfl (by rw [hQ]; exact (by rw [← hR]; first | exact ⟨G1, L1, rfl, rfl, rfl, he1, hL1, hG1⟩ | (rw [pfq, if_pos (by rw [← hi]; omega)]; exact ⟨G1, L1, rfl, rfl, rfl, he1, hL1, hG1⟩)))
      · skip
        refine fx_iload dX0_partOfLeft_18 rfl ?_
        refine fx_bipush (v := (nI 10)) dX0_partOfLeft_20 (by decide) ?_
        refine fn_icmp_ge (tgt := 78) dX0_partOfLeft_22 (by decide) (by omega) (by omega) (fun c22 => ?_) (fun c22 => ?_)
        · skip
          refine fx_aload_n dX0_partOfLeft_78 rfl (i := 0) rfl ?_
          refine fw_getr dX0_partOfLeft_79 fd0_21 rfl rfl ?_
          refine fx_iconst (v := (nI 0)) dX0_partOfLeft_82 (by decide) ?_
          refine fn_cV dX0_partOfLeft_83 lk0_128 fv_c4 rfl (fw_at (show cT 9 = some (3, 4, 4, [some 10, some 11, none, none]) from rfl)) (C7_numberOf cT 9 rfl rfl rfl G1 L1 ts true hP1 0 (by omega)) rfl rfl (by decide) (Nat.le_of_ble_eq_true rfl) ?_
          show fv_At Y0_partOfLeft 5 0 0 Q 86 [(0, .ref 2), (1, .int (nI o)), (2, .int (nI n)), (3, .int (nI w)), (4, .int (nI i)), (5, .int (nI st))] [.int (nofL ts 0)] (fw cT G1 L1) none 0 0
          refine fx_i2l dX0_partOfLeft_86 ?_
          exact fx_lret dX0_partOfLeft_87 rfl rfl rfl (by rw [hQ]; exact (by rw [← hR]; first | exact ⟨G1, L1, rfl, rfl, rfl, he1, hL1, hG1⟩ | (rw [pfq, if_pos (by rw [← hi]; omega)]; exact ⟨G1, L1, rfl, rfl, rfl, he1, hL1, hG1⟩)))
        · exfalso; omega
    | succ k ih13 =>
      intro w st i ts G1 L1 hst hi hib hw hP1 hv1 he1 hG1 hL1 hR
      refine fx_iload dX0_partOfLeft_13 rfl ?_
      refine fn_if_le (tgt := 78) dX0_partOfLeft_15 (by decide) (by omega) (fun c15 => ?_) (fun c15 => ?_)
      · skip
        refine fx_aload_n dX0_partOfLeft_78 rfl (i := 0) rfl ?_
        refine fw_getr dX0_partOfLeft_79 fd0_21 rfl rfl ?_
        refine fx_iconst (v := (nI 0)) dX0_partOfLeft_82 (by decide) ?_
        refine fn_cV dX0_partOfLeft_83 lk0_128 fv_c4 rfl (fw_at (show cT 9 = some (3, 4, 4, [some 10, some 11, none, none]) from rfl)) (C7_numberOf cT 9 rfl rfl rfl G1 L1 ts true hP1 0 (by omega)) rfl rfl (by decide) (Nat.le_of_ble_eq_true rfl) ?_
        show fv_At Y0_partOfLeft 5 0 0 Q 86 [(0, .ref 2), (1, .int (nI o)), (2, .int (nI n)), (3, .int (nI w)), (4, .int (nI i)), (5, .int (nI st))] [.int (nofL ts 0)] (fw cT G1 L1) none 0 0
        refine fx_i2l dX0_partOfLeft_86 ?_
        exact fx_lret dX0_partOfLeft_87 rfl rfl rfl (by rw [hQ]; exact (by rw [← hR]; first | exact ⟨G1, L1, rfl, rfl, rfl, he1, hL1, hG1⟩ | (rw [pfq, if_pos (by rw [← hi]; omega)]; exact ⟨G1, L1, rfl, rfl, rfl, he1, hL1, hG1⟩)))
      · skip
        refine fx_iload dX0_partOfLeft_18 rfl ?_
        refine fx_bipush (v := (nI 10)) dX0_partOfLeft_20 (by decide) ?_
        refine fn_icmp_ge (tgt := 78) dX0_partOfLeft_22 (by decide) (by omega) (by omega) (fun c22 => ?_) (fun c22 => ?_)
        · exfalso; omega
        · skip
          have hbi := ofst_b (dgt w n) true (n - 1) 0
          rw [← hi] at hbi
          obtain ⟨m, rfl⟩ : ∃ m, i = m + 1 := ⟨i - 1, by omega⟩
          have hw2 := swp_lt (o := w) (show m < m + 1 by omega) (show m + 1 < n by omega)
          have hpa : 10 ^ (n - 1 - m) ≤ 10 ^ 4 := Nat.pow_le_pow_right (by decide) (by omega)
          have hpb : 10 ^ (n - 1 - (m + 1)) ≤ 10 ^ 4 := Nat.pow_le_pow_right (by decide) (by omega)
          have hsb := stl_b (pdf m ts zS)
          have hun : pfq n (k + 1) w ts = if stl (pdf m ts zS) < 0 then rfs (stl (pdf m ts zS)) else pfq n k (swp w n m (m + 1)) (trm (pdf m ts zS)) := by rw [pfq, ← hi, if_neg (by omega)]; rfl
          show fv_At Y0_partOfLeft 5 0 0 Q 25 [(0, .ref 2), (1, .int (nI o)), (2, .int (nI n)), (3, .int (nI w)), (4, .int (nI (m + 1))), (5, .int (nI st))] [] (fw cT G1 L1) none 0 0
          refine fx_aload_n dX0_partOfLeft_25 rfl (i := 0) rfl ?_
          refine fx_aload_n dX0_partOfLeft_26 rfl (i := 0) rfl ?_
          refine fw_getr dX0_partOfLeft_27 fd0_21 rfl rfl ?_
          refine fx_aload_n dX0_partOfLeft_30 rfl (i := 0) rfl ?_
          refine fw_getr dX0_partOfLeft_31 fd0_21 rfl rfl ?_
          refine fx_iload dX0_partOfLeft_34 rfl ?_
          refine fx_callV dX0_partOfLeft_36 lk0_101 fv_c0 rfl (fw_at (show cT 2 = some (3, 0, 3, [some 3, some 9, some 12]) from rfl)) (C0_differ G1 L1 he1 9 rfl rfl rfl (by decide) 9 rfl rfl rfl ts true hP1 m (by omega) (fun j hj => okc_okd (hv1 j hj) (by omega))) rfl rfl (by decide) (Nat.le_of_ble_eq_true rfl) (by decide) (by decide) (fun r36 f36 al36 h36 => ?_)
          obtain ⟨G2, L2, rfl, rfl, rfl, he2, hl2, hg2, hg3, hg4⟩ := h36
          show fv_At Y0_partOfLeft 5 0 0 Q 39 [(0, .ref 2), (1, .int (nI o)), (2, .int (nI n)), (3, .int (nI w)), (4, .int (nI (m + 1))), (5, .int (nI st))] [.int (iI (stl (pdf m ts zS)))] (fw cT G2 L2) none 0 0
          refine fx_istore (lv2 := [(0, .ref 2), (1, .int (nI o)), (2, .int (nI n)), (3, .int (nI w)), (4, .int (nI (m + 1))), (5, .int (nI st)), (6, .int (iI (stl (pdf m ts zS))))]) dX0_partOfLeft_39 (by decide) rfl ?_
          refine fx_iload dX0_partOfLeft_41 rfl ?_
          refine fn_if_geZ (tgt := 52) dX0_partOfLeft_43 (by decide) (by omega) (by omega) (fun c43 => ?_) (fun c43 => ?_)
          · skip
            refine fx_iload_n dX0_partOfLeft_52 rfl (i := 3) rfl ?_
            refine fx_iload_n dX0_partOfLeft_53 rfl (i := 2) rfl ?_
            refine fx_iload dX0_partOfLeft_54 rfl ?_
            refine fx_iload dX0_partOfLeft_56 rfl ?_
            refine fx_iconst (v := (nI 1)) dX0_partOfLeft_58 (by decide) ?_
            refine fn_iadd dX0_partOfLeft_59 ?_
            refine fn_cS dX0_partOfLeft_60 lk0_58 (C6_swapped (o := w) (n := n) (a := m) (b := m + 1) (by omega) (by omega) (by omega) (by omega) (f := (fw cT G2 L2))) rfl rfl (by decide) (Nat.le_of_ble_eq_true rfl) ?_
            show fv_At Y0_partOfLeft 5 0 0 Q 63 [(0, .ref 2), (1, .int (nI o)), (2, .int (nI n)), (3, .int (nI w)), (4, .int (nI (m + 1))), (5, .int (nI st)), (6, .int (iI (stl (pdf m ts zS))))] [.int (nI (swp w n m (m + 1)))] (fw cT G2 L2) none 0 0
            refine fx_istore_n (lv2 := [(0, .ref 2), (1, .int (nI o)), (2, .int (nI n)), (3, .int (nI (swp w n m (m + 1)))), (4, .int (nI (m + 1))), (5, .int (nI st)), (6, .int (iI (stl (pdf m ts zS))))]) dX0_partOfLeft_63 (i := 3) rfl (by decide) rfl ?_
            refine fx_iload_n dX0_partOfLeft_64 rfl (i := 3) rfl ?_
            refine fx_iload_n dX0_partOfLeft_65 rfl (i := 2) rfl ?_
            refine fx_iconst (v := (nI 1)) dX0_partOfLeft_66 (by decide) ?_
            refine fn_to (show _ = (bI true) from rfl) ?_
            refine fn_cS dX0_partOfLeft_67 lk0_85 (C6_firstStep (a := swp w n m (m + 1)) (n := n) (b := true) (by omega) (by omega) (f := (fw cT G2 L2))) rfl rfl (by decide) (Nat.le_of_ble_eq_true rfl) ?_
            show fv_At Y0_partOfLeft 5 0 0 Q 70 [(0, .ref 2), (1, .int (nI o)), (2, .int (nI n)), (3, .int (nI (swp w n m (m + 1)))), (4, .int (nI (m + 1))), (5, .int (nI st)), (6, .int (iI (stl (pdf m ts zS))))] [.int (nI (ofst (dgt (swp w n m (m + 1)) n) true (n - 1) 0))] (fw cT G2 L2) none 0 0
            refine fx_istore (lv2 := [(0, .ref 2), (1, .int (nI o)), (2, .int (nI n)), (3, .int (nI (swp w n m (m + 1)))), (4, .int (nI (ofst (dgt (swp w n m (m + 1)) n) true (n - 1) 0))), (5, .int (nI st)), (6, .int (iI (stl (pdf m ts zS))))]) dX0_partOfLeft_70 (by decide) rfl ?_
            refine fn_iinc (c := 1) (lv2 := [(0, .ref 2), (1, .int (nI o)), (2, .int (nI n)), (3, .int (nI (swp w n m (m + 1)))), (4, .int (nI (ofst (dgt (swp w n m (m + 1)) n) true (n - 1) 0))), (5, .int (nI (st + 1))), (6, .int (iI (stl (pdf m ts zS))))]) dX0_partOfLeft_72 (by decide) rfl (by decide) rfl ?_
            refine fx_goto (tgt := 13) dX0_partOfLeft_75 (by decide) ?_
            exact fn_sub [0, 1, 2, 3, 4, 5] rfl (ih13 (swp w n m (m + 1)) (st + 1) (ofst (dgt (swp w n m (m + 1)) n) true (n - 1) 0) (trm (pdf m ts zS)) G2 L2 (by omega) rfl (by have := ofst_b (dgt (swp w n m (m + 1)) n) true (n - 1) 0; omega) (by omega) (hg4 (by omega)) (pvd_trm (sok_pdf (by omega) sok_z hv1)) he2 (fun i a1 a2 a3 a4 a5 a6 a7 a8 => (hg2 i a1 a2 a3 a4 a5 a6 a7 a8).trans (hG1 i a1 a2 a3 a4 a5 a6 a7 a8)) (fun i h => (hl2 i h).trans (hL1 i h)) (by rw [← hR, hun, if_neg (by omega)]))
          · skip
            refine fx_iload dX0_partOfLeft_46 rfl ?_
            refine fn_cSN dX0_partOfLeft_48 lk0_124 (C10_refusal (c := stl (pdf m ts zS))  (f := (fw cT G2 L2))) rfl rfl (by decide) (Nat.le_of_ble_eq_true rfl) ?_
            show fv_At Y0_partOfLeft 5 0 0 Q 51 [(0, .ref 2), (1, .int (nI o)), (2, .int (nI n)), (3, .int (nI w)), (4, .int (nI (m + 1))), (5, .int (nI st)), (6, .int (iI (stl (pdf m ts zS))))] [.long (rfs (stl (pdf m ts zS)))] (fw cT G2 L2) none 0 0
            exact fx_lret dX0_partOfLeft_51 rfl rfl rfl (by rw [hQ]; exact (by rw [← hR, hun, if_pos (by omega)]; exact ⟨G2, L2, rfl, rfl, rfl, he2, fun i h => (hl2 i h).trans (hL1 i h), fun i a1 a2 a3 a4 a5 a6 a7 a8 => (hg2 i a1 a2 a3 a4 a5 a6 a7 a8).trans (hG1 i a1 a2 a3 a4 a5 a6 a7 a8)⟩))
  exact (L13 10 o 0 (ofst (dgt o n) true (n - 1) 0) ts0 G L (by omega) rfl (by omega) (by omega) hP0 hv0 hem (fun _ _ _ _ _ _ _ _ _ => rfl) (fun _ _ => rfl) rfl)
