theorem figl_n : ∀ k n s r, n ≤ (figl k n s r).1
  | 0, _, _, _ => Nat.le_refl _
  | k + 1, n, s, r => by
    have := figl_n k (n + 1) (s ||| 2 ^ (r % 10)) (r / 10)
    unfold figl
    split
    · omega
    · exact Nat.le_refl _
theorem figl_keep : ∀ k n s r d, s.testBit d = true → (figl k n s r).2.testBit d = true
  | 0, _, _, _, _, h => h
  | k + 1, n, s, r, d, h => by
    unfold figl
    split
    · exact figl_keep k (n + 1) _ (r / 10) d (by rw [Nat.testBit_or, h, Bool.true_or])
    · exact h
theorem figl_bit : ∀ k n s r j, n + j < (figl k n s r).1 → (figl k n s r).2.testBit (r / 10 ^ j % 10) = true
  | 0, n, _, _, j, h => absurd (show n + j < n from h) (by omega)
  | k + 1, n, s, r, j, h => by
    unfold figl at h ⊢
    split at h
    · rename_i hr
      rw [if_pos hr]
      cases j with
      | zero =>
        rw [Nat.pow_zero, Nat.div_one]
        exact figl_keep k _ _ _ _ (by rw [Nat.testBit_or, Nat.testBit_two_pow_self, Bool.or_true])
      | succ j =>
        have h2 := figl_bit k (n + 1) (s ||| 2 ^ (r % 10)) (r / 10) j (by omega)
        rw [Nat.div_div_eq_div_mul, ← Nat.pow_succ'] at h2
        exact h2
    · exact absurd (show n + (j : Nat) < n from h) (by omega)
theorem figl_lt : ∀ k n s r, (figl k n s r).1 < n + k → r < 10 ^ ((figl k n s r).1 - n)
  | 0, n, _, _, h => absurd (show n < n + 0 from h) (by omega)
  | k + 1, n, s, r, h => by
    unfold figl at h ⊢
    split at h
    · rename_i hr
      rw [if_pos hr]
      have h1 := figl_n k (n + 1) (s ||| 2 ^ (r % 10)) (r / 10)
      have h2 := figl_lt k (n + 1) (s ||| 2 ^ (r % 10)) (r / 10) (by omega)
      rw [show (figl k (n + 1) (s ||| 2 ^ (r % 10)) (r / 10)).1 - n = ((figl k (n + 1) (s ||| 2 ^ (r % 10)) (r / 10)).1 - (n + 1)) + 1 by omega, Nat.pow_succ]
      omega
    · rename_i hr
      rw [if_neg hr]
      show r < 10 ^ (n - n)
      rw [Nat.sub_self]
      omega
theorem bits_le : ∀ n, n ≤ 5 → ∀ d, d < 10 → (2 ^ (n + 1) - 2).testBit d = true → 1 ≤ d ∧ d ≤ n := by decide +kernel
/-- an order's figures are 1 .. n -/
theorem figs_dgt {o : Nat} (h : figs (o : Int) ≠ 0) : ∀ p, p < figs (o : Int) → 1 ≤ dgt o (figs (o : Int)) p ∧ dgt o (figs (o : Int)) p ≤ figs (o : Int) := by
  have hb := figs_b h
  have hf : figs (o : Int) = figN o := by
    unfold figs
    rw [if_neg (by omega)]
    rfl
  have hl := figs_le (o : Int)
  rw [hf] at h hl ⊢
  intro p hp
  have h2 : (figl 5 0 0 o).2 = 2 ^ ((figl 5 0 0 o).1 + 1) - 2 ∧ figN o = (figl 5 0 0 o).1 := by
    unfold figN at h ⊢
    split at h
    · rename_i q
      rw [if_pos q]
      exact ⟨q, rfl⟩
    · exact absurd rfl h
  have h3 := figl_bit 5 0 0 o (figN o - 1 - p) (by rw [← h2.2]; omega)
  rw [h2.1, ← h2.2] at h3
  exact bits_le _ hl _ (Nat.mod_lt _ (by decide)) h3
theorem figs_lt {o : Nat} (h : figs (o : Int) ≠ 0) (h5 : figs (o : Int) < 5) : o < 10 ^ figs (o : Int) := by
  have hb := figs_b h
  have hf : figs (o : Int) = figN o := by
    unfold figs
    rw [if_neg (by omega)]
    rfl
  rw [hf] at h h5 ⊢
  have h2 : figN o = (figl 5 0 0 o).1 := by
    unfold figN at h ⊢
    split at h
    · rename_i q
      rw [if_pos q]
    · exact absurd rfl h
  have h3 := figl_lt 5 0 0 o (by rw [← h2]; omega)
  rw [← h2] at h3
  exact h3
def xLen (o : Int) : Int := if figs o = 0 then -2 else (ofal (dgt o.toNat (figs o)) (figs o) : Nat)
def xExc (o i : Int) : Int := if i < 1 ∨ (figs o : Int) ≤ i then -2 else (swp o.toNat (figs o) (i.toNat - 1) i.toNat : Nat)
def xInv (o : Int) : Int := if figs o = 0 then -2 else (oinv (dgt o.toNat (figs o)) (figs o) (figs o) 0 0 : Nat)
def xOrd (n l : Int) : Int := if n < 1 ∨ 5 < n ∨ l < 0 then -2 else (olen n.toNat l.toNat : Nat)
def xStp (o r k : Int) : Int := if figs o = 0 ∨ figs o = 5 ∨ r < 1 ∨ (figs o : Int) < r then -2 else ori (o.toNat * 10 + figs o + 1) (figs o + 1) r.toNat k

set_option maxRecDepth 4000 in
set_option maxHeartbeats 1000000 in
theorem C10_length  (G : Nat → Nat → Int32) (L : Nat → Nat → Int64) (o : Int) (o1 : -2147483648 ≤ o) (o2 : o < 2147483648) : fv_M Y10_length 3 0 0 [.ref 0, .int (iI o)] (fw cT G L) none (fv_eq (some (.int (iI (xLen o)))) (fw cT G L)) := by
  refine fv_enter rfl (Nat.le_of_ble_eq_true rfl) ?_
  obtain ⟨Q, hQ⟩ : ∃ Q : Option Value → fv_F → Option Nat → Prop, Q = (fv_eq (some (.int (iI (xLen o)))) (fw cT G L)) := ⟨_, rfl⟩
  rw [← hQ]
  show fv_At Y10_length 3 0 0 Q 0 [(0, .ref 0), (1, .int (iI o))] [] (fw cT G L) none 0 0
  have fo5 := figs_le o
  refine fx_iload_n dX10_length_0 rfl (i := 1) rfl ?_
  refine fn_cS dX10_length_1 lk10_37 (C6_figures (o := o) (by omega) (by omega) (f := (fw cT G L))) rfl rfl (by decide) (Nat.le_of_ble_eq_true rfl) ?_
  show fv_At Y10_length 3 0 0 Q 4 [(0, .ref 0), (1, .int (iI o))] [.int (nI (figs o))] (fw cT G L) none 0 0
  refine fx_istore_n (lv2 := [(0, .ref 0), (1, .int (iI o)), (2, .int (nI (figs o)))]) dX10_length_4 (i := 2) rfl (by decide) rfl ?_
  refine fx_iload_n dX10_length_5 rfl (i := 2) rfl ?_
  refine fn_if_ne (tgt := 14) dX10_length_6 (by decide) (by omega) (fun c6 => ?_) (fun c6 => ?_)
  · skip
    have fob := figs_b (o := o) (by omega)
    obtain ⟨w, rfl⟩ : ∃ w : Nat, o = (w : Int) := ⟨o.toNat, by omega⟩
    show fv_At Y10_length 3 0 0 Q 14 [(0, .ref 0), (1, .int (nI w)), (2, .int (nI (figs (w : Int))))] [] (fw cT G L) none 0 0
    refine fx_iload_n dX10_length_14 rfl (i := 1) rfl ?_
    refine fx_iload_n dX10_length_15 rfl (i := 2) rfl ?_
    refine fn_cS dX10_length_16 lk10_43 (C6_falls (a := w) (n := figs (w : Int)) (by omega) (by omega) (f := (fw cT G L))) rfl rfl (by decide) (Nat.le_of_ble_eq_true rfl) ?_
    show fv_At Y10_length 3 0 0 Q 19 [(0, .ref 0), (1, .int (nI w)), (2, .int (nI (figs (w : Int))))] [.int (nI (ofal (dgt w (figs (w : Int))) (figs (w : Int))))] (fw cT G L) none 0 0
    exact fx_iret dX10_length_19 rfl rfl rfl (by rw [hQ]; exact ⟨by unfold xLen; rw [if_neg (by omega)]; rfl, rfl, rfl⟩)
  · skip
    refine fx_bipush (v := (iI (-2))) dX10_length_9 (by decide) ?_
    refine fx_goto (tgt := 19) dX10_length_11 (by decide) ?_
    exact fx_iret dX10_length_19 rfl rfl rfl (by rw [hQ]; exact ⟨by unfold xLen; rw [if_pos (by omega)], rfl, rfl⟩)

set_option maxRecDepth 4000 in
set_option maxHeartbeats 1000000 in
theorem C10_exchange  (G : Nat → Nat → Int32) (L : Nat → Nat → Int64) (o i : Int) (o1 : -2147483648 ≤ o) (o2 : o < 2147483648) (i1 : -2147483648 ≤ i) (i2 : i < 2147483648) : fv_M Y10_exchange 3 0 0 [.ref 0, .int (iI o), .int (iI i)] (fw cT G L) none (fv_eq (some (.int (iI (xExc o i)))) (fw cT G L)) := by
  refine fv_enter rfl (Nat.le_of_ble_eq_true rfl) ?_
  obtain ⟨Q, hQ⟩ : ∃ Q : Option Value → fv_F → Option Nat → Prop, Q = (fv_eq (some (.int (iI (xExc o i)))) (fw cT G L)) := ⟨_, rfl⟩
  rw [← hQ]
  show fv_At Y10_exchange 3 0 0 Q 0 [(0, .ref 0), (1, .int (iI o)), (2, .int (iI i))] [] (fw cT G L) none 0 0
  have fo5 := figs_le o
  refine fx_iload_n dX10_exchange_0 rfl (i := 1) rfl ?_
  refine fn_cS dX10_exchange_1 lk10_37 (C6_figures (o := o) (by omega) (by omega) (f := (fw cT G L))) rfl rfl (by decide) (Nat.le_of_ble_eq_true rfl) ?_
  show fv_At Y10_exchange 3 0 0 Q 4 [(0, .ref 0), (1, .int (iI o)), (2, .int (iI i))] [.int (nI (figs o))] (fw cT G L) none 0 0
  refine fx_istore_n (lv2 := [(0, .ref 0), (1, .int (iI o)), (2, .int (iI i)), (3, .int (nI (figs o)))]) dX10_exchange_4 (i := 3) rfl (by decide) rfl ?_
  refine fx_iload_n dX10_exchange_5 rfl (i := 2) rfl ?_
  refine fx_iconst (v := (nI 1)) dX10_exchange_6 (by decide) ?_
  refine fn_icmp_ltZ (a := i) (b := ((1 : Nat) : Int)) (tgt := 15) dX10_exchange_7 (by decide) (by omega) (by omega) (by omega) (by omega) (fun c7 => ?_) (fun c7 => ?_)
  · skip
    refine fx_bipush (v := (iI (-2))) dX10_exchange_15 (by decide) ?_
    exact fx_iret dX10_exchange_17 rfl rfl rfl (by rw [hQ]; exact ⟨by unfold xExc; rw [if_pos (by omega)], rfl, rfl⟩)
  · skip
    refine fx_iload_n dX10_exchange_10 rfl (i := 2) rfl ?_
    refine fx_iload_n dX10_exchange_11 rfl (i := 3) rfl ?_
    refine fn_icmp_ltZ (a := i) (b := ((figs o : Nat) : Int)) (tgt := 18) dX10_exchange_12 (by decide) (by omega) (by omega) (by omega) (by omega) (fun c12 => ?_) (fun c12 => ?_)
    · skip
      have fob := figs_b (o := o) (by omega)
      obtain ⟨w, rfl⟩ : ∃ w : Nat, o = (w : Int) := ⟨o.toNat, by omega⟩
      obtain ⟨j, rfl⟩ : ∃ j : Nat, i = ((j + 1 : Nat) : Int) := ⟨i.toNat - 1, by omega⟩
      show fv_At Y10_exchange 3 0 0 Q 18 [(0, .ref 0), (1, .int (nI w)), (2, .int (nI (j + 1))), (3, .int (nI (figs (w : Int))))] [] (fw cT G L) none 0 0
      refine fx_iload_n dX10_exchange_18 rfl (i := 1) rfl ?_
      refine fx_iload_n dX10_exchange_19 rfl (i := 3) rfl ?_
      refine fx_iload_n dX10_exchange_20 rfl (i := 2) rfl ?_
      refine fx_iload_n dX10_exchange_21 rfl (i := 2) rfl ?_
      refine fx_iconst (v := (nI 1)) dX10_exchange_22 (by decide) ?_
      refine fn_iadd dX10_exchange_23 ?_
      refine fn_cS dX10_exchange_24 lk10_47 (C6_swapped (o := w) (n := figs (w : Int)) (a := j) (b := j + 1) (by omega) (by omega) (by omega) (by omega) (f := (fw cT G L))) rfl rfl (by decide) (Nat.le_of_ble_eq_true rfl) ?_
      show fv_At Y10_exchange 3 0 0 Q 27 [(0, .ref 0), (1, .int (nI w)), (2, .int (nI (j + 1))), (3, .int (nI (figs (w : Int))))] [.int (nI (swp w (figs (w : Int)) j (j + 1)))] (fw cT G L) none 0 0
      exact fx_iret dX10_exchange_27 rfl rfl rfl (by rw [hQ]; exact ⟨by unfold xExc; rw [if_neg (by omega)]; rfl, rfl, rfl⟩)
    · skip
      refine fx_bipush (v := (iI (-2))) dX10_exchange_15 (by decide) ?_
      exact fx_iret dX10_exchange_17 rfl rfl rfl (by rw [hQ]; exact ⟨by unfold xExc; rw [if_pos (by omega)], rfl, rfl⟩)

set_option maxRecDepth 4000 in
set_option maxHeartbeats 1000000 in
theorem C10_inverse  (G : Nat → Nat → Int32) (L : Nat → Nat → Int64) (o : Int) (o1 : -2147483648 ≤ o) (o2 : o < 2147483648) : fv_M Y10_inverse 3 0 0 [.ref 0, .int (iI o)] (fw cT G L) none (fv_eq (some (.int (iI (xInv o)))) (fw cT G L)) := by
  refine fv_enter rfl (Nat.le_of_ble_eq_true rfl) ?_
  obtain ⟨Q, hQ⟩ : ∃ Q : Option Value → fv_F → Option Nat → Prop, Q = (fv_eq (some (.int (iI (xInv o)))) (fw cT G L)) := ⟨_, rfl⟩
  rw [← hQ]
  show fv_At Y10_inverse 3 0 0 Q 0 [(0, .ref 0), (1, .int (iI o))] [] (fw cT G L) none 0 0
  have fo5 := figs_le o
  refine fx_iload_n dX10_inverse_0 rfl (i := 1) rfl ?_
  refine fn_cS dX10_inverse_1 lk10_37 (C6_figures (o := o) (by omega) (by omega) (f := (fw cT G L))) rfl rfl (by decide) (Nat.le_of_ble_eq_true rfl) ?_
  show fv_At Y10_inverse 3 0 0 Q 4 [(0, .ref 0), (1, .int (iI o))] [.int (nI (figs o))] (fw cT G L) none 0 0
  refine fx_istore_n (lv2 := [(0, .ref 0), (1, .int (iI o)), (2, .int (nI (figs o)))]) dX10_inverse_4 (i := 2) rfl (by decide) rfl ?_
  refine fx_iload_n dX10_inverse_5 rfl (i := 2) rfl ?_
  refine fn_if_ne (tgt := 14) dX10_inverse_6 (by decide) (by omega) (fun c6 => ?_) (fun c6 => ?_)
  · skip
    have fob := figs_b (o := o) (by omega)
    obtain ⟨w, rfl⟩ : ∃ w : Nat, o = (w : Int) := ⟨o.toNat, by omega⟩
    have hfd := figs_dgt (o := w) (by omega)
    show fv_At Y10_inverse 3 0 0 Q 14 [(0, .ref 0), (1, .int (nI w)), (2, .int (nI (figs (w : Int))))] [] (fw cT G L) none 0 0
    refine fx_iload_n dX10_inverse_14 rfl (i := 1) rfl ?_
    refine fx_iload_n dX10_inverse_15 rfl (i := 2) rfl ?_
    refine fn_cS dX10_inverse_16 lk10_51 (C6_inverted (a := w) (n := figs (w : Int)) (by omega) (by omega) (fun p hp => (hfd p hp).2) (f := (fw cT G L))) rfl rfl (by decide) (Nat.le_of_ble_eq_true rfl) ?_
    show fv_At Y10_inverse 3 0 0 Q 19 [(0, .ref 0), (1, .int (nI w)), (2, .int (nI (figs (w : Int))))] [.int (nI (oinv (dgt w (figs (w : Int))) (figs (w : Int)) (figs (w : Int)) 0 0))] (fw cT G L) none 0 0
    exact fx_iret dX10_inverse_19 rfl rfl rfl (by rw [hQ]; exact ⟨by unfold xInv; rw [if_neg (by omega)]; rfl, rfl, rfl⟩)
  · skip
    refine fx_bipush (v := (iI (-2))) dX10_inverse_9 (by decide) ?_
    refine fx_goto (tgt := 19) dX10_inverse_11 (by decide) ?_
    exact fx_iret dX10_inverse_19 rfl rfl rfl (by rw [hQ]; exact ⟨by unfold xInv; rw [if_pos (by omega)], rfl, rfl⟩)

set_option maxRecDepth 4000 in
set_option maxHeartbeats 1000000 in
theorem C10_orders  (G : Nat → Nat → Int32) (L : Nat → Nat → Int64) (n l : Int) (n1 : -2147483648 ≤ n) (n2 : n < 2147483648) (l1 : -2147483648 ≤ l) (l2 : l < 2147483648) : fv_M Y10_orders 6 0 0 [.ref 0, .int (iI n), .int (iI l)] (fw cT G L) none (fv_eq (some (.int (iI (xOrd n l)))) (fw cT G L)) := by
  refine fv_enter rfl (Nat.le_of_ble_eq_true rfl) ?_
  obtain ⟨Q, hQ⟩ : ∃ Q : Option Value → fv_F → Option Nat → Prop, Q = (fv_eq (some (.int (iI (xOrd n l)))) (fw cT G L)) := ⟨_, rfl⟩
  rw [← hQ]
  show fv_At Y10_orders 6 0 0 Q 0 [(0, .ref 0), (1, .int (iI n)), (2, .int (iI l))] [] (fw cT G L) none 0 0
  refine fx_iload_n dX10_orders_0 rfl (i := 1) rfl ?_
  refine fx_iconst (v := (nI 1)) dX10_orders_1 (by decide) ?_
  refine fn_icmp_ltZ (a := n) (b := ((1 : Nat) : Int)) (tgt := 14) dX10_orders_2 (by decide) (by omega) (by omega) (by omega) (by omega) (fun c2 => ?_) (fun c2 => ?_)
  · skip
    refine fx_bipush (v := (iI (-2))) dX10_orders_14 (by decide) ?_
    exact fx_iret dX10_orders_16 rfl rfl rfl (by rw [hQ]; exact ⟨by unfold xOrd; rw [if_pos (by omega)], rfl, rfl⟩)
  · skip
    refine fx_iload_n dX10_orders_5 rfl (i := 1) rfl ?_
    refine fx_iconst (v := (nI 5)) dX10_orders_6 (by decide) ?_
    refine fn_icmp_gtZ (a := n) (b := ((5 : Nat) : Int)) (tgt := 14) dX10_orders_7 (by decide) (by omega) (by omega) (by omega) (by omega) (fun c7 => ?_) (fun c7 => ?_)
    · skip
      refine fx_bipush (v := (iI (-2))) dX10_orders_14 (by decide) ?_
      exact fx_iret dX10_orders_16 rfl rfl rfl (by rw [hQ]; exact ⟨by unfold xOrd; rw [if_pos (by omega)], rfl, rfl⟩)
    · skip
      refine fx_iload_n dX10_orders_10 rfl (i := 2) rfl ?_
      refine fn_if_geZ (tgt := 17) dX10_orders_11 (by decide) (by omega) (by omega) (fun c11 => ?_) (fun c11 => ?_)
      · skip
        obtain ⟨a, rfl⟩ : ∃ w : Nat, n = (w : Int) := ⟨n.toNat, by omega⟩
        obtain ⟨b, rfl⟩ : ∃ w : Nat, l = (w : Int) := ⟨l.toNat, by omega⟩
        show fv_At Y10_orders 6 0 0 Q 17 [(0, .ref 0), (1, .int (nI a)), (2, .int (nI b))] [] (fw cT G L) none 0 0
        refine fx_iload_n dX10_orders_17 rfl (i := 1) rfl ?_
        refine fx_iload_n dX10_orders_18 rfl (i := 2) rfl ?_
        refine fn_cSN dX10_orders_19 lk10_54 (C6_ofLength a b (fw cT G L) (by omega) (by omega)) rfl rfl (by omega) (Nat.le_of_ble_eq_true rfl) ?_
        show fv_At Y10_orders 6 0 0 Q 22 [(0, .ref 0), (1, .int (nI a)), (2, .int (nI b))] [.int (nI (olen a b))] (fw cT G L) none 0 0
        exact fx_iret dX10_orders_22 rfl rfl rfl (by rw [hQ]; exact ⟨by unfold xOrd; rw [if_neg (by omega)]; rfl, rfl, rfl⟩)
      · skip
        refine fx_bipush (v := (iI (-2))) dX10_orders_14 (by decide) ?_
        exact fx_iret dX10_orders_16 rfl rfl rfl (by rw [hQ]; exact ⟨by unfold xOrd; rw [if_pos (by omega)], rfl, rfl⟩)

set_option maxRecDepth 4000 in
set_option maxHeartbeats 1000000 in
theorem C10_step  (G : Nat → Nat → Int32) (L : Nat → Nat → Int64) (o r k : Int) (o1 : -2147483648 ≤ o) (o2 : o < 2147483648) (r1 : -2147483648 ≤ r) (r2 : r < 2147483648) (k1 : -2147483648 ≤ k) (k2 : k < 2147483648) : fv_M Y10_step 6 0 0 [.ref 0, .int (iI o), .int (iI r), .int (iI k)] (fw cT G L) none (fv_eq (some (.int (iI (xStp o r k)))) (fw cT G L)) := by
  refine fv_enter rfl (Nat.le_of_ble_eq_true rfl) ?_
  obtain ⟨Q, hQ⟩ : ∃ Q : Option Value → fv_F → Option Nat → Prop, Q = (fv_eq (some (.int (iI (xStp o r k)))) (fw cT G L)) := ⟨_, rfl⟩
  rw [← hQ]
  show fv_At Y10_step 6 0 0 Q 0 [(0, .ref 0), (1, .int (iI o)), (2, .int (iI r)), (3, .int (iI k))] [] (fw cT G L) none 0 0
  have fo5 := figs_le o
  refine fx_iload_n dX10_step_0 rfl (i := 1) rfl ?_
  refine fn_cS dX10_step_1 lk10_37 (C6_figures (o := o) (by omega) (by omega) (f := (fw cT G L))) rfl rfl (by decide) (Nat.le_of_ble_eq_true rfl) ?_
  show fv_At Y10_step 6 0 0 Q 4 [(0, .ref 0), (1, .int (iI o)), (2, .int (iI r)), (3, .int (iI k))] [.int (nI (figs o))] (fw cT G L) none 0 0
  refine fx_istore (lv2 := [(0, .ref 0), (1, .int (iI o)), (2, .int (iI r)), (3, .int (iI k)), (4, .int (nI (figs o)))]) dX10_step_4 (by decide) rfl ?_
  refine fx_iload dX10_step_6 rfl ?_
  refine fn_if_eq (tgt := 28) dX10_step_8 (by decide) (by omega) (fun c8 => ?_) (fun c8 => ?_)
  · skip
    refine fx_bipush (v := (iI (-2))) dX10_step_28 (by decide) ?_
    exact fx_iret dX10_step_30 rfl rfl rfl (by rw [hQ]; exact ⟨by unfold xStp; rw [if_pos (by omega)], rfl, rfl⟩)
  · skip
    refine fx_iload dX10_step_11 rfl ?_
    refine fx_iconst (v := (nI 5)) dX10_step_13 (by decide) ?_
    refine fn_icmp_eq (tgt := 28) dX10_step_14 (by decide) (by omega) (by omega) (fun c14 => ?_) (fun c14 => ?_)
    · skip
      refine fx_bipush (v := (iI (-2))) dX10_step_28 (by decide) ?_
      exact fx_iret dX10_step_30 rfl rfl rfl (by rw [hQ]; exact ⟨by unfold xStp; rw [if_pos (by omega)], rfl, rfl⟩)
    · skip
      refine fx_iload_n dX10_step_17 rfl (i := 2) rfl ?_
      refine fx_iconst (v := (nI 1)) dX10_step_18 (by decide) ?_
      refine fn_icmp_ltZ (a := r) (b := ((1 : Nat) : Int)) (tgt := 28) dX10_step_19 (by decide) (by omega) (by omega) (by omega) (by omega) (fun c19 => ?_) (fun c19 => ?_)
      · skip
        refine fx_bipush (v := (iI (-2))) dX10_step_28 (by decide) ?_
        exact fx_iret dX10_step_30 rfl rfl rfl (by rw [hQ]; exact ⟨by unfold xStp; rw [if_pos (by omega)], rfl, rfl⟩)
      · skip
        refine fx_iload_n dX10_step_22 rfl (i := 2) rfl ?_
        refine fx_iload dX10_step_23 rfl ?_
        refine fn_icmp_leZ (a := r) (b := ((figs o : Nat) : Int)) (tgt := 31) dX10_step_25 (by decide) (by omega) (by omega) (by omega) (by omega) (fun c25 => ?_) (fun c25 => ?_)
        · skip
          have fob := figs_b (o := o) (by omega)
          obtain ⟨w, rfl⟩ : ∃ w : Nat, o = (w : Int) := ⟨o.toNat, by omega⟩
          obtain ⟨b, rfl⟩ : ∃ w : Nat, r = (w : Int) := ⟨r.toNat, by omega⟩
          have hlt := figs_lt (o := w) (by omega) (by omega)
          have hlt2 : 10 ^ figs (w : Int) ≤ 10 ^ 4 := Nat.pow_le_pow_right (by decide) (by omega)
          show fv_At Y10_step 6 0 0 Q 31 [(0, .ref 0), (1, .int (nI w)), (2, .int (nI b)), (3, .int (iI k)), (4, .int (nI (figs (w : Int))))] [] (fw cT G L) none 0 0
          refine fx_iload_n dX10_step_31 rfl (i := 1) rfl ?_
          refine fx_bipush (v := (nI 10)) dX10_step_32 (by decide) ?_
          refine fn_imul dX10_step_34 ?_
          refine fx_iload dX10_step_35 rfl ?_
          refine fn_iadd dX10_step_37 ?_
          refine fx_iconst (v := (nI 1)) dX10_step_38 (by decide) ?_
          refine fn_iadd dX10_step_39 ?_
          refine fx_iload dX10_step_40 rfl ?_
          refine fx_iconst (v := (nI 1)) dX10_step_42 (by decide) ?_
          refine fn_iadd dX10_step_43 ?_
          refine fx_iload_n dX10_step_44 rfl (i := 2) rfl ?_
          refine fx_iload_n dX10_step_45 rfl (i := 3) rfl ?_
          refine fn_cS dX10_step_46 lk10_57 (C6_risen (o := ((w * 10) + (figs (w : Int))) + 1) (n := (figs (w : Int)) + 1) (r := b) (q := k) (by omega) (by omega) (by omega) (by omega) (by omega) (f := (fw cT G L))) rfl rfl (by decide) (Nat.le_of_ble_eq_true rfl) ?_
          show fv_At Y10_step 6 0 0 Q 49 [(0, .ref 0), (1, .int (nI w)), (2, .int (nI b)), (3, .int (iI k)), (4, .int (nI (figs (w : Int))))] [.int (iI (ori (((w * 10) + (figs (w : Int))) + 1) ((figs (w : Int)) + 1) b k))] (fw cT G L) none 0 0
          exact fx_iret dX10_step_49 rfl rfl rfl (by rw [hQ]; exact ⟨by unfold xStp; rw [if_neg (by omega)]; rfl, rfl, rfl⟩)
        · skip
          refine fx_bipush (v := (iI (-2))) dX10_step_28 (by decide) ?_
          exact fx_iret dX10_step_30 rfl rfl rfl (by rw [hQ]; exact ⟨by unfold xStp; rw [if_pos (by omega)], rfl, rfl⟩)

def isSt (s : Int) : Bool := decide (0 ≤ s ∧ s < 12)
set_option maxRecDepth 4000 in
set_option maxHeartbeats 1000000 in
theorem C10_isSheet (s : Int) (s1 : -2147483648 ≤ s) (s2 : s < 2147483648) (f : fv_F) : fv_M Y10_isSheet 0 0 0 [.int (iI s)] f none (fv_eq (some (.int (bI (isSt s)))) f) := by
  refine fv_enter rfl (Nat.le_of_ble_eq_true rfl) ?_
  obtain ⟨Q, hQ⟩ : ∃ Q : Option Value → fv_F → Option Nat → Prop, Q = (fv_eq (some (.int (bI (isSt s)))) f) := ⟨_, rfl⟩
  rw [← hQ]
  show fv_At Y10_isSheet 0 0 0 Q 0 [(0, .int (iI s))] [] f none 0 0
  refine fx_iload_n dX10_isSheet_0 rfl (i := 0) rfl ?_
  refine fn_if_ltZ (tgt := 14) dX10_isSheet_1 (by decide) (by omega) (by omega) (fun c1 => ?_) (fun c1 => ?_)
  · skip
    refine fx_iconst (v := (nI 0)) dX10_isSheet_14 (by decide) ?_
    refine fn_to (show _ = (bI false) from rfl) ?_
    exact fx_zret dX10_isSheet_15 rfl (bI_01 _) rfl rfl (by rw [hQ]; exact ⟨by unfold isSt; first | rw [decide_eq_true (by omega)] | rw [decide_eq_false (by omega)], rfl, rfl⟩)
  · skip
    refine fx_iload_n dX10_isSheet_4 rfl (i := 0) rfl ?_
    refine fx_bipush (v := (nI 12)) dX10_isSheet_5 (by decide) ?_
    refine fn_icmp_geZ (a := s) (b := ((12 : Nat) : Int)) (tgt := 14) dX10_isSheet_7 (by decide) (by omega) (by omega) (by omega) (by omega) (fun c7 => ?_) (fun c7 => ?_)
    · skip
      refine fx_iconst (v := (nI 0)) dX10_isSheet_14 (by decide) ?_
      refine fn_to (show _ = (bI false) from rfl) ?_
      exact fx_zret dX10_isSheet_15 rfl (bI_01 _) rfl rfl (by rw [hQ]; exact ⟨by unfold isSt; first | rw [decide_eq_true (by omega)] | rw [decide_eq_false (by omega)], rfl, rfl⟩)
    · skip
      refine fx_iconst (v := (nI 1)) dX10_isSheet_10 (by decide) ?_
      refine fn_to (show _ = (bI true) from rfl) ?_
      refine fx_goto (tgt := 15) dX10_isSheet_11 (by decide) ?_
      exact fx_zret dX10_isSheet_15 rfl (bI_01 _) rfl rfl (by rw [hQ]; exact ⟨by unfold isSt; first | rw [decide_eq_true (by omega)] | rw [decide_eq_false (by omega)], rfl, rfl⟩)
