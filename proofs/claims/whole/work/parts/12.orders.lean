set_option maxRecDepth 4000 in
set_option maxHeartbeats 1000000 in
theorem C3_at (a k : Nat) (ha : a < 2147483648) (hk : k < 2147483648) (f : fv_F) : fv_M Y3_at 0 0 0 [.int (nI a), .int (nI k)] f none (fv_eq (some (.int (nI (fat a k)))) f) := by
  refine fv_enter rfl (Nat.le_of_ble_eq_true rfl) ?_
  obtain ⟨Q, hQ⟩ : ∃ Q : Option Value → fv_F → Option Nat → Prop, Q = (fv_eq (some (.int (nI (fat a k)))) f) := ⟨_, rfl⟩
  rw [← hQ]
  show fv_At Y3_at 0 0 0 Q 0 [(0, .int (nI a)), (1, .int (nI k))] [] f none 0 0
  refine fx_iload_n dX3_at_0 rfl (i := 0) rfl ?_
  refine fx_istore_n (lv2 := [(0, .int (nI a)), (1, .int (nI k)), (2, .int (nI a))]) dX3_at_1 (i := 2) rfl (by decide) rfl ?_
  refine fx_iconst (v := (nI 0)) dX3_at_2 (by decide) ?_
  refine fx_istore_n (lv2 := [(0, .int (nI a)), (1, .int (nI k)), (2, .int (nI a)), (3, .int (nI 0))]) dX3_at_3 (i := 3) rfl (by decide) rfl ?_
  have L4 : ∀ (n : Nat) (r : Nat) (i : Nat), (i + n = k) → (r = a / 10 ^ i) → (r < 2147483648) → fv_At Y3_at 0 0 0 Q 4 [(0, .int (nI a)), (1, .int (nI k)), (2, .int (nI r)), (3, .int (nI i))] [] f none 0 0 := by
    intro n
    induction n with
    | zero =>
      intro r i hi hr hb
      refine fx_iload_n dX3_at_4 rfl (i := 3) rfl ?_
      refine fx_iload_n dX3_at_5 rfl (i := 1) rfl ?_
      refine fn_icmp_ge (tgt := 20) dX3_at_6 (by decide) (by omega) (by omega) (fun c6 => ?_) (fun c6 => ?_)
      · skip
        refine fx_iload_n dX3_at_20 rfl (i := 2) rfl ?_
        refine fx_bipush (v := (nI 10)) dX3_at_21 (by decide) ?_
        refine fn_irem dX3_at_23 (by omega) (by omega) (by omega) ?_
        exact fx_iret dX3_at_24 rfl rfl rfl (by rw [hQ]; exact ⟨by rw [hr, show i = k by omega]; rfl, rfl, rfl⟩)
      · exfalso; omega
    | succ n ih4 =>
      intro r i hi hr hb
      refine fx_iload_n dX3_at_4 rfl (i := 3) rfl ?_
      refine fx_iload_n dX3_at_5 rfl (i := 1) rfl ?_
      refine fn_icmp_ge (tgt := 20) dX3_at_6 (by decide) (by omega) (by omega) (fun c6 => ?_) (fun c6 => ?_)
      · exfalso; omega
      · skip
        refine fx_iload_n dX3_at_9 rfl (i := 2) rfl ?_
        refine fx_bipush (v := (nI 10)) dX3_at_10 (by decide) ?_
        refine fn_idiv dX3_at_12 (by omega) (by omega) (by omega) ?_
        refine fx_istore_n (lv2 := [(0, .int (nI a)), (1, .int (nI k)), (2, .int (nI (r / 10))), (3, .int (nI i))]) dX3_at_13 (i := 2) rfl (by decide) rfl ?_
        refine fn_iinc (c := 1) (lv2 := [(0, .int (nI a)), (1, .int (nI k)), (2, .int (nI (r / 10))), (3, .int (nI (i + 1)))]) dX3_at_14 (by decide) rfl (by decide) rfl ?_
        refine fx_goto (tgt := 4) dX3_at_17 (by decide) ?_
        exact (ih4 (r / 10) (i + 1) (by omega) (by rw [hr, Nat.div_div_eq_div_mul, Nat.pow_succ]) (by omega))
  exact (L4 k a 0 (by omega) (by simp) ha)

set_option maxRecDepth 4000 in
set_option maxHeartbeats 1000000 in
theorem C3_power (b k : Nat) (hk : k < 2147483648) (f : fv_F) : fv_M Y3_power 0 0 0 [.int (nI b), .int (nI k)] f none (fv_eq (some (.int (nI (b ^ k)))) f) := by
  refine fv_enter rfl (Nat.le_of_ble_eq_true rfl) ?_
  obtain ⟨Q, hQ⟩ : ∃ Q : Option Value → fv_F → Option Nat → Prop, Q = (fv_eq (some (.int (nI (b ^ k)))) f) := ⟨_, rfl⟩
  rw [← hQ]
  show fv_At Y3_power 0 0 0 Q 0 [(0, .int (nI b)), (1, .int (nI k))] [] f none 0 0
  refine fx_iconst (v := (nI 1)) dX3_power_0 (by decide) ?_
  refine fx_istore_n (lv2 := [(0, .int (nI b)), (1, .int (nI k)), (2, .int (nI 1))]) dX3_power_1 (i := 2) rfl (by decide) rfl ?_
  refine fx_iconst (v := (nI 0)) dX3_power_2 (by decide) ?_
  refine fx_istore_n (lv2 := [(0, .int (nI b)), (1, .int (nI k)), (2, .int (nI 1)), (3, .int (nI 0))]) dX3_power_3 (i := 3) rfl (by decide) rfl ?_
  have L4 : ∀ (n : Nat) (r : Nat) (i : Nat), (i + n = k) → (r = b ^ i) → fv_At Y3_power 0 0 0 Q 4 [(0, .int (nI b)), (1, .int (nI k)), (2, .int (nI r)), (3, .int (nI i))] [] f none 0 0 := by
    intro n
    induction n with
    | zero =>
      intro r i hi hr
      refine fx_iload_n dX3_power_4 rfl (i := 3) rfl ?_
      refine fx_iload_n dX3_power_5 rfl (i := 1) rfl ?_
      refine fn_icmp_ge (tgt := 19) dX3_power_6 (by decide) (by omega) (by omega) (fun c6 => ?_) (fun c6 => ?_)
      · skip
        refine fx_iload_n dX3_power_19 rfl (i := 2) rfl ?_
        exact fx_iret dX3_power_20 rfl rfl rfl (by rw [hQ]; exact ⟨by rw [hr, show i = k by omega], rfl, rfl⟩)
      · exfalso; omega
    | succ n ih4 =>
      intro r i hi hr
      refine fx_iload_n dX3_power_4 rfl (i := 3) rfl ?_
      refine fx_iload_n dX3_power_5 rfl (i := 1) rfl ?_
      refine fn_icmp_ge (tgt := 19) dX3_power_6 (by decide) (by omega) (by omega) (fun c6 => ?_) (fun c6 => ?_)
      · exfalso; omega
      · skip
        refine fx_iload_n dX3_power_9 rfl (i := 2) rfl ?_
        refine fx_iload_n dX3_power_10 rfl (i := 0) rfl ?_
        refine fn_imul dX3_power_11 ?_
        refine fx_istore_n (lv2 := [(0, .int (nI b)), (1, .int (nI k)), (2, .int (nI (r * b))), (3, .int (nI i))]) dX3_power_12 (i := 2) rfl (by decide) rfl ?_
        refine fn_iinc (c := 1) (lv2 := [(0, .int (nI b)), (1, .int (nI k)), (2, .int (nI (r * b))), (3, .int (nI (i + 1)))]) dX3_power_13 (by decide) rfl (by decide) rfl ?_
        refine fx_goto (tgt := 4) dX3_power_16 (by decide) ?_
        exact (ih4 (r * b) (i + 1) (by omega) (by rw [hr, Nat.pow_succ]))
  exact (L4 k 1 0 (by omega) (by simp))

set_option maxRecDepth 4000 in
set_option maxHeartbeats 1000000 in
theorem C6_figure (a n p : Nat) (ha : a < 2147483648) (hn : n < 2147483648) (hp : p ≤ n) (f : fv_F) : fv_M Y6_figure 1 0 0 [.int (nI a), .int (nI n), .int (nI p)] f none (fv_eq (some (.int (nI (fat a (n - p))))) f) := by
  refine fv_enter rfl (Nat.le_of_ble_eq_true rfl) ?_
  obtain ⟨Q, hQ⟩ : ∃ Q : Option Value → fv_F → Option Nat → Prop, Q = (fv_eq (some (.int (nI (fat a (n - p))))) f) := ⟨_, rfl⟩
  rw [← hQ]
  show fv_At Y6_figure 1 0 0 Q 0 [(0, .int (nI a)), (1, .int (nI n)), (2, .int (nI p))] [] f none 0 0
  refine fx_iload_n dX6_figure_0 rfl (i := 0) rfl ?_
  refine fx_iload_n dX6_figure_1 rfl (i := 1) rfl ?_
  refine fx_iload_n dX6_figure_2 rfl (i := 2) rfl ?_
  refine fn_isub dX6_figure_3 (by omega) ?_
  refine fn_cS dX6_figure_4 lk6_10 (C3_at (a := a) (k := n - p) (by omega) (by omega) (f := f)) rfl rfl (by decide) (Nat.le_of_ble_eq_true rfl) ?_
  show fv_At Y6_figure 1 0 0 Q 7 [(0, .int (nI a)), (1, .int (nI n)), (2, .int (nI p))] [.int (nI (fat a (n - p)))] f none 0 0
  exact fx_iret dX6_figure_7 rfl rfl rfl (by rw [hQ]; exact ⟨rfl, rfl, rfl⟩)

/-- the length: pairs of places with the greater figure ahead -/
def ofal2 (a n i : Nat) : Nat → Nat → Nat → Nat
  | 0, _, c => c
  | k + 1, j, c => ofal2 a n i k (j + 1) (if fat a (n - j) < fat a (n - i) then c + 1 else c)
def ofal1 (a n : Nat) : Nat → Nat → Nat → Nat
  | 0, _, c => c
  | k + 1, i, c => ofal1 a n k (i + 1) (ofal2 a n i (n - i) (i + 1) c)
def ofal (a n : Nat) : Nat := ofal1 a n (n - 1) 1 0

set_option maxRecDepth 4000 in
set_option maxHeartbeats 1000000 in
theorem C6_falls (a n : Nat) (ha : a < 2147483648) (hn : n < 100) (f : fv_F) : fv_M Y6_falls 2 0 0 [.int (nI a), .int (nI n)] f none (fv_eq (some (.int (nI (ofal a n)))) f) := by
  refine fv_enter rfl (Nat.le_of_ble_eq_true rfl) ?_
  obtain ⟨Q, hQ⟩ : ∃ Q : Option Value → fv_F → Option Nat → Prop, Q = (fv_eq (some (.int (nI (ofal a n)))) f) := ⟨_, rfl⟩
  rw [← hQ]
  show fv_At Y6_falls 2 0 0 Q 0 [(0, .int (nI a)), (1, .int (nI n))] [] f none 0 0
  refine fx_iconst (v := (nI 0)) dX6_falls_0 (by decide) ?_
  refine fx_istore_n (lv2 := [(0, .int (nI a)), (1, .int (nI n)), (2, .int (nI 0))]) dX6_falls_1 (i := 2) rfl (by decide) rfl ?_
  refine fx_iconst (v := (nI 1)) dX6_falls_2 (by decide) ?_
  refine fx_istore_n (lv2 := [(0, .int (nI a)), (1, .int (nI n)), (2, .int (nI 0)), (3, .int (nI 1))]) dX6_falls_3 (i := 3) rfl (by decide) rfl ?_
  have L4 : ∀ (k : Nat) (c : Nat) (i : Nat), (i + k = n ∨ (n = 0 ∧ i = 1 ∧ k = 0)) → (1 ≤ i) → (ofal1 a n k i c = ofal a n) → fv_At Y6_falls 2 0 0 Q 4 [(0, .int (nI a)), (1, .int (nI n)), (2, .int (nI c)), (3, .int (nI i))] [] f none 0 0 := by
    intro k
    induction k with
    | zero =>
      intro c i hi hi1 hR
      refine fx_iload_n dX6_falls_4 rfl (i := 3) rfl ?_
      refine fx_iload_n dX6_falls_5 rfl (i := 1) rfl ?_
      refine fn_icmp_ge (tgt := 51) dX6_falls_6 (by decide) (by omega) (by omega) (fun c6 => ?_) (fun c6 => ?_)
      · skip
        refine fx_iload_n dX6_falls_51 rfl (i := 2) rfl ?_
        exact fx_iret dX6_falls_52 rfl rfl rfl (by rw [hQ]; exact ⟨by rw [← hR]; rfl, rfl, rfl⟩)
      · exfalso; omega
    | succ k ih4 =>
      intro c i hi hi1 hR
      refine fx_iload_n dX6_falls_4 rfl (i := 3) rfl ?_
      refine fx_iload_n dX6_falls_5 rfl (i := 1) rfl ?_
      refine fn_icmp_ge (tgt := 51) dX6_falls_6 (by decide) (by omega) (by omega) (fun c6 => ?_) (fun c6 => ?_)
      · exfalso; omega
      · skip
        refine fx_iload_n dX6_falls_9 rfl (i := 3) rfl ?_
        refine fx_iconst (v := (nI 1)) dX6_falls_10 (by decide) ?_
        refine fn_iadd dX6_falls_11 ?_
        refine fx_istore (lv2 := [(0, .int (nI a)), (1, .int (nI n)), (2, .int (nI c)), (3, .int (nI i)), (4, .int (nI (i + 1)))]) dX6_falls_12 (by decide) rfl ?_
        have L14 : ∀ (k2 : Nat) (c2 : Nat) (j : Nat), (j + k2 = n + 1) → (1 ≤ j) → (ofal2 a n i k2 j c2 = ofal2 a n i (n - i) (i + 1) c) → fv_At Y6_falls 2 0 0 Q 14 [(0, .int (nI a)), (1, .int (nI n)), (2, .int (nI c2)), (3, .int (nI i)), (4, .int (nI j))] [] f none 0 0 := by
          intro k2
          induction k2 with
          | zero =>
            intro c2 j hj hj1 hR14
            refine fx_iload dX6_falls_14 rfl ?_
            refine fx_iload_n dX6_falls_16 rfl (i := 1) rfl ?_
            refine fn_icmp_gt (tgt := 45) dX6_falls_17 (by decide) (by omega) (by omega) (fun c17 => ?_) (fun c17 => ?_)
            · skip
              refine fn_iinc (c := 1) (lv2 := [(0, .int (nI a)), (1, .int (nI n)), (2, .int (nI c2)), (3, .int (nI (i + 1))), (4, .int (nI j))]) dX6_falls_45 (by decide) rfl (by decide) rfl ?_
              refine fx_goto (tgt := 4) dX6_falls_48 (by decide) ?_
              exact fn_sub [0, 1, 2, 3] rfl (ih4 c2 (i + 1) (by omega) (by omega) (by rw [← hR, ofal1]; exact congrArg _ hR14))
            · exfalso; omega
          | succ k2 ih14 =>
            intro c2 j hj hj1 hR14
            refine fx_iload dX6_falls_14 rfl ?_
            refine fx_iload_n dX6_falls_16 rfl (i := 1) rfl ?_
            refine fn_icmp_gt (tgt := 45) dX6_falls_17 (by decide) (by omega) (by omega) (fun c17 => ?_) (fun c17 => ?_)
            · exfalso; omega
            · skip
              refine fx_iload_n dX6_falls_20 rfl (i := 0) rfl ?_
              refine fx_iload_n dX6_falls_21 rfl (i := 1) rfl ?_
              refine fx_iload_n dX6_falls_22 rfl (i := 3) rfl ?_
              refine fn_cS dX6_falls_23 lk6_16 (C6_figure (a := a) (n := n) (p := i) (by omega) (by omega) (by omega) (f := f)) rfl rfl (by decide) (Nat.le_of_ble_eq_true rfl) ?_
              show fv_At Y6_falls 2 0 0 Q 26 [(0, .int (nI a)), (1, .int (nI n)), (2, .int (nI c2)), (3, .int (nI i)), (4, .int (nI j))] [.int (nI (fat a (n - i)))] f none 0 0
              refine fx_iload_n dX6_falls_26 rfl (i := 0) rfl ?_
              refine fx_iload_n dX6_falls_27 rfl (i := 1) rfl ?_
              refine fx_iload dX6_falls_28 rfl ?_
              refine fn_cS dX6_falls_30 lk6_16 (C6_figure (a := a) (n := n) (p := j) (by omega) (by omega) (by omega) (f := f)) rfl rfl (by decide) (Nat.le_of_ble_eq_true rfl) ?_
              show fv_At Y6_falls 2 0 0 Q 33 [(0, .int (nI a)), (1, .int (nI n)), (2, .int (nI c2)), (3, .int (nI i)), (4, .int (nI j))] [.int (nI (fat a (n - j))), .int (nI (fat a (n - i)))] f none 0 0
              refine fn_icmp_le (tgt := 39) dX6_falls_33 (by decide) (Nat.lt_trans (fat_lt _ _) (by decide)) (Nat.lt_trans (fat_lt _ _) (by decide)) (fun c33 => ?_) (fun c33 => ?_)
              · skip
                refine fn_iinc (c := 1) (lv2 := [(0, .int (nI a)), (1, .int (nI n)), (2, .int (nI c2)), (3, .int (nI i)), (4, .int (nI (j + 1)))]) dX6_falls_39 (by decide) rfl (by decide) rfl ?_
                refine fx_goto (tgt := 14) dX6_falls_42 (by decide) ?_
                exact (ih14 c2 (j + 1) (by omega) (by omega) (by rw [← hR14, ofal2]; split <;> first | rfl | omega))
              · skip
                refine fn_iinc (c := 1) (lv2 := [(0, .int (nI a)), (1, .int (nI n)), (2, .int (nI (c2 + 1))), (3, .int (nI i)), (4, .int (nI j))]) dX6_falls_36 (by decide) rfl (by decide) rfl ?_
                refine fn_iinc (c := 1) (lv2 := [(0, .int (nI a)), (1, .int (nI n)), (2, .int (nI (c2 + 1))), (3, .int (nI i)), (4, .int (nI (j + 1)))]) dX6_falls_39 (by decide) rfl (by decide) rfl ?_
                refine fx_goto (tgt := 14) dX6_falls_42 (by decide) ?_
                exact (ih14 (c2 + 1) (j + 1) (by omega) (by omega) (by rw [← hR14, ofal2]; split <;> first | rfl | omega))
        exact (L14 (n - i) c (i + 1) (by omega) (by omega) rfl)
  exact (L4 (n - 1) 0 1 (by omega) (by omega) rfl)
