set_option maxRecDepth 4000 in
set_option maxHeartbeats 1000000 in
theorem C3_at (a k : Nat) (ha : a < 2147483648) (hk : k < 2147483648) (f : fv_F) : fv_M Y3_at 0 0 0 [.int (nI a), .int (nI k)] f none (fv_eq (some (.int (nI (fat a k)))) f) := by
  refine fv_enter rfl (Nat.le_of_ble_eq_true rfl) ?_
  obtain ⟨Q, hQ⟩ : ∃ Q : Option Value → fv_F → Option Nat → Prop, Q = (fv_eq (some (.int (nI (fat a k)))) f) := ⟨_, rfl⟩
  rw [← hQ]
  show fv_At Y3_at 0 0 0 Q 0 [(0, .int (nI a)), (1, .int (nI k))] [] f none 0 0
  refine fx_iload_n dX3_at_0 rfl (i := 0) rfl ?_
  refine fx_istore_n (lv2 := [(0, .int (nI a)), (1, .int (nI k)), (2, .int (nI a))]) dX3_at_1 (i := 2) rfl (by decide) rfl ?_
  refine fx_iconst (v := (nI 0)) dX3_at_2 (by decide) ?_
  refine fx_istore_n (lv2 := [(0, .int (nI a)), (1, .int (nI k)), (2, .int (nI a)), (3, .int (nI 0))]) dX3_at_3 (i := 3) rfl (by decide) rfl ?_
  have L4 : ∀ (n : Nat) (r : Nat) (i : Nat), (i + n = k) → (r = a / 10 ^ i) → (r < 2147483648) → fv_At Y3_at 0 0 0 Q 4 [(0, .int (nI a)), (1, .int (nI k)), (2, .int (nI r)), (3, .int (nI i))] [] f none 0 0 := by
    intro n
    induction n with
    | zero =>
      intro r i hi hr hb
      refine fx_iload_n dX3_at_4 rfl (i := 3) rfl ?_
      refine fx_iload_n dX3_at_5 rfl (i := 1) rfl ?_
      refine fn_icmp_ge (tgt := 20) dX3_at_6 (by decide) (by omega) (by omega) (fun c6 => ?_) (fun c6 => ?_)
      · skip
        refine fx_iload_n dX3_at_20 rfl (i := 2) rfl ?_
        refine fx_bipush (v := (nI 10)) dX3_at_21 (by decide) ?_
        refine fn_irem dX3_at_23 (by omega) (by omega) (by omega) ?_
        exact fx_iret dX3_at_24 rfl rfl rfl (by rw [hQ]; exact ⟨by rw [hr, show i = k by omega]; rfl, rfl, rfl⟩)
      · exfalso; omega
    | succ n ih4 =>
      intro r i hi hr hb
      refine fx_iload_n dX3_at_4 rfl (i := 3) rfl ?_
      refine fx_iload_n dX3_at_5 rfl (i := 1) rfl ?_
      refine fn_icmp_ge (tgt := 20) dX3_at_6 (by decide) (by omega) (by omega) (fun c6 => ?_) (fun c6 => ?_)
      · exfalso; omega
      · skip
        refine fx_iload_n dX3_at_9 rfl (i := 2) rfl ?_
        refine fx_bipush (v := (nI 10)) dX3_at_10 (by decide) ?_
        refine fn_idiv dX3_at_12 (by omega) (by omega) (by omega) ?_
        refine fx_istore_n (lv2 := [(0, .int (nI a)), (1, .int (nI k)), (2, .int (nI (r / 10))), (3, .int (nI i))]) dX3_at_13 (i := 2) rfl (by decide) rfl ?_
        refine fn_iinc (c := 1) (lv2 := [(0, .int (nI a)), (1, .int (nI k)), (2, .int (nI (r / 10))), (3, .int (nI (i + 1)))]) dX3_at_14 (by decide) rfl (by decide) rfl ?_
        refine fx_goto (tgt := 4) dX3_at_17 (by decide) ?_
        exact (ih4 (r / 10) (i + 1) (by omega) (by rw [hr, Nat.div_div_eq_div_mul, Nat.pow_succ]) (by omega))
  exact (L4 k a 0 (by omega) (by simp) ha)

set_option maxRecDepth 4000 in
set_option maxHeartbeats 1000000 in
theorem C3_power (b k : Nat) (hk : k < 2147483648) (f : fv_F) : fv_M Y3_power 0 0 0 [.int (nI b), .int (nI k)] f none (fv_eq (some (.int (nI (b ^ k)))) f) := by
  refine fv_enter rfl (Nat.le_of_ble_eq_true rfl) ?_
  obtain ⟨Q, hQ⟩ : ∃ Q : Option Value → fv_F → Option Nat → Prop, Q = (fv_eq (some (.int (nI (b ^ k)))) f) := ⟨_, rfl⟩
  rw [← hQ]
  show fv_At Y3_power 0 0 0 Q 0 [(0, .int (nI b)), (1, .int (nI k))] [] f none 0 0
  refine fx_iconst (v := (nI 1)) dX3_power_0 (by decide) ?_
  refine fx_istore_n (lv2 := [(0, .int (nI b)), (1, .int (nI k)), (2, .int (nI 1))]) dX3_power_1 (i := 2) rfl (by decide) rfl ?_
  refine fx_iconst (v := (nI 0)) dX3_power_2 (by decide) ?_
  refine fx_istore_n (lv2 := [(0, .int (nI b)), (1, .int (nI k)), (2, .int (nI 1)), (3, .int (nI 0))]) dX3_power_3 (i := 3) rfl (by decide) rfl ?_
  have L4 : ∀ (n : Nat) (r : Nat) (i : Nat), (i + n = k) → (r = b ^ i) → fv_At Y3_power 0 0 0 Q 4 [(0, .int (nI b)), (1, .int (nI k)), (2, .int (nI r)), (3, .int (nI i))] [] f none 0 0 := by
    intro n
    induction n with
    | zero =>
      intro r i hi hr
      refine fx_iload_n dX3_power_4 rfl (i := 3) rfl ?_
      refine fx_iload_n dX3_power_5 rfl (i := 1) rfl ?_
      refine fn_icmp_ge (tgt := 19) dX3_power_6 (by decide) (by omega) (by omega) (fun c6 => ?_) (fun c6 => ?_)
      · skip
        refine fx_iload_n dX3_power_19 rfl (i := 2) rfl ?_
        exact fx_iret dX3_power_20 rfl rfl rfl (by rw [hQ]; exact ⟨by rw [hr, show i = k by omega], rfl, rfl⟩)
      · exfalso; omega
    | succ n ih4 =>
      intro r i hi hr
      refine fx_iload_n dX3_power_4 rfl (i := 3) rfl ?_
      refine fx_iload_n dX3_power_5 rfl (i := 1) rfl ?_
      refine fn_icmp_ge (tgt := 19) dX3_power_6 (by decide) (by omega) (by omega) (fun c6 => ?_) (fun c6 => ?_)
      · exfalso; omega
      · skip
        refine fx_iload_n dX3_power_9 rfl (i := 2) rfl ?_
        refine fx_iload_n dX3_power_10 rfl (i := 0) rfl ?_
        refine fn_imul dX3_power_11 ?_
        refine fx_istore_n (lv2 := [(0, .int (nI b)), (1, .int (nI k)), (2, .int (nI (r * b))), (3, .int (nI i))]) dX3_power_12 (i := 2) rfl (by decide) rfl ?_
        refine fn_iinc (c := 1) (lv2 := [(0, .int (nI b)), (1, .int (nI k)), (2, .int (nI (r * b))), (3, .int (nI (i + 1)))]) dX3_power_13 (by decide) rfl (by decide) rfl ?_
        refine fx_goto (tgt := 4) dX3_power_16 (by decide) ?_
        exact (ih4 (r * b) (i + 1) (by omega) (by rw [hr, Nat.pow_succ]))
  exact (L4 k 1 0 (by omega) (by simp))

/-- the figure at a place from 0 of a number of n figures -/
def dgt (a n p : Nat) : Nat := fat a (n - 1 - p)
theorem fat_dgt (a n p : Nat) : fat a (n - (p + 1)) = dgt a n p := by unfold dgt; congr 1; omega
theorem dgt_lt (a n p : Nat) : dgt a n p < 10 := fat_lt _ _

set_option maxRecDepth 4000 in
set_option maxHeartbeats 1000000 in
theorem C6_figure (a n p : Nat) (ha : a < 2147483648) (hn : n < 2147483648) (hp : p < n) (f : fv_F) : fv_M Y6_figure 1 0 0 [.int (nI a), .int (nI n), .int (nI (p + 1))] f none (fv_eq (some (.int (nI (dgt a n p)))) f) := by
  refine fv_enter rfl (Nat.le_of_ble_eq_true rfl) ?_
  obtain ⟨Q, hQ⟩ : ∃ Q : Option Value → fv_F → Option Nat → Prop, Q = (fv_eq (some (.int (nI (dgt a n p)))) f) := ⟨_, rfl⟩
  rw [← hQ]
  show fv_At Y6_figure 1 0 0 Q 0 [(0, .int (nI a)), (1, .int (nI n)), (2, .int (nI (p + 1)))] [] f none 0 0
  refine fx_iload_n dX6_figure_0 rfl (i := 0) rfl ?_
  refine fx_iload_n dX6_figure_1 rfl (i := 1) rfl ?_
  refine fx_iload_n dX6_figure_2 rfl (i := 2) rfl ?_
  refine fn_isub dX6_figure_3 (by omega) ?_
  refine fn_cS dX6_figure_4 lk6_10 (C3_at (a := a) (k := n - (p + 1)) (by omega) (by omega) (f := f)) rfl rfl (by decide) (Nat.le_of_ble_eq_true rfl) ?_
  show fv_At Y6_figure 1 0 0 Q 7 [(0, .int (nI a)), (1, .int (nI n)), (2, .int (nI (p + 1)))] [.int (nI (fat a (n - (p + 1))))] f none 0 0
  exact fx_iret dX6_figure_7 rfl rfl rfl (by rw [hQ]; exact ⟨by rw [fat_dgt], rfl, rfl⟩)

/-- pairs of places with the greater figure ahead -/
def ofal2 (h : Nat → Nat) (i : Nat) : Nat → Nat → Nat → Nat
  | 0, _, c => c
  | k + 1, j, c => ofal2 h i k (j + 1) (if h j < h i then c + 1 else c)
def ofal1 (h : Nat → Nat) (n : Nat) : Nat → Nat → Nat → Nat
  | 0, _, c => c
  | k + 1, i, c => ofal1 h n k (i + 1) (ofal2 h i (n - (i + 1)) (i + 1) c)
def ofal (h : Nat → Nat) (n : Nat) : Nat := ofal1 h n n 0 0
theorem fat_two {a x z : Nat} (h : z < x) : fat a x * 10 ^ x + fat a z * 10 ^ z ≤ a := by
  have e1 : fat a z * 10 ^ z ≤ a % 10 ^ x := by
    have h1 : 10 ^ x = 10 ^ z * 10 ^ (x - z) := by rw [← Nat.pow_add]; congr 1; omega
    have h2 : a % 10 ^ x / 10 ^ z = a / 10 ^ z % 10 ^ (x - z) := by rw [h1, Nat.mod_mul_right_div_self]
    have h3 : fat a z ≤ a % 10 ^ x / 10 ^ z := by
      rw [h2]
      unfold fat
      rw [← Nat.mod_mod_of_dvd (a / 10 ^ z) (show 10 ∣ 10 ^ (x - z) from ⟨10 ^ (x - z - 1), by rw [← Nat.pow_succ']; congr 1; omega⟩)]
      exact Nat.mod_le _ _
    exact Nat.le_trans (Nat.mul_le_mul_right _ h3) (Nat.div_mul_le_self _ _)
  have e2 : fat a x * 10 ^ x ≤ a / 10 ^ x * 10 ^ x := Nat.mul_le_mul_right _ (Nat.mod_le _ _)
  have e3 := Nat.div_add_mod a (10 ^ x)
  rw [Nat.mul_comm] at e3
  omega
/-- two figures, at places a and b from 0, change places -/
def swp (o n a b : Nat) : Nat := (o + ((dgt o n b : Int) - dgt o n a) * (10 ^ (n - 1 - a) - 10 ^ (n - 1 - b))).toNat
theorem swp_eq {o n a b : Nat} (h : a < b) (hb : b < n) : ((swp o n a b : Nat) : Int) = o + ((dgt o n b : Int) - dgt o n a) * (10 ^ (n - 1 - a) - 10 ^ (n - 1 - b)) := by
  unfold swp
  refine Int.toNat_of_nonneg ?_
  have h1 := fat_two (a := o) (show n - 1 - b < n - 1 - a by omega)
  rw [Int.sub_mul, Int.mul_sub, Int.mul_sub]
  have h2 : (fat o (n - 1 - a) : Int) * 10 ^ (n - 1 - a) + fat o (n - 1 - b) * 10 ^ (n - 1 - b) ≤ o := by exact_mod_cast h1
  have h3 : (0 : Int) ≤ (dgt o n b : Int) * 10 ^ (n - 1 - a) := Int.mul_nonneg (Int.natCast_nonneg _) (Int.pow_nonneg (by decide))
  have h4 : (0 : Int) ≤ (dgt o n a : Int) * 10 ^ (n - 1 - b) := Int.mul_nonneg (Int.natCast_nonneg _) (Int.pow_nonneg (by decide))
  unfold dgt at *
  omega
theorem swp_lt {o n a b : Nat} (h : a < b) (hb : b < n) : swp o n a b ≤ o + 9 * 10 ^ (n - 1 - a) + 9 * 10 ^ (n - 1 - b) := by
  have h0 := swp_eq (o := o) h hb
  rw [Int.sub_mul, Int.mul_sub, Int.mul_sub] at h0
  have h1 : dgt o n b * 10 ^ (n - 1 - a) ≤ 9 * 10 ^ (n - 1 - a) := Nat.mul_le_mul_right _ (Nat.le_of_lt_succ (fat_lt _ _))
  have h2 : dgt o n a * 10 ^ (n - 1 - b) ≤ 9 * 10 ^ (n - 1 - b) := Nat.mul_le_mul_right _ (Nat.le_of_lt_succ (fat_lt _ _))
  have h3 : (0 : Int) ≤ (dgt o n b : Int) * 10 ^ (n - 1 - b) := Int.mul_nonneg (Int.natCast_nonneg _) (Int.pow_nonneg (by decide))
  have h4 : (0 : Int) ≤ (dgt o n a : Int) * 10 ^ (n - 1 - a) := Int.mul_nonneg (Int.natCast_nonneg _) (Int.pow_nonneg (by decide))
  have h5 : (dgt o n b : Int) * 10 ^ (n - 1 - a) ≤ 9 * 10 ^ (n - 1 - a) := by exact_mod_cast h1
  have h6 : (dgt o n a : Int) * 10 ^ (n - 1 - b) ≤ 9 * 10 ^ (n - 1 - b) := by exact_mod_cast h2
  have h7 : ((swp o n a b : Nat) : Int) ≤ ((o + 9 * 10 ^ (n - 1 - a) + 9 * 10 ^ (n - 1 - b) : Nat) : Int) := by
    rw [h0]
    push_cast
    omega
  exact_mod_cast h7

set_option maxRecDepth 4000 in
set_option maxHeartbeats 1000000 in
theorem C6_falls (a n : Nat) (ha : a < 2147483648) (hn : n < 100) (f : fv_F) : fv_M Y6_falls 2 0 0 [.int (nI a), .int (nI n)] f none (fv_eq (some (.int (nI (ofal (dgt a n) n)))) f) := by
  refine fv_enter rfl (Nat.le_of_ble_eq_true rfl) ?_
  obtain ⟨Q, hQ⟩ : ∃ Q : Option Value → fv_F → Option Nat → Prop, Q = (fv_eq (some (.int (nI (ofal (dgt a n) n)))) f) := ⟨_, rfl⟩
  rw [← hQ]
  show fv_At Y6_falls 2 0 0 Q 0 [(0, .int (nI a)), (1, .int (nI n))] [] f none 0 0
  refine fx_iconst (v := (nI 0)) dX6_falls_0 (by decide) ?_
  refine fx_istore_n (lv2 := [(0, .int (nI a)), (1, .int (nI n)), (2, .int (nI 0))]) dX6_falls_1 (i := 2) rfl (by decide) rfl ?_
  refine fx_iconst (v := (nI 1)) dX6_falls_2 (by decide) ?_
  refine fx_istore_n (lv2 := [(0, .int (nI a)), (1, .int (nI n)), (2, .int (nI 0)), (3, .int (nI 1))]) dX6_falls_3 (i := 3) rfl (by decide) rfl ?_
  have L4 : ∀ (k : Nat) (c : Nat) (i : Nat), (i + 1 + k = n ∨ (n = 0 ∧ i = 0 ∧ k = 0)) → (ofal1 (dgt a n) n (n - i) i c = ofal (dgt a n) n) → fv_At Y6_falls 2 0 0 Q 4 [(0, .int (nI a)), (1, .int (nI n)), (2, .int (nI c)), (3, .int (nI (i + 1)))] [] f none 0 0 := by
    intro k
    induction k with
    | zero =>
      intro c i hi hR
      refine fx_iload_n dX6_falls_4 rfl (i := 3) rfl ?_
      refine fx_iload_n dX6_falls_5 rfl (i := 1) rfl ?_
      refine fn_icmp_ge (tgt := 51) dX6_falls_6 (by decide) (by omega) (by omega) (fun c6 => ?_) (fun c6 => ?_)
      · skip
        have hR2 : c = ofal (dgt a n) n := by
          rcases hi with h | h
          · rw [← hR, show n - i = 0 + 1 by omega, ofal1, show n - (i + 1) = 0 by omega]; rfl
          · rw [← hR, h.1, h.2.1]; rfl
        refine fx_iload_n dX6_falls_51 rfl (i := 2) rfl ?_
        exact fx_iret dX6_falls_52 rfl rfl rfl (by rw [hQ]; exact ⟨by rw [hR2], rfl, rfl⟩)
      · exfalso; omega
    | succ k ih4 =>
      intro c i hi hR
      refine fx_iload_n dX6_falls_4 rfl (i := 3) rfl ?_
      refine fx_iload_n dX6_falls_5 rfl (i := 1) rfl ?_
      refine fn_icmp_ge (tgt := 51) dX6_falls_6 (by decide) (by omega) (by omega) (fun c6 => ?_) (fun c6 => ?_)
      · exfalso; omega
      · skip
        refine fx_iload_n dX6_falls_9 rfl (i := 3) rfl ?_
        refine fx_iconst (v := (nI 1)) dX6_falls_10 (by decide) ?_
        refine fn_iadd dX6_falls_11 ?_
        refine fx_istore (lv2 := [(0, .int (nI a)), (1, .int (nI n)), (2, .int (nI c)), (3, .int (nI (i + 1))), (4, .int (nI ((i + 1) + 1)))]) dX6_falls_12 (by decide) rfl ?_
        have L14 : ∀ (k2 : Nat) (c2 : Nat) (j : Nat), (j + k2 = n) → (ofal2 (dgt a n) i k2 j c2 = ofal2 (dgt a n) i (n - (i + 1)) (i + 1) c) → fv_At Y6_falls 2 0 0 Q 14 [(0, .int (nI a)), (1, .int (nI n)), (2, .int (nI c2)), (3, .int (nI (i + 1))), (4, .int (nI (j + 1)))] [] f none 0 0 := by
          intro k2
          induction k2 with
          | zero =>
            intro c2 j hj hR14
            refine fx_iload dX6_falls_14 rfl ?_
            refine fx_iload_n dX6_falls_16 rfl (i := 1) rfl ?_
            refine fn_icmp_gt (tgt := 45) dX6_falls_17 (by decide) (by omega) (by omega) (fun c17 => ?_) (fun c17 => ?_)
            · skip
              refine fn_iinc (c := 1) (lv2 := [(0, .int (nI a)), (1, .int (nI n)), (2, .int (nI c2)), (3, .int (nI (i + 1 + 1))), (4, .int (nI (j + 1)))]) dX6_falls_45 (by decide) rfl (by decide) rfl ?_
              refine fx_goto (tgt := 4) dX6_falls_48 (by decide) ?_
              exact fn_sub [0, 1, 2, 3] rfl (ih4 c2 (i + 1) (by omega) (by rw [← hR, show n - i = n - (i + 1) + 1 by omega, ofal1]; exact congrArg _ hR14))
            · exfalso; omega
          | succ k2 ih14 =>
            intro c2 j hj hR14
            refine fx_iload dX6_falls_14 rfl ?_
            refine fx_iload_n dX6_falls_16 rfl (i := 1) rfl ?_
            refine fn_icmp_gt (tgt := 45) dX6_falls_17 (by decide) (by omega) (by omega) (fun c17 => ?_) (fun c17 => ?_)
            · exfalso; omega
            · skip
              refine fx_iload_n dX6_falls_20 rfl (i := 0) rfl ?_
              refine fx_iload_n dX6_falls_21 rfl (i := 1) rfl ?_
              refine fx_iload_n dX6_falls_22 rfl (i := 3) rfl ?_
              refine fn_cS dX6_falls_23 lk6_16 (C6_figure (a := a) (n := n) (p := i) (by omega) (by omega) (by omega) (f := f)) rfl rfl (by decide) (Nat.le_of_ble_eq_true rfl) ?_
              show fv_At Y6_falls 2 0 0 Q 26 [(0, .int (nI a)), (1, .int (nI n)), (2, .int (nI c2)), (3, .int (nI (i + 1))), (4, .int (nI (j + 1)))] [.int (nI (dgt a n i))] f none 0 0
              refine fx_iload_n dX6_falls_26 rfl (i := 0) rfl ?_
              refine fx_iload_n dX6_falls_27 rfl (i := 1) rfl ?_
              refine fx_iload dX6_falls_28 rfl ?_
              refine fn_cS dX6_falls_30 lk6_16 (C6_figure (a := a) (n := n) (p := j) (by omega) (by omega) (by omega) (f := f)) rfl rfl (by decide) (Nat.le_of_ble_eq_true rfl) ?_
              show fv_At Y6_falls 2 0 0 Q 33 [(0, .int (nI a)), (1, .int (nI n)), (2, .int (nI c2)), (3, .int (nI (i + 1))), (4, .int (nI (j + 1)))] [.int (nI (dgt a n j)), .int (nI (dgt a n i))] f none 0 0
              refine fn_icmp_le (tgt := 39) dX6_falls_33 (by decide) (Nat.lt_trans (fat_lt _ _) (by decide)) (Nat.lt_trans (fat_lt _ _) (by decide)) (fun c33 => ?_) (fun c33 => ?_)
              · skip
                refine fn_iinc (c := 1) (lv2 := [(0, .int (nI a)), (1, .int (nI n)), (2, .int (nI c2)), (3, .int (nI (i + 1))), (4, .int (nI (j + 1 + 1)))]) dX6_falls_39 (by decide) rfl (by decide) rfl ?_
                refine fx_goto (tgt := 14) dX6_falls_42 (by decide) ?_
                exact (ih14 c2 (j + 1) (by omega) (by rw [← hR14, ofal2]; split <;> first | rfl | omega))
              · skip
                refine fn_iinc (c := 1) (lv2 := [(0, .int (nI a)), (1, .int (nI n)), (2, .int (nI (c2 + 1))), (3, .int (nI (i + 1))), (4, .int (nI (j + 1)))]) dX6_falls_36 (by decide) rfl (by decide) rfl ?_
                refine fn_iinc (c := 1) (lv2 := [(0, .int (nI a)), (1, .int (nI n)), (2, .int (nI (c2 + 1))), (3, .int (nI (i + 1))), (4, .int (nI (j + 1 + 1)))]) dX6_falls_39 (by decide) rfl (by decide) rfl ?_
                refine fx_goto (tgt := 14) dX6_falls_42 (by decide) ?_
                exact (ih14 (c2 + 1) (j + 1) (by omega) (by rw [← hR14, ofal2]; split <;> first | rfl | omega))
        exact (L14 (n - (i + 1)) c (i + 1) (by omega) rfl)
  exact (L4 (n - 1) 0 0 (by omega) rfl)

set_option maxRecDepth 4000 in
set_option maxHeartbeats 1000000 in
theorem C6_swapped (o n a b : Nat) (ho : o < 2147483648) (hn : n < 100) (hab : a < b) (hb : b < n) (f : fv_F) : fv_M Y6_swapped 2 0 0 [.int (nI o), .int (nI n), .int (nI (a + 1)), .int (nI (b + 1))] f none (fv_eq (some (.int (nI (swp o n a b)))) f) := by
  refine fv_enter rfl (Nat.le_of_ble_eq_true rfl) ?_
  obtain ⟨Q, hQ⟩ : ∃ Q : Option Value → fv_F → Option Nat → Prop, Q = (fv_eq (some (.int (nI (swp o n a b)))) f) := ⟨_, rfl⟩
  rw [← hQ]
  show fv_At Y6_swapped 2 0 0 Q 0 [(0, .int (nI o)), (1, .int (nI n)), (2, .int (nI (a + 1))), (3, .int (nI (b + 1)))] [] f none 0 0
  refine fx_iload_n dX6_swapped_0 rfl (i := 0) rfl ?_
  refine fx_iload_n dX6_swapped_1 rfl (i := 1) rfl ?_
  refine fx_iload_n dX6_swapped_2 rfl (i := 3) rfl ?_
  refine fn_cS dX6_swapped_3 lk6_16 (C6_figure (a := o) (n := n) (p := b) (by omega) (by omega) (by omega) (f := f)) rfl rfl (by decide) (Nat.le_of_ble_eq_true rfl) ?_
  show fv_At Y6_swapped 2 0 0 Q 6 [(0, .int (nI o)), (1, .int (nI n)), (2, .int (nI (a + 1))), (3, .int (nI (b + 1)))] [.int (nI (dgt o n b))] f none 0 0
  refine fx_iload_n dX6_swapped_6 rfl (i := 0) rfl ?_
  refine fx_iload_n dX6_swapped_7 rfl (i := 1) rfl ?_
  refine fx_iload_n dX6_swapped_8 rfl (i := 2) rfl ?_
  refine fn_cS dX6_swapped_9 lk6_16 (C6_figure (a := o) (n := n) (p := a) (by omega) (by omega) (by omega) (f := f)) rfl rfl (by decide) (Nat.le_of_ble_eq_true rfl) ?_
  show fv_At Y6_swapped 2 0 0 Q 12 [(0, .int (nI o)), (1, .int (nI n)), (2, .int (nI (a + 1))), (3, .int (nI (b + 1)))] [.int (nI (dgt o n a)), .int (nI (dgt o n b))] f none 0 0
  refine fn_isubZ (a := ((dgt o n b : Nat) : Int)) (b := ((dgt o n a : Nat) : Int)) dX6_swapped_12 ?_
  refine fx_istore (lv2 := [(0, .int (nI o)), (1, .int (nI n)), (2, .int (nI (a + 1))), (3, .int (nI (b + 1))), (4, .int (iI ((((dgt o n b : Nat) : Int)) - (((dgt o n a : Nat) : Int)))))]) dX6_swapped_13 (by decide) rfl ?_
  refine fx_iload_n dX6_swapped_15 rfl (i := 0) rfl ?_
  refine fx_iload dX6_swapped_16 rfl ?_
  refine fx_bipush (v := (nI 10)) dX6_swapped_18 (by decide) ?_
  refine fx_iload_n dX6_swapped_20 rfl (i := 1) rfl ?_
  refine fx_iload_n dX6_swapped_21 rfl (i := 2) rfl ?_
  refine fn_isub dX6_swapped_22 (by omega) ?_
  refine fn_cS dX6_swapped_23 lk6_22 (C3_power (b := 10) (k := n - (a + 1)) (by omega) (f := f)) rfl rfl (by decide) (Nat.le_of_ble_eq_true rfl) ?_
  show fv_At Y6_swapped 2 0 0 Q 26 [(0, .int (nI o)), (1, .int (nI n)), (2, .int (nI (a + 1))), (3, .int (nI (b + 1))), (4, .int (iI ((((dgt o n b : Nat) : Int)) - (((dgt o n a : Nat) : Int)))))] [.int (nI (10 ^ (n - (a + 1)))), .int (iI ((((dgt o n b : Nat) : Int)) - (((dgt o n a : Nat) : Int)))), .int (nI o)] f none 0 0
  refine fx_bipush (v := (nI 10)) dX6_swapped_26 (by decide) ?_
  refine fx_iload_n dX6_swapped_28 rfl (i := 1) rfl ?_
  refine fx_iload_n dX6_swapped_29 rfl (i := 3) rfl ?_
  refine fn_isub dX6_swapped_30 (by omega) ?_
  refine fn_cS dX6_swapped_31 lk6_22 (C3_power (b := 10) (k := n - (b + 1)) (by omega) (f := f)) rfl rfl (by decide) (Nat.le_of_ble_eq_true rfl) ?_
  show fv_At Y6_swapped 2 0 0 Q 34 [(0, .int (nI o)), (1, .int (nI n)), (2, .int (nI (a + 1))), (3, .int (nI (b + 1))), (4, .int (iI ((((dgt o n b : Nat) : Int)) - (((dgt o n a : Nat) : Int)))))] [.int (nI (10 ^ (n - (b + 1)))), .int (nI (10 ^ (n - (a + 1)))), .int (iI ((((dgt o n b : Nat) : Int)) - (((dgt o n a : Nat) : Int)))), .int (nI o)] f none 0 0
  refine fn_isubZ (a := ((10 ^ (n - (a + 1)) : Nat) : Int)) (b := ((10 ^ (n - (b + 1)) : Nat) : Int)) dX6_swapped_34 ?_
  refine fn_imulZ (a := (((dgt o n b : Nat) : Int)) - (((dgt o n a : Nat) : Int))) (b := (((10 ^ (n - (a + 1)) : Nat) : Int)) - (((10 ^ (n - (b + 1)) : Nat) : Int))) dX6_swapped_35 ?_
  refine fn_iaddZ (a := ((o : Nat) : Int)) (b := ((((dgt o n b : Nat) : Int)) - (((dgt o n a : Nat) : Int))) * ((((10 ^ (n - (a + 1)) : Nat) : Int)) - (((10 ^ (n - (b + 1)) : Nat) : Int)))) dX6_swapped_36 ?_
  exact fx_iret dX6_swapped_37 rfl rfl rfl (by rw [hQ]; exact ⟨by rw [← iI_n, swp_eq hab hb]; push_cast; rw [show n - (a + 1) = n - 1 - a by omega, show n - (b + 1) = n - 1 - b by omega], rfl, rfl⟩)

/-- the inverse: place i + 1 comes to the place that its figure tells -/
def oinv (h : Nat → Nat) (n : Nat) : Nat → Nat → Nat → Nat
  | 0, _, c => c
  | k + 1, i, c => oinv h n k (i + 1) (c + (i + 1) * 10 ^ (n - h i))
set_option maxRecDepth 4000 in
set_option maxHeartbeats 1000000 in
theorem C6_inverted (a n : Nat) (ha : a < 2147483648) (hn : n < 100) (hv : ∀ p, p < n → dgt a n p ≤ n) (f : fv_F) : fv_M Y6_inverted 2 0 0 [.int (nI a), .int (nI n)] f none (fv_eq (some (.int (nI (oinv (dgt a n) n n 0 0)))) f) := by
  refine fv_enter rfl (Nat.le_of_ble_eq_true rfl) ?_
  obtain ⟨Q, hQ⟩ : ∃ Q : Option Value → fv_F → Option Nat → Prop, Q = (fv_eq (some (.int (nI (oinv (dgt a n) n n 0 0)))) f) := ⟨_, rfl⟩
  rw [← hQ]
  show fv_At Y6_inverted 2 0 0 Q 0 [(0, .int (nI a)), (1, .int (nI n))] [] f none 0 0
  refine fx_iconst (v := (nI 0)) dX6_inverted_0 (by decide) ?_
  refine fx_istore_n (lv2 := [(0, .int (nI a)), (1, .int (nI n)), (2, .int (nI 0))]) dX6_inverted_1 (i := 2) rfl (by decide) rfl ?_
  refine fx_iconst (v := (nI 1)) dX6_inverted_2 (by decide) ?_
  refine fx_istore_n (lv2 := [(0, .int (nI a)), (1, .int (nI n)), (2, .int (nI 0)), (3, .int (nI 1))]) dX6_inverted_3 (i := 3) rfl (by decide) rfl ?_
  have L4 : ∀ (k : Nat) (c : Nat) (i : Nat), (i + k = n) → (oinv (dgt a n) n k i c = oinv (dgt a n) n n 0 0) → fv_At Y6_inverted 2 0 0 Q 4 [(0, .int (nI a)), (1, .int (nI n)), (2, .int (nI c)), (3, .int (nI (i + 1)))] [] f none 0 0 := by
    intro k
    induction k with
    | zero =>
      intro c i hi hR
      refine fx_iload_n dX6_inverted_4 rfl (i := 3) rfl ?_
      refine fx_iload_n dX6_inverted_5 rfl (i := 1) rfl ?_
      refine fn_icmp_gt (tgt := 33) dX6_inverted_6 (by decide) (by omega) (by omega) (fun c6 => ?_) (fun c6 => ?_)
      · skip
        refine fx_iload_n dX6_inverted_33 rfl (i := 2) rfl ?_
        exact fx_iret dX6_inverted_34 rfl rfl rfl (by rw [hQ]; exact ⟨by rw [← hR]; rfl, rfl, rfl⟩)
      · exfalso; omega
    | succ k ih4 =>
      intro c i hi hR
      refine fx_iload_n dX6_inverted_4 rfl (i := 3) rfl ?_
      refine fx_iload_n dX6_inverted_5 rfl (i := 1) rfl ?_
      refine fn_icmp_gt (tgt := 33) dX6_inverted_6 (by decide) (by omega) (by omega) (fun c6 => ?_) (fun c6 => ?_)
      · exfalso; omega
      · skip
        refine fx_iload_n dX6_inverted_9 rfl (i := 2) rfl ?_
        refine fx_iload_n dX6_inverted_10 rfl (i := 3) rfl ?_
        refine fx_bipush (v := (nI 10)) dX6_inverted_11 (by decide) ?_
        refine fx_iload_n dX6_inverted_13 rfl (i := 1) rfl ?_
        refine fx_iload_n dX6_inverted_14 rfl (i := 0) rfl ?_
        refine fx_iload_n dX6_inverted_15 rfl (i := 1) rfl ?_
        refine fx_iload_n dX6_inverted_16 rfl (i := 3) rfl ?_
        refine fn_cS dX6_inverted_17 lk6_16 (C6_figure (a := a) (n := n) (p := i) (by omega) (by omega) (by omega) (f := f)) rfl rfl (by decide) (Nat.le_of_ble_eq_true rfl) ?_
        show fv_At Y6_inverted 2 0 0 Q 20 [(0, .int (nI a)), (1, .int (nI n)), (2, .int (nI c)), (3, .int (nI (i + 1)))] [.int (nI (dgt a n i)), .int (nI n), .int (nI 10), .int (nI (i + 1)), .int (nI c)] f none 0 0
        refine fn_isub dX6_inverted_20 (hv i (by omega)) ?_
        refine fn_cS dX6_inverted_21 lk6_22 (C3_power (b := 10) (k := n - (dgt a n i)) (by omega) (f := f)) rfl rfl (by decide) (Nat.le_of_ble_eq_true rfl) ?_
        show fv_At Y6_inverted 2 0 0 Q 24 [(0, .int (nI a)), (1, .int (nI n)), (2, .int (nI c)), (3, .int (nI (i + 1)))] [.int (nI (10 ^ (n - (dgt a n i)))), .int (nI (i + 1)), .int (nI c)] f none 0 0
        refine fn_imul dX6_inverted_24 ?_
        refine fn_iadd dX6_inverted_25 ?_
        refine fx_istore_n (lv2 := [(0, .int (nI a)), (1, .int (nI n)), (2, .int (nI (c + ((i + 1) * (10 ^ (n - (dgt a n i))))))), (3, .int (nI (i + 1)))]) dX6_inverted_26 (i := 2) rfl (by decide) rfl ?_
        refine fn_iinc (c := 1) (lv2 := [(0, .int (nI a)), (1, .int (nI n)), (2, .int (nI (c + ((i + 1) * (10 ^ (n - (dgt a n i))))))), (3, .int (nI (i + 1 + 1)))]) dX6_inverted_27 (by decide) rfl (by decide) rfl ?_
        refine fx_goto (tgt := 4) dX6_inverted_30 (by decide) ?_
        exact (ih4 (c + ((i + 1) * (10 ^ (n - (dgt a n i))))) (i + 1) (by omega) hR)
  exact (L4 n 0 0 (by omega) rfl)

/-- the first place whose figure is above the next one, or not; 0: there is none -/
def ofst (h : Nat → Nat) (b : Bool) : Nat → Nat → Nat
  | 0, _ => 0
  | k + 1, i => if decide (h (i + 1) < h i) = b then i + 1 else ofst h b k (i + 1)
set_option maxRecDepth 4000 in
set_option maxHeartbeats 1000000 in
theorem C6_firstStep (a n : Nat) (b : Bool) (ha : a < 2147483648) (hn : n < 100) (f : fv_F) : fv_M Y6_firstStep 2 0 0 [.int (nI a), .int (nI n), .int (bI b)] f none (fv_eq (some (.int (nI (ofst (dgt a n) b (n - 1) 0)))) f) := by
  refine fv_enter rfl (Nat.le_of_ble_eq_true rfl) ?_
  obtain ⟨Q, hQ⟩ : ∃ Q : Option Value → fv_F → Option Nat → Prop, Q = (fv_eq (some (.int (nI (ofst (dgt a n) b (n - 1) 0)))) f) := ⟨_, rfl⟩
  rw [← hQ]
  show fv_At Y6_firstStep 2 0 0 Q 0 [(0, .int (nI a)), (1, .int (nI n)), (2, .int (bI b))] [] f none 0 0
  refine fx_iconst (v := (nI 1)) dX6_firstStep_0 (by decide) ?_
  refine fx_istore_n (lv2 := [(0, .int (nI a)), (1, .int (nI n)), (2, .int (bI b)), (3, .int (nI 1))]) dX6_firstStep_1 (i := 3) rfl (by decide) rfl ?_
  have L2 : ∀ (k : Nat) (i : Nat), (i + 1 + k = n ∨ (n = 0 ∧ i = 0 ∧ k = 0)) → (ofst (dgt a n) b k i = ofst (dgt a n) b (n - 1) 0) → fv_At Y6_firstStep 2 0 0 Q 2 [(0, .int (nI a)), (1, .int (nI n)), (2, .int (bI b)), (3, .int (nI (i + 1)))] [] f none 0 0 := by
    intro k
    induction k with
    | zero =>
      intro i hi hR
      refine fx_iload_n dX6_firstStep_2 rfl (i := 3) rfl ?_
      refine fx_iload_n dX6_firstStep_3 rfl (i := 1) rfl ?_
      refine fn_icmp_ge (tgt := 41) dX6_firstStep_4 (by decide) (by omega) (by omega) (fun c4 => ?_) (fun c4 => ?_)
      · skip
        refine fx_iconst (v := (nI 0)) dX6_firstStep_41 (by decide) ?_
        exact fx_iret dX6_firstStep_42 rfl rfl rfl (by rw [hQ]; exact ⟨by rw [← hR]; rfl, rfl, rfl⟩)
      · exfalso; omega
    | succ k ih2 =>
      intro i hi hR
      refine fx_iload_n dX6_firstStep_2 rfl (i := 3) rfl ?_
      refine fx_iload_n dX6_firstStep_3 rfl (i := 1) rfl ?_
      refine fn_icmp_ge (tgt := 41) dX6_firstStep_4 (by decide) (by omega) (by omega) (fun c4 => ?_) (fun c4 => ?_)
      · exfalso; omega
      · skip
        refine fx_iload_n dX6_firstStep_7 rfl (i := 0) rfl ?_
        refine fx_iload_n dX6_firstStep_8 rfl (i := 1) rfl ?_
        refine fx_iload_n dX6_firstStep_9 rfl (i := 3) rfl ?_
        refine fn_cS dX6_firstStep_10 lk6_16 (C6_figure (a := a) (n := n) (p := i) (by omega) (by omega) (by omega) (f := f)) rfl rfl (by decide) (Nat.le_of_ble_eq_true rfl) ?_
        show fv_At Y6_firstStep 2 0 0 Q 13 [(0, .int (nI a)), (1, .int (nI n)), (2, .int (bI b)), (3, .int (nI (i + 1)))] [.int (nI (dgt a n i))] f none 0 0
        refine fx_iload_n dX6_firstStep_13 rfl (i := 0) rfl ?_
        refine fx_iload_n dX6_firstStep_14 rfl (i := 1) rfl ?_
        refine fx_iload_n dX6_firstStep_15 rfl (i := 3) rfl ?_
        refine fx_iconst (v := (nI 1)) dX6_firstStep_16 (by decide) ?_
        refine fn_iadd dX6_firstStep_17 ?_
        refine fn_cS dX6_firstStep_18 lk6_16 (C6_figure (a := a) (n := n) (p := i + 1) (by omega) (by omega) (by omega) (f := f)) rfl rfl (by decide) (Nat.le_of_ble_eq_true rfl) ?_
        show fv_At Y6_firstStep 2 0 0 Q 21 [(0, .int (nI a)), (1, .int (nI n)), (2, .int (bI b)), (3, .int (nI (i + 1)))] [.int (nI (dgt a n (i + 1))), .int (nI (dgt a n i))] f none 0 0
        refine fn_icmp_le (tgt := 28) dX6_firstStep_21 (by decide) (Nat.lt_trans (dgt_lt _ _ _) (by decide)) (Nat.lt_trans (dgt_lt _ _ _) (by decide)) (fun c21 => ?_) (fun c21 => ?_)
        · skip
          refine fx_iconst (v := (nI 0)) dX6_firstStep_28 (by decide) ?_
          refine fn_to (show _ = (bI false) from rfl) ?_
          refine fx_iload_n dX6_firstStep_29 rfl (i := 2) rfl ?_
          refine fn_icmp_neB (tgt := 35) dX6_firstStep_30 (by decide) (fun c30 => ?_) (fun c30 => ?_)
          · skip
            refine fn_iinc (c := 1) (lv2 := [(0, .int (nI a)), (1, .int (nI n)), (2, .int (bI b)), (3, .int (nI (i + 1 + 1)))]) dX6_firstStep_35 (by decide) rfl (by decide) rfl ?_
            refine fx_goto (tgt := 2) dX6_firstStep_38 (by decide) ?_
            exact (ih2 (i + 1) (by omega) (by rw [← hR, ofst, if_neg (by cases b <;> simp_all)]))
          · skip
            refine fx_iload_n dX6_firstStep_33 rfl (i := 3) rfl ?_
            exact fx_iret dX6_firstStep_34 rfl rfl rfl (by rw [hQ]; exact ⟨by rw [← hR, ofst, if_pos (by cases b <;> simp_all)], rfl, rfl⟩)
        · skip
          refine fx_iconst (v := (nI 1)) dX6_firstStep_24 (by decide) ?_
          refine fn_to (show _ = (bI true) from rfl) ?_
          refine fx_goto (tgt := 29) dX6_firstStep_25 (by decide) ?_
          refine fx_iload_n dX6_firstStep_29 rfl (i := 2) rfl ?_
          refine fn_icmp_neB (tgt := 35) dX6_firstStep_30 (by decide) (fun c30 => ?_) (fun c30 => ?_)
          · skip
            refine fn_iinc (c := 1) (lv2 := [(0, .int (nI a)), (1, .int (nI n)), (2, .int (bI b)), (3, .int (nI (i + 1 + 1)))]) dX6_firstStep_35 (by decide) rfl (by decide) rfl ?_
            refine fx_goto (tgt := 2) dX6_firstStep_38 (by decide) ?_
            exact (ih2 (i + 1) (by omega) (by rw [← hR, ofst, if_neg (by cases b <;> simp_all)]))
          · skip
            refine fx_iload_n dX6_firstStep_33 rfl (i := 3) rfl ?_
            exact fx_iret dX6_firstStep_34 rfl rfl rfl (by rw [hQ]; exact ⟨by rw [← hR, ofst, if_pos (by cases b <;> simp_all)], rfl, rfl⟩)
  exact (L2 (n - 1) 0 (by omega) rfl)

/-- how many figures, and which -/
def figl : Nat → Nat → Nat → Nat → Nat × Nat
  | 0, n, s, _ => (n, s)
  | k + 1, n, s, r => if 0 < r then figl k (n + 1) (s ||| 2 ^ (r % 10)) (r / 10) else (n, s)
def figN (o : Nat) : Nat := if (figl 5 0 0 o).2 = 2 ^ ((figl 5 0 0 o).1 + 1) - 2 then (figl 5 0 0 o).1 else 0
def figs (o : Int) : Nat := if o < 1 ∨ 54321 < o then 0 else figN o.toNat

set_option maxRecDepth 4000 in
set_option maxHeartbeats 1000000 in
theorem C6_figures (o : Int) (h1 : -2147483648 ≤ o) (h2 : o < 2147483648) (f : fv_F) : fv_M Y6_figures 0 0 0 [.int (iI o)] f none (fv_eq (some (.int (nI (figs o)))) f) := by
  refine fv_enter rfl (Nat.le_of_ble_eq_true rfl) ?_
  obtain ⟨Q, hQ⟩ : ∃ Q : Option Value → fv_F → Option Nat → Prop, Q = (fv_eq (some (.int (nI (figs o)))) f) := ⟨_, rfl⟩
  rw [← hQ]
  show fv_At Y6_figures 0 0 0 Q 0 [(0, .int (iI o))] [] f none 0 0
  refine fx_iload_n dX6_figures_0 rfl (i := 0) rfl ?_
  refine fx_iconst (v := (nI 1)) dX6_figures_1 (by decide) ?_
  refine fn_icmp_ltZ (a := o) (b := ((1 : Nat) : Int)) (tgt := 11) dX6_figures_2 (by decide) (by omega) (by omega) (by omega) (by omega) (fun c2 => ?_) (fun c2 => ?_)
  · skip
    refine fx_iconst (v := (nI 0)) dX6_figures_11 (by decide) ?_
    exact fx_iret dX6_figures_12 rfl rfl rfl (by rw [hQ]; exact ⟨by unfold figs; rw [if_pos (by omega)], rfl, rfl⟩)
  · skip
    refine fx_iload_n dX6_figures_5 rfl (i := 0) rfl ?_
    refine fx_ldc dX6_figures_6 kc6_9 (fn_to (show _ = (nI 54321) by decide) ?_)
    refine fn_icmp_leZ (a := o) (b := ((54321 : Nat) : Int)) (tgt := 13) dX6_figures_8 (by decide) (by omega) (by omega) (by omega) (by omega) (fun c8 => ?_) (fun c8 => ?_)
    · skip
      obtain ⟨w, rfl⟩ : ∃ w : Nat, o = (w : Int) := ⟨o.toNat, by omega⟩
      have hf : figs (w : Int) = figN w := by unfold figs; rw [if_neg (by omega)]; rfl
      show fv_At Y6_figures 0 0 0 Q 13 [(0, .int (nI w))] [] f none 0 0
      refine fx_iconst (v := (nI 0)) dX6_figures_13 (by decide) ?_
      refine fx_istore_n (lv2 := [(0, .int (nI w)), (1, .int (nI 0))]) dX6_figures_14 (i := 1) rfl (by decide) rfl ?_
      refine fx_iconst (v := (nI 0)) dX6_figures_15 (by decide) ?_
      refine fx_istore_n (lv2 := [(0, .int (nI w)), (1, .int (nI 0)), (2, .int (nI 0))]) dX6_figures_16 (i := 2) rfl (by decide) rfl ?_
      refine fx_iload_n dX6_figures_17 rfl (i := 0) rfl ?_
      refine fx_istore_n (lv2 := [(0, .int (nI w)), (1, .int (nI 0)), (2, .int (nI 0)), (3, .int (nI w))]) dX6_figures_18 (i := 3) rfl (by decide) rfl ?_
      have L19 : ∀ (k : Nat) (n : Nat) (s : Nat) (r : Nat), (n + k = 5) → (r < 100000) → (s < 1024) → (figl k n s r = figl 5 0 0 w) → fv_At Y6_figures 0 0 0 Q 19 [(0, .int (nI w)), (1, .int (nI n)), (2, .int (nI s)), (3, .int (nI r))] [] f none 0 0 := by
        intro k
        induction k with
        | zero =>
          intro n s r hn hb hs hR
          refine fx_iload_n dX6_figures_19 rfl (i := 1) rfl ?_
          refine fx_iconst (v := (nI 5)) dX6_figures_20 (by decide) ?_
          refine fn_icmp_ge (tgt := 48) dX6_figures_21 (by decide) (by omega) (by omega) (fun c21 => ?_) (fun c21 => ?_)
          · skip
            have hq : figl 5 0 0 w = (n, s) := by first | exact hR.symm | rw [← hR, figl, if_neg (by omega)]
            have e2 : 2 ^ (n + 1) ≤ 2 ^ 6 := Nat.pow_le_pow_right (by decide) (by omega)
            have e3 : 2 ^ 1 ≤ 2 ^ (n + 1) := Nat.pow_le_pow_right (by decide) (by omega)
            refine fx_iload_n dX6_figures_48 rfl (i := 2) rfl ?_
            refine fx_iconst (v := (nI 1)) dX6_figures_49 (by decide) ?_
            refine fx_iload_n dX6_figures_50 rfl (i := 1) rfl ?_
            refine fx_iconst (v := (nI 1)) dX6_figures_51 (by decide) ?_
            refine fn_iadd dX6_figures_52 ?_
            refine fx_ishl dX6_figures_53 ?_
            refine fn_to (show _ = (nI (2 ^ (n + 1))) from (nI_shl1 _ (by omega))) ?_
            refine fx_iconst (v := (nI 2)) dX6_figures_54 (by decide) ?_
            refine fn_isub dX6_figures_55 (by omega) ?_
            refine fn_icmp_ne (tgt := 63) dX6_figures_56 (by decide) (by omega) (by omega) (fun c56 => ?_) (fun c56 => ?_)
            · skip
              refine fx_iconst (v := (nI 0)) dX6_figures_63 (by decide) ?_
              exact fx_iret dX6_figures_64 rfl rfl rfl (by rw [hQ]; exact ⟨by rw [hf]; unfold figN; simp only [hq]; first | rw [if_pos c56] | rw [if_neg c56], rfl, rfl⟩)
            · skip
              refine fx_iload_n dX6_figures_59 rfl (i := 1) rfl ?_
              refine fx_goto (tgt := 64) dX6_figures_60 (by decide) ?_
              exact fx_iret dX6_figures_64 rfl rfl rfl (by rw [hQ]; exact ⟨by rw [hf]; unfold figN; simp only [hq]; first | rw [if_pos c56] | rw [if_neg c56], rfl, rfl⟩)
          · exfalso; omega
        | succ k ih19 =>
          intro n s r hn hb hs hR
          refine fx_iload_n dX6_figures_19 rfl (i := 1) rfl ?_
          refine fx_iconst (v := (nI 5)) dX6_figures_20 (by decide) ?_
          refine fn_icmp_ge (tgt := 48) dX6_figures_21 (by decide) (by omega) (by omega) (fun c21 => ?_) (fun c21 => ?_)
          · exfalso; omega
          · skip
            refine fx_iload_n dX6_figures_24 rfl (i := 3) rfl ?_
            refine fn_if_le (tgt := 48) dX6_figures_25 (by decide) (by omega) (fun c25 => ?_) (fun c25 => ?_)
            · skip
              have hq : figl 5 0 0 w = (n, s) := by first | exact hR.symm | rw [← hR, figl, if_neg (by omega)]
              have e2 : 2 ^ (n + 1) ≤ 2 ^ 6 := Nat.pow_le_pow_right (by decide) (by omega)
              have e3 : 2 ^ 1 ≤ 2 ^ (n + 1) := Nat.pow_le_pow_right (by decide) (by omega)
              refine fx_iload_n dX6_figures_48 rfl (i := 2) rfl ?_
              refine fx_iconst (v := (nI 1)) dX6_figures_49 (by decide) ?_
              refine fx_iload_n dX6_figures_50 rfl (i := 1) rfl ?_
              refine fx_iconst (v := (nI 1)) dX6_figures_51 (by decide) ?_
              refine fn_iadd dX6_figures_52 ?_
              refine fx_ishl dX6_figures_53 ?_
              refine fn_to (show _ = (nI (2 ^ (n + 1))) from (nI_shl1 _ (by omega))) ?_
              refine fx_iconst (v := (nI 2)) dX6_figures_54 (by decide) ?_
              refine fn_isub dX6_figures_55 (by omega) ?_
              refine fn_icmp_ne (tgt := 63) dX6_figures_56 (by decide) (by omega) (by omega) (fun c56 => ?_) (fun c56 => ?_)
              · skip
                refine fx_iconst (v := (nI 0)) dX6_figures_63 (by decide) ?_
                exact fx_iret dX6_figures_64 rfl rfl rfl (by rw [hQ]; exact ⟨by rw [hf]; unfold figN; simp only [hq]; first | rw [if_pos c56] | rw [if_neg c56], rfl, rfl⟩)
              · skip
                refine fx_iload_n dX6_figures_59 rfl (i := 1) rfl ?_
                refine fx_goto (tgt := 64) dX6_figures_60 (by decide) ?_
                exact fx_iret dX6_figures_64 rfl rfl rfl (by rw [hQ]; exact ⟨by rw [hf]; unfold figN; simp only [hq]; first | rw [if_pos c56] | rw [if_neg c56], rfl, rfl⟩)
            · skip
              refine fx_iload_n dX6_figures_28 rfl (i := 2) rfl ?_
              refine fx_iconst (v := (nI 1)) dX6_figures_29 (by decide) ?_
              refine fx_iload_n dX6_figures_30 rfl (i := 3) rfl ?_
              refine fx_bipush (v := (nI 10)) dX6_figures_31 (by decide) ?_
              refine fn_irem dX6_figures_33 (by omega) (by omega) (by omega) ?_
              refine fx_ishl dX6_figures_34 ?_
              refine fn_to (show _ = (nI (2 ^ (r % 10))) from (nI_shl1 _ (by omega))) ?_
              refine fx_ior dX6_figures_35 ?_
              refine fn_to (show _ = (nI (s ||| 2 ^ (r % 10))) from (nI_or _ _)) ?_
              refine fx_istore_n (lv2 := [(0, .int (nI w)), (1, .int (nI n)), (2, .int (nI (s ||| 2 ^ (r % 10)))), (3, .int (nI r))]) dX6_figures_36 (i := 2) rfl (by decide) rfl ?_
              refine fx_iload_n dX6_figures_37 rfl (i := 3) rfl ?_
              refine fx_bipush (v := (nI 10)) dX6_figures_38 (by decide) ?_
              refine fn_idiv dX6_figures_40 (by omega) (by omega) (by omega) ?_
              refine fx_istore_n (lv2 := [(0, .int (nI w)), (1, .int (nI n)), (2, .int (nI (s ||| 2 ^ (r % 10)))), (3, .int (nI (r / 10)))]) dX6_figures_41 (i := 3) rfl (by decide) rfl ?_
              refine fn_iinc (c := 1) (lv2 := [(0, .int (nI w)), (1, .int (nI (n + 1))), (2, .int (nI (s ||| 2 ^ (r % 10)))), (3, .int (nI (r / 10)))]) dX6_figures_42 (by decide) rfl (by decide) rfl ?_
              refine fx_goto (tgt := 19) dX6_figures_45 (by decide) ?_
              exact (ih19 (n + 1) (s ||| 2 ^ (r % 10)) (r / 10) (by omega) (by omega) (Nat.or_lt_two_pow (n := 10) hs (Nat.pow_lt_pow_right (by decide) (by omega))) (by rw [← hR, figl, if_pos (by omega)]))
      exact (L19 5 0 0 w (by omega) (by omega) (by omega) rfl)
    · skip
      refine fx_iconst (v := (nI 0)) dX6_figures_11 (by decide) ?_
      exact fx_iret dX6_figures_12 rfl rfl rfl (by rw [hQ]; exact ⟨by unfold figs; rw [if_pos (by omega)], rfl, rfl⟩)
