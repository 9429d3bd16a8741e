/-- how many orders have a length -/
def olenS (g : Nat → Nat) (len : Nat) : Nat → Nat → Nat → Nat
  | 0, _, c => c
  | k + 1, b, c => if b ≤ len then olenS g len k (b + 1) (c + g (len - b)) else c
def olen : Nat → Nat → Nat
  | 0, len => if len = 0 then 1 else 0
  | 1, len => if len = 0 then 1 else 0
  | n + 2, len => olenS (olen (n + 1)) len (n + 2) 0 0
theorem olen_2 (n len : Nat) (h : 1 < n) : olen n len = olenS (olen (n - 1)) len n 0 0 := by
  match n, h with
  | n + 2, _ => rfl
theorem olen_1 (n len : Nat) (h : n ≤ 1) : olen n len = if len = 0 then 1 else 0 := by
  match n, h with
  | 0, _ => rfl
  | 1, _ => rfl

set_option maxRecDepth 4000 in
set_option maxHeartbeats 1000000 in
theorem C6_ofLength_1 (n l : Nat) (hn : n < 100) (hl : l < 2147483648) (ih : ∀ (m l : Nat) (f : fv_F), m < n → l < 2147483648 → fv_M Y6_ofLength m 0 0 [.int (nI m), .int (nI l)] f none (fv_eq (some (.int (nI (olen m l)))) f)) (f : fv_F) : fv_M Y6_ofLength n 0 0 [.int (nI n), .int (nI l)] f none (fv_eq (some (.int (nI (olen n l)))) f) := by
  refine fv_enter rfl (Nat.le_of_ble_eq_true rfl) ?_
  obtain ⟨Q, hQ⟩ : ∃ Q : Option Value → fv_F → Option Nat → Prop, Q = (fv_eq (some (.int (nI (olen n l)))) f) := ⟨_, rfl⟩
  rw [← hQ]
  show fv_At Y6_ofLength n 0 0 Q 0 [(0, .int (nI n)), (1, .int (nI l))] [] f none 0 0
  refine fx_iload_n dX6_ofLength_0 rfl (i := 0) rfl ?_
  refine fx_iconst (v := (nI 1)) dX6_ofLength_1 (by decide) ?_
  refine fn_icmp_gt (tgt := 15) dX6_ofLength_2 (by decide) (by omega) (by omega) (fun c2 => ?_) (fun c2 => ?_)
  · skip
    refine fx_iconst (v := (nI 0)) dX6_ofLength_15 (by decide) ?_
    refine fx_istore_n (lv2 := [(0, .int (nI n)), (1, .int (nI l)), (2, .int (nI 0))]) dX6_ofLength_16 (i := 2) rfl (by decide) rfl ?_
    refine fx_iconst (v := (nI 0)) dX6_ofLength_17 (by decide) ?_
    refine fx_istore_n (lv2 := [(0, .int (nI n)), (1, .int (nI l)), (2, .int (nI 0)), (3, .int (nI 0))]) dX6_ofLength_18 (i := 3) rfl (by decide) rfl ?_
    have L19 : ∀ (k : Nat) (c : Nat) (b : Nat), (b + k = n) → (olenS (olen (n - 1)) l k b c = olen n l) → fv_At Y6_ofLength n 0 0 Q 19 [(0, .int (nI n)), (1, .int (nI l)), (2, .int (nI c)), (3, .int (nI b))] [] f none 0 0 := by
      intro k
      induction k with
      | zero =>
        intro c b hb hR
        refine fx_iload_n dX6_ofLength_19 rfl (i := 3) rfl ?_
        refine fx_iload_n dX6_ofLength_20 rfl (i := 0) rfl ?_
        refine fn_icmp_ge (tgt := 47) dX6_ofLength_21 (by decide) (by omega) (by omega) (fun c21 => ?_) (fun c21 => ?_)
        · skip
          refine fx_iload_n dX6_ofLength_47 rfl (i := 2) rfl ?_
          exact fx_iret dX6_ofLength_48 rfl rfl rfl (by rw [hQ]; exact ⟨by rw [← hR]; first | rfl | rw [olenS, if_neg (by omega)], rfl, rfl⟩)
        · exfalso; omega
      | succ k ih19 =>
        intro c b hb hR
        refine fx_iload_n dX6_ofLength_19 rfl (i := 3) rfl ?_
        refine fx_iload_n dX6_ofLength_20 rfl (i := 0) rfl ?_
        refine fn_icmp_ge (tgt := 47) dX6_ofLength_21 (by decide) (by omega) (by omega) (fun c21 => ?_) (fun c21 => ?_)
        · exfalso; omega
        · skip
          refine fx_iload_n dX6_ofLength_24 rfl (i := 3) rfl ?_
          refine fx_iload_n dX6_ofLength_25 rfl (i := 1) rfl ?_
          refine fn_icmp_gt (tgt := 47) dX6_ofLength_26 (by decide) (by omega) (by omega) (fun c26 => ?_) (fun c26 => ?_)
          · skip
            refine fx_iload_n dX6_ofLength_47 rfl (i := 2) rfl ?_
            exact fx_iret dX6_ofLength_48 rfl rfl rfl (by rw [hQ]; exact ⟨by rw [← hR]; first | rfl | rw [olenS, if_neg (by omega)], rfl, rfl⟩)
          · skip
            refine fx_iload_n dX6_ofLength_29 rfl (i := 2) rfl ?_
            refine fx_iload_n dX6_ofLength_30 rfl (i := 0) rfl ?_
            refine fx_iconst (v := (nI 1)) dX6_ofLength_31 (by decide) ?_
            refine fn_isub dX6_ofLength_32 (by omega) ?_
            refine fx_iload_n dX6_ofLength_33 rfl (i := 1) rfl ?_
            refine fx_iload_n dX6_ofLength_34 rfl (i := 3) rfl ?_
            refine fn_isub dX6_ofLength_35 (by omega) ?_
            refine fn_cS dX6_ofLength_36 lk6_25 (ih (n - 1) (l - b) f (by omega) (by omega)) rfl rfl (by omega) (Nat.le_of_ble_eq_true rfl) ?_
            show fv_At Y6_ofLength n 0 0 Q 39 [(0, .int (nI n)), (1, .int (nI l)), (2, .int (nI c)), (3, .int (nI b))] [.int (nI (olen (n - 1) (l - b))), .int (nI c)] f none 0 0
            refine fn_iadd dX6_ofLength_39 ?_
            refine fx_istore_n (lv2 := [(0, .int (nI n)), (1, .int (nI l)), (2, .int (nI (c + (olen (n - 1) (l - b))))), (3, .int (nI b))]) dX6_ofLength_40 (i := 2) rfl (by decide) rfl ?_
            refine fn_iinc (c := 1) (lv2 := [(0, .int (nI n)), (1, .int (nI l)), (2, .int (nI (c + (olen (n - 1) (l - b))))), (3, .int (nI (b + 1)))]) dX6_ofLength_41 (by decide) rfl (by decide) rfl ?_
            refine fx_goto (tgt := 19) dX6_ofLength_44 (by decide) ?_
            exact (ih19 (c + (olen (n - 1) (l - b))) (b + 1) (by omega) (by rw [← hR, olenS, if_pos (by omega)]))
    exact (L19 n 0 0 (by omega) (olen_2 n l (by omega)).symm)
  · skip
    refine fx_iload_n dX6_ofLength_5 rfl (i := 1) rfl ?_
    refine fn_if_ne (tgt := 13) dX6_ofLength_6 (by decide) (by omega) (fun c6 => ?_) (fun c6 => ?_)
    · skip
      refine fx_iconst (v := (nI 0)) dX6_ofLength_13 (by decide) ?_
      exact fx_iret dX6_ofLength_14 rfl rfl rfl (by rw [hQ]; exact ⟨by rw [olen_1 n l (by omega)]; first | rw [if_pos c6] | rw [if_neg (by omega)], rfl, rfl⟩)
    · skip
      refine fx_iconst (v := (nI 1)) dX6_ofLength_9 (by decide) ?_
      refine fx_goto (tgt := 14) dX6_ofLength_10 (by decide) ?_
      exact fx_iret dX6_ofLength_14 rfl rfl rfl (by rw [hQ]; exact ⟨by rw [olen_1 n l (by omega)]; first | rw [if_pos c6] | rw [if_neg (by omega)], rfl, rfl⟩)

theorem C6_ofLength (n l : Nat) (f : fv_F) (hn : n < 100) (hl : l < 2147483648) : fv_M Y6_ofLength n 0 0 [.int (nI n), .int (nI l)] f none (fv_eq (some (.int (nI (olen n l)))) f) := by
  induction n using Nat.strongRecOn generalizing l f with
  | _ n ih => exact C6_ofLength_1 n l hn hl (fun m l2 f2 h h2 => ih m h l2 f2 (by omega) h2) f

theorem swp_b {o n a b : Nat} (h : a < b) (hb : b < n) (hn : n ≤ 5) (ho : o < 100000) : swp o n a b < 10000000 := by
  have h1 := swp_lt (o := o) h hb
  have h2 : 10 ^ (n - 1 - a) ≤ 10 ^ 4 := Nat.pow_le_pow_right (by decide) (by omega)
  have h3 : 10 ^ (n - 1 - b) ≤ 10 ^ 4 := Nat.pow_le_pow_right (by decide) (by omega)
  omega
/-- the least order above a number that comes by an exchange across r and has a length; -1: there is none -/
def oleI (o n i due ab : Nat) : Nat → Nat → Int → Int
  | 0, _, l => l
  | k + 1, j, l => oleI o n i due ab k (j + 1) (if ab < swp o n i j ∧ (l = -1 ∨ (swp o n i j : Int) < l) ∧ ofal (dgt (swp o n i j) n) n = due then (swp o n i j : Int) else l)
def oleO (o n r due ab : Nat) : Nat → Nat → Int → Int
  | 0, _, l => l
  | k + 1, i, l => oleO o n r due ab k (i + 1) (oleI o n i due ab (n - r) r l)
def ole (o n r ab : Nat) : Int := oleO o n r (ofal (dgt o n) n + 1) ab r 0 (-1)
theorem ofal2_le (h : Nat → Nat) (i : Nat) : ∀ k j c, ofal2 h i k j c ≤ c + k
  | 0, _, _ => Nat.le_refl _
  | k + 1, j, c => by
    refine Nat.le_trans (ofal2_le h i k (j + 1) _) ?_
    split <;> omega
theorem ofal1_le (h : Nat → Nat) (n : Nat) : ∀ k i c, ofal1 h n k i c ≤ c + k * n
  | 0, _, c => Nat.le_add_right _ _
  | k + 1, i, c => by
    refine Nat.le_trans (ofal1_le h n k (i + 1) _) ?_
    have := ofal2_le h i (n - (i + 1)) (i + 1) c
    rw [Nat.succ_mul]
    omega
theorem ofal_le (h : Nat → Nat) {n : Nat} (hn : n ≤ 5) : ofal h n ≤ 25 := by
  have h1 := ofal1_le h n n 0 0
  have h2 : n * n ≤ 5 * 5 := Nat.mul_le_mul hn hn
  unfold ofal
  omega

set_option maxRecDepth 4000 in
set_option maxHeartbeats 1000000 in
theorem C6_leastRisen (o n r ab : Nat) (ho : o < 100000) (hn : n ≤ 5) (hr : r ≤ n) (hab : ab < 2147483648) (f : fv_F) : fv_M Y6_leastRisen 3 0 0 [.int (nI o), .int (nI n), .int (nI r), .int (nI ab)] f none (fv_eq (some (.int (iI (ole o n r ab)))) f) := by
  refine fv_enter rfl (Nat.le_of_ble_eq_true rfl) ?_
  obtain ⟨Q, hQ⟩ : ∃ Q : Option Value → fv_F → Option Nat → Prop, Q = (fv_eq (some (.int (iI (ole o n r ab)))) f) := ⟨_, rfl⟩
  rw [← hQ]
  show fv_At Y6_leastRisen 3 0 0 Q 0 [(0, .int (nI o)), (1, .int (nI n)), (2, .int (nI r)), (3, .int (nI ab))] [] f none 0 0
  refine fx_iload_n dX6_leastRisen_0 rfl (i := 0) rfl ?_
  refine fx_iload_n dX6_leastRisen_1 rfl (i := 1) rfl ?_
  refine fn_cS dX6_leastRisen_2 lk6_32 (C6_falls (a := o) (n := n) (by omega) (by omega) (f := f)) rfl rfl (by decide) (Nat.le_of_ble_eq_true rfl) ?_
  show fv_At Y6_leastRisen 3 0 0 Q 5 [(0, .int (nI o)), (1, .int (nI n)), (2, .int (nI r)), (3, .int (nI ab))] [.int (nI (ofal (dgt o n) n))] f none 0 0
  refine fx_iconst (v := (nI 1)) dX6_leastRisen_5 (by decide) ?_
  refine fn_iadd dX6_leastRisen_6 ?_
  have hfal := ofal_le (dgt o n) hn
  refine fx_istore (lv2 := [(0, .int (nI o)), (1, .int (nI n)), (2, .int (nI r)), (3, .int (nI ab)), (4, .int (nI ((ofal (dgt o n) n) + 1)))]) dX6_leastRisen_7 (by decide) rfl ?_
  refine fx_iconst (v := (iI (-1))) dX6_leastRisen_9 (by decide) ?_
  refine fx_istore (lv2 := [(0, .int (nI o)), (1, .int (nI n)), (2, .int (nI r)), (3, .int (nI ab)), (4, .int (nI ((ofal (dgt o n) n) + 1))), (5, .int (iI (-1)))]) dX6_leastRisen_10 (by decide) rfl ?_
  refine fx_iconst (v := (nI 1)) dX6_leastRisen_12 (by decide) ?_
  refine fx_istore (lv2 := [(0, .int (nI o)), (1, .int (nI n)), (2, .int (nI r)), (3, .int (nI ab)), (4, .int (nI ((ofal (dgt o n) n) + 1))), (5, .int (iI (-1))), (6, .int (nI 1))]) dX6_leastRisen_13 (by decide) rfl ?_
  have L15 : ∀ (k : Nat) (l : Int) (i : Nat), (i + k = r) → (-1 ≤ l ∧ l < 10000000) → (oleO o n r (ofal (dgt o n) n + 1) ab k i l = ole o n r ab) → fv_At Y6_leastRisen 3 0 0 Q 15 [(0, .int (nI o)), (1, .int (nI n)), (2, .int (nI r)), (3, .int (nI ab)), (4, .int (nI ((ofal (dgt o n) n) + 1))), (5, .int (iI l)), (6, .int (nI (i + 1)))] [] f none 0 0 := by
    intro k
    induction k with
    | zero =>
      intro l i hi hl hR
      refine fx_iload dX6_leastRisen_15 rfl ?_
      refine fx_iload_n dX6_leastRisen_17 rfl (i := 2) rfl ?_
      refine fn_icmp_gt (tgt := 89) dX6_leastRisen_18 (by decide) (by omega) (by omega) (fun c18 => ?_) (fun c18 => ?_)
      · skip
        refine fx_iload dX6_leastRisen_89 rfl ?_
        exact fx_iret dX6_leastRisen_91 rfl rfl rfl (by rw [hQ]; exact ⟨by rw [← hR]; rfl, rfl, rfl⟩)
      · exfalso; omega
    | succ k ih15 =>
      intro l i hi hl hR
      refine fx_iload dX6_leastRisen_15 rfl ?_
      refine fx_iload_n dX6_leastRisen_17 rfl (i := 2) rfl ?_
      refine fn_icmp_gt (tgt := 89) dX6_leastRisen_18 (by decide) (by omega) (by omega) (fun c18 => ?_) (fun c18 => ?_)
      · exfalso; omega
      · skip
        refine fx_iload_n dX6_leastRisen_21 rfl (i := 2) rfl ?_
        refine fx_iconst (v := (nI 1)) dX6_leastRisen_22 (by decide) ?_
        refine fn_iadd dX6_leastRisen_23 ?_
        refine fx_istore (lv2 := [(0, .int (nI o)), (1, .int (nI n)), (2, .int (nI r)), (3, .int (nI ab)), (4, .int (nI ((ofal (dgt o n) n) + 1))), (5, .int (iI l)), (6, .int (nI (i + 1))), (7, .int (nI (r + 1)))]) dX6_leastRisen_24 (by decide) rfl ?_
        have L26 : ∀ (k2 : Nat) (l2 : Int) (j : Nat), (j + k2 = n) → (r ≤ j) → (-1 ≤ l2 ∧ l2 < 10000000) → (oleI o n i (ofal (dgt o n) n + 1) ab k2 j l2 = oleI o n i (ofal (dgt o n) n + 1) ab (n - r) r l) → fv_At Y6_leastRisen 3 0 0 Q 26 [(0, .int (nI o)), (1, .int (nI n)), (2, .int (nI r)), (3, .int (nI ab)), (4, .int (nI ((ofal (dgt o n) n) + 1))), (5, .int (iI l2)), (6, .int (nI (i + 1))), (7, .int (nI (j + 1)))] [] f none 0 0 := by
          intro k2
          induction k2 with
          | zero =>
            intro l2 j hj hjr hl2 hR26
            refine fx_iload dX6_leastRisen_26 rfl ?_
            refine fx_iload_n dX6_leastRisen_28 rfl (i := 1) rfl ?_
            refine fn_icmp_gt (tgt := 83) dX6_leastRisen_29 (by decide) (by omega) (by omega) (fun c29 => ?_) (fun c29 => ?_)
            · skip
              refine fn_iinc (c := 1) (lv2 := [(0, .int (nI o)), (1, .int (nI n)), (2, .int (nI r)), (3, .int (nI ab)), (4, .int (nI ((ofal (dgt o n) n) + 1))), (5, .int (iI l2)), (6, .int (nI (i + 1 + 1))), (7, .int (nI (j + 1)))]) dX6_leastRisen_83 (by decide) rfl (by decide) rfl ?_
              refine fx_goto (tgt := 15) dX6_leastRisen_86 (by decide) ?_
              exact fn_sub [0, 1, 2, 3, 4, 5, 6] rfl (ih15 l2 (i + 1) (by omega) hl2 (by rw [← hR, oleO]; exact congrArg _ hR26))
            · exfalso; omega
          | succ k2 ih26 =>
            intro l2 j hj hjr hl2 hR26
            refine fx_iload dX6_leastRisen_26 rfl ?_
            refine fx_iload_n dX6_leastRisen_28 rfl (i := 1) rfl ?_
            refine fn_icmp_gt (tgt := 83) dX6_leastRisen_29 (by decide) (by omega) (by omega) (fun c29 => ?_) (fun c29 => ?_)
            · exfalso; omega
            · skip
              refine fx_iload_n dX6_leastRisen_32 rfl (i := 0) rfl ?_
              refine fx_iload_n dX6_leastRisen_33 rfl (i := 1) rfl ?_
              refine fx_iload dX6_leastRisen_34 rfl ?_
              refine fx_iload dX6_leastRisen_36 rfl ?_
              refine fn_cS dX6_leastRisen_38 lk6_35 (C6_swapped (o := o) (n := n) (a := i) (b := j) (by omega) (by omega) (by omega) (by omega) (f := f)) rfl rfl (by decide) (Nat.le_of_ble_eq_true rfl) ?_
              show fv_At Y6_leastRisen 3 0 0 Q 41 [(0, .int (nI o)), (1, .int (nI n)), (2, .int (nI r)), (3, .int (nI ab)), (4, .int (nI ((ofal (dgt o n) n) + 1))), (5, .int (iI l2)), (6, .int (nI (i + 1))), (7, .int (nI (j + 1)))] [.int (nI (swp o n i j))] f none 0 0
              have hsw := swp_b (o := o) (show i < j by omega) (show j < n by omega) hn ho
              refine fx_istore (lv2 := [(0, .int (nI o)), (1, .int (nI n)), (2, .int (nI r)), (3, .int (nI ab)), (4, .int (nI ((ofal (dgt o n) n) + 1))), (5, .int (iI l2)), (6, .int (nI (i + 1))), (7, .int (nI (j + 1))), (8, .int (nI (swp o n i j)))]) dX6_leastRisen_41 (by decide) rfl ?_
              refine fx_iload dX6_leastRisen_43 rfl ?_
              refine fx_iload_n dX6_leastRisen_45 rfl (i := 3) rfl ?_
              refine fn_icmp_le (tgt := 77) dX6_leastRisen_46 (by decide) (by omega) (by omega) (fun c46 => ?_) (fun c46 => ?_)
              · skip
                refine fn_iinc (c := 1) (lv2 := [(0, .int (nI o)), (1, .int (nI n)), (2, .int (nI r)), (3, .int (nI ab)), (4, .int (nI ((ofal (dgt o n) n) + 1))), (5, .int (iI l2)), (6, .int (nI (i + 1))), (7, .int (nI (j + 1 + 1))), (8, .int (nI (swp o n i j)))]) dX6_leastRisen_77 (by decide) rfl (by decide) rfl ?_
                refine fx_goto (tgt := 26) dX6_leastRisen_80 (by decide) ?_
                exact fn_sub [0, 1, 2, 3, 4, 5, 6, 7] rfl (ih26 l2 (j + 1) (by omega) (by omega) (by omega) (by rw [← hR26, oleI]; split <;> first | rfl | (exfalso; omega)))
              · skip
                refine fx_iload dX6_leastRisen_49 rfl ?_
                refine fx_iconst (v := (iI (-1))) dX6_leastRisen_51 (by decide) ?_
                refine fn_icmp_eqZ (a := l2) (b := -1) (tgt := 62) dX6_leastRisen_52 (by decide) (by omega) (by omega) (by omega) (by omega) (fun c52 => ?_) (fun c52 => ?_)
                · skip
                  refine fx_iload dX6_leastRisen_62 rfl ?_
                  skip
                  refine fx_iload_n dX6_leastRisen_64 rfl (i := 1) rfl ?_
                  refine fn_cS dX6_leastRisen_65 lk6_32 (C6_falls (a := swp o n i j) (n := n) (by omega) (by omega) (f := f)) rfl rfl (by decide) (Nat.le_of_ble_eq_true rfl) ?_
                  show fv_At Y6_leastRisen 3 0 0 Q 68 [(0, .int (nI o)), (1, .int (nI n)), (2, .int (nI r)), (3, .int (nI ab)), (4, .int (nI ((ofal (dgt o n) n) + 1))), (5, .int (iI l2)), (6, .int (nI (i + 1))), (7, .int (nI (j + 1))), (8, .int (nI (swp o n i j)))] [.int (nI (ofal (dgt (swp o n i j) n) n))] f none 0 0
                  have hfa2 := ofal_le (dgt (swp o n i j) n) hn
                  refine fx_iload dX6_leastRisen_68 rfl ?_
                  refine fn_icmp_ne (tgt := 77) dX6_leastRisen_70 (by decide) (by omega) (by omega) (fun c70 => ?_) (fun c70 => ?_)
                  · skip
                    refine fn_iinc (c := 1) (lv2 := [(0, .int (nI o)), (1, .int (nI n)), (2, .int (nI r)), (3, .int (nI ab)), (4, .int (nI ((ofal (dgt o n) n) + 1))), (5, .int (iI l2)), (6, .int (nI (i + 1))), (7, .int (nI (j + 1 + 1))), (8, .int (nI (swp o n i j)))]) dX6_leastRisen_77 (by decide) rfl (by decide) rfl ?_
                    refine fx_goto (tgt := 26) dX6_leastRisen_80 (by decide) ?_
                    exact fn_sub [0, 1, 2, 3, 4, 5, 6, 7] rfl (ih26 l2 (j + 1) (by omega) (by omega) (by omega) (by rw [← hR26, oleI]; split <;> first | rfl | (exfalso; omega)))
                  · skip
                    refine fx_iload dX6_leastRisen_73 rfl ?_
                    refine fx_istore (lv2 := [(0, .int (nI o)), (1, .int (nI n)), (2, .int (nI r)), (3, .int (nI ab)), (4, .int (nI ((ofal (dgt o n) n) + 1))), (5, .int (nI (swp o n i j))), (6, .int (nI (i + 1))), (7, .int (nI (j + 1))), (8, .int (nI (swp o n i j)))]) dX6_leastRisen_75 (by decide) rfl ?_
                    refine fn_iinc (c := 1) (lv2 := [(0, .int (nI o)), (1, .int (nI n)), (2, .int (nI r)), (3, .int (nI ab)), (4, .int (nI ((ofal (dgt o n) n) + 1))), (5, .int (nI (swp o n i j))), (6, .int (nI (i + 1))), (7, .int (nI (j + 1 + 1))), (8, .int (nI (swp o n i j)))]) dX6_leastRisen_77 (by decide) rfl (by decide) rfl ?_
                    refine fx_goto (tgt := 26) dX6_leastRisen_80 (by decide) ?_
                    exact fn_sub [0, 1, 2, 3, 4, 5, 6, 7] rfl (ih26 (((swp o n i j : Nat) : Int)) (j + 1) (by omega) (by omega) (by omega) (by rw [← hR26, oleI]; split <;> first | rfl | (exfalso; omega)))
                · skip
                  refine fx_iload dX6_leastRisen_55 rfl ?_
                  refine fx_iload dX6_leastRisen_57 rfl ?_
                  refine fn_icmp_geZ (a := ((swp o n i j : Nat) : Int)) (b := l2) (tgt := 77) dX6_leastRisen_59 (by decide) (by omega) (by omega) (by omega) (by omega) (fun c59 => ?_) (fun c59 => ?_)
                  · skip
                    refine fn_iinc (c := 1) (lv2 := [(0, .int (nI o)), (1, .int (nI n)), (2, .int (nI r)), (3, .int (nI ab)), (4, .int (nI ((ofal (dgt o n) n) + 1))), (5, .int (iI l2)), (6, .int (nI (i + 1))), (7, .int (nI (j + 1 + 1))), (8, .int (nI (swp o n i j)))]) dX6_leastRisen_77 (by decide) rfl (by decide) rfl ?_
                    refine fx_goto (tgt := 26) dX6_leastRisen_80 (by decide) ?_
                    exact fn_sub [0, 1, 2, 3, 4, 5, 6, 7] rfl (ih26 l2 (j + 1) (by omega) (by omega) (by omega) (by rw [← hR26, oleI]; split <;> first | rfl | (exfalso; omega)))
                  · skip
                    refine fx_iload dX6_leastRisen_62 rfl ?_
                    skip
                    refine fx_iload_n dX6_leastRisen_64 rfl (i := 1) rfl ?_
                    refine fn_cS dX6_leastRisen_65 lk6_32 (C6_falls (a := swp o n i j) (n := n) (by omega) (by omega) (f := f)) rfl rfl (by decide) (Nat.le_of_ble_eq_true rfl) ?_
                    show fv_At Y6_leastRisen 3 0 0 Q 68 [(0, .int (nI o)), (1, .int (nI n)), (2, .int (nI r)), (3, .int (nI ab)), (4, .int (nI ((ofal (dgt o n) n) + 1))), (5, .int (iI l2)), (6, .int (nI (i + 1))), (7, .int (nI (j + 1))), (8, .int (nI (swp o n i j)))] [.int (nI (ofal (dgt (swp o n i j) n) n))] f none 0 0
                    have hfa2 := ofal_le (dgt (swp o n i j) n) hn
                    refine fx_iload dX6_leastRisen_68 rfl ?_
                    refine fn_icmp_ne (tgt := 77) dX6_leastRisen_70 (by decide) (by omega) (by omega) (fun c70 => ?_) (fun c70 => ?_)
                    · skip
                      refine fn_iinc (c := 1) (lv2 := [(0, .int (nI o)), (1, .int (nI n)), (2, .int (nI r)), (3, .int (nI ab)), (4, .int (nI ((ofal (dgt o n) n) + 1))), (5, .int (iI l2)), (6, .int (nI (i + 1))), (7, .int (nI (j + 1 + 1))), (8, .int (nI (swp o n i j)))]) dX6_leastRisen_77 (by decide) rfl (by decide) rfl ?_
                      refine fx_goto (tgt := 26) dX6_leastRisen_80 (by decide) ?_
                      exact fn_sub [0, 1, 2, 3, 4, 5, 6, 7] rfl (ih26 l2 (j + 1) (by omega) (by omega) (by omega) (by rw [← hR26, oleI]; split <;> first | rfl | (exfalso; omega)))
                    · skip
                      refine fx_iload dX6_leastRisen_73 rfl ?_
                      refine fx_istore (lv2 := [(0, .int (nI o)), (1, .int (nI n)), (2, .int (nI r)), (3, .int (nI ab)), (4, .int (nI ((ofal (dgt o n) n) + 1))), (5, .int (nI (swp o n i j))), (6, .int (nI (i + 1))), (7, .int (nI (j + 1))), (8, .int (nI (swp o n i j)))]) dX6_leastRisen_75 (by decide) rfl ?_
                      refine fn_iinc (c := 1) (lv2 := [(0, .int (nI o)), (1, .int (nI n)), (2, .int (nI r)), (3, .int (nI ab)), (4, .int (nI ((ofal (dgt o n) n) + 1))), (5, .int (nI (swp o n i j))), (6, .int (nI (i + 1))), (7, .int (nI (j + 1 + 1))), (8, .int (nI (swp o n i j)))]) dX6_leastRisen_77 (by decide) rfl (by decide) rfl ?_
                      refine fx_goto (tgt := 26) dX6_leastRisen_80 (by decide) ?_
                      exact fn_sub [0, 1, 2, 3, 4, 5, 6, 7] rfl (ih26 (((swp o n i j : Nat) : Int)) (j + 1) (by omega) (by omega) (by omega) (by rw [← hR26, oleI]; split <;> first | rfl | (exfalso; omega)))
        exact (L26 (n - r) l r (by omega) (by omega) hl rfl)
  exact (L15 r (-1) 0 (by omega) (by omega) rfl)

theorem oleI_b {o n i due ab : Nat} (hn : n ≤ 5) (ho : o < 100000) : ∀ k j l, i < j → j + k ≤ n → (-1 ≤ l ∧ l < 10000000) → -1 ≤ oleI o n i due ab k j l ∧ oleI o n i due ab k j l < 10000000
  | 0, _, _, _, _, h => h
  | k + 1, j, l, h1, h2, h => by
    have := swp_b (o := o) h1 (show j < n by omega) hn ho
    exact oleI_b hn ho k (j + 1) _ (by omega) (by omega) (by split <;> omega)
theorem oleO_b {o n r due ab : Nat} (hn : n ≤ 5) (ho : o < 100000) (hr : r ≤ n) : ∀ k i l, i + k ≤ r → (-1 ≤ l ∧ l < 10000000) → -1 ≤ oleO o n r due ab k i l ∧ oleO o n r due ab k i l < 10000000
  | 0, _, _, _, h => h
  | k + 1, i, l, h2, h => oleO_b hn ho hr k (i + 1) _ (by omega) (oleI_b hn ho (n - r) r l (by omega) (by omega) h)
theorem ole_b {o n r ab : Nat} (hn : n ≤ 5) (ho : o < 100000) (hr : r ≤ n) : -1 ≤ ole o n r ab ∧ ole o n r ab < 10000000 := oleO_b hn ho hr r 0 (-1) (by omega) (by decide)
/-- the k-th of these -/
def oriS (o n r : Nat) : Nat → Int → Int
  | 0, x => x
  | k + 1, x => if x = -1 then x else oriS o n r k (ole o n r x.toNat)
def ori (o n r : Nat) (q : Int) : Int := if q < 0 ∨ 10 ≤ q then -1 else oriS o n r (q.toNat + 1) 0

set_option maxRecDepth 4000 in
set_option maxHeartbeats 1000000 in
theorem C6_risen (o n r : Nat) (q : Int) (ho : o < 100000) (hn : n ≤ 5) (hr : r ≤ n) (h1 : -2147483648 ≤ q) (h2 : q < 2147483648) (f : fv_F) : fv_M Y6_risen 4 0 0 [.int (nI o), .int (nI n), .int (nI r), .int (iI q)] f none (fv_eq (some (.int (iI (ori o n r q)))) f) := by
  refine fv_enter rfl (Nat.le_of_ble_eq_true rfl) ?_
  obtain ⟨Q, hQ⟩ : ∃ Q : Option Value → fv_F → Option Nat → Prop, Q = (fv_eq (some (.int (iI (ori o n r q)))) f) := ⟨_, rfl⟩
  rw [← hQ]
  show fv_At Y6_risen 4 0 0 Q 0 [(0, .int (nI o)), (1, .int (nI n)), (2, .int (nI r)), (3, .int (iI q))] [] f none 0 0
  refine fx_iload_n dX6_risen_0 rfl (i := 3) rfl ?_
  refine fn_if_ltZ (tgt := 10) dX6_risen_1 (by decide) (by omega) (by omega) (fun c1 => ?_) (fun c1 => ?_)
  · skip
    refine fx_iconst (v := (iI (-1))) dX6_risen_10 (by decide) ?_
    exact fx_iret dX6_risen_11 rfl rfl rfl (by rw [hQ]; exact ⟨by unfold ori; rw [if_pos (by omega)], rfl, rfl⟩)
  · skip
    refine fx_iload_n dX6_risen_4 rfl (i := 3) rfl ?_
    refine fx_bipush (v := (nI 10)) dX6_risen_5 (by decide) ?_
    refine fn_icmp_ltZ (a := q) (b := ((10 : Nat) : Int)) (tgt := 12) dX6_risen_7 (by decide) (by omega) (by omega) (by omega) (by omega) (fun c7 => ?_) (fun c7 => ?_)
    · skip
      obtain ⟨w, rfl⟩ : ∃ w : Nat, q = (w : Int) := ⟨q.toNat, by omega⟩
      have hq : ori o n r (w : Int) = oriS o n r (w + 1) 0 := by unfold ori; rw [if_neg (by omega)]; rfl
      show fv_At Y6_risen 4 0 0 Q 12 [(0, .int (nI o)), (1, .int (nI n)), (2, .int (nI r)), (3, .int (nI w))] [] f none 0 0
      refine fx_iconst (v := (nI 0)) dX6_risen_12 (by decide) ?_
      refine fx_istore (lv2 := [(0, .int (nI o)), (1, .int (nI n)), (2, .int (nI r)), (3, .int (nI w)), (4, .int (nI 0))]) dX6_risen_13 (by decide) rfl ?_
      refine fx_iconst (v := (nI 0)) dX6_risen_15 (by decide) ?_
      refine fx_istore (lv2 := [(0, .int (nI o)), (1, .int (nI n)), (2, .int (nI r)), (3, .int (nI w)), (4, .int (nI 0)), (5, .int (nI 0))]) dX6_risen_16 (by decide) rfl ?_
      have L18 : ∀ (k : Nat) (x : Int) (i : Nat), (i + k = w + 1) → (-1 ≤ x ∧ x < 10000000) → (oriS o n r k x = oriS o n r (w + 1) 0) → fv_At Y6_risen 4 0 0 Q 18 [(0, .int (nI o)), (1, .int (nI n)), (2, .int (nI r)), (3, .int (nI w)), (4, .int (iI x)), (5, .int (nI i))] [] f none 0 0 := by
        intro k
        induction k with
        | zero =>
          intro x i hi hx hR
          refine fx_iload dX6_risen_18 rfl ?_
          refine fx_iload_n dX6_risen_20 rfl (i := 3) rfl ?_
          refine fn_icmp_gt (tgt := 46) dX6_risen_21 (by decide) (by omega) (by omega) (fun c21 => ?_) (fun c21 => ?_)
          · skip
            refine fx_iload dX6_risen_46 rfl ?_
            exact fx_iret dX6_risen_48 rfl rfl rfl (by rw [hQ]; exact ⟨by rw [hq, ← hR]; first | rfl | rw [oriS, if_pos (by omega)], rfl, rfl⟩)
          · exfalso; omega
        | succ k ih18 =>
          intro x i hi hx hR
          refine fx_iload dX6_risen_18 rfl ?_
          refine fx_iload_n dX6_risen_20 rfl (i := 3) rfl ?_
          refine fn_icmp_gt (tgt := 46) dX6_risen_21 (by decide) (by omega) (by omega) (fun c21 => ?_) (fun c21 => ?_)
          · exfalso; omega
          · skip
            refine fx_iload dX6_risen_24 rfl ?_
            refine fx_iconst (v := (iI (-1))) dX6_risen_26 (by decide) ?_
            refine fn_icmp_eqZ (a := x) (b := -1) (tgt := 46) dX6_risen_27 (by decide) (by omega) (by omega) (by omega) (by omega) (fun c27 => ?_) (fun c27 => ?_)
            · skip
              refine fx_iload dX6_risen_46 rfl ?_
              exact fx_iret dX6_risen_48 rfl rfl rfl (by rw [hQ]; exact ⟨by rw [hq, ← hR]; first | rfl | rw [oriS, if_pos (by omega)], rfl, rfl⟩)
            · skip
              obtain ⟨v, rfl⟩ : ∃ v : Nat, x = (v : Int) := ⟨x.toNat, by omega⟩
              have hv := ole_b (ab := v) hn ho hr
              show fv_At Y6_risen 4 0 0 Q 30 [(0, .int (nI o)), (1, .int (nI n)), (2, .int (nI r)), (3, .int (nI w)), (4, .int (nI v)), (5, .int (nI i))] [] f none 0 0
              refine fx_iload_n dX6_risen_30 rfl (i := 0) rfl ?_
              refine fx_iload_n dX6_risen_31 rfl (i := 1) rfl ?_
              refine fx_iload_n dX6_risen_32 rfl (i := 2) rfl ?_
              refine fx_iload dX6_risen_33 rfl ?_
              refine fn_cS dX6_risen_35 lk6_28 (C6_leastRisen (o := o) (n := n) (r := r) (ab := v) (by omega) (by omega) (by omega) (by omega) (f := f)) rfl rfl (by decide) (Nat.le_of_ble_eq_true rfl) ?_
              show fv_At Y6_risen 4 0 0 Q 38 [(0, .int (nI o)), (1, .int (nI n)), (2, .int (nI r)), (3, .int (nI w)), (4, .int (nI v)), (5, .int (nI i))] [.int (iI (ole o n r v))] f none 0 0
              refine fx_istore (lv2 := [(0, .int (nI o)), (1, .int (nI n)), (2, .int (nI r)), (3, .int (nI w)), (4, .int (iI (ole o n r v))), (5, .int (nI i))]) dX6_risen_38 (by decide) rfl ?_
              refine fn_iinc (c := 1) (lv2 := [(0, .int (nI o)), (1, .int (nI n)), (2, .int (nI r)), (3, .int (nI w)), (4, .int (iI (ole o n r v))), (5, .int (nI (i + 1)))]) dX6_risen_40 (by decide) rfl (by decide) rfl ?_
              refine fx_goto (tgt := 18) dX6_risen_43 (by decide) ?_
              exact (ih18 (ole o n r v) (i + 1) (by omega) hv (by rw [← hR, oriS, if_neg (by omega)]; rfl))
      exact (L18 (w + 1) 0 0 (by omega) (by decide) rfl)
    · skip
      refine fx_iconst (v := (iI (-1))) dX6_risen_10 (by decide) ?_
      exact fx_iret dX6_risen_11 rfl rfl rfl (by rw [hQ]; exact ⟨by unfold ori; rw [if_pos (by omega)], rfl, rfl⟩)
