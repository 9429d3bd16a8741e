/-- a figure of a point that is told by its place in the list of all -/
def fgq (q p k : Nat) : Nat := p / q ^ (3 - k) % q
def mxl (q p i r j : Nat) : Nat → Nat → Nat → Nat
  | 0, _, x => x
  | n + 1, k, x => mxl q p i r j n (k + 1) (q * x + (i * fgq q p k + j * fgq q r k) % q)
theorem mxl_s (q p i r j n k x : Nat) : mxl q p i r j (n + 1) k x = mxl q p i r j n (k + 1) (q * x + (i * fgq q p k + j * fgq q r k) % q) := rfl
/-- i times the one and j times the other -/
def mxq (q p i r j : Nat) : Nat := mxl q p i r j 4 0 0
theorem mxl_lt {q : Nat} (h : 0 < q) (p i r j : Nat) : ∀ n k x, x < q ^ k → mxl q p i r j n k x < q ^ (k + n)
  | 0, _, _, hx => hx
  | n + 1, k, x, hx => by
    rw [mxl_s, show k + (n + 1) = (k + 1) + n by omega]
    refine mxl_lt h p i r j n (k + 1) _ ?_
    have h1 := Nat.mod_lt (i * fgq q p k + j * fgq q r k) h
    have h2 : q * (x + 1) ≤ q * q ^ k := Nat.mul_le_mul_left q hx
    rw [Nat.pow_succ, Nat.mul_comm (q ^ k)]
    rw [Nat.mul_add, Nat.mul_one] at h2
    omega
theorem mxq_lt {q : Nat} (h : 0 < q) (p i r j : Nat) : mxq q p i r j < q ^ 4 := by
  have w := mxl_lt h p i r j 4 0 0 (Nat.pow_pos h)
  rw [Nat.zero_add] at w
  exact w
theorem q4_le {q : Nat} (h : q = 2 ∨ q = 3 ∨ q = 5) : q ^ 4 ≤ 625 := by
  rcases h with rfl | rfl | rfl <;> decide
theorem fgq_lt {q : Nat} (h : 0 < q) (p k : Nat) : fgq q p k < q := Nat.mod_lt _ h
theorem mx_b {q : Nat} (h : q = 2 ∨ q = 3 ∨ q = 5) {i : Nat} (hi : i ≤ 5) (p k : Nat) : i * fgq q p k ≤ 25 := by
  have w := fgq_lt (q := q) (by omega) p k
  exact Nat.mul_le_mul hi (show fgq q p k ≤ 5 by omega)
/-- the table of figures -/
def mfg (G : Nat → Nat → Int32) (q : Nat) : Prop := ∀ p, p < q ^ 4 → ∀ k, k < 4 → G 29 (4 * p + k) = nI (fgq q p k)
def fkl (q p : Nat) : Nat → Nat → Nat
  | 0, k => k
  | n + 1, k => if fgq q p k = 0 then fkl q p n (k + 1) else k
def evl (q p k : Nat) : Nat → Nat → Nat → Nat
  | 0, _, x => x
  | n + 1, i, x => evl q p k n (i + 1) (if i * fgq q p k % q = 1 then mxq q p i 0 0 else x)
theorem evl_s (q p k n i x : Nat) : evl q p k (n + 1) i x = evl q p k n (i + 1) (if i * fgq q p k % q = 1 then mxq q p i 0 0 else x) := rfl
/-- the same point with its first figure 1 -/
def evq (q p : Nat) : Nat := if p = 0 then 0 else evl q p (fkl q p 4 0) (q - 1) 1 p
theorem evl_lt {q : Nat} (h : 0 < q) (p k : Nat) : ∀ n i x, x < q ^ 4 → evl q p k n i x < q ^ 4
  | 0, _, _, hx => hx
  | n + 1, i, x, hx => by
    rw [evl_s]
    refine evl_lt h p k n (i + 1) _ ?_
    split
    · exact mxq_lt h _ _ _ _
    · exact hx
theorem evq_lt {q : Nat} (h : 0 < q) {p : Nat} (hp : p < q ^ 4) : evq q p < q ^ 4 := by
  unfold evq
  split
  · exact Nat.pow_pos h
  · exact evl_lt h _ _ _ _ _ hp
def mev (G : Nat → Nat → Int32) (q : Nat) : Prop := ∀ p, p < q ^ 4 → G 30 p = nI (evq q p)
/-- the model's picture of space, the rods aside -/
def msq (G : Nat → Nat → Int32) (q : Nat) : Prop := G 0 27 = nI q ∧ (q = 2 ∨ q = 3 ∨ q = 5) ∧ mfg G q ∧ mev G q
def onl (q a b i : Nat) : Nat := if i = q then evq q a else evq q (mxq q a i b 1)
def pqf (q n : Nat) : Nat → Nat → Nat → Int
  | 0, _, x => (x : Int)
  | j + 1, t, x => if n / t % 10 < q then pqf q n j (t / 10) (q * x + n / t % 10) else -1
theorem pqf_s (q n j t x : Nat) : pqf q n (j + 1) t x = if n / t % 10 < q then pqf q n j (t / 10) (q * x + n / t % 10) else -1 := rfl
/-- where a point is in the list of all, or -1 -/
def pqo (q : Nat) (n : Int) : Int := if 1 ≤ n ∧ n ≤ 9999 then pqf q n.toNat 4 1000 0 else -1
theorem pqf_lt {q : Nat} (h : 0 < q) (n : Nat) : ∀ j t x, x < q ^ (4 - j) → j ≤ 4 → pqf q n j t x < (q ^ 4 : Nat)
  | 0, _, x, hx, _ => by
    show (x : Int) < _
    exact Int.ofNat_lt.mpr hx
  | j + 1, t, x, hx, hj => by
    rw [pqf_s]
    have hp : (0 : Int) ≤ (q ^ 4 : Nat) := Int.natCast_nonneg _
    split
    · rename_i hd
      refine pqf_lt h n j _ _ ?_ (by omega)
      have h2 : q * (x + 1) ≤ q * q ^ (4 - (j + 1)) := Nat.mul_le_mul_left q hx
      rw [show 4 - j = (4 - (j + 1)) + 1 by omega, Nat.pow_succ, Nat.mul_comm (q ^ (4 - (j + 1)))]
      rw [Nat.mul_add, Nat.mul_one] at h2
      omega
    · omega
theorem pqf_m (q n : Nat) : ∀ j t x, -1 ≤ pqf q n j t x
  | 0, _, x => by
    show -1 ≤ (x : Int)
    omega
  | j + 1, t, x => by
    rw [pqf_s]
    split
    · exact pqf_m q n j _ _
    · omega
theorem pqo_b {q : Nat} (h : 0 < q) (n : Int) : -1 ≤ pqo q n ∧ pqo q n < (q ^ 4 : Nat) := by
  have hp : (0 : Int) ≤ (q ^ 4 : Nat) := Int.natCast_nonneg _
  unfold pqo
  split
  · exact ⟨pqf_m _ _ _ _ _, pqf_lt h _ _ _ _ (Nat.pow_pos h) (by decide)⟩
  · omega

set_option maxRecDepth 4000 in
set_option maxHeartbeats 1000000 in
theorem C11_mixed  (G : Nat → Nat → Int32) (L : Nat → Nat → Int64) (q : Nat) (hq : G 0 27 = nI q) (hq2 : q = 2 ∨ q = 3 ∨ q = 5) (hF : mfg G q) (p i r j : Nat) (hp : p < q ^ 4) (hr : r < q ^ 4) (hi : i ≤ 5) (hj : j ≤ 5) : fv_M Y11_mixed 0 0 0 [.ref 0, .int (nI p), .int (nI i), .int (nI r), .int (nI j)] (fw mT G L) none (fv_eq (some (.int (nI (mxq q p i r j)))) (fw mT G L)) := by
  refine fv_enter rfl (Nat.le_of_ble_eq_true rfl) ?_
  obtain ⟨Q, hQ⟩ : ∃ Q : Option Value → fv_F → Option Nat → Prop, Q = (fv_eq (some (.int (nI (mxq q p i r j)))) (fw mT G L)) := ⟨_, rfl⟩
  rw [← hQ]
  show fv_At Y11_mixed 0 0 0 Q 0 [(0, .ref 0), (1, .int (nI p)), (2, .int (nI i)), (3, .int (nI r)), (4, .int (nI j))] [] (fw mT G L) none 0 0
  have h625 := q4_le hq2
  refine fx_iconst (v := (nI 0)) dX11_mixed_0 (by decide) ?_
  refine fx_istore (lv2 := [(0, .ref 0), (1, .int (nI p)), (2, .int (nI i)), (3, .int (nI r)), (4, .int (nI j)), (5, .int (nI 0))]) dX11_mixed_1 (by decide) rfl ?_
  refine fx_iconst (v := (nI 0)) dX11_mixed_3 (by decide) ?_
  refine fx_istore (lv2 := [(0, .ref 0), (1, .int (nI p)), (2, .int (nI i)), (3, .int (nI r)), (4, .int (nI j)), (5, .int (nI 0)), (6, .int (nI 0))]) dX11_mixed_4 (by decide) rfl ?_
  have L6 : ∀ (n : Nat) (x : Nat) (k : Nat), (k + n = 4) → (mxl q p i r j n k x = mxq q p i r j) → fv_At Y11_mixed 0 0 0 Q 6 [(0, .ref 0), (1, .int (nI p)), (2, .int (nI i)), (3, .int (nI r)), (4, .int (nI j)), (5, .int (nI x)), (6, .int (nI k))] [] (fw mT G L) none 0 0 := by
    intro n
    induction n with
    | zero =>
      intro x k hk hR
      refine fx_iload dX11_mixed_6 rfl ?_
      refine fx_iconst (v := (nI 4)) dX11_mixed_8 (by decide) ?_
      refine fn_icmp_ge (tgt := 61) dX11_mixed_9 (by decide) (by omega) (by omega) (fun c9 => ?_) (fun c9 => ?_)
      · skip
        refine fx_iload dX11_mixed_61 rfl ?_
        exact fx_iret dX11_mixed_63 rfl rfl rfl (by rw [hQ]; exact ⟨by rw [show x = mxq q p i r j from hR], rfl, rfl⟩)
      · exfalso; omega
    | succ n ih6 =>
      intro x k hk hR
      refine fx_iload dX11_mixed_6 rfl ?_
      refine fx_iconst (v := (nI 4)) dX11_mixed_8 (by decide) ?_
      refine fn_icmp_ge (tgt := 61) dX11_mixed_9 (by decide) (by omega) (by omega) (fun c9 => ?_) (fun c9 => ?_)
      · exfalso; omega
      · skip
        refine fx_aload_n dX11_mixed_12 rfl (i := 0) rfl ?_
        refine fw_geti dX11_mixed_13 fd11_116 rfl rfl ?_
        refine fn_to (show _ = (nI q) from hq) ?_
        refine fx_iload dX11_mixed_16 rfl ?_
        refine fn_imul dX11_mixed_18 ?_
        refine fx_iload_n dX11_mixed_19 rfl (i := 2) rfl ?_
        refine fx_aload_n dX11_mixed_20 rfl (i := 0) rfl ?_
        refine fw_getr dX11_mixed_21 fd11_97 rfl rfl ?_
        refine fx_iconst (v := (nI 4)) dX11_mixed_24 (by decide) ?_
        refine fx_iload_n dX11_mixed_25 rfl (i := 1) rfl ?_
        refine fn_imul dX11_mixed_26 ?_
        refine fx_iload dX11_mixed_27 rfl ?_
        refine fn_iadd dX11_mixed_29 ?_
        refine fw_iald ((4 * p) + k) dX11_mixed_30 rfl rfl (by omega) (by decide) ?_
        refine fn_to (show _ = (nI (fgq q p k)) from (hF p hp k (by omega))) ?_
        refine fn_imul dX11_mixed_31 ?_
        refine fx_iload dX11_mixed_32 rfl ?_
        refine fx_aload_n dX11_mixed_34 rfl (i := 0) rfl ?_
        refine fw_getr dX11_mixed_35 fd11_97 rfl rfl ?_
        refine fx_iconst (v := (nI 4)) dX11_mixed_38 (by decide) ?_
        refine fx_iload_n dX11_mixed_39 rfl (i := 3) rfl ?_
        refine fn_imul dX11_mixed_40 ?_
        refine fx_iload dX11_mixed_41 rfl ?_
        refine fn_iadd dX11_mixed_43 ?_
        refine fw_iald ((4 * r) + k) dX11_mixed_44 rfl rfl (by omega) (by decide) ?_
        refine fn_to (show _ = (nI (fgq q r k)) from (hF r hr k (by omega))) ?_
        refine fn_imul dX11_mixed_45 ?_
        refine fn_iadd dX11_mixed_46 ?_
        have hb1 := mx_b hq2 hi p k
        have hb2 := mx_b hq2 hj r k
        refine fx_aload_n dX11_mixed_47 rfl (i := 0) rfl ?_
        refine fw_geti dX11_mixed_48 fd11_116 rfl rfl ?_
        refine fn_to (show _ = (nI q) from hq) ?_
        refine fn_irem dX11_mixed_51 (by omega) (by omega) (by omega) ?_
        refine fn_iadd dX11_mixed_52 ?_
        refine fx_istore (lv2 := [(0, .ref 0), (1, .int (nI p)), (2, .int (nI i)), (3, .int (nI r)), (4, .int (nI j)), (5, .int (nI ((q * x) + (((i * (fgq q p k)) + (j * (fgq q r k))) % q)))), (6, .int (nI k))]) dX11_mixed_53 (by decide) rfl ?_
        refine fn_iinc (c := 1) (lv2 := [(0, .ref 0), (1, .int (nI p)), (2, .int (nI i)), (3, .int (nI r)), (4, .int (nI j)), (5, .int (nI ((q * x) + (((i * (fgq q p k)) + (j * (fgq q r k))) % q)))), (6, .int (nI (k + 1)))]) dX11_mixed_55 (by decide) rfl (by decide) rfl ?_
        refine fx_goto (tgt := 6) dX11_mixed_58 (by decide) ?_
        exact (ih6 ((q * x) + (((i * (fgq q p k)) + (j * (fgq q r k))) % q)) (k + 1) (by omega) (by rw [← hR, mxl_s]))
  exact (L6 4 0 0 (by omega) rfl)

set_option maxRecDepth 4000 in
set_option maxHeartbeats 1000000 in
theorem C11_pointOf  (G : Nat → Nat → Int32) (L : Nat → Nat → Int64) (q : Nat) (hq : G 0 27 = nI q) (hq2 : q = 2 ∨ q = 3 ∨ q = 5) (n : Int) (n1 : -2147483648 ≤ n) (n2 : n < 2147483648) : fv_M Y11_pointOf 1 0 0 [.ref 0, .int (iI n)] (fw mT G L) none (fv_eq (some (.int (iI (pqo q n)))) (fw mT G L)) := by
  refine fv_enter rfl (Nat.le_of_ble_eq_true rfl) ?_
  obtain ⟨Q, hQ⟩ : ∃ Q : Option Value → fv_F → Option Nat → Prop, Q = (fv_eq (some (.int (iI (pqo q n)))) (fw mT G L)) := ⟨_, rfl⟩
  rw [← hQ]
  show fv_At Y11_pointOf 1 0 0 Q 0 [(0, .ref 0), (1, .int (iI n))] [] (fw mT G L) none 0 0
  refine fx_iload_n dX11_pointOf_0 rfl (i := 1) rfl ?_
  refine fx_i2l dX11_pointOf_1 ?_
  refine fn_toL (show _ = lI n from lI_of (z := n) (by omega) (by omega)) ?_
  refine fx_lconst (v := 1) dX11_pointOf_2 (by decide) ?_
  refine fn_toL (show _ = (lI 1) from (by decide)) ?_
  refine fx_ldc2 dX11_pointOf_3 kc11_241 (fn_toL (show _ = lI (9999) by decide) ?_)
  refine fn_cS dX11_pointOf_6 lk11_126 (C11_in (v := n) (a := 1) (b := 9999) (by omega) (by omega) (by omega) (by omega) (by omega) (by omega) (f := (fw mT G L))) rfl rfl (by decide) (Nat.le_of_ble_eq_true rfl) ?_
  show fv_At Y11_pointOf 1 0 0 Q 9 [(0, .ref 0), (1, .int (iI n))] [.int (bI (decide (1 ≤ n ∧ n ≤ 9999)))] (fw mT G L) none 0 0
  refine fn_if_neB (tgt := 14) dX11_pointOf_9 (by decide) (fun c9 => ?_) (fun c9 => ?_)
  · skip
    have hin := of_decide_eq_true c9
    obtain ⟨n0, rfl⟩ : ∃ z : Nat, n = (z : Int) := ⟨n.toNat, by omega⟩
    show fv_At Y11_pointOf 1 0 0 Q 14 [(0, .ref 0), (1, .int (nI n0))] [] (fw mT G L) none 0 0
    refine fx_iconst (v := (nI 0)) dX11_pointOf_14 (by decide) ?_
    refine fx_istore_n (lv2 := [(0, .ref 0), (1, .int (nI n0)), (2, .int (nI 0))]) dX11_pointOf_15 (i := 2) rfl (by decide) rfl ?_
    refine fx_sipush (v := (nI 1000)) dX11_pointOf_16 (by decide) ?_
    refine fx_istore_n (lv2 := [(0, .ref 0), (1, .int (nI n0)), (2, .int (nI 0)), (3, .int (nI 1000))]) dX11_pointOf_19 (i := 3) rfl (by decide) rfl ?_
    have L20 : ∀ (j : Nat) (x : Nat) (t : Nat), (t = 10 ^ j / 10) → (j ≤ 4 ∧ t ≤ 1000) → (pqf q n0 j t x = pqo q (n0 : Int)) → fv_At Y11_pointOf 1 0 0 Q 20 [(0, .ref 0), (1, .int (nI n0)), (2, .int (nI x)), (3, .int (nI t))] [] (fw mT G L) none 0 0 := by
      intro j
      induction j with
      | zero =>
        intro x t ht hj hR
        have ht0 : t = 0 := ht
        refine fx_iload_n dX11_pointOf_20 rfl (i := 3) rfl ?_
        refine fn_if_le (tgt := 61) dX11_pointOf_21 (by decide) (by omega) (fun c21 => ?_) (fun c21 => ?_)
        · skip
          refine fx_iload_n dX11_pointOf_61 rfl (i := 2) rfl ?_
          exact fx_iret dX11_pointOf_62 rfl rfl rfl (by rw [hQ]; exact ⟨by rw [← hR]; rfl, rfl, rfl⟩)
        · exfalso; omega
      | succ j ih20 =>
        intro x t ht hj hR
        have ht1 : t = 10 ^ j := by rw [ht, Nat.pow_succ, Nat.mul_div_cancel _ (by decide)]
        have ht2 : 1 ≤ t := by rw [ht1]; exact Nat.pow_pos (by decide)
        have hdv := Nat.div_le_self n0 t
        refine fx_iload_n dX11_pointOf_20 rfl (i := 3) rfl ?_
        refine fn_if_le (tgt := 61) dX11_pointOf_21 (by decide) (by omega) (fun c21 => ?_) (fun c21 => ?_)
        · exfalso; omega
        · skip
          refine fx_iload_n dX11_pointOf_24 rfl (i := 1) rfl ?_
          refine fx_iload_n dX11_pointOf_25 rfl (i := 3) rfl ?_
          refine fn_idiv dX11_pointOf_26 (by omega) (by omega) (by omega) ?_
          refine fx_bipush (v := (nI 10)) dX11_pointOf_27 (by decide) ?_
          refine fn_irem dX11_pointOf_29 (by omega) (by omega) (by omega) ?_
          refine fx_istore (lv2 := [(0, .ref 0), (1, .int (nI n0)), (2, .int (nI x)), (3, .int (nI t)), (4, .int (nI ((n0 / t) % 10)))]) dX11_pointOf_30 (by decide) rfl ?_
          refine fx_iload dX11_pointOf_32 rfl ?_
          refine fx_aload_n dX11_pointOf_34 rfl (i := 0) rfl ?_
          refine fw_geti dX11_pointOf_35 fd11_116 rfl rfl ?_
          refine fn_to (show _ = (nI q) from hq) ?_
          refine fn_icmp_lt (tgt := 43) dX11_pointOf_38 (by decide) (by omega) (by omega) (fun c38 => ?_) (fun c38 => ?_)
          · skip
            refine fx_aload_n dX11_pointOf_43 rfl (i := 0) rfl ?_
            refine fw_geti dX11_pointOf_44 fd11_116 rfl rfl ?_
            refine fn_to (show _ = (nI q) from hq) ?_
            refine fx_iload_n dX11_pointOf_47 rfl (i := 2) rfl ?_
            refine fn_imul dX11_pointOf_48 ?_
            refine fx_iload dX11_pointOf_49 rfl ?_
            refine fn_iadd dX11_pointOf_51 ?_
            refine fx_istore_n (lv2 := [(0, .ref 0), (1, .int (nI n0)), (2, .int (nI ((q * x) + ((n0 / t) % 10)))), (3, .int (nI t)), (4, .int (nI ((n0 / t) % 10)))]) dX11_pointOf_52 (i := 2) rfl (by decide) rfl ?_
            refine fx_iload_n dX11_pointOf_53 rfl (i := 3) rfl ?_
            refine fx_bipush (v := (nI 10)) dX11_pointOf_54 (by decide) ?_
            refine fn_idiv dX11_pointOf_56 (by omega) (by omega) (by omega) ?_
            refine fx_istore_n (lv2 := [(0, .ref 0), (1, .int (nI n0)), (2, .int (nI ((q * x) + ((n0 / t) % 10)))), (3, .int (nI (t / 10))), (4, .int (nI ((n0 / t) % 10)))]) dX11_pointOf_57 (i := 3) rfl (by decide) rfl ?_
            refine fx_goto (tgt := 20) dX11_pointOf_58 (by decide) ?_
            exact fn_sub [0, 1, 2, 3] rfl (ih20 ((q * x) + ((n0 / t) % 10)) (t / 10) (by rw [ht1]) (by have := Nat.div_le_self t 10; omega) (by rw [← hR, pqf_s, if_pos c38]))
          · skip
            refine fx_iconst (v := (iI (-1))) dX11_pointOf_41 (by decide) ?_
            exact fx_iret dX11_pointOf_42 rfl rfl rfl (by rw [hQ]; exact ⟨by rw [← hR, pqf_s, if_neg (by omega)], rfl, rfl⟩)
    exact (L20 4 0 1000 (by decide) (by decide) (by unfold pqo; rw [if_pos (by omega)]; rfl))
  · skip
    refine fx_iconst (v := (iI (-1))) dX11_pointOf_12 (by decide) ?_
    exact fx_iret dX11_pointOf_13 rfl rfl rfl (by rw [hQ]; exact ⟨by unfold pqo; rw [if_neg (of_decide_eq_false c9)], rfl, rfl⟩)

set_option maxRecDepth 4000 in
set_option maxHeartbeats 1000000 in
theorem C11_wipeMarks  (G : Nat → Nat → Int32) (L : Nat → Nat → Int64) (t : Nat) (hto : mT t = some (0, 2, 625, []))  : fv_M Y11_wipeMarks 0 0 0 [.ref 0, .ref t] (fw mT G L) none (fun r2 f2 al2 => ∃ G2 : Nat → Nat → Int32, r2 = none ∧ f2 = fw mT G2 L ∧ al2 = none ∧ (∀ i, i ≠ t → G2 i = G i) ∧ ∀ p, p < 625 → G2 t p = bI false) := by
  refine fv_enter rfl (Nat.le_of_ble_eq_true rfl) ?_
  obtain ⟨Q, hQ⟩ : ∃ Q : Option Value → fv_F → Option Nat → Prop, Q = (fun r2 f2 al2 => ∃ G2 : Nat → Nat → Int32, r2 = none ∧ f2 = fw mT G2 L ∧ al2 = none ∧ (∀ i, i ≠ t → G2 i = G i) ∧ ∀ p, p < 625 → G2 t p = bI false) := ⟨_, rfl⟩
  rw [← hQ]
  show fv_At Y11_wipeMarks 0 0 0 Q 0 [(0, .ref 0), (1, .ref t)] [] (fw mT G L) none 0 0
  refine fx_iconst (v := (nI 0)) dX11_wipeMarks_0 (by decide) ?_
  refine fx_istore_n (lv2 := [(0, .ref 0), (1, .ref t), (2, .int (nI 0))]) dX11_wipeMarks_1 (i := 2) rfl (by decide) rfl ?_
  have L2 : ∀ (j : Nat) (r : Nat) (G1 : Nat → Nat → Int32), (r + j = 625) → (∀ i, i ≠ t → G1 i = G i) → (∀ p, p < r → G1 t p = bI false) → fv_At Y11_wipeMarks 0 0 0 Q 2 [(0, .ref 0), (1, .ref t), (2, .int (nI r))] [] (fw mT G1 L) none 0 0 := by
    intro j
    induction j with
    | zero =>
      intro r G1 hj hoG hN
      refine fx_iload_n dX11_wipeMarks_2 rfl (i := 2) rfl ?_
      refine fx_sipush (v := (nI 625)) dX11_wipeMarks_3 (by decide) ?_
      refine fn_icmp_ge (tgt := 19) dX11_wipeMarks_6 (by decide) (by omega) (by omega) (fun c6 => ?_) (fun c6 => ?_)
      · skip
        exact fx_vret dX11_wipeMarks_19 rfl rfl rfl (by rw [hQ]; exact ⟨G1, rfl, rfl, rfl, hoG, fun p hp => hN p (by omega)⟩)
      · exfalso; omega
    | succ j ih2 =>
      intro r G1 hj hoG hN
      refine fx_iload_n dX11_wipeMarks_2 rfl (i := 2) rfl ?_
      refine fx_sipush (v := (nI 625)) dX11_wipeMarks_3 (by decide) ?_
      refine fn_icmp_ge (tgt := 19) dX11_wipeMarks_6 (by decide) (by omega) (by omega) (fun c6 => ?_) (fun c6 => ?_)
      · exfalso; omega
      · skip
        refine fx_aload_n dX11_wipeMarks_9 rfl (i := 1) rfl ?_
        refine fx_iload_n dX11_wipeMarks_10 rfl (i := 2) rfl ?_
        refine fx_iconst (v := (nI 0)) dX11_wipeMarks_11 (by decide) ?_
        refine fn_to (show _ = (bI false) from rfl) ?_
        refine fw_zast r dX11_wipeMarks_12 (bI_01 _) hto rfl (by omega) (by decide) ?_
        refine fn_iinc (c := 1) (lv2 := [(0, .ref 0), (1, .ref t), (2, .int (nI (r + 1)))]) dX11_wipeMarks_13 (by decide) rfl (by decide) rfl ?_
        refine fx_goto (tgt := 2) dX11_wipeMarks_16 (by decide) ?_
        exact (ih2 (r + 1) (g2 G1 t r ((bI false))) (by omega) (fun i q => (g2_row _ _ q).trans (hoG i q)) (fun p q => by by_cases w : p = r; (rw [w]; exact g2_eq _ _ _ _); exact (g2_ne _ _ (fun z => w z.2)).trans (hN p (by omega))))
  exact (L2 625 0 G (by omega) (fun _ _ => rfl) (fun p q => absurd q (Nat.not_lt_zero _)))

set_option maxRecDepth 4000 in
set_option maxHeartbeats 1000000 in
theorem C11_evened  (G : Nat → Nat → Int32) (L : Nat → Nat → Int64) (q : Nat) (hS : msq G q) (p : Nat) (hp : p < q ^ 4) : fv_M Y11_evened 0 0 0 [.ref 0, .int (nI p)] (fw mT G L) none (fv_eq (some (.int (nI (evq q p)))) (fw mT G L)) := by
  refine fv_enter rfl (Nat.le_of_ble_eq_true rfl) ?_
  obtain ⟨Q, hQ⟩ : ∃ Q : Option Value → fv_F → Option Nat → Prop, Q = (fv_eq (some (.int (nI (evq q p)))) (fw mT G L)) := ⟨_, rfl⟩
  rw [← hQ]
  show fv_At Y11_evened 0 0 0 Q 0 [(0, .ref 0), (1, .int (nI p))] [] (fw mT G L) none 0 0
  have h625 := q4_le hS.2.1
  refine fx_aload_n dX11_evened_0 rfl (i := 0) rfl ?_
  refine fw_getr dX11_evened_1 fd11_100 rfl rfl ?_
  refine fx_iload_n dX11_evened_4 rfl (i := 1) rfl ?_
  refine fw_iald p dX11_evened_5 rfl rfl (by omega) (by decide) ?_
  refine fn_to (show _ = (nI (evq q p)) from (hS.2.2.2 p hp)) ?_
  exact fx_iret dX11_evened_6 rfl rfl rfl (by rw [hQ]; exact ⟨rfl, rfl, rfl⟩)

set_option maxRecDepth 4000 in
set_option maxHeartbeats 1000000 in
theorem C11_onLine  (G : Nat → Nat → Int32) (L : Nat → Nat → Int64) (q : Nat) (hS : msq G q) (a b i : Nat) (ha : a < q ^ 4) (hb : b < q ^ 4) (hi : i ≤ 5) : fv_M Y11_onLine 1 0 0 [.ref 0, .int (nI a), .int (nI b), .int (nI i)] (fw mT G L) none (fv_eq (some (.int (nI (onl q a b i)))) (fw mT G L)) := by
  refine fv_enter rfl (Nat.le_of_ble_eq_true rfl) ?_
  obtain ⟨Q, hQ⟩ : ∃ Q : Option Value → fv_F → Option Nat → Prop, Q = (fv_eq (some (.int (nI (onl q a b i)))) (fw mT G L)) := ⟨_, rfl⟩
  rw [← hQ]
  show fv_At Y11_onLine 1 0 0 Q 0 [(0, .ref 0), (1, .int (nI a)), (2, .int (nI b)), (3, .int (nI i))] [] (fw mT G L) none 0 0
  have h625 := q4_le hS.2.1
  refine fx_iload_n dX11_onLine_0 rfl (i := 3) rfl ?_
  refine fx_aload_n dX11_onLine_1 rfl (i := 0) rfl ?_
  refine fw_geti dX11_onLine_2 fd11_116 rfl rfl ?_
  refine fn_to (show _ = (nI q) from hS.1) ?_
  refine fn_icmp_ne (tgt := 17) dX11_onLine_5 (by decide) (by omega) (by have := hS.2.1; omega) (fun c5 => ?_) (fun c5 => ?_)
  · skip
    refine fx_aload_n dX11_onLine_17 rfl (i := 0) rfl ?_
    refine fw_getr dX11_onLine_18 fd11_100 rfl rfl ?_
    refine fx_aload_n dX11_onLine_21 rfl (i := 0) rfl ?_
    refine fx_iload_n dX11_onLine_22 rfl (i := 1) rfl ?_
    refine fx_iload_n dX11_onLine_23 rfl (i := 3) rfl ?_
    refine fx_iload_n dX11_onLine_24 rfl (i := 2) rfl ?_
    refine fx_iconst (v := (nI 1)) dX11_onLine_25 (by decide) ?_
    refine fn_cV dX11_onLine_26 lk11_237 fv_c8 rfl (fw_at (show mT 0 = some (3, 8, 38, [some 1, none, some 2, some 3, some 4, some 5, some 6, some 7, some 8, some 9, some 10, some 11, some 12, some 13, some 14, some 15, some 16, some 17, some 18, some 19, none, none, none, some 20, some 21, some 22, some 23, none, some 24, some 25, some 26, some 27, some 28, some 29, some 30, some 31, none, some 32]) from rfl)) (C11_mixed G L q hS.1 hS.2.1 hS.2.2.1 a i b 1 (by omega) (by omega) (by omega) (by omega)) rfl rfl (by decide) (Nat.le_of_ble_eq_true rfl) ?_
    show fv_At Y11_onLine 1 0 0 Q 29 [(0, .ref 0), (1, .int (nI a)), (2, .int (nI b)), (3, .int (nI i))] [.int (nI (mxq q a i b 1)), .ref 30] (fw mT G L) none 0 0
    have hml := mxq_lt (q := q) (by have := hS.2.1; omega) a i b 1
    refine fw_iald (mxq q a i b 1) dX11_onLine_29 rfl rfl (by omega) (by decide) ?_
    refine fn_to (show _ = (nI (evq q (mxq q a i b 1))) from (hS.2.2.2 _ hml)) ?_
    exact fx_iret dX11_onLine_30 rfl rfl rfl (by rw [hQ]; exact ⟨by unfold onl; first | rw [if_pos (by omega)] | rw [if_neg (by omega)], rfl, rfl⟩)
  · skip
    refine fx_aload_n dX11_onLine_8 rfl (i := 0) rfl ?_
    refine fw_getr dX11_onLine_9 fd11_100 rfl rfl ?_
    refine fx_iload_n dX11_onLine_12 rfl (i := 1) rfl ?_
    refine fw_iald a dX11_onLine_13 rfl rfl (by omega) (by decide) ?_
    refine fn_to (show _ = (nI (evq q a)) from (hS.2.2.2 a ha)) ?_
    refine fx_goto (tgt := 30) dX11_onLine_14 (by decide) ?_
    exact fx_iret dX11_onLine_30 rfl rfl rfl (by rw [hQ]; exact ⟨by unfold onl; first | rw [if_pos (by omega)] | rw [if_neg (by omega)], rfl, rfl⟩)

theorem onl_lt {q : Nat} (h : 0 < q) {a b i : Nat} (ha : a < q ^ 4) : onl q a b i < q ^ 4 := by
  unfold onl
  split
  · exact evq_lt h ha
  · exact evq_lt h (mxq_lt h _ _ _ _)
/-- how many points are marked anew -/
def mkn (q a b : Nat) : Nat → Nat → (Nat → Bool) → Nat → Nat
  | 0, _, _, c => c
  | n + 1, i, S, c => mkn q a b n (i + 1) (fun x => decide (x = onl q a b i) || S x) (c + if S (onl q a b i) = true then 0 else 1)
def mkS (q a b : Nat) : Nat → Nat → (Nat → Bool) → Nat → Bool
  | 0, _, S => S
  | n + 1, i, S => mkS q a b n (i + 1) (fun x => decide (x = onl q a b i) || S x)
theorem mkn_s (q a b n i : Nat) (S : Nat → Bool) (c : Nat) : mkn q a b (n + 1) i S c = mkn q a b n (i + 1) (fun x => decide (x = onl q a b i) || S x) (c + if S (onl q a b i) = true then 0 else 1) := rfl
theorem mkS_s (q a b n i : Nat) (S : Nat → Bool) : mkS q a b (n + 1) i S = mkS q a b n (i + 1) (fun x => decide (x = onl q a b i) || S x) := rfl
def noS : Nat → Bool := fun _ => false
theorem msq_k {G G2 : Nat → Nat → Int32} {q : Nat} (h : msq G q) (h0 : G2 0 27 = G 0 27) (h1 : G2 29 = G 29) (h2 : G2 30 = G 30) : msq G2 q := ⟨h0.trans h.1, h.2.1, fun p hp k hk => by rw [h1]; exact h.2.2.1 p hp k hk, fun p hp => by rw [h2]; exact h.2.2.2 p hp⟩

set_option maxRecDepth 4000 in
set_option maxHeartbeats 1000000 in
theorem C11_marks  (G : Nat → Nat → Int32) (L : Nat → Nat → Int64) (q : Nat) (hS : msq G q) (t : Nat) (hto : mT t = some (0, 2, 625, [])) (ht : t = 27 ∨ t = 28) (S0 : Nat → Bool) (h0 : ∀ x, x < 625 → G t x = bI (S0 x)) (a b : Nat) (ha : a < q ^ 4) (hb : b < q ^ 4) : fv_M Y11_marks 2 0 0 [.ref 0, .ref t, .int (nI a), .int (nI b)] (fw mT G L) none (fun r2 f2 al2 => ∃ G2 : Nat → Nat → Int32, r2 = some (.int (nI (mkn q a b (q + 1) 0 S0 0))) ∧ f2 = fw mT G2 L ∧ al2 = none ∧ (∀ i, i ≠ t → G2 i = G i) ∧ ∀ x, x < 625 → G2 t x = bI (mkS q a b (q + 1) 0 S0 x)) := by
  refine fv_enter rfl (Nat.le_of_ble_eq_true rfl) ?_
  obtain ⟨Q, hQ⟩ : ∃ Q : Option Value → fv_F → Option Nat → Prop, Q = (fun r2 f2 al2 => ∃ G2 : Nat → Nat → Int32, r2 = some (.int (nI (mkn q a b (q + 1) 0 S0 0))) ∧ f2 = fw mT G2 L ∧ al2 = none ∧ (∀ i, i ≠ t → G2 i = G i) ∧ ∀ x, x < 625 → G2 t x = bI (mkS q a b (q + 1) 0 S0 x)) := ⟨_, rfl⟩
  rw [← hQ]
  show fv_At Y11_marks 2 0 0 Q 0 [(0, .ref 0), (1, .ref t), (2, .int (nI a)), (3, .int (nI b))] [] (fw mT G L) none 0 0
  have h625 := q4_le hS.2.1
  have hq5 := hS.2.1
  refine fx_iconst (v := (nI 0)) dX11_marks_0 (by decide) ?_
  refine fx_istore (lv2 := [(0, .ref 0), (1, .ref t), (2, .int (nI a)), (3, .int (nI b)), (4, .int (nI 0))]) dX11_marks_1 (by decide) rfl ?_
  refine fx_iconst (v := (nI 0)) dX11_marks_3 (by decide) ?_
  refine fx_istore (lv2 := [(0, .ref 0), (1, .ref t), (2, .int (nI a)), (3, .int (nI b)), (4, .int (nI 0)), (5, .int (nI 0))]) dX11_marks_4 (by decide) rfl ?_
  have L6 : ∀ (n : Nat) (c : Nat) (i : Nat) (S : Nat → Bool) (G1 : Nat → Nat → Int32), (i + n = q + 1) → (∀ j, j ≠ t → G1 j = G j) → (∀ x, x < 625 → G1 t x = bI (S x)) → (mkn q a b n i S c = mkn q a b (q + 1) 0 S0 0) → (mkS q a b n i S = mkS q a b (q + 1) 0 S0) → fv_At Y11_marks 2 0 0 Q 6 [(0, .ref 0), (1, .ref t), (2, .int (nI a)), (3, .int (nI b)), (4, .int (nI c)), (5, .int (nI i))] [] (fw mT G1 L) none 0 0 := by
    intro n
    induction n with
    | zero =>
      intro c i S G1 hi hoG hN hR hRS
      refine fx_iload dX11_marks_6 rfl ?_
      refine fx_aload_n dX11_marks_8 rfl (i := 0) rfl ?_
      refine fw_geti dX11_marks_9 fd11_116 rfl rfl ?_
      refine fn_to (show _ = (nI q) from ((congrFun (hoG 0 (by omega)) 27).trans hS.1)) ?_
      refine fn_icmp_gt (tgt := 53) dX11_marks_12 (by decide) (by omega) (by omega) (fun c12 => ?_) (fun c12 => ?_)
      · skip
        refine fx_iload dX11_marks_53 rfl ?_
        exact fx_iret dX11_marks_55 rfl rfl rfl (by rw [hQ]; exact ⟨G1, by rw [show c = mkn q a b (q + 1) 0 S0 0 from hR], rfl, rfl, hoG, fun x h => by rw [hN x h, show S = mkS q a b (q + 1) 0 S0 from hRS]⟩)
      · exfalso; omega
    | succ n ih6 =>
      intro c i S G1 hi hoG hN hR hRS
      refine fx_iload dX11_marks_6 rfl ?_
      refine fx_aload_n dX11_marks_8 rfl (i := 0) rfl ?_
      refine fw_geti dX11_marks_9 fd11_116 rfl rfl ?_
      refine fn_to (show _ = (nI q) from ((congrFun (hoG 0 (by omega)) 27).trans hS.1)) ?_
      refine fn_icmp_gt (tgt := 53) dX11_marks_12 (by decide) (by omega) (by omega) (fun c12 => ?_) (fun c12 => ?_)
      · exfalso; omega
      · skip
        have hS1 : msq G1 q := msq_k hS (by rw [hoG 0 (by omega)]) (hoG 29 (by omega)) (hoG 30 (by omega))
        refine fx_aload_n dX11_marks_15 rfl (i := 0) rfl ?_
        refine fx_iload_n dX11_marks_16 rfl (i := 2) rfl ?_
        refine fx_iload_n dX11_marks_17 rfl (i := 3) rfl ?_
        refine fx_iload dX11_marks_18 rfl ?_
        refine fn_cV dX11_marks_20 lk11_254 fv_c8 rfl (fw_at (show mT 0 = some (3, 8, 38, [some 1, none, some 2, some 3, some 4, some 5, some 6, some 7, some 8, some 9, some 10, some 11, some 12, some 13, some 14, some 15, some 16, some 17, some 18, some 19, none, none, none, some 20, some 21, some 22, some 23, none, some 24, some 25, some 26, some 27, some 28, some 29, some 30, some 31, none, some 32]) from rfl)) (C11_onLine G1 L q hS1 a b i (by omega) (by omega) (by omega)) rfl rfl (by decide) (Nat.le_of_ble_eq_true rfl) ?_
        show fv_At Y11_marks 2 0 0 Q 23 [(0, .ref 0), (1, .ref t), (2, .int (nI a)), (3, .int (nI b)), (4, .int (nI c)), (5, .int (nI i))] [.int (nI (onl q a b i))] (fw mT G1 L) none 0 0
        have hol := onl_lt (q := q) (by omega) (a := a) (b := b) (i := i) ha
        refine fx_istore (lv2 := [(0, .ref 0), (1, .ref t), (2, .int (nI a)), (3, .int (nI b)), (4, .int (nI c)), (5, .int (nI i)), (6, .int (nI (onl q a b i)))]) dX11_marks_23 (by decide) rfl ?_
        refine fx_iload dX11_marks_25 rfl ?_
        refine fx_aload_n dX11_marks_27 rfl (i := 1) rfl ?_
        refine fx_iload dX11_marks_28 rfl ?_
        refine fw_zald (onl q a b i) dX11_marks_30 hto rfl (by omega) (by decide) ?_
        refine fn_to (show _ = (bI (S (onl q a b i))) from (hN _ (by omega))) ?_
        refine fn_if_eqB (tgt := 38) dX11_marks_31 (by decide) (fun c31 => ?_) (fun c31 => ?_)
        · skip
          refine fx_iconst (v := (nI 1)) dX11_marks_38 (by decide) ?_
          refine fn_iadd dX11_marks_39 ?_
          refine fn_to (show _ = (nI (c + if S (onl q a b i) = true then 0 else 1)) from (by first | rw [if_pos c31] | rw [if_neg (by rw [c31]; decide)])) ?_
          refine fx_istore (lv2 := [(0, .ref 0), (1, .ref t), (2, .int (nI a)), (3, .int (nI b)), (4, .int (nI (c + if S (onl q a b i) = true then 0 else 1))), (5, .int (nI i)), (6, .int (nI (onl q a b i)))]) dX11_marks_40 (by decide) rfl ?_
          refine fx_aload_n dX11_marks_42 rfl (i := 1) rfl ?_
          refine fx_iload dX11_marks_43 rfl ?_
          refine fx_iconst (v := (nI 1)) dX11_marks_45 (by decide) ?_
          refine fn_to (show _ = (bI true) from rfl) ?_
          refine fw_zast (onl q a b i) dX11_marks_46 (bI_01 _) hto rfl (by omega) (by decide) ?_
          refine fn_iinc (c := 1) (lv2 := [(0, .ref 0), (1, .ref t), (2, .int (nI a)), (3, .int (nI b)), (4, .int (nI (c + if S (onl q a b i) = true then 0 else 1))), (5, .int (nI (i + 1))), (6, .int (nI (onl q a b i)))]) dX11_marks_47 (by decide) rfl (by decide) rfl ?_
          refine fx_goto (tgt := 6) dX11_marks_50 (by decide) ?_
          exact fn_sub [0, 1, 2, 3, 4, 5] rfl (ih6 (c + if S (onl q a b i) = true then 0 else 1) (i + 1) ((fun x => decide (x = onl q a b i) || S x)) (g2 G1 t (onl q a b i) ((bI true))) (by omega) (fun j z => (g2_row _ _ z).trans (hoG j z)) (fun x h => by by_cases z : x = onl q a b i; (rw [z, g2_eq, decide_eq_true rfl]; rfl); rw [g2_ne _ _ (fun y => z y.2), hN x h, decide_eq_false z, Bool.false_or]) (by rw [← hR, mkn_s]) (by rw [← hRS, mkS_s]))
        · skip
          refine fx_iconst (v := (nI 0)) dX11_marks_34 (by decide) ?_
          refine fx_goto (tgt := 39) dX11_marks_35 (by decide) ?_
          refine fn_iadd dX11_marks_39 ?_
          refine fn_to (show _ = (nI (c + if S (onl q a b i) = true then 0 else 1)) from (by first | rw [if_pos c31] | rw [if_neg (by rw [c31]; decide)])) ?_
          refine fx_istore (lv2 := [(0, .ref 0), (1, .ref t), (2, .int (nI a)), (3, .int (nI b)), (4, .int (nI (c + if S (onl q a b i) = true then 0 else 1))), (5, .int (nI i)), (6, .int (nI (onl q a b i)))]) dX11_marks_40 (by decide) rfl ?_
          refine fx_aload_n dX11_marks_42 rfl (i := 1) rfl ?_
          refine fx_iload dX11_marks_43 rfl ?_
          refine fx_iconst (v := (nI 1)) dX11_marks_45 (by decide) ?_
          refine fn_to (show _ = (bI true) from rfl) ?_
          refine fw_zast (onl q a b i) dX11_marks_46 (bI_01 _) hto rfl (by omega) (by decide) ?_
          refine fn_iinc (c := 1) (lv2 := [(0, .ref 0), (1, .ref t), (2, .int (nI a)), (3, .int (nI b)), (4, .int (nI (c + if S (onl q a b i) = true then 0 else 1))), (5, .int (nI (i + 1))), (6, .int (nI (onl q a b i)))]) dX11_marks_47 (by decide) rfl (by decide) rfl ?_
          refine fx_goto (tgt := 6) dX11_marks_50 (by decide) ?_
          exact fn_sub [0, 1, 2, 3, 4, 5] rfl (ih6 (c + if S (onl q a b i) = true then 0 else 1) (i + 1) ((fun x => decide (x = onl q a b i) || S x)) (g2 G1 t (onl q a b i) ((bI true))) (by omega) (fun j z => (g2_row _ _ z).trans (hoG j z)) (fun x h => by by_cases z : x = onl q a b i; (rw [z, g2_eq, decide_eq_true rfl]; rfl); rw [g2_ne _ _ (fun y => z y.2), hN x h, decide_eq_false z, Bool.false_or]) (by rw [← hR, mkn_s]) (by rw [← hRS, mkS_s]))
  exact (L6 (q + 1) 0 0 S0 G (by omega) (fun _ _ => rfl) h0 rfl rfl)

set_option maxRecDepth 4000 in
set_option maxHeartbeats 1000000 in
theorem C11_drop  (G : Nat → Nat → Int32) (L : Nat → Nat → Int64) (th : Nat → Bool) (hT : ∀ r, r < 8 → G 24 r = bI (th r)) (r : Int) (r1 : -2147483648 ≤ r) (r2 : r < 2147483648) : fv_M Y11_drop 1 0 0 [.ref 0, .int (iI r)] (fw mT G L) none (fun r2 f2 al2 => ∃ G2 : Nat → Nat → Int32, r2 = some (.int (iI (if 0 ≤ r ∧ r ≤ 7 then (if th r.toNat = true then 1 else -3) else -2))) ∧ f2 = fw mT G2 L ∧ al2 = none ∧ (∀ i, i ≠ 24 → G2 i = G i) ∧ ∀ x, x < 8 → G2 24 x = bI (th x && !decide (0 ≤ r ∧ r ≤ 7 ∧ x = r.toNat))) := by
  refine fv_enter rfl (Nat.le_of_ble_eq_true rfl) ?_
  obtain ⟨Q, hQ⟩ : ∃ Q : Option Value → fv_F → Option Nat → Prop, Q = (fun r2 f2 al2 => ∃ G2 : Nat → Nat → Int32, r2 = some (.int (iI (if 0 ≤ r ∧ r ≤ 7 then (if th r.toNat = true then 1 else -3) else -2))) ∧ f2 = fw mT G2 L ∧ al2 = none ∧ (∀ i, i ≠ 24 → G2 i = G i) ∧ ∀ x, x < 8 → G2 24 x = bI (th x && !decide (0 ≤ r ∧ r ≤ 7 ∧ x = r.toNat))) := ⟨_, rfl⟩
  rw [← hQ]
  show fv_At Y11_drop 1 0 0 Q 0 [(0, .ref 0), (1, .int (iI r))] [] (fw mT G L) none 0 0
  refine fx_iload_n dX11_drop_0 rfl (i := 1) rfl ?_
  refine fx_i2l dX11_drop_1 ?_
  refine fn_toL (show _ = lI r from lI_of (z := r) (by omega) (by omega)) ?_
  refine fx_lconst (v := 0) dX11_drop_2 (by decide) ?_
  refine fn_toL (show _ = (lI 0) from (by decide)) ?_
  refine fx_ldc2 dX11_drop_3 kc11_246 (fn_toL (show _ = lI (7) by decide) ?_)
  refine fn_cS dX11_drop_6 lk11_126 (C11_in (v := r) (a := 0) (b := 7) (by omega) (by omega) (by omega) (by omega) (by omega) (by omega) (f := (fw mT G L))) rfl rfl (by decide) (Nat.le_of_ble_eq_true rfl) ?_
  show fv_At Y11_drop 1 0 0 Q 9 [(0, .ref 0), (1, .int (iI r))] [.int (bI (decide (0 ≤ r ∧ r ≤ 7)))] (fw mT G L) none 0 0
  refine fn_if_neB (tgt := 15) dX11_drop_9 (by decide) (fun c9 => ?_) (fun c9 => ?_)
  · skip
    have hin := of_decide_eq_true c9
    obtain ⟨r0, rfl⟩ : ∃ z : Nat, r = (z : Int) := ⟨r.toNat, by omega⟩
    show fv_At Y11_drop 1 0 0 Q 15 [(0, .ref 0), (1, .int (nI r0))] [] (fw mT G L) none 0 0
    refine fx_aload_n dX11_drop_15 rfl (i := 0) rfl ?_
    refine fw_getr dX11_drop_16 fd11_82 rfl rfl ?_
    refine fx_iload_n dX11_drop_19 rfl (i := 1) rfl ?_
    refine fw_zald r0 dX11_drop_20 rfl rfl (by omega) (by decide) ?_
    refine fn_to (show _ = (bI (th r0)) from (hT r0 (by omega))) ?_
    refine fn_if_neB (tgt := 27) dX11_drop_21 (by decide) (fun c21 => ?_) (fun c21 => ?_)
    · skip
      refine fx_aload_n dX11_drop_27 rfl (i := 0) rfl ?_
      refine fw_getr dX11_drop_28 fd11_82 rfl rfl ?_
      refine fx_iload_n dX11_drop_31 rfl (i := 1) rfl ?_
      refine fx_iconst (v := (nI 0)) dX11_drop_32 (by decide) ?_
      refine fn_to (show _ = (bI false) from rfl) ?_
      refine fw_zast r0 dX11_drop_33 (bI_01 _) rfl rfl (by omega) (by decide) ?_
      refine fx_iconst (v := (nI 1)) dX11_drop_34 (by decide) ?_
      exact fx_iret dX11_drop_35 rfl rfl rfl (by rw [hQ]; exact ⟨g2 G 24 r0 ((bI false)), by rw [if_pos hin, if_pos (by rw [Int.toNat_natCast, c21])]; rfl, rfl, rfl, fun i h => g2_row _ _ h, fun x h => by by_cases z : x = r0; (rw [z, g2_eq, decide_eq_true ⟨hin.1, hin.2, (Int.toNat_natCast r0).symm⟩, Bool.not_true, Bool.and_false]); rw [g2_ne _ _ (fun w => z w.2), hT x h, decide_eq_false (fun w => z (by rw [w.2.2, Int.toNat_natCast])), Bool.not_false, Bool.and_true]⟩)
    · skip
      refine fx_bipush (v := (iI (-3))) dX11_drop_24 (by decide) ?_
      exact fx_iret dX11_drop_26 rfl rfl rfl (by rw [hQ]; exact ⟨G, by rw [if_pos hin, if_neg (by rw [Int.toNat_natCast, c21]; decide)], rfl, rfl, fun _ _ => rfl, fun x h => by rw [hT x h]; by_cases z : x = r0; (rw [z, c21]; rfl); rw [decide_eq_false (fun w => z (by rw [w.2.2, Int.toNat_natCast])), Bool.not_false, Bool.and_true]⟩)
  · skip
    refine fx_bipush (v := (iI (-2))) dX11_drop_12 (by decide) ?_
    exact fx_iret dX11_drop_14 rfl rfl rfl (by rw [hQ]; exact ⟨G, by rw [if_neg (of_decide_eq_false c9)], rfl, rfl, fun _ _ => rfl, fun x h => by rw [hT x h, decide_eq_false (fun w => of_decide_eq_false c9 ⟨w.1, w.2.1⟩), Bool.not_false, Bool.and_true]⟩)
