def lI (z : Int) : Int64 := Int64.ofInt z
theorem lI_t {z : Int} (h1 : -9223372036854775808 ≤ z) (h2 : z < 9223372036854775808) : (lI z).toInt = z := by
  unfold lI
  rw [Int64.toInt_ofInt, show Int64.size = 18446744073709551616 from rfl]
  exact Int.bmod_eq_of_le (by omega) (by omega)
theorem lI_lt {a b : Int} (a1 : -9223372036854775808 ≤ a) (a2 : a < 9223372036854775808) (b1 : -9223372036854775808 ≤ b) (b2 : b < 9223372036854775808) : lI a < lI b ↔ a < b := by rw [Int64.lt_iff_toInt_lt, lI_t a1 a2, lI_t b1 b2]
theorem lI_of {z : Int} (h1 : -2147483648 ≤ z) (h2 : z < 2147483648) : (iI z).toInt64 = lI z := by
  rw [← Int64.toInt_inj, Int32.toInt_toInt64, iI_t h1 h2, lI_t (by omega) (by omega)]
/-- the model's order at work: how many figures, which -/
def mor (G : Nat → Nat → Int32) (n : Nat) (h : Nat → Nat) : Prop := n ≤ 6 ∧ G 0 1 = nI n ∧ ∀ p, p < n → G 1 p = nI (h p)
def tdl (h : Nat → Nat) : Nat → Nat → Nat → Nat
  | 0, _, o => o
  | k + 1, i, o => tdl h k (i + 1) (10 * o + h i)
/-- the order told -/
def tld (h : Nat → Nat) (n : Nat) : Nat := tdl h n 0 0

set_option maxRecDepth 4000 in
set_option maxHeartbeats 1000000 in
theorem C11_in (v a b : Int) (v1 : -9223372036854775808 ≤ v) (v2 : v < 9223372036854775808) (a1 : -9223372036854775808 ≤ a) (a2 : a < 9223372036854775808) (b1 : -9223372036854775808 ≤ b) (b2 : b < 9223372036854775808) (f : fv_F) : fv_M Y11_in 0 0 0 [.long (lI v), .long (lI a), .long (lI b)] f none (fv_eq (some (.int (bI (decide (a ≤ v ∧ v ≤ b))))) f) := by
  refine fv_enter rfl (Nat.le_of_ble_eq_true rfl) ?_
  obtain ⟨Q, hQ⟩ : ∃ Q : Option Value → fv_F → Option Nat → Prop, Q = (fv_eq (some (.int (bI (decide (a ≤ v ∧ v ≤ b))))) f) := ⟨_, rfl⟩
  rw [← hQ]
  show fv_At Y11_in 0 0 0 Q 0 [(0, .long (lI v)), (2, .long (lI a)), (4, .long (lI b))] [] f none 0 0
  refine fx_lload_n dX11_in_0 rfl (i := 0) rfl ?_
  refine fx_lload_n dX11_in_1 rfl (i := 2) rfl ?_
  refine fx_lcmp dX11_in_2 ?_
  refine fn_if_ltC (tgt := 17) dX11_in_3 (by decide) (fun c3 => ?_) (fun c3 => ?_)
  · skip
    first | rw [lI_lt v1 v2 a1 a2] at c3 | rw [lI_lt b1 b2 v1 v2] at c10
    refine fx_iconst (v := (nI 0)) dX11_in_17 (by decide) ?_
    refine fn_to (show _ = (bI false) from rfl) ?_
    exact fx_zret dX11_in_18 rfl (bI_01 _) rfl rfl (by rw [hQ]; exact ⟨by first | rw [decide_eq_true (by omega)] | rw [decide_eq_false (by omega)], rfl, rfl⟩)
  · skip
    rw [lI_lt v1 v2 a1 a2] at c3
    refine fx_lload_n dX11_in_6 rfl (i := 0) rfl ?_
    refine fx_lload dX11_in_7 rfl ?_
    refine fx_lcmp dX11_in_9 ?_
    refine fn_if_gtC (tgt := 17) dX11_in_10 (by decide) (fun c10 => ?_) (fun c10 => ?_)
    · skip
      first | rw [lI_lt v1 v2 a1 a2] at c3 | rw [lI_lt b1 b2 v1 v2] at c10
      refine fx_iconst (v := (nI 0)) dX11_in_17 (by decide) ?_
      refine fn_to (show _ = (bI false) from rfl) ?_
      exact fx_zret dX11_in_18 rfl (bI_01 _) rfl rfl (by rw [hQ]; exact ⟨by first | rw [decide_eq_true (by omega)] | rw [decide_eq_false (by omega)], rfl, rfl⟩)
    · skip
      rw [lI_lt b1 b2 v1 v2] at c10
      refine fx_iconst (v := (nI 1)) dX11_in_13 (by decide) ?_
      refine fn_to (show _ = (bI true) from rfl) ?_
      refine fx_goto (tgt := 18) dX11_in_14 (by decide) ?_
      exact fx_zret dX11_in_18 rfl (bI_01 _) rfl rfl (by rw [hQ]; exact ⟨by first | rw [decide_eq_true (by omega)] | rw [decide_eq_false (by omega)], rfl, rfl⟩)

set_option maxRecDepth 4000 in
set_option maxHeartbeats 1000000 in
theorem C11_no (c : Int) (f : fv_F) : fv_M Y11_no 0 0 0 [.int (iI c)] f none (fv_eq (some (.long (rfs c))) f) := by
  refine fv_enter rfl (Nat.le_of_ble_eq_true rfl) ?_
  obtain ⟨Q, hQ⟩ : ∃ Q : Option Value → fv_F → Option Nat → Prop, Q = (fv_eq (some (.long (rfs c))) f) := ⟨_, rfl⟩
  rw [← hQ]
  show fv_At Y11_no 0 0 0 Q 0 [(0, .int (iI c))] [] f none 0 0
  refine fx_ldc2 (v := -9223372036854775808) dX11_no_0 kc11_122 ?_
  refine fx_iload_n dX11_no_3 rfl (i := 0) rfl ?_
  refine fx_i2l dX11_no_4 ?_
  refine fx_lsub dX11_no_5 ?_
  exact fx_lret dX11_no_6 rfl rfl rfl (by rw [hQ]; exact ⟨rfl, rfl, rfl⟩)

set_option maxRecDepth 4000 in
set_option maxHeartbeats 1000000 in
theorem C11_told  (G : Nat → Nat → Int32) (L : Nat → Nat → Int64) (n : Nat) (h : Nat → Nat) (hM : mor G n h) : fv_M Y11_told 0 0 0 [.ref 0] (fw mT G L) none (fv_eq (some (.int (nI (tld h n)))) (fw mT G L)) := by
  refine fv_enter rfl (Nat.le_of_ble_eq_true rfl) ?_
  obtain ⟨Q, hQ⟩ : ∃ Q : Option Value → fv_F → Option Nat → Prop, Q = (fv_eq (some (.int (nI (tld h n)))) (fw mT G L)) := ⟨_, rfl⟩
  rw [← hQ]
  show fv_At Y11_told 0 0 0 Q 0 [(0, .ref 0)] [] (fw mT G L) none 0 0
  have h6 := hM.1
  refine fx_iconst (v := (nI 0)) dX11_told_0 (by decide) ?_
  refine fx_istore_n (lv2 := [(0, .ref 0), (1, .int (nI 0))]) dX11_told_1 (i := 1) rfl (by decide) rfl ?_
  refine fx_iconst (v := (nI 0)) dX11_told_2 (by decide) ?_
  refine fx_istore_n (lv2 := [(0, .ref 0), (1, .int (nI 0)), (2, .int (nI 0))]) dX11_told_3 (i := 2) rfl (by decide) rfl ?_
  have L4 : ∀ (k : Nat) (o : Nat) (i : Nat), (i + k = n) → (tdl h k i o = tld h n) → fv_At Y11_told 0 0 0 Q 4 [(0, .ref 0), (1, .int (nI o)), (2, .int (nI i))] [] (fw mT G L) none 0 0 := by
    intro k
    induction k with
    | zero =>
      intro o i hi hR
      refine fx_iload_n dX11_told_4 rfl (i := 2) rfl ?_
      refine fx_aload_n dX11_told_5 rfl (i := 0) rfl ?_
      refine fw_geti dX11_told_6 fd11_130 rfl rfl ?_
      refine fn_to (show _ = (nI n) from hM.2.1) ?_
      refine fn_icmp_ge (tgt := 30) dX11_told_9 (by decide) (by omega) (by omega) (fun c9 => ?_) (fun c9 => ?_)
      · skip
        refine fx_iload_n dX11_told_30 rfl (i := 1) rfl ?_
        exact fx_iret dX11_told_31 rfl rfl rfl (by rw [hQ]; exact ⟨by rw [← hR]; rfl, rfl, rfl⟩)
      · exfalso; omega
    | succ k ih4 =>
      intro o i hi hR
      refine fx_iload_n dX11_told_4 rfl (i := 2) rfl ?_
      refine fx_aload_n dX11_told_5 rfl (i := 0) rfl ?_
      refine fw_geti dX11_told_6 fd11_130 rfl rfl ?_
      refine fn_to (show _ = (nI n) from hM.2.1) ?_
      refine fn_icmp_ge (tgt := 30) dX11_told_9 (by decide) (by omega) (by omega) (fun c9 => ?_) (fun c9 => ?_)
      · exfalso; omega
      · skip
        refine fx_bipush (v := (nI 10)) dX11_told_12 (by decide) ?_
        refine fx_iload_n dX11_told_14 rfl (i := 1) rfl ?_
        refine fn_imul dX11_told_15 ?_
        refine fx_aload_n dX11_told_16 rfl (i := 0) rfl ?_
        refine fw_getr dX11_told_17 fd11_7 rfl rfl ?_
        refine fx_iload_n dX11_told_20 rfl (i := 2) rfl ?_
        refine fw_iald i dX11_told_21 rfl rfl (by omega) (by decide) ?_
        refine fn_to (show _ = (nI (h i)) from (hM.2.2 i (by omega))) ?_
        refine fn_iadd dX11_told_22 ?_
        refine fx_istore_n (lv2 := [(0, .ref 0), (1, .int (nI ((10 * o) + (h i)))), (2, .int (nI i))]) dX11_told_23 (i := 1) rfl (by decide) rfl ?_
        refine fn_iinc (c := 1) (lv2 := [(0, .ref 0), (1, .int (nI ((10 * o) + (h i)))), (2, .int (nI (i + 1)))]) dX11_told_24 (by decide) rfl (by decide) rfl ?_
        refine fx_goto (tgt := 4) dX11_told_27 (by decide) ?_
        exact (ih4 ((10 * o) + (h i)) (i + 1) (by omega) hR)
  exact (L4 n 0 0 (by omega) rfl)

set_option maxRecDepth 4000 in
set_option maxHeartbeats 1000000 in
theorem C11_lengthNow  (G : Nat → Nat → Int32) (L : Nat → Nat → Int64) (n : Nat) (h : Nat → Nat) (hM : mor G n h) (hb : ∀ p, p < n → h p < 10) : fv_M Y11_lengthNow 0 0 0 [.ref 0] (fw mT G L) none (fv_eq (some (.int (nI (ofal h n)))) (fw mT G L)) := by
  refine fv_enter rfl (Nat.le_of_ble_eq_true rfl) ?_
  obtain ⟨Q, hQ⟩ : ∃ Q : Option Value → fv_F → Option Nat → Prop, Q = (fv_eq (some (.int (nI (ofal h n)))) (fw mT G L)) := ⟨_, rfl⟩
  rw [← hQ]
  show fv_At Y11_lengthNow 0 0 0 Q 0 [(0, .ref 0)] [] (fw mT G L) none 0 0
  have h6 := hM.1
  refine fx_iconst (v := (nI 0)) dX11_lengthNow_0 (by decide) ?_
  refine fx_istore_n (lv2 := [(0, .ref 0), (1, .int (nI 0))]) dX11_lengthNow_1 (i := 1) rfl (by decide) rfl ?_
  refine fx_iconst (v := (nI 0)) dX11_lengthNow_2 (by decide) ?_
  refine fx_istore_n (lv2 := [(0, .ref 0), (1, .int (nI 0)), (2, .int (nI 0))]) dX11_lengthNow_3 (i := 2) rfl (by decide) rfl ?_
  have L4 : ∀ (k : Nat) (c : Nat) (i : Nat), (i + k = n) → (ofal1 h n k i c = ofal h n) → fv_At Y11_lengthNow 0 0 0 Q 4 [(0, .ref 0), (1, .int (nI c)), (2, .int (nI i))] [] (fw mT G L) none 0 0 := by
    intro k
    induction k with
    | zero =>
      intro c i hi hR
      refine fx_iload_n dX11_lengthNow_4 rfl (i := 2) rfl ?_
      refine fx_aload_n dX11_lengthNow_5 rfl (i := 0) rfl ?_
      refine fw_geti dX11_lengthNow_6 fd11_130 rfl rfl ?_
      refine fn_to (show _ = (nI n) from hM.2.1) ?_
      refine fn_icmp_ge (tgt := 59) dX11_lengthNow_9 (by decide) (by omega) (by omega) (fun c9 => ?_) (fun c9 => ?_)
      · skip
        refine fx_iload_n dX11_lengthNow_59 rfl (i := 1) rfl ?_
        exact fx_iret dX11_lengthNow_60 rfl rfl rfl (by rw [hQ]; exact ⟨by rw [← hR]; rfl, rfl, rfl⟩)
      · exfalso; omega
    | succ k ih4 =>
      intro c i hi hR
      refine fx_iload_n dX11_lengthNow_4 rfl (i := 2) rfl ?_
      refine fx_aload_n dX11_lengthNow_5 rfl (i := 0) rfl ?_
      refine fw_geti dX11_lengthNow_6 fd11_130 rfl rfl ?_
      refine fn_to (show _ = (nI n) from hM.2.1) ?_
      refine fn_icmp_ge (tgt := 59) dX11_lengthNow_9 (by decide) (by omega) (by omega) (fun c9 => ?_) (fun c9 => ?_)
      · exfalso; omega
      · skip
        refine fx_iload_n dX11_lengthNow_12 rfl (i := 2) rfl ?_
        refine fx_iconst (v := (nI 1)) dX11_lengthNow_13 (by decide) ?_
        refine fn_iadd dX11_lengthNow_14 ?_
        refine fx_istore_n (lv2 := [(0, .ref 0), (1, .int (nI c)), (2, .int (nI i)), (3, .int (nI (i + 1)))]) dX11_lengthNow_15 (i := 3) rfl (by decide) rfl ?_
        have L16 : ∀ (k2 : Nat) (c2 : Nat) (j : Nat), (j + k2 = n) → (ofal2 h i k2 j c2 = ofal2 h i (n - (i + 1)) (i + 1) c) → fv_At Y11_lengthNow 0 0 0 Q 16 [(0, .ref 0), (1, .int (nI c2)), (2, .int (nI i)), (3, .int (nI j))] [] (fw mT G L) none 0 0 := by
          intro k2
          induction k2 with
          | zero =>
            intro c2 j hj hR2
            refine fx_iload_n dX11_lengthNow_16 rfl (i := 3) rfl ?_
            refine fx_aload_n dX11_lengthNow_17 rfl (i := 0) rfl ?_
            refine fw_geti dX11_lengthNow_18 fd11_130 rfl rfl ?_
            refine fn_to (show _ = (nI n) from hM.2.1) ?_
            refine fn_icmp_ge (tgt := 53) dX11_lengthNow_21 (by decide) (by omega) (by omega) (fun c21 => ?_) (fun c21 => ?_)
            · skip
              refine fn_iinc (c := 1) (lv2 := [(0, .ref 0), (1, .int (nI c2)), (2, .int (nI (i + 1))), (3, .int (nI j))]) dX11_lengthNow_53 (by decide) rfl (by decide) rfl ?_
              refine fx_goto (tgt := 4) dX11_lengthNow_56 (by decide) ?_
              exact fn_sub [0, 1, 2] rfl (ih4 c2 (i + 1) (by omega) (by rw [← hR, ofal1]; exact congrArg _ hR2))
            · exfalso; omega
          | succ k2 ih16 =>
            intro c2 j hj hR2
            refine fx_iload_n dX11_lengthNow_16 rfl (i := 3) rfl ?_
            refine fx_aload_n dX11_lengthNow_17 rfl (i := 0) rfl ?_
            refine fw_geti dX11_lengthNow_18 fd11_130 rfl rfl ?_
            refine fn_to (show _ = (nI n) from hM.2.1) ?_
            refine fn_icmp_ge (tgt := 53) dX11_lengthNow_21 (by decide) (by omega) (by omega) (fun c21 => ?_) (fun c21 => ?_)
            · exfalso; omega
            · skip
              refine fx_iload_n dX11_lengthNow_24 rfl (i := 1) rfl ?_
              refine fx_aload_n dX11_lengthNow_25 rfl (i := 0) rfl ?_
              refine fw_getr dX11_lengthNow_26 fd11_7 rfl rfl ?_
              refine fx_iload_n dX11_lengthNow_29 rfl (i := 2) rfl ?_
              refine fw_iald i dX11_lengthNow_30 rfl rfl (by omega) (by decide) ?_
              refine fn_to (show _ = (nI (h i)) from (hM.2.2 i (by omega))) ?_
              refine fx_aload_n dX11_lengthNow_31 rfl (i := 0) rfl ?_
              refine fw_getr dX11_lengthNow_32 fd11_7 rfl rfl ?_
              refine fx_iload_n dX11_lengthNow_35 rfl (i := 3) rfl ?_
              refine fw_iald j dX11_lengthNow_36 rfl rfl (by omega) (by decide) ?_
              refine fn_to (show _ = (nI (h j)) from (hM.2.2 j (by omega))) ?_
              have hbi := hb i (by omega)
              have hbj := hb j (by omega)
              refine fn_icmp_le (tgt := 44) dX11_lengthNow_37 (by decide) (by omega) (by omega) (fun c37 => ?_) (fun c37 => ?_)
              · skip
                refine fx_iconst (v := (nI 0)) dX11_lengthNow_44 (by decide) ?_
                refine fn_iadd dX11_lengthNow_45 ?_
                refine fx_istore_n (lv2 := [(0, .ref 0), (1, .int (nI (c2 + 0))), (2, .int (nI i)), (3, .int (nI j))]) dX11_lengthNow_46 (i := 1) rfl (by decide) rfl ?_
                refine fn_iinc (c := 1) (lv2 := [(0, .ref 0), (1, .int (nI (c2 + 0))), (2, .int (nI i)), (3, .int (nI (j + 1)))]) dX11_lengthNow_47 (by decide) rfl (by decide) rfl ?_
                refine fx_goto (tgt := 16) dX11_lengthNow_50 (by decide) ?_
                exact (ih16 (c2 + 0) (j + 1) (by omega) (by rw [← hR2, ofal2]; split <;> first | rfl | omega))
              · skip
                refine fx_iconst (v := (nI 1)) dX11_lengthNow_40 (by decide) ?_
                refine fx_goto (tgt := 45) dX11_lengthNow_41 (by decide) ?_
                refine fn_iadd dX11_lengthNow_45 ?_
                refine fx_istore_n (lv2 := [(0, .ref 0), (1, .int (nI (c2 + 1))), (2, .int (nI i)), (3, .int (nI j))]) dX11_lengthNow_46 (i := 1) rfl (by decide) rfl ?_
                refine fn_iinc (c := 1) (lv2 := [(0, .ref 0), (1, .int (nI (c2 + 1))), (2, .int (nI i)), (3, .int (nI (j + 1)))]) dX11_lengthNow_47 (by decide) rfl (by decide) rfl ?_
                refine fx_goto (tgt := 16) dX11_lengthNow_50 (by decide) ?_
                exact (ih16 (c2 + 1) (j + 1) (by omega) (by rw [← hR2, ofal2]; split <;> first | rfl | omega))
        exact (L16 (n - (i + 1)) c (i + 1) (by omega) rfl)
  exact (L4 n 0 0 (by omega) rfl)

set_option maxRecDepth 4000 in
set_option maxHeartbeats 1000000 in
theorem C11_change  (G : Nat → Nat → Int32) (L : Nat → Nat → Int64) (i j : Nat) (hi : i < 6) (hj : j < 6) : fv_M Y11_change 0 0 0 [.ref 0, .int (nI i), .int (nI j)] (fw mT G L) none (fv_eq none (fw mT (g2 (g2 G 1 i (G 1 j)) 1 j (G 1 i)) L)) := by
  refine fv_enter rfl (Nat.le_of_ble_eq_true rfl) ?_
  obtain ⟨Q, hQ⟩ : ∃ Q : Option Value → fv_F → Option Nat → Prop, Q = (fv_eq none (fw mT (g2 (g2 G 1 i (G 1 j)) 1 j (G 1 i)) L)) := ⟨_, rfl⟩
  rw [← hQ]
  show fv_At Y11_change 0 0 0 Q 0 [(0, .ref 0), (1, .int (nI i)), (2, .int (nI j))] [] (fw mT G L) none 0 0
  refine fx_aload_n dX11_change_0 rfl (i := 0) rfl ?_
  refine fw_getr dX11_change_1 fd11_7 rfl rfl ?_
  refine fx_iload_n dX11_change_4 rfl (i := 1) rfl ?_
  refine fw_iald i dX11_change_5 rfl rfl (by omega) (by decide) ?_
  refine fx_istore_n (lv2 := [(0, .ref 0), (1, .int (nI i)), (2, .int (nI j)), (3, .int (G 1 i))]) dX11_change_6 (i := 3) rfl (by decide) rfl ?_
  refine fx_aload_n dX11_change_7 rfl (i := 0) rfl ?_
  refine fw_getr dX11_change_8 fd11_7 rfl rfl ?_
  refine fx_iload_n dX11_change_11 rfl (i := 1) rfl ?_
  refine fx_aload_n dX11_change_12 rfl (i := 0) rfl ?_
  refine fw_getr dX11_change_13 fd11_7 rfl rfl ?_
  refine fx_iload_n dX11_change_16 rfl (i := 2) rfl ?_
  refine fw_iald j dX11_change_17 rfl rfl (by omega) (by decide) ?_
  refine fw_iast i dX11_change_18 rfl rfl (by omega) (by decide) ?_
  refine fx_aload_n dX11_change_19 rfl (i := 0) rfl ?_
  refine fw_getr dX11_change_20 fd11_7 rfl rfl ?_
  refine fx_iload_n dX11_change_23 rfl (i := 2) rfl ?_
  refine fx_iload_n dX11_change_24 rfl (i := 3) rfl ?_
  refine fw_iast j dX11_change_25 rfl rfl (by omega) (by decide) ?_
  exact fx_vret dX11_change_26 rfl rfl rfl (by rw [hQ]; exact ⟨rfl, rfl, rfl⟩)
