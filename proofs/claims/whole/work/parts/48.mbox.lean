/-- an answer of the model's isBox: the figures stand in the row -/
def qbx (G : Nat → Nat → Int32) (L : Nat → Nat → Int64) (to k : Nat) (b : Int) (v : Bool) : Option Value → fv_F → Option Nat → Prop := fun r2 f2 al2 => ∃ G2 : Nat → Nat → Int32, r2 = some (.int (bI v)) ∧ f2 = fw mT G2 L ∧ al2 = none ∧ (∀ i, i ≠ to → G2 i = G i) ∧ (0 ≤ b → ∀ p, p < k → G2 to p = nI (dgt b.toNat k p))
theorem bxl_s (h : Nat → Nat) (k p a : Nat) : bxl h (k + 1) p a = if a < h p then false else bxl h k (p + 1) (h p) := rfl
theorem isSh_k {k m : Nat} (h1 : 1 ≤ k) (h2 : k ≤ 4) (h3 : 1 ≤ m) (h4 : m ≤ 4) : isSh (k : Int) (m : Int) = true := decide_eq_true (by omega)
theorem isBx_f {k m b : Nat} (h1 : 1 ≤ k) (h2 : k ≤ 4) (h3 : 1 ≤ m) (h4 : m ≤ 4) (hb : b < 10 ^ k) : isBx (k : Int) (m : Int) (b : Int) = bxl (dgt b k) k 0 m :=
  isBx_2 (isSh_k h1 h2 h3 h4) ⟨by omega, by
    show (b : Int) < 10 ^ k
    have q : ((b : Nat) : Int) < ((10 ^ k : Nat) : Int) := Int.ofNat_lt.mpr hb
    rw [Int.natCast_pow] at q
    exact q⟩
theorem isBx_g {k m b : Nat} (hb : 10 ^ k ≤ b) : isBx (k : Int) (m : Int) (b : Int) = false :=
  isBx_1 (fun h => by
    have q := h.2
    have w : ((10 ^ k : Nat) : Int) ≤ ((b : Nat) : Int) := Int.ofNat_le.mpr hb
    rw [Int.natCast_pow] at w
    have e : (10 : Int) ^ ((k : Int)).toNat = ((10 : Nat) : Int) ^ k := rfl
    rw [e] at q
    omega)

theorem tdv {l : Int} (h : -2147483648 ≤ l ∧ l < 2147483648) : -2147483648 ≤ l.tdiv 10 ∧ l.tdiv 10 < 2147483648 := by
  have q : (l.tdiv 10).natAbs = l.natAbs / 10 := Int.natAbs_tdiv l 10
  omega
theorem isb_s {to k j : Nat} {b l : Int} {G1 : Nat → Nat → Int32} (h : l = ((b.toNat / 10 ^ (k - (j + 1)) : Nat) : Int) ∧ ∀ p, j + 1 ≤ p → p < k → G1 to p = nI (dgt b.toNat k p)) (hj : j < k) : l.tdiv 10 = ((b.toNat / 10 ^ (k - j) : Nat) : Int) ∧ ∀ p, j ≤ p → p < k → g2 G1 to j (iI (l.tmod 10)) to p = nI (dgt b.toNat k p) := by
  obtain ⟨h1, h2⟩ := h
  have e : k - j = (k - (j + 1)) + 1 := by omega
  refine ⟨?_, fun p q1 q2 => ?_⟩
  · rw [h1, e, Nat.pow_succ, ← Nat.div_div_eq_div_mul]
    rfl
  · by_cases z : p = j
    · rw [z, g2_eq, h1]
      have w : dgt b.toNat k j = b.toNat / 10 ^ (k - (j + 1)) % 10 := by
        unfold dgt fat
        rw [show k - 1 - j = k - (j + 1) by omega]
      rw [w]
      rfl
    · rw [g2_ne _ _ (fun y => z y.2)]
      exact h2 p (by omega) q2

set_option maxRecDepth 4000 in
set_option maxHeartbeats 1000000 in
theorem C11_isBox  (G : Nat → Nat → Int32) (L : Nat → Nat → Int64) (to : Nat) (hto : mT to = some (0, 0, 4, [])) (k m : Nat) (hk1 : 1 ≤ k) (hk : k ≤ 4) (hm1 : 1 ≤ m) (hm : m ≤ 4) (b : Int) (b1 : -2147483648 ≤ b) (b2 : b < 2147483648) : fv_M Y11_isBox 0 0 0 [.int (nI k), .int (nI m), .int (iI b), .ref to] (fw mT G L) none (qbx G L to k b (isBx k m b)) := by
  refine fv_enter rfl (Nat.le_of_ble_eq_true rfl) ?_
  obtain ⟨Q, hQ⟩ : ∃ Q : Option Value → fv_F → Option Nat → Prop, Q = (qbx G L to k b (isBx k m b)) := ⟨_, rfl⟩
  rw [← hQ]
  show fv_At Y11_isBox 0 0 0 Q 0 [(0, .int (nI k)), (1, .int (nI m)), (2, .int (iI b)), (3, .ref to)] [] (fw mT G L) none 0 0
  refine fx_iload_n dX11_isBox_0 rfl (i := 2) rfl ?_
  refine fx_istore (lv2 := [(0, .int (nI k)), (1, .int (nI m)), (2, .int (iI b)), (3, .ref to), (4, .int (iI b))]) dX11_isBox_1 (by decide) rfl ?_
  refine fx_iload_n dX11_isBox_3 rfl (i := 0) rfl ?_
  refine fx_iconst (v := (nI 1)) dX11_isBox_4 (by decide) ?_
  refine fn_isubZ (a := ((k : Nat) : Int)) (b := ((1 : Nat) : Int)) dX11_isBox_5 ?_
  refine fx_istore (lv2 := [(0, .int (nI k)), (1, .int (nI m)), (2, .int (iI b)), (3, .ref to), (4, .int (iI b)), (5, .int (iI ((((k : Nat) : Int)) - (((1 : Nat) : Int)))))]) dX11_isBox_6 (by decide) rfl ?_
  have L8 : ∀ (j : Nat) (x : Int) (l : Int) (G1 : Nat → Nat → Int32), (x = (j : Int) - 1 ∧ j ≤ k) → (-2147483648 ≤ l ∧ l < 2147483648) → (∀ i, i ≠ to → G1 i = G i) → (0 ≤ b → l = ((b.toNat / 10 ^ (k - j) : Nat) : Int) ∧ ∀ p, j ≤ p → p < k → G1 to p = nI (dgt b.toNat k p)) → fv_At Y11_isBox 0 0 0 Q 8 [(0, .int (nI k)), (1, .int (nI m)), (2, .int (iI b)), (3, .ref to), (4, .int (iI l)), (5, .int (iI x))] [] (fw mT G1 L) none 0 0 := by
    intro j
    induction j with
    | zero =>
      intro x l G1 hx hlb hoG hd
      refine fx_iload dX11_isBox_8 rfl ?_
      refine fn_if_ltZ (tgt := 35) dX11_isBox_10 (by decide) (by omega) (by omega) (fun c10 => ?_) (fun c10 => ?_)
      · skip
        refine fx_iload_n dX11_isBox_35 rfl (i := 2) rfl ?_
        refine fn_if_ltZ (tgt := 51) dX11_isBox_36 (by decide) (by omega) (by omega) (fun c36 => ?_) (fun c36 => ?_)
        · skip
          refine fx_iconst (v := (nI 0)) dX11_isBox_51 (by decide) ?_
          refine fn_to (show _ = (bI false) from rfl) ?_
          exact fx_zret dX11_isBox_52 rfl (bI_01 _) rfl rfl (by rw [hQ]; exact ⟨G1, by rw [isBx_1 (fun q => by omega)], rfl, rfl, hoG, fun hb => (hd hb).2 |> fun z p hp => z p (Nat.zero_le _) hp⟩)
        · skip
          obtain ⟨b0, rfl⟩ : ∃ z : Nat, b = (z : Int) := ⟨b.toNat, by omega⟩
          obtain ⟨hd1, hd2⟩ := hd (by omega)
          rw [Nat.sub_zero] at hd1
          have hd3 : l = ((b0 / 10 ^ k : Nat) : Int) := hd1
          obtain ⟨u, hu⟩ : ∃ u, u = b0 / 10 ^ k := ⟨_, rfl⟩
          rw [← hu] at hd3
          show fv_At Y11_isBox 0 0 0 Q 39 [(0, .int (nI k)), (1, .int (nI m)), (2, .int (nI b0)), (3, .ref to), (4, .int (iI l)), (5, .int (iI x))] [] (fw mT G1 L) none 0 0
          refine fx_iload dX11_isBox_39 rfl ?_
          refine fn_if_neZ (tgt := 51) dX11_isBox_41 (by decide) (by omega) (by omega) (fun c41 => ?_) (fun c41 => ?_)
          · skip
            refine fx_iconst (v := (nI 0)) dX11_isBox_51 (by decide) ?_
            refine fn_to (show _ = (bI false) from rfl) ?_
            exact fx_zret dX11_isBox_52 rfl (bI_01 _) rfl rfl (by rw [hQ]; exact ⟨G1, by first | (rw [isBx_g (by have hz : b0 / 10 ^ k ≠ 0 := (by rw [← hu]; omega); exact (Nat.div_pos_iff.mp (Nat.pos_of_ne_zero hz)).2)]) | (rw [hb0, show k = (k - 1) + 1 by omega, bxl_s, if_pos (by rw [show k - 1 + 1 = k by omega]; omega)]), rfl, rfl, hoG, fun _ p hp => hd2 p (Nat.zero_le _) hp⟩)
          · skip
            have hz : b0 / 10 ^ k = 0 := by rw [← hu]; omega
            have hbk : b0 < 10 ^ k := (Nat.div_eq_zero_iff.mp hz).resolve_left (by have := Nat.pow_pos (n := k) (show 0 < 10 by decide); omega)
            have hb0 := isBx_f hk1 hk hm1 hm hbk
            have hd9 := dgt_lt b0 k 0
            refine fx_aload_n dX11_isBox_44 rfl (i := 3) rfl ?_
            refine fx_iconst (v := (nI 0)) dX11_isBox_45 (by decide) ?_
            refine fw_iald 0 dX11_isBox_46 hto rfl (by omega) (by decide) ?_
            refine fn_to (show _ = (nI (dgt b0 k 0)) from (hd2 0 (Nat.zero_le _) (by omega))) ?_
            refine fx_iload_n dX11_isBox_47 rfl (i := 1) rfl ?_
            refine fn_icmp_le (tgt := 53) dX11_isBox_48 (by decide) (by omega) (by omega) (fun c48 => ?_) (fun c48 => ?_)
            · skip
              have hs1 : bxl (dgt b0 k) k 0 m = bxl (dgt b0 k) (k - 1) 1 (dgt b0 k 0) := by rw [show k = (k - 1) + 1 by omega, bxl_s, if_neg (by rw [show k - 1 + 1 = k by omega]; omega)]; rfl
              refine fx_iconst (v := (nI 1)) dX11_isBox_53 (by decide) ?_
              refine fx_istore (lv2 := [(0, .int (nI k)), (1, .int (nI m)), (2, .int (nI b0)), (3, .ref to), (4, .int (iI l)), (5, .int (nI 1))]) dX11_isBox_54 (by decide) rfl ?_
              have L56 : ∀ (k2 : Nat) (r : Nat), (r + k2 = k ∧ 1 ≤ r) → (bxl (dgt b0 k) k2 r (dgt b0 k (r - 1)) = bxl (dgt b0 k) k 0 m) → fv_At Y11_isBox 0 0 0 Q 56 [(0, .int (nI k)), (1, .int (nI m)), (2, .int (nI b0)), (3, .ref to), (4, .int (iI l)), (5, .int (nI r))] [] (fw mT G1 L) none 0 0 := by
                intro k2
                induction k2 with
                | zero =>
                  intro r hr hR
                  refine fx_iload dX11_isBox_56 rfl ?_
                  refine fx_iload_n dX11_isBox_58 rfl (i := 0) rfl ?_
                  refine fn_icmp_ge (tgt := 83) dX11_isBox_59 (by decide) (by omega) (by omega) (fun c59 => ?_) (fun c59 => ?_)
                  · skip
                    refine fx_iconst (v := (nI 1)) dX11_isBox_83 (by decide) ?_
                    refine fn_to (show _ = (bI true) from rfl) ?_
                    exact fx_zret dX11_isBox_84 rfl (bI_01 _) rfl rfl (by rw [hQ]; exact ⟨G1, by rw [hb0, ← hR]; rfl, rfl, rfl, hoG, fun _ p hp => hd2 p (Nat.zero_le _) hp⟩)
                  · exfalso; omega
                | succ k2 ih56 =>
                  intro r hr hR
                  refine fx_iload dX11_isBox_56 rfl ?_
                  refine fx_iload_n dX11_isBox_58 rfl (i := 0) rfl ?_
                  refine fn_icmp_ge (tgt := 83) dX11_isBox_59 (by decide) (by omega) (by omega) (fun c59 => ?_) (fun c59 => ?_)
                  · exfalso; omega
                  · skip
                    have hd8 := dgt_lt b0 k r
                    have hd7 := dgt_lt b0 k (r - 1)
                    refine fx_aload_n dX11_isBox_62 rfl (i := 3) rfl ?_
                    refine fx_iload dX11_isBox_63 rfl ?_
                    refine fw_iald r dX11_isBox_65 hto rfl (by omega) (by decide) ?_
                    refine fn_to (show _ = (nI (dgt b0 k r)) from (hd2 r (Nat.zero_le _) (by omega))) ?_
                    refine fx_aload_n dX11_isBox_66 rfl (i := 3) rfl ?_
                    refine fx_iload dX11_isBox_67 rfl ?_
                    refine fx_iconst (v := (nI 1)) dX11_isBox_69 (by decide) ?_
                    refine fn_isub dX11_isBox_70 (by omega) ?_
                    refine fw_iald (r - 1) dX11_isBox_71 hto rfl (by omega) (by decide) ?_
                    refine fn_to (show _ = (nI (dgt b0 k (r - 1))) from (hd2 (r - 1) (Nat.zero_le _) (by omega))) ?_
                    refine fn_icmp_le (tgt := 77) dX11_isBox_72 (by decide) (by omega) (by omega) (fun c72 => ?_) (fun c72 => ?_)
                    · skip
                      refine fn_iinc (c := 1) (lv2 := [(0, .int (nI k)), (1, .int (nI m)), (2, .int (nI b0)), (3, .ref to), (4, .int (iI l)), (5, .int (nI (r + 1)))]) dX11_isBox_77 (by decide) rfl (by decide) rfl ?_
                      refine fx_goto (tgt := 56) dX11_isBox_80 (by decide) ?_
                      exact (ih56 (r + 1) (by omega) (by rw [← hR, bxl_s, if_neg (by omega)]; rfl))
                    · skip
                      refine fx_iconst (v := (nI 0)) dX11_isBox_75 (by decide) ?_
                      refine fn_to (show _ = (bI false) from rfl) ?_
                      exact fx_zret dX11_isBox_76 rfl (bI_01 _) rfl rfl (by rw [hQ]; exact ⟨G1, by rw [hb0, ← hR, bxl_s, if_pos (by omega)], rfl, rfl, hoG, fun _ p hp => hd2 p (Nat.zero_le _) hp⟩)
              exact (L56 (k - 1) 1 (by omega) hs1.symm)
            · skip
              refine fx_iconst (v := (nI 0)) dX11_isBox_51 (by decide) ?_
              refine fn_to (show _ = (bI false) from rfl) ?_
              exact fx_zret dX11_isBox_52 rfl (bI_01 _) rfl rfl (by rw [hQ]; exact ⟨G1, by first | (rw [isBx_g (by have hz : b0 / 10 ^ k ≠ 0 := (by rw [← hu]; omega); exact (Nat.div_pos_iff.mp (Nat.pos_of_ne_zero hz)).2)]) | (rw [hb0, show k = (k - 1) + 1 by omega, bxl_s, if_pos (by rw [show k - 1 + 1 = k by omega]; omega)]), rfl, rfl, hoG, fun _ p hp => hd2 p (Nat.zero_le _) hp⟩)
      · exfalso; omega
    | succ j ih8 =>
      intro x l G1 hx hlb hoG hd
      refine fx_iload dX11_isBox_8 rfl ?_
      refine fn_if_ltZ (tgt := 35) dX11_isBox_10 (by decide) (by omega) (by omega) (fun c10 => ?_) (fun c10 => ?_)
      · exfalso; omega
      · skip
        obtain rfl : x = (j : Int) := by omega
        show fv_At Y11_isBox 0 0 0 Q 13 [(0, .int (nI k)), (1, .int (nI m)), (2, .int (iI b)), (3, .ref to), (4, .int (iI l)), (5, .int (nI j))] [] (fw mT G1 L) none 0 0
        refine fx_aload_n dX11_isBox_13 rfl (i := 3) rfl ?_
        refine fx_iload dX11_isBox_14 rfl ?_
        refine fx_iload dX11_isBox_16 rfl ?_
        refine fx_bipush (v := (nI 10)) dX11_isBox_18 (by decide) ?_
        refine fn_iremZ (a := l) (b := 10) dX11_isBox_20 (by omega) (by omega) (by omega) (by omega) ?_
        refine fw_iast j dX11_isBox_21 hto rfl (by omega) (by decide) ?_
        refine fx_iload dX11_isBox_22 rfl ?_
        refine fx_bipush (v := (nI 10)) dX11_isBox_24 (by decide) ?_
        refine fn_idivZ (a := l) (b := 10) dX11_isBox_26 (by omega) (by omega) (by omega) (by omega) ?_
        refine fx_istore (lv2 := [(0, .int (nI k)), (1, .int (nI m)), (2, .int (iI b)), (3, .ref to), (4, .int (iI ((l).tdiv 10))), (5, .int (nI j))]) dX11_isBox_27 (by decide) rfl ?_
        show fv_At Y11_isBox 0 0 0 Q 29 [(0, .int (nI k)), (1, .int (nI m)), (2, .int (iI b)), (3, .ref to), (4, .int (iI ((l).tdiv 10))), (5, .int (iI ((j : Int))))] [] (fw mT (g2 G1 to j ((iI ((l).tmod 10)))) L) none 0 0
        refine fn_iincZ (lv2 := [(0, .int (nI k)), (1, .int (nI m)), (2, .int (iI b)), (3, .ref to), (4, .int (iI ((l).tdiv 10))), (5, .int (iI ((j : Int) + (-1))))]) dX11_isBox_29  rfl (by decide) rfl ?_
        refine fx_goto (tgt := 8) dX11_isBox_32 (by decide) ?_
        exact (ih8 ((j : Int) + (-1)) ((l).tdiv 10) (g2 G1 to j ((iI ((l).tmod 10)))) (by omega) (tdv hlb) (fun i q => (g2_row _ _ q).trans (hoG i q)) (fun hb => isb_s (hd hb) (by omega)))
  exact (L8 k ((((k : Nat) : Int)) - (((1 : Nat) : Int))) b G (by omega) (by omega) (fun _ _ => rfl) (fun hb => ⟨by rw [Nat.sub_self, Nat.pow_zero, Nat.div_one]; omega, fun p q1 q2 => by omega⟩))

set_option maxRecDepth 4000 in
set_option maxHeartbeats 1000000 in
theorem C11_areSides (k m : Int) (k1 : -2147483648 ≤ k) (k2 : k < 2147483648) (m1 : -2147483648 ≤ m) (m2 : m < 2147483648) (f : fv_F) : fv_M Y11_areSides 1 0 0 [.int (iI k), .int (iI m)] f none (fv_eq (some (.int (bI (isSh k m)))) f) := by
  refine fv_enter rfl (Nat.le_of_ble_eq_true rfl) ?_
  obtain ⟨Q, hQ⟩ : ∃ Q : Option Value → fv_F → Option Nat → Prop, Q = (fv_eq (some (.int (bI (isSh k m)))) f) := ⟨_, rfl⟩
  rw [← hQ]
  show fv_At Y11_areSides 1 0 0 Q 0 [(0, .int (iI k)), (1, .int (iI m))] [] f none 0 0
  refine fx_iload_n dX11_areSides_0 rfl (i := 0) rfl ?_
  refine fx_i2l dX11_areSides_1 ?_
  refine fn_toL (show _ = lI k from lI_of (z := k) (by omega) (by omega)) ?_
  refine fx_lconst (v := 1) dX11_areSides_2 (by decide) ?_
  refine fn_toL (show _ = (lI 1) from (by decide)) ?_
  refine fx_ldc2 dX11_areSides_3 kc11_194 (fn_toL (show _ = lI (4) by decide) ?_)
  refine fn_cS dX11_areSides_6 lk11_126 (C11_in (v := k) (a := 1) (b := 4) (by omega) (by omega) (by omega) (by omega) (by omega) (by omega) (f := f)) rfl rfl (by decide) (Nat.le_of_ble_eq_true rfl) ?_
  show fv_At Y11_areSides 1 0 0 Q 9 [(0, .int (iI k)), (1, .int (iI m))] [.int (bI (decide (1 ≤ k ∧ k ≤ 4)))] f none 0 0
  refine fn_if_eqB (tgt := 28) dX11_areSides_9 (by decide) (fun c9 => ?_) (fun c9 => ?_)
  · skip
    refine fx_iconst (v := (nI 0)) dX11_areSides_28 (by decide) ?_
    refine fn_to (show _ = (bI false) from rfl) ?_
    exact fx_zret dX11_areSides_29 rfl (bI_01 _) rfl rfl (by rw [hQ]; exact ⟨by unfold isSh; first | rw [decide_eq_true (by have h1 := of_decide_eq_true c9; have h2 := of_decide_eq_true c21; omega)] | rw [decide_eq_false (by first | (have h1 := of_decide_eq_false c9; omega) | (have h2 := of_decide_eq_false c21; omega))], rfl, rfl⟩)
  · skip
    refine fx_iload_n dX11_areSides_12 rfl (i := 1) rfl ?_
    refine fx_i2l dX11_areSides_13 ?_
    refine fn_toL (show _ = lI m from lI_of (z := m) (by omega) (by omega)) ?_
    refine fx_lconst (v := 1) dX11_areSides_14 (by decide) ?_
    refine fn_toL (show _ = (lI 1) from (by decide)) ?_
    refine fx_ldc2 dX11_areSides_15 kc11_194 (fn_toL (show _ = lI (4) by decide) ?_)
    refine fn_cS dX11_areSides_18 lk11_126 (C11_in (v := m) (a := 1) (b := 4) (by omega) (by omega) (by omega) (by omega) (by omega) (by omega) (f := f)) rfl rfl (by decide) (Nat.le_of_ble_eq_true rfl) ?_
    show fv_At Y11_areSides 1 0 0 Q 21 [(0, .int (iI k)), (1, .int (iI m))] [.int (bI (decide (1 ≤ m ∧ m ≤ 4)))] f none 0 0
    refine fn_if_eqB (tgt := 28) dX11_areSides_21 (by decide) (fun c21 => ?_) (fun c21 => ?_)
    · skip
      refine fx_iconst (v := (nI 0)) dX11_areSides_28 (by decide) ?_
      refine fn_to (show _ = (bI false) from rfl) ?_
      exact fx_zret dX11_areSides_29 rfl (bI_01 _) rfl rfl (by rw [hQ]; exact ⟨by unfold isSh; first | rw [decide_eq_true (by have h1 := of_decide_eq_true c9; have h2 := of_decide_eq_true c21; omega)] | rw [decide_eq_false (by first | (have h1 := of_decide_eq_false c9; omega) | (have h2 := of_decide_eq_false c21; omega))], rfl, rfl⟩)
    · skip
      refine fx_iconst (v := (nI 1)) dX11_areSides_24 (by decide) ?_
      refine fn_to (show _ = (bI true) from rfl) ?_
      refine fx_goto (tgt := 29) dX11_areSides_25 (by decide) ?_
      exact fx_zret dX11_areSides_29 rfl (bI_01 _) rfl rfl (by rw [hQ]; exact ⟨by unfold isSh; first | rw [decide_eq_true (by have h1 := of_decide_eq_true c9; have h2 := of_decide_eq_true c21; omega)] | rw [decide_eq_false (by first | (have h1 := of_decide_eq_false c9; omega) | (have h2 := of_decide_eq_false c21; omega))], rfl, rfl⟩)

set_option maxRecDepth 4000 in
set_option maxHeartbeats 1000000 in
theorem C11_tens (n : Nat) (hn : n < 100) (f : fv_F) : fv_M Y11_tens 0 0 0 [.int (nI n)] f none (fv_eq (some (.int (nI (10 ^ n)))) f) := by
  refine fv_enter rfl (Nat.le_of_ble_eq_true rfl) ?_
  obtain ⟨Q, hQ⟩ : ∃ Q : Option Value → fv_F → Option Nat → Prop, Q = (fv_eq (some (.int (nI (10 ^ n)))) f) := ⟨_, rfl⟩
  rw [← hQ]
  show fv_At Y11_tens 0 0 0 Q 0 [(0, .int (nI n))] [] f none 0 0
  refine fx_iconst (v := (nI 1)) dX11_tens_0 (by decide) ?_
  refine fx_istore_n (lv2 := [(0, .int (nI n)), (1, .int (nI 1))]) dX11_tens_1 (i := 1) rfl (by decide) rfl ?_
  refine fx_iconst (v := (nI 0)) dX11_tens_2 (by decide) ?_
  refine fx_istore_n (lv2 := [(0, .int (nI n)), (1, .int (nI 1)), (2, .int (nI 0))]) dX11_tens_3 (i := 2) rfl (by decide) rfl ?_
  have L4 : ∀ (k : Nat) (v : Nat) (i : Nat), (i + k = n) → (v = 10 ^ i) → fv_At Y11_tens 0 0 0 Q 4 [(0, .int (nI n)), (1, .int (nI v)), (2, .int (nI i))] [] f none 0 0 := by
    intro k
    induction k with
    | zero =>
      intro v i hi hv
      refine fx_iload_n dX11_tens_4 rfl (i := 2) rfl ?_
      refine fx_iload_n dX11_tens_5 rfl (i := 0) rfl ?_
      refine fn_icmp_ge (tgt := 20) dX11_tens_6 (by decide) (by omega) (by omega) (fun c6 => ?_) (fun c6 => ?_)
      · skip
        refine fx_iload_n dX11_tens_20 rfl (i := 1) rfl ?_
        exact fx_iret dX11_tens_21 rfl rfl rfl (by rw [hQ]; exact ⟨by rw [hv, show i = n by omega], rfl, rfl⟩)
      · exfalso; omega
    | succ k ih4 =>
      intro v i hi hv
      refine fx_iload_n dX11_tens_4 rfl (i := 2) rfl ?_
      refine fx_iload_n dX11_tens_5 rfl (i := 0) rfl ?_
      refine fn_icmp_ge (tgt := 20) dX11_tens_6 (by decide) (by omega) (by omega) (fun c6 => ?_) (fun c6 => ?_)
      · exfalso; omega
      · skip
        refine fx_bipush (v := (nI 10)) dX11_tens_9 (by decide) ?_
        refine fx_iload_n dX11_tens_11 rfl (i := 1) rfl ?_
        refine fn_imul dX11_tens_12 ?_
        refine fx_istore_n (lv2 := [(0, .int (nI n)), (1, .int (nI (10 * v))), (2, .int (nI i))]) dX11_tens_13 (i := 1) rfl (by decide) rfl ?_
        refine fn_iinc (c := 1) (lv2 := [(0, .int (nI n)), (1, .int (nI (10 * v))), (2, .int (nI (i + 1)))]) dX11_tens_14 (by decide) rfl (by decide) rfl ?_
        refine fx_goto (tgt := 4) dX11_tens_17 (by decide) ?_
        exact (ih4 (10 * v) (i + 1) (by omega) (by rw [hv, Nat.pow_succ, Nat.mul_comm]))
  exact (L4 n 1 0 (by omega) rfl)

set_option maxRecDepth 4000 in
set_option maxHeartbeats 1000000 in
theorem C11_sizeOf  (G : Nat → Nat → Int32) (L : Nat → Nat → Int64) (to : Nat) (hto : mT to = some (0, 0, 4, [])) (k : Nat) (hk : k ≤ 4) (h : Nat → Nat) (hh : ∀ p, p < k → G to p = nI (h p)) : fv_M Y11_sizeOf 0 0 0 [.int (nI k), .ref to] (fw mT G L) none (fv_eq (some (.int (nI (plc h k 0 0)))) (fw mT G L)) := by
  refine fv_enter rfl (Nat.le_of_ble_eq_true rfl) ?_
  obtain ⟨Q, hQ⟩ : ∃ Q : Option Value → fv_F → Option Nat → Prop, Q = (fv_eq (some (.int (nI (plc h k 0 0)))) (fw mT G L)) := ⟨_, rfl⟩
  rw [← hQ]
  show fv_At Y11_sizeOf 0 0 0 Q 0 [(0, .int (nI k)), (1, .ref to)] [] (fw mT G L) none 0 0
  refine fx_iconst (v := (nI 0)) dX11_sizeOf_0 (by decide) ?_
  refine fx_istore_n (lv2 := [(0, .int (nI k)), (1, .ref to), (2, .int (nI 0))]) dX11_sizeOf_1 (i := 2) rfl (by decide) rfl ?_
  refine fx_iconst (v := (nI 0)) dX11_sizeOf_2 (by decide) ?_
  refine fx_istore_n (lv2 := [(0, .int (nI k)), (1, .ref to), (2, .int (nI 0)), (3, .int (nI 0))]) dX11_sizeOf_3 (i := 3) rfl (by decide) rfl ?_
  have L4 : ∀ (j : Nat) (c : Nat) (p : Nat), (p + j = k) → (plc h j p c = plc h k 0 0) → fv_At Y11_sizeOf 0 0 0 Q 4 [(0, .int (nI k)), (1, .ref to), (2, .int (nI c)), (3, .int (nI p))] [] (fw mT G L) none 0 0 := by
    intro j
    induction j with
    | zero =>
      intro c p hp hR
      refine fx_iload_n dX11_sizeOf_4 rfl (i := 3) rfl ?_
      refine fx_iload_n dX11_sizeOf_5 rfl (i := 0) rfl ?_
      refine fn_icmp_ge (tgt := 21) dX11_sizeOf_6 (by decide) (by omega) (by omega) (fun c6 => ?_) (fun c6 => ?_)
      · skip
        refine fx_iload_n dX11_sizeOf_21 rfl (i := 2) rfl ?_
        exact fx_iret dX11_sizeOf_22 rfl rfl rfl (by rw [hQ]; exact ⟨by rw [← hR]; rfl, rfl, rfl⟩)
      · exfalso; omega
    | succ j ih4 =>
      intro c p hp hR
      refine fx_iload_n dX11_sizeOf_4 rfl (i := 3) rfl ?_
      refine fx_iload_n dX11_sizeOf_5 rfl (i := 0) rfl ?_
      refine fn_icmp_ge (tgt := 21) dX11_sizeOf_6 (by decide) (by omega) (by omega) (fun c6 => ?_) (fun c6 => ?_)
      · exfalso; omega
      · skip
        refine fx_iload_n dX11_sizeOf_9 rfl (i := 2) rfl ?_
        refine fx_aload_n dX11_sizeOf_10 rfl (i := 1) rfl ?_
        refine fx_iload_n dX11_sizeOf_11 rfl (i := 3) rfl ?_
        refine fw_iald p dX11_sizeOf_12 hto rfl (by omega) (by decide) ?_
        refine fn_to (show _ = (nI (h p)) from (hh p (by omega))) ?_
        refine fn_iadd dX11_sizeOf_13 ?_
        refine fx_istore_n (lv2 := [(0, .int (nI k)), (1, .ref to), (2, .int (nI (c + (h p)))), (3, .int (nI p))]) dX11_sizeOf_14 (i := 2) rfl (by decide) rfl ?_
        refine fn_iinc (c := 1) (lv2 := [(0, .int (nI k)), (1, .ref to), (2, .int (nI (c + (h p)))), (3, .int (nI (p + 1)))]) dX11_sizeOf_15 (by decide) rfl (by decide) rfl ?_
        refine fx_goto (tgt := 4) dX11_sizeOf_18 (by decide) ?_
        exact (ih4 (c + (h p)) (p + 1) (by omega) hR)
  exact (L4 k 0 0 (by omega) rfl)

/-- an answer of the model's; of the cells the boxes at work may have changed -/
def mof2 (G G2 : Nat → Nat → Int32) : Prop := ∀ i, i ≠ 12 → i ≠ 13 → i ≠ 14 → i ≠ 15 → i ≠ 16 → i ≠ 17 → i ≠ 18 → i ≠ 19 → i ≠ 21 → G2 i = G i
def qmb (G : Nat → Nat → Int32) (L : Nat → Nat → Int64) (v : Int) : Option Value → fv_F → Option Nat → Prop := fun r2 f2 al2 => ∃ G2 : Nat → Nat → Int32, r2 = some (.int (iI v)) ∧ f2 = fw mT G2 L ∧ al2 = none ∧ mof2 G G2

set_option maxRecDepth 4000 in
set_option maxHeartbeats 1000000 in
theorem C11_orderOf  (G : Nat → Nat → Int32) (L : Nat → Nat → Int64) (k m b : Int) (k1 : -2147483648 ≤ k) (k2 : k < 2147483648) (m1 : -2147483648 ≤ m) (m2 : m < 2147483648) (b1 : -2147483648 ≤ b) (b2 : b < 2147483648) : fv_M Y11_orderOf 2 0 0 [.ref 0, .int (iI k), .int (iI m), .int (iI b)] (fw mT G L) none (qmb G L (xOof k m b)) := by
  refine fv_enter rfl (Nat.le_of_ble_eq_true rfl) ?_
  obtain ⟨Q, hQ⟩ : ∃ Q : Option Value → fv_F → Option Nat → Prop, Q = (qmb G L (xOof k m b)) := ⟨_, rfl⟩
  rw [← hQ]
  show fv_At Y11_orderOf 2 0 0 Q 0 [(0, .ref 0), (1, .int (iI k)), (2, .int (iI m)), (3, .int (iI b))] [] (fw mT G L) none 0 0
  refine fx_iload_n dX11_orderOf_0 rfl (i := 1) rfl ?_
  refine fx_iload_n dX11_orderOf_1 rfl (i := 2) rfl ?_
  refine fn_cS dX11_orderOf_2 lk11_210 (C11_areSides k m (by omega) (by omega) (by omega) (by omega) (fw mT G L)) rfl rfl (by decide) (Nat.le_of_ble_eq_true rfl) ?_
  show fv_At Y11_orderOf 2 0 0 Q 5 [(0, .ref 0), (1, .int (iI k)), (2, .int (iI m)), (3, .int (iI b))] [.int (bI (isSh k m))] (fw mT G L) none 0 0
  refine fn_if_eqB (tgt := 28) dX11_orderOf_5 (by decide) (fun c5 => ?_) (fun c5 => ?_)
  · skip
    refine fx_bipush (v := (iI (-2))) dX11_orderOf_28 (by decide) ?_
    exact fx_iret dX11_orderOf_30 rfl rfl rfl (by rw [hQ]; exact ⟨G, by unfold xOof; rw [if_neg (fun q => by first | (have q2 := q.2; omega) | exact absurd (c25.symm.trans q.1) (by decide) | (have q3 := (isBx_3 q.1).1; rw [c5] at q3; exact absurd q3 (by decide)))], rfl, rfl, fun _ _ _ _ _ _ _ _ _ _ => rfl⟩)
  · skip
    have hsh := isSh_1 c5
    obtain ⟨k0, rfl⟩ : ∃ z : Nat, k = (z : Int) := ⟨k.toNat, by omega⟩
    obtain ⟨m0, rfl⟩ : ∃ z : Nat, m = (z : Int) := ⟨m.toNat, by omega⟩
    show fv_At Y11_orderOf 2 0 0 Q 8 [(0, .ref 0), (1, .int (nI k0)), (2, .int (nI m0)), (3, .int (iI b))] [] (fw mT G L) none 0 0
    refine fx_iload_n dX11_orderOf_8 rfl (i := 1) rfl ?_
    refine fx_iload_n dX11_orderOf_9 rfl (i := 2) rfl ?_
    refine fn_iadd dX11_orderOf_10 ?_
    refine fx_iconst (v := (nI 5)) dX11_orderOf_11 (by decide) ?_
    refine fn_icmp_gt (tgt := 28) dX11_orderOf_12 (by decide) (by omega) (by omega) (fun c12 => ?_) (fun c12 => ?_)
    · skip
      refine fx_bipush (v := (iI (-2))) dX11_orderOf_28 (by decide) ?_
      exact fx_iret dX11_orderOf_30 rfl rfl rfl (by rw [hQ]; exact ⟨G, by unfold xOof; rw [if_neg (fun q => by first | (have q2 := q.2; omega) | exact absurd (c25.symm.trans q.1) (by decide) | (have q3 := (isBx_3 q.1).1; rw [c5] at q3; exact absurd q3 (by decide)))], rfl, rfl, fun _ _ _ _ _ _ _ _ _ _ => rfl⟩)
    · skip
      refine fx_iload_n dX11_orderOf_15 rfl (i := 1) rfl ?_
      refine fx_iload_n dX11_orderOf_16 rfl (i := 2) rfl ?_
      refine fx_iload_n dX11_orderOf_17 rfl (i := 3) rfl ?_
      refine fx_aload_n dX11_orderOf_18 rfl (i := 0) rfl ?_
      refine fw_getr dX11_orderOf_19 fd11_46 rfl rfl ?_
      refine fx_callS dX11_orderOf_22 lk11_214 (C11_isBox G L 12 rfl k0 m0 (by omega) (by omega) (by omega) (by omega) b (by omega) (by omega)) rfl rfl (by decide) (Nat.le_of_ble_eq_true rfl) (by decide) (by decide) (fun r22 f22 al22 h22 => ?_)
      obtain ⟨G22, rfl, rfl, rfl, ho22, hd22⟩ := h22
      show fv_At Y11_orderOf 2 0 0 Q 25 [(0, .ref 0), (1, .int (nI k0)), (2, .int (nI m0)), (3, .int (iI b))] [.int (bI (isBx (k0 : Int) (m0 : Int) b))] (fw mT G22 L) none 0 0
      refine fn_if_neB (tgt := 31) dX11_orderOf_25 (by decide) (fun c25 => ?_) (fun c25 => ?_)
      · skip
        have hin : isBx (k0 : Int) (m0 : Int) b = true ∧ (k0 : Int) + (m0 : Int) ≤ 5 := ⟨c25, by omega⟩
        have hbs := isBx_s c25
        have hbv := isBx_v c25
        obtain ⟨b0, rfl⟩ : ∃ z : Nat, b = (z : Int) := ⟨b.toNat, by omega⟩
        have hdg := hd22 (by omega)
        show fv_At Y11_orderOf 2 0 0 Q 31 [(0, .ref 0), (1, .int (nI k0)), (2, .int (nI m0)), (3, .int (nI b0))] [] (fw mT G22 L) none 0 0
        refine fx_iconst (v := (nI 0)) dX11_orderOf_31 (by decide) ?_
        refine fx_istore (lv2 := [(0, .ref 0), (1, .int (nI k0)), (2, .int (nI m0)), (3, .int (nI b0)), (4, .int (nI 0))]) dX11_orderOf_32 (by decide) rfl ?_
        refine fx_iconst (v := (nI 0)) dX11_orderOf_34 (by decide) ?_
        refine fx_istore (lv2 := [(0, .ref 0), (1, .int (nI k0)), (2, .int (nI m0)), (3, .int (nI b0)), (4, .int (nI 0)), (5, .int (nI 0))]) dX11_orderOf_35 (by decide) rfl ?_
        refine fx_iconst (v := (nI 1)) dX11_orderOf_37 (by decide) ?_
        refine fx_istore (lv2 := [(0, .ref 0), (1, .int (nI k0)), (2, .int (nI m0)), (3, .int (nI b0)), (4, .int (nI 0)), (5, .int (nI 0)), (6, .int (nI 1))]) dX11_orderOf_38 (by decide) rfl ?_
        have L40 : ∀ (j : Nat) (o : Nat) (s : Nat) (i : Nat), (i + j = k0) → (s < 1024) → (toA (dgt b0 k0) k0 j i o s = toA (dgt b0 k0) k0 k0 0 0 0) → fv_At Y11_orderOf 2 0 0 Q 40 [(0, .ref 0), (1, .int (nI k0)), (2, .int (nI m0)), (3, .int (nI b0)), (4, .int (nI o)), (5, .int (nI s)), (6, .int (nI (i + 1)))] [] (fw mT G22 L) none 0 0 := by
          intro j
          induction j with
          | zero =>
            intro o s i hi hs hR
            refine fx_iload dX11_orderOf_40 rfl ?_
            refine fx_iload_n dX11_orderOf_42 rfl (i := 1) rfl ?_
            refine fn_icmp_gt (tgt := 85) dX11_orderOf_43 (by decide) (by omega) (by omega) (fun c43 => ?_) (fun c43 => ?_)
            · skip
              refine fx_iconst (v := (nI 1)) dX11_orderOf_85 (by decide) ?_
              refine fx_istore (lv2 := [(0, .ref 0), (1, .int (nI k0)), (2, .int (nI m0)), (3, .int (nI b0)), (4, .int (nI o)), (5, .int (nI s)), (6, .int (nI 1))]) dX11_orderOf_86 (by decide) rfl ?_
              have L88 : ∀ (j2 : Nat) (o2 : Nat) (g : Nat), (g + j2 = k0 + m0) → (toB s j2 g o2 = toB s (k0 + m0) 0 o) → fv_At Y11_orderOf 2 0 0 Q 88 [(0, .ref 0), (1, .int (nI k0)), (2, .int (nI m0)), (3, .int (nI b0)), (4, .int (nI o2)), (5, .int (nI s)), (6, .int (nI (g + 1)))] [] (fw mT G22 L) none 0 0 := by
                intro j2
                induction j2 with
                | zero =>
                  intro o2 g hg hR2
                  refine fx_iload dX11_orderOf_88 rfl ?_
                  refine fx_iload_n dX11_orderOf_90 rfl (i := 1) rfl ?_
                  refine fx_iload_n dX11_orderOf_91 rfl (i := 2) rfl ?_
                  refine fn_iadd dX11_orderOf_92 ?_
                  refine fn_icmp_gt (tgt := 127) dX11_orderOf_93 (by decide) (by omega) (by omega) (fun c93 => ?_) (fun c93 => ?_)
                  · skip
                    refine fx_iload dX11_orderOf_127 rfl ?_
                    exact fx_iret dX11_orderOf_129 rfl rfl rfl (by rw [hQ]; exact ⟨G22, by unfold xOof; rw [if_pos hin]; unfold tor; show _ = some (Value.int (nI (toB (toA (dgt b0 k0) k0 k0 0 0 0).2 (k0 + m0) 0 (toA (dgt b0 k0) k0 k0 0 0 0).1))); rw [← hR]; exact congrArg (fun z => some (Value.int (nI z))) hR2, rfl, rfl, fun i q1 _ _ _ _ _ _ _ _ => ho22 i q1⟩)
                  · exfalso; omega
                | succ j2 ih88 =>
                  intro o2 g hg hR2
                  refine fx_iload dX11_orderOf_88 rfl ?_
                  refine fx_iload_n dX11_orderOf_90 rfl (i := 1) rfl ?_
                  refine fx_iload_n dX11_orderOf_91 rfl (i := 2) rfl ?_
                  refine fn_iadd dX11_orderOf_92 ?_
                  refine fn_icmp_gt (tgt := 127) dX11_orderOf_93 (by decide) (by omega) (by omega) (fun c93 => ?_) (fun c93 => ?_)
                  · exfalso; omega
                  · skip
                    refine fx_iload dX11_orderOf_96 rfl ?_
                    refine fx_iload dX11_orderOf_98 rfl ?_
                    refine fx_ishr dX11_orderOf_100 ?_
                    refine fn_to (show _ = (nI (s / 2 ^ (g + 1))) from (nI_shr (by omega) (by omega))) ?_
                    refine fx_iconst (v := (nI 1)) dX11_orderOf_101 (by decide) ?_
                    refine fx_iand dX11_orderOf_102 ?_
                    refine fn_to (show _ = (nI (s / 2 ^ (g + 1) % 2)) from (by rw [nI_and, Nat.and_one_is_mod])) ?_
                    refine fn_if_ne (tgt := 117) dX11_orderOf_103 (by decide) (by omega) (fun c103 => ?_) (fun c103 => ?_)
                    · skip
                      refine fx_iload dX11_orderOf_117 rfl ?_
                      refine fx_istore (lv2 := [(0, .ref 0), (1, .int (nI k0)), (2, .int (nI m0)), (3, .int (nI b0)), (4, .int (nI o2)), (5, .int (nI s)), (6, .int (nI (g + 1)))]) dX11_orderOf_119 (by decide) rfl ?_
                      refine fn_iinc (c := 1) (lv2 := [(0, .ref 0), (1, .int (nI k0)), (2, .int (nI m0)), (3, .int (nI b0)), (4, .int (nI o2)), (5, .int (nI s)), (6, .int (nI (g + 1 + 1)))]) dX11_orderOf_121 (by decide) rfl (by decide) rfl ?_
                      refine fx_goto (tgt := 88) dX11_orderOf_124 (by decide) ?_
                      exact (ih88 o2 (g + 1) (by omega) (by rw [← hR2, toB]; split <;> first | rfl | omega | (rw [Nat.mul_comm 10 o2])))
                    · skip
                      refine fx_bipush (v := (nI 10)) dX11_orderOf_106 (by decide) ?_
                      refine fx_iload dX11_orderOf_108 rfl ?_
                      refine fn_imul dX11_orderOf_110 ?_
                      refine fx_iload dX11_orderOf_111 rfl ?_
                      refine fn_iadd dX11_orderOf_113 ?_
                      refine fx_goto (tgt := 119) dX11_orderOf_114 (by decide) ?_
                      refine fx_istore (lv2 := [(0, .ref 0), (1, .int (nI k0)), (2, .int (nI m0)), (3, .int (nI b0)), (4, .int (nI ((10 * o2) + (g + 1)))), (5, .int (nI s)), (6, .int (nI (g + 1)))]) dX11_orderOf_119 (by decide) rfl ?_
                      refine fn_iinc (c := 1) (lv2 := [(0, .ref 0), (1, .int (nI k0)), (2, .int (nI m0)), (3, .int (nI b0)), (4, .int (nI ((10 * o2) + (g + 1)))), (5, .int (nI s)), (6, .int (nI (g + 1 + 1)))]) dX11_orderOf_121 (by decide) rfl (by decide) rfl ?_
                      refine fx_goto (tgt := 88) dX11_orderOf_124 (by decide) ?_
                      exact (ih88 ((10 * o2) + (g + 1)) (g + 1) (by omega) (by rw [← hR2, toB]; split <;> first | rfl | omega | (rw [Nat.mul_comm 10 o2])))
              exact (L88 (k0 + m0) o 0 (by omega) rfl)
            · exfalso; omega
          | succ j ih40 =>
            intro o s i hi hs hR
            refine fx_iload dX11_orderOf_40 rfl ?_
            refine fx_iload_n dX11_orderOf_42 rfl (i := 1) rfl ?_
            refine fn_icmp_gt (tgt := 85) dX11_orderOf_43 (by decide) (by omega) (by omega) (fun c43 => ?_) (fun c43 => ?_)
            · exfalso; omega
            · skip
              have hdd := (rmo_le (show bxv (dgt b0 k0) k0 m0 from hbv) (k0 - 1 - i) (by omega)).1
              have hp2 : 2 ^ (i + 1 + dgt b0 k0 (k0 - 1 - i)) < 2 ^ 10 := Nat.pow_lt_pow_right (by decide) (by omega)
              refine fx_iload dX11_orderOf_46 rfl ?_
              refine fx_aload_n dX11_orderOf_48 rfl (i := 0) rfl ?_
              refine fw_getr dX11_orderOf_49 fd11_46 rfl rfl ?_
              refine fx_iload_n dX11_orderOf_52 rfl (i := 1) rfl ?_
              refine fx_iload dX11_orderOf_53 rfl ?_
              refine fn_isub dX11_orderOf_55 (by omega) ?_
              refine fn_to (show _ = (nI (k0 - 1 - i)) from (congrArg nI (by omega))) ?_
              refine fw_iald (k0 - 1 - i) dX11_orderOf_56 rfl rfl (by omega) (by decide) ?_
              refine fn_to (show _ = (nI (dgt b0 k0 (k0 - 1 - i))) from (hdg (k0 - 1 - i) (by omega))) ?_
              refine fn_iadd dX11_orderOf_57 ?_
              refine fx_istore (lv2 := [(0, .ref 0), (1, .int (nI k0)), (2, .int (nI m0)), (3, .int (nI b0)), (4, .int (nI o)), (5, .int (nI s)), (6, .int (nI (i + 1))), (7, .int (nI ((i + 1) + (dgt b0 k0 (k0 - 1 - i)))))]) dX11_orderOf_58 (by decide) rfl ?_
              refine fx_bipush (v := (nI 10)) dX11_orderOf_60 (by decide) ?_
              refine fx_iload dX11_orderOf_62 rfl ?_
              refine fn_imul dX11_orderOf_64 ?_
              refine fx_iload dX11_orderOf_65 rfl ?_
              refine fn_iadd dX11_orderOf_67 ?_
              refine fx_istore (lv2 := [(0, .ref 0), (1, .int (nI k0)), (2, .int (nI m0)), (3, .int (nI b0)), (4, .int (nI ((10 * o) + ((i + 1) + (dgt b0 k0 (k0 - 1 - i)))))), (5, .int (nI s)), (6, .int (nI (i + 1))), (7, .int (nI ((i + 1) + (dgt b0 k0 (k0 - 1 - i)))))]) dX11_orderOf_68 (by decide) rfl ?_
              refine fx_iload dX11_orderOf_70 rfl ?_
              refine fx_iconst (v := (nI 1)) dX11_orderOf_72 (by decide) ?_
              refine fx_iload dX11_orderOf_73 rfl ?_
              refine fx_ishl dX11_orderOf_75 ?_
              refine fn_to (show _ = (nI (2 ^ (i + 1 + dgt b0 k0 (k0 - 1 - i)))) from (nI_shl1 _ (by omega))) ?_
              refine fx_ior dX11_orderOf_76 ?_
              refine fn_to (show _ = (nI (s ||| 2 ^ (i + 1 + dgt b0 k0 (k0 - 1 - i)))) from (nI_or _ _)) ?_
              refine fx_istore (lv2 := [(0, .ref 0), (1, .int (nI k0)), (2, .int (nI m0)), (3, .int (nI b0)), (4, .int (nI ((10 * o) + ((i + 1) + (dgt b0 k0 (k0 - 1 - i)))))), (5, .int (nI (s ||| 2 ^ (i + 1 + dgt b0 k0 (k0 - 1 - i))))), (6, .int (nI (i + 1))), (7, .int (nI ((i + 1) + (dgt b0 k0 (k0 - 1 - i)))))]) dX11_orderOf_77 (by decide) rfl ?_
              refine fn_iinc (c := 1) (lv2 := [(0, .ref 0), (1, .int (nI k0)), (2, .int (nI m0)), (3, .int (nI b0)), (4, .int (nI ((10 * o) + ((i + 1) + (dgt b0 k0 (k0 - 1 - i)))))), (5, .int (nI (s ||| 2 ^ (i + 1 + dgt b0 k0 (k0 - 1 - i))))), (6, .int (nI (i + 1 + 1))), (7, .int (nI ((i + 1) + (dgt b0 k0 (k0 - 1 - i)))))]) dX11_orderOf_79 (by decide) rfl (by decide) rfl ?_
              refine fx_goto (tgt := 40) dX11_orderOf_82 (by decide) ?_
              exact fn_sub [0, 1, 2, 3, 4, 5, 6] rfl (ih40 ((10 * o) + ((i + 1) + (dgt b0 k0 (k0 - 1 - i)))) (s ||| 2 ^ (i + 1 + dgt b0 k0 (k0 - 1 - i))) (i + 1) (by omega) (Nat.or_lt_two_pow (n := 10) hs hp2) (by rw [← hR, toA, Nat.mul_comm o 10]))
        exact (L40 k0 0 0 0 (by omega) (by omega) rfl)
      · skip
        refine fx_bipush (v := (iI (-2))) dX11_orderOf_28 (by decide) ?_
        exact fx_iret dX11_orderOf_30 rfl rfl rfl (by rw [hQ]; exact ⟨G22, by unfold xOof; rw [if_neg (fun q => by first | (have q2 := q.2; omega) | exact absurd (c25.symm.trans q.1) (by decide) | (have q3 := (isBx_3 q.1).1; rw [c5] at q3; exact absurd q3 (by decide)))], rfl, rfl, fun i q1 _ _ _ _ _ _ _ _ => ho22 i q1⟩)

def qml2 (G : Nat → Nat → Int32) (L : Nat → Nat → Int64) (v : Int) (k m : Nat) (bs : List Nat) : Option Value → fv_F → Option Nat → Prop := fun r2 f2 al2 => ∃ G2 : Nat → Nat → Int32, r2 = some (.int (iI v)) ∧ f2 = fw mT G2 L ∧ al2 = none ∧ mlp G2 k m bs ∧ ∀ i j, i ≠ 12 → i ≠ 20 → ¬ (i = 0 ∧ (j = 20 ∨ j = 21 ∨ j = 22)) → G2 i j = G i j
theorem mlp_a {G : Nat → Nat → Int32} {k m : Nat} {bs : List Nat} (h : mlp G k m bs) (b : Nat) (hb : bs.length < 16) : mlp (g2 (g2 G 20 bs.length (nI b)) 0 22 (nI (bs.length + 1))) k m (bs ++ [b]) := by
  refine ⟨?_, ?_, ?_, ?_, fun j hj => ?_⟩
  · rw [g2_ne _ _ (by omega), g2_ne _ _ (by omega)]; exact h.1
  · rw [g2_ne _ _ (by omega), g2_ne _ _ (by omega)]; exact h.2.1
  · rw [g2_eq, List.length_append]; rfl
  · rw [List.length_append]; simp; omega
  · rw [List.length_append] at hj
    simp at hj
    rw [g2_ne _ _ (by omega)]
    by_cases e : j = bs.length
    · rw [e, g2_eq, gdN_e]
    · rw [g2_ne _ _ (by omega), gdN_l _ _ (by omega)]
      exact h.2.2.2.2 j (by omega)
theorem mlp_o {G G2 : Nat → Nat → Int32} {k m : Nat} {bs : List Nat} (h : mlp G k m bs) (h0 : ∀ j, j = 20 ∨ j = 21 ∨ j = 22 → G2 0 j = G 0 j) (h20 : G2 20 = G 20) : mlp G2 k m bs := by
  unfold mlp
  rw [h0 20 (by omega), h0 21 (by omega), h0 22 (by omega), h20]
  exact h

set_option maxRecDepth 4000 in
set_option maxHeartbeats 1000000 in
theorem C11_begin  (G : Nat → Nat → Int32) (L : Nat → Nat → Int64) (k m : Nat) (bs : List Nat) (hl : mlp G k m bs) (a b : Int) (a1 : -2147483648 ≤ a) (a2 : a < 2147483648) (b1 : -2147483648 ≤ b) (b2 : b < 2147483648) : fv_M Y11_begin 2 0 0 [.ref 0, .int (iI a), .int (iI b)] (fw mT G L) none (qml2 G L (xBeg bs.length a b) (if isSh a b = true then a.toNat else k) (if isSh a b = true then b.toNat else m) (if isSh a b = true then [] else bs)) := by
  refine fv_enter rfl (Nat.le_of_ble_eq_true rfl) ?_
  obtain ⟨Q, hQ⟩ : ∃ Q : Option Value → fv_F → Option Nat → Prop, Q = (qml2 G L (xBeg bs.length a b) (if isSh a b = true then a.toNat else k) (if isSh a b = true then b.toNat else m) (if isSh a b = true then [] else bs)) := ⟨_, rfl⟩
  rw [← hQ]
  show fv_At Y11_begin 2 0 0 Q 0 [(0, .ref 0), (1, .int (iI a)), (2, .int (iI b))] [] (fw mT G L) none 0 0
  refine fx_iload_n dX11_begin_0 rfl (i := 1) rfl ?_
  refine fx_iload_n dX11_begin_1 rfl (i := 2) rfl ?_
  refine fn_cS dX11_begin_2 lk11_210 (C11_areSides a b (by omega) (by omega) (by omega) (by omega) (fw mT G L)) rfl rfl (by decide) (Nat.le_of_ble_eq_true rfl) ?_
  show fv_At Y11_begin 2 0 0 Q 5 [(0, .ref 0), (1, .int (iI a)), (2, .int (iI b))] [.int (bI (isSh a b))] (fw mT G L) none 0 0
  refine fn_if_neB (tgt := 11) dX11_begin_5 (by decide) (fun c5 => ?_) (fun c5 => ?_)
  · skip
    have hin := isSh_1 c5
    obtain ⟨a0, rfl⟩ : ∃ z : Nat, a = (z : Int) := ⟨a.toNat, by omega⟩
    obtain ⟨b0, rfl⟩ : ∃ z : Nat, b = (z : Int) := ⟨b.toNat, by omega⟩
    show fv_At Y11_begin 2 0 0 Q 11 [(0, .ref 0), (1, .int (nI a0)), (2, .int (nI b0))] [] (fw mT G L) none 0 0
    refine fx_aload_n dX11_begin_11 rfl (i := 0) rfl ?_
    refine fw_geti dX11_begin_12 fd11_234 rfl rfl ?_
    refine fn_to (show _ = (nI bs.length) from hl.2.2.1) ?_
    refine fx_istore_n (lv2 := [(0, .ref 0), (1, .int (nI a0)), (2, .int (nI b0)), (3, .int (nI bs.length))]) dX11_begin_15 (i := 3) rfl (by decide) rfl ?_
    refine fx_aload_n dX11_begin_16 rfl (i := 0) rfl ?_
    refine fx_iload_n dX11_begin_17 rfl (i := 1) rfl ?_
    refine fw_puti dX11_begin_18 fd11_109 rfl rfl ?_
    refine fx_aload_n dX11_begin_21 rfl (i := 0) rfl ?_
    refine fx_iload_n dX11_begin_22 rfl (i := 2) rfl ?_
    refine fw_puti dX11_begin_23 fd11_113 rfl rfl ?_
    refine fx_aload_n dX11_begin_26 rfl (i := 0) rfl ?_
    refine fx_iconst (v := (nI 0)) dX11_begin_27 (by decide) ?_
    refine fw_puti dX11_begin_28 fd11_234 rfl rfl ?_
    refine fx_iload_n dX11_begin_31 rfl (i := 3) rfl ?_
    exact fx_iret dX11_begin_32 rfl rfl rfl (by rw [hQ]; exact (by rw [if_pos c5, if_pos c5, if_pos c5]; exact ⟨_, by unfold xBeg; rw [if_pos c5]; rfl, rfl, rfl, ⟨by rw [g2_ne _ _ (by omega), g2_ne _ _ (by omega), g2_eq]; rfl, by rw [g2_ne _ _ (by omega), g2_eq]; rfl, by rw [g2_eq]; rfl, Nat.zero_le _, fun j hj => absurd hj (Nat.not_lt_zero _)⟩, fun i j q1 q2 q3 => by rw [g2_ne _ _ (by omega), g2_ne _ _ (by omega), g2_ne _ _ (by omega)]⟩))
  · skip
    refine fx_bipush (v := (iI (-2))) dX11_begin_8 (by decide) ?_
    exact fx_iret dX11_begin_10 rfl rfl rfl (by rw [hQ]; exact (by rw [if_neg (by rw [c5]; decide), if_neg (by rw [c5]; decide), if_neg (by rw [c5]; decide)]; exact ⟨G, by unfold xBeg; rw [c5]; rfl, rfl, rfl, hl, fun _ _ _ _ _ => rfl⟩))

set_option maxRecDepth 4000 in
set_option maxHeartbeats 1000000 in
theorem C11_condition  (G : Nat → Nat → Int32) (L : Nat → Nat → Int64) (k m : Nat) (bs : List Nat) (hl : mlp G k m bs) (hk1 : 1 ≤ k) (hk : k ≤ 4) (hm1 : 1 ≤ m) (hm : m ≤ 4) (b : Int) (b1 : -2147483648 ≤ b) (b2 : b < 2147483648) : fv_M Y11_condition 2 0 0 [.ref 0, .int (iI b)] (fw mT G L) none (qml2 G L (xCnd k m bs.length b) k m (if isBx k m b = true ∧ bs.length < 16 then bs ++ [b.toNat] else bs)) := by
  refine fv_enter rfl (Nat.le_of_ble_eq_true rfl) ?_
  obtain ⟨Q, hQ⟩ : ∃ Q : Option Value → fv_F → Option Nat → Prop, Q = (qml2 G L (xCnd k m bs.length b) k m (if isBx k m b = true ∧ bs.length < 16 then bs ++ [b.toNat] else bs)) := ⟨_, rfl⟩
  rw [← hQ]
  show fv_At Y11_condition 2 0 0 Q 0 [(0, .ref 0), (1, .int (iI b))] [] (fw mT G L) none 0 0
  have h16 := hl.2.2.2.1
  refine fx_aload_n dX11_condition_0 rfl (i := 0) rfl ?_
  refine fw_geti dX11_condition_1 fd11_109 rfl rfl ?_
  refine fn_to (show _ = (nI k) from hl.1) ?_
  refine fx_aload_n dX11_condition_4 rfl (i := 0) rfl ?_
  refine fw_geti dX11_condition_5 fd11_113 rfl rfl ?_
  refine fn_to (show _ = (nI m) from hl.2.1) ?_
  refine fx_iload_n dX11_condition_8 rfl (i := 1) rfl ?_
  refine fx_aload_n dX11_condition_9 rfl (i := 0) rfl ?_
  refine fw_getr dX11_condition_10 fd11_46 rfl rfl ?_
  refine fx_callS dX11_condition_13 lk11_214 (C11_isBox G L 12 rfl k m (by omega) (by omega) (by omega) (by omega) b (by omega) (by omega)) rfl rfl (by decide) (Nat.le_of_ble_eq_true rfl) (by decide) (by decide) (fun r13 f13 al13 h13 => ?_)
  obtain ⟨G13, rfl, rfl, rfl, ho13, hd13⟩ := h13
  show fv_At Y11_condition 2 0 0 Q 16 [(0, .ref 0), (1, .int (iI b))] [.int (bI (isBx (k : Int) (m : Int) b))] (fw mT G13 L) none 0 0
  refine fn_if_neB (tgt := 22) dX11_condition_16 (by decide) (fun c16 => ?_) (fun c16 => ?_)
  · skip
    have hbs := isBx_s c16
    have hl2 : mlp G13 k m bs := mlp_o hl (fun j _ => by rw [ho13 0 (by decide)]) (ho13 20 (by decide))
    obtain ⟨b0, rfl⟩ : ∃ z : Nat, b = (z : Int) := ⟨b.toNat, by omega⟩
    show fv_At Y11_condition 2 0 0 Q 22 [(0, .ref 0), (1, .int (nI b0))] [] (fw mT G13 L) none 0 0
    refine fx_aload_n dX11_condition_22 rfl (i := 0) rfl ?_
    refine fw_geti dX11_condition_23 fd11_234 rfl rfl ?_
    refine fn_to (show _ = (nI bs.length) from hl2.2.2.1) ?_
    refine fx_bipush (v := (nI 16)) dX11_condition_26 (by decide) ?_
    refine fn_icmp_ne (tgt := 34) dX11_condition_28 (by decide) (by omega) (by omega) (fun c28 => ?_) (fun c28 => ?_)
    · skip
      refine fx_aload_n dX11_condition_34 rfl (i := 0) rfl ?_
      refine fw_getr dX11_condition_35 fd11_70 rfl rfl ?_
      refine fx_aload_n dX11_condition_38 rfl (i := 0) rfl ?_
      refine fw_geti dX11_condition_39 fd11_234 rfl rfl ?_
      refine fn_to (show _ = (nI bs.length) from hl2.2.2.1) ?_
      refine fx_iload_n dX11_condition_42 rfl (i := 1) rfl ?_
      refine fw_iast bs.length dX11_condition_43 rfl rfl (by omega) (by decide) ?_
      refine fx_aload_n dX11_condition_44 rfl (i := 0) rfl ?_
      refine fx_dup dX11_condition_45 rfl ?_
      refine fw_geti dX11_condition_46 fd11_234 rfl rfl ?_
      refine fn_to (show _ = (nI bs.length) from (by rw [g2_ne _ _ (fun q => absurd q.1 (by decide))]; exact hl2.2.2.1)) ?_
      refine fx_iconst (v := (nI 1)) dX11_condition_49 (by decide) ?_
      refine fn_iadd dX11_condition_50 ?_
      refine fw_puti dX11_condition_51 fd11_234 rfl rfl ?_
      refine fx_aload_n dX11_condition_54 rfl (i := 0) rfl ?_
      refine fw_geti dX11_condition_55 fd11_234 rfl rfl ?_
      refine fn_to (show _ = (nI (bs.length + 1)) from (g2_eq _ _ _ _)) ?_
      exact fx_iret dX11_condition_58 rfl rfl rfl (by rw [hQ]; exact (by rw [if_pos ⟨c16, by omega⟩]; exact ⟨_, by unfold xCnd; rw [if_pos c16, if_pos (by omega)]; rfl, rfl, rfl, mlp_a hl2 b0 (by omega), fun i j q1 q2 q3 => by rw [g2_ne _ _ (by omega), g2_ne _ _ (by omega), ho13 i q1]⟩))
    · skip
      refine fx_bipush (v := (iI (-7))) dX11_condition_31 (by decide) ?_
      exact fx_iret dX11_condition_33 rfl rfl rfl (by rw [hQ]; exact (by rw [if_neg (fun q => by omega)]; exact ⟨G13, by unfold xCnd; rw [if_pos c16, if_neg (by omega)], rfl, rfl, hl2, fun i j q1 _ _ => by rw [ho13 i q1]⟩))
  · skip
    refine fx_bipush (v := (iI (-2))) dX11_condition_19 (by decide) ?_
    exact fx_iret dX11_condition_21 rfl rfl rfl (by rw [hQ]; exact (by rw [if_neg (fun q => absurd (c16.symm.trans q.1) (by decide))]; exact ⟨G13, by unfold xCnd; rw [c16]; rfl, rfl, rfl, mlp_o hl (fun j _ => by rw [ho13 0 (by decide)]) (ho13 20 (by decide)), fun i j q1 _ _ => by rw [ho13 i q1]⟩))

/-- the model's field and rods, as far as counts go -/
def msp0 (G : Nat → Nat → Int32) (q : Nat) (th : Nat → Bool) : Prop := G 0 27 = nI q ∧ ∀ r, r < 8 → G 24 r = bI (th r)

set_option maxRecDepth 4000 in
set_option maxHeartbeats 1000000 in
theorem C11_count  (G : Nat → Nat → Int32) (L : Nat → Nat → Int64) (T : Nat → tms) (t : Nat → Bool) (hM : msh G L T t) (k m : Nat) (bs : List Nat) (hl : mlp G k m bs) (q : Nat) (th : Nat → Bool) (hs : msp0 G q th) (w : Int) (w1 : -2147483648 ≤ w) (w2 : w < 2147483648) : fv_M Y11_count 0 0 0 [.ref 0, .int (iI w)] (fw mT G L) none (fv_eq (some (.int (iI (xCou (kpt t 12 0 0) bs.length k m q (rct th 8 0 0) w)))) (fw mT G L)) := by
  refine fv_enter rfl (Nat.le_of_ble_eq_true rfl) ?_
  obtain ⟨Q, hQ⟩ : ∃ Q : Option Value → fv_F → Option Nat → Prop, Q = (fv_eq (some (.int (iI (xCou (kpt t 12 0 0) bs.length k m q (rct th 8 0 0) w)))) (fw mT G L)) := ⟨_, rfl⟩
  rw [← hQ]
  show fv_At Y11_count 0 0 0 Q 0 [(0, .ref 0), (1, .int (iI w))] [] (fw mT G L) none 0 0
  refine fx_iconst (v := (nI 0)) dX11_count_0 (by decide) ?_
  refine fx_istore_n (lv2 := [(0, .ref 0), (1, .int (iI w)), (2, .int (nI 0))]) dX11_count_1 (i := 2) rfl (by decide) rfl ?_
  refine fx_iload_n dX11_count_2 rfl (i := 1) rfl ?_
  rcases (show w = 0 ∨ w = 1 ∨ w = 2 ∨ w = 3 ∨ w = 4 ∨ w = 5 ∨ (w < 0 ∨ 5 < w) by omega) with rfl | rfl | rfl | rfl | rfl | rfl | c3
  · refine fx_tableIn (off := 37) (tgt := 40) dX11_count_3 (by decide) (by decide) rfl (by decide) ?_
    show fv_At Y11_count 0 0 0 Q 40 [(0, .ref 0), (1, .int (nI 0)), (2, .int (nI 0))] [] (fw mT G L) none 0 0
    refine fx_iconst (v := (nI 0)) dX11_count_40 (by decide) ?_
    refine fx_istore_n (lv2 := [(0, .ref 0), (1, .int (nI 0)), (2, .int (nI 0)), (3, .int (nI 0))]) dX11_count_41 (i := 3) rfl (by decide) rfl ?_
    have L42 : ∀ (j : Nat) (c : Nat) (s : Nat), (s + j = 12) → (kpt t j s c = kpt t 12 0 0) → fv_At Y11_count 0 0 0 Q 42 [(0, .ref 0), (1, .int (nI 0)), (2, .int (nI c)), (3, .int (nI s))] [] (fw mT G L) none 0 0 := by
      intro j
      induction j with
      | zero =>
        intro c s hj hR
        refine fx_iload_n dX11_count_42 rfl (i := 3) rfl ?_
        refine fx_bipush (v := (nI 12)) dX11_count_43 (by decide) ?_
        refine fn_icmp_ge (tgt := 71) dX11_count_45 (by decide) (by omega) (by omega) (fun c45 => ?_) (fun c45 => ?_)
        · skip
          refine fx_iload_n dX11_count_71 rfl (i := 2) rfl ?_
          exact fx_iret dX11_count_72 rfl rfl rfl (by rw [hQ]; exact ⟨by rw [show c = kpt t 12 0 0 from hR]; rfl, rfl, rfl⟩)
        · exfalso; omega
      | succ j ih42 =>
        intro c s hj hR
        refine fx_iload_n dX11_count_42 rfl (i := 3) rfl ?_
        refine fx_bipush (v := (nI 12)) dX11_count_43 (by decide) ?_
        refine fn_icmp_ge (tgt := 71) dX11_count_45 (by decide) (by omega) (by omega) (fun c45 => ?_) (fun c45 => ?_)
        · exfalso; omega
        · skip
          refine fx_iload_n dX11_count_48 rfl (i := 2) rfl ?_
          refine fx_aload_n dX11_count_49 rfl (i := 0) rfl ?_
          refine fw_getr dX11_count_50 fd11_16 rfl rfl ?_
          refine fx_iload_n dX11_count_53 rfl (i := 3) rfl ?_
          refine fw_zald s dX11_count_54 rfl rfl (by omega) (by decide) ?_
          refine fn_to (show _ = (bI (t s)) from (hM s (by omega)).1) ?_
          refine fn_if_eqB (tgt := 62) dX11_count_55 (by decide) (fun c55 => ?_) (fun c55 => ?_)
          · skip
            refine fx_iconst (v := (nI 0)) dX11_count_62 (by decide) ?_
            refine fn_iadd dX11_count_63 ?_
            refine fx_istore_n (lv2 := [(0, .ref 0), (1, .int (nI 0)), (2, .int (nI (c + 0))), (3, .int (nI s))]) dX11_count_64 (i := 2) rfl (by decide) rfl ?_
            refine fn_iinc (c := 1) (lv2 := [(0, .ref 0), (1, .int (nI 0)), (2, .int (nI (c + 0))), (3, .int (nI (s + 1)))]) dX11_count_65 (by decide) rfl (by decide) rfl ?_
            refine fx_goto (tgt := 42) dX11_count_68 (by decide) ?_
            exact (ih42 (c + 0) (s + 1) (by omega) (by rw [← hR, kpt]; first | rw [if_pos c55] | (rw [if_neg (by rw [c55]; decide)]; rfl)))
          · skip
            refine fx_iconst (v := (nI 1)) dX11_count_58 (by decide) ?_
            refine fx_goto (tgt := 63) dX11_count_59 (by decide) ?_
            refine fn_iadd dX11_count_63 ?_
            refine fx_istore_n (lv2 := [(0, .ref 0), (1, .int (nI 0)), (2, .int (nI (c + 1))), (3, .int (nI s))]) dX11_count_64 (i := 2) rfl (by decide) rfl ?_
            refine fn_iinc (c := 1) (lv2 := [(0, .ref 0), (1, .int (nI 0)), (2, .int (nI (c + 1))), (3, .int (nI (s + 1)))]) dX11_count_65 (by decide) rfl (by decide) rfl ?_
            refine fx_goto (tgt := 42) dX11_count_68 (by decide) ?_
            exact (ih42 (c + 1) (s + 1) (by omega) (by rw [← hR, kpt]; first | rw [if_pos c55] | (rw [if_neg (by rw [c55]; decide)]; rfl)))
    exact (L42 12 0 0 (by omega) rfl)
  · refine fx_tableIn (off := 70) (tgt := 73) dX11_count_3 (by decide) (by decide) rfl (by decide) ?_
    show fv_At Y11_count 0 0 0 Q 73 [(0, .ref 0), (1, .int (nI 1)), (2, .int (nI 0))] [] (fw mT G L) none 0 0
    refine fx_aload_n dX11_count_73 rfl (i := 0) rfl ?_
    refine fw_geti dX11_count_74 fd11_234 rfl rfl ?_
    refine fn_to (show _ = (nI bs.length) from hl.2.2.1) ?_
    exact fx_iret dX11_count_77 rfl rfl rfl (by rw [hQ]; exact ⟨rfl, rfl, rfl⟩)
  · refine fx_tableIn (off := 75) (tgt := 78) dX11_count_3 (by decide) (by decide) rfl (by decide) ?_
    show fv_At Y11_count 0 0 0 Q 78 [(0, .ref 0), (1, .int (nI 2)), (2, .int (nI 0))] [] (fw mT G L) none 0 0
    refine fx_aload_n dX11_count_78 rfl (i := 0) rfl ?_
    refine fw_geti dX11_count_79 fd11_109 rfl rfl ?_
    refine fn_to (show _ = (nI k) from hl.1) ?_
    exact fx_iret dX11_count_82 rfl rfl rfl (by rw [hQ]; exact ⟨rfl, rfl, rfl⟩)
  · refine fx_tableIn (off := 80) (tgt := 83) dX11_count_3 (by decide) (by decide) rfl (by decide) ?_
    show fv_At Y11_count 0 0 0 Q 83 [(0, .ref 0), (1, .int (nI 3)), (2, .int (nI 0))] [] (fw mT G L) none 0 0
    refine fx_aload_n dX11_count_83 rfl (i := 0) rfl ?_
    refine fw_geti dX11_count_84 fd11_113 rfl rfl ?_
    refine fn_to (show _ = (nI m) from hl.2.1) ?_
    exact fx_iret dX11_count_87 rfl rfl rfl (by rw [hQ]; exact ⟨rfl, rfl, rfl⟩)
  · refine fx_tableIn (off := 85) (tgt := 88) dX11_count_3 (by decide) (by decide) rfl (by decide) ?_
    show fv_At Y11_count 0 0 0 Q 88 [(0, .ref 0), (1, .int (nI 4)), (2, .int (nI 0))] [] (fw mT G L) none 0 0
    refine fx_aload_n dX11_count_88 rfl (i := 0) rfl ?_
    refine fw_geti dX11_count_89 fd11_116 rfl rfl ?_
    refine fn_to (show _ = (nI q) from hs.1) ?_
    exact fx_iret dX11_count_92 rfl rfl rfl (by rw [hQ]; exact ⟨rfl, rfl, rfl⟩)
  · refine fx_tableIn (off := 90) (tgt := 93) dX11_count_3 (by decide) (by decide) rfl (by decide) ?_
    show fv_At Y11_count 0 0 0 Q 93 [(0, .ref 0), (1, .int (nI 5)), (2, .int (nI 0))] [] (fw mT G L) none 0 0
    refine fx_iconst (v := (nI 0)) dX11_count_93 (by decide) ?_
    refine fx_istore_n (lv2 := [(0, .ref 0), (1, .int (nI 5)), (2, .int (nI 0)), (3, .int (nI 0))]) dX11_count_94 (i := 3) rfl (by decide) rfl ?_
    have L95 : ∀ (j : Nat) (c : Nat) (r : Nat), (r + j = 8) → (rct th j r c = rct th 8 0 0) → fv_At Y11_count 0 0 0 Q 95 [(0, .ref 0), (1, .int (nI 5)), (2, .int (nI c)), (3, .int (nI r))] [] (fw mT G L) none 0 0 := by
      intro j
      induction j with
      | zero =>
        intro c r hj hR
        refine fx_iload_n dX11_count_95 rfl (i := 3) rfl ?_
        refine fx_bipush (v := (nI 8)) dX11_count_96 (by decide) ?_
        refine fn_icmp_ge (tgt := 124) dX11_count_98 (by decide) (by omega) (by omega) (fun c98 => ?_) (fun c98 => ?_)
        · skip
          refine fx_iload_n dX11_count_124 rfl (i := 2) rfl ?_
          exact fx_iret dX11_count_125 rfl rfl rfl (by rw [hQ]; exact ⟨by rw [show c = rct th 8 0 0 from hR]; rfl, rfl, rfl⟩)
        · exfalso; omega
      | succ j ih95 =>
        intro c r hj hR
        refine fx_iload_n dX11_count_95 rfl (i := 3) rfl ?_
        refine fx_bipush (v := (nI 8)) dX11_count_96 (by decide) ?_
        refine fn_icmp_ge (tgt := 124) dX11_count_98 (by decide) (by omega) (by omega) (fun c98 => ?_) (fun c98 => ?_)
        · exfalso; omega
        · skip
          refine fx_iload_n dX11_count_101 rfl (i := 2) rfl ?_
          refine fx_aload_n dX11_count_102 rfl (i := 0) rfl ?_
          refine fw_getr dX11_count_103 fd11_82 rfl rfl ?_
          refine fx_iload_n dX11_count_106 rfl (i := 3) rfl ?_
          refine fw_zald r dX11_count_107 rfl rfl (by omega) (by decide) ?_
          refine fn_to (show _ = (bI (th r)) from (hs.2 r (by omega))) ?_
          refine fn_if_eqB (tgt := 115) dX11_count_108 (by decide) (fun c108 => ?_) (fun c108 => ?_)
          · skip
            refine fx_iconst (v := (nI 0)) dX11_count_115 (by decide) ?_
            refine fn_iadd dX11_count_116 ?_
            refine fx_istore_n (lv2 := [(0, .ref 0), (1, .int (nI 5)), (2, .int (nI (c + 0))), (3, .int (nI r))]) dX11_count_117 (i := 2) rfl (by decide) rfl ?_
            refine fn_iinc (c := 1) (lv2 := [(0, .ref 0), (1, .int (nI 5)), (2, .int (nI (c + 0))), (3, .int (nI (r + 1)))]) dX11_count_118 (by decide) rfl (by decide) rfl ?_
            refine fx_goto (tgt := 95) dX11_count_121 (by decide) ?_
            exact (ih95 (c + 0) (r + 1) (by omega) (by rw [← hR, rct, c108]; rfl))
          · skip
            refine fx_iconst (v := (nI 1)) dX11_count_111 (by decide) ?_
            refine fx_goto (tgt := 116) dX11_count_112 (by decide) ?_
            refine fn_iadd dX11_count_116 ?_
            refine fx_istore_n (lv2 := [(0, .ref 0), (1, .int (nI 5)), (2, .int (nI (c + 1))), (3, .int (nI r))]) dX11_count_117 (i := 2) rfl (by decide) rfl ?_
            refine fn_iinc (c := 1) (lv2 := [(0, .ref 0), (1, .int (nI 5)), (2, .int (nI (c + 1))), (3, .int (nI (r + 1)))]) dX11_count_118 (by decide) rfl (by decide) rfl ?_
            refine fx_goto (tgt := 95) dX11_count_121 (by decide) ?_
            exact (ih95 (c + 1) (r + 1) (by omega) (by rw [← hR, rct, c108]; rfl))
    exact (L95 8 0 0 (by omega) rfl)
  · refine fx_tableOut (tgt := 126) dX11_count_3 (by rw [iI_t (by omega) (by omega)]; omega) (by decide) ?_
    refine fx_bipush (v := (iI (-2))) dX11_count_126 (by decide) ?_
    exact fx_iret dX11_count_128 rfl rfl rfl (by rw [hQ]; exact ⟨by unfold xCou; rw [if_neg (by omega), if_neg (by omega), if_neg (by omega), if_neg (by omega), if_neg (by omega), if_neg (by omega)], rfl, rfl⟩)

theorem dgl_s {ts : tms} {j : Nat} (h : j < ts.length) (x : Int64) : dgl (ts.drop j) x = dgl (ts.drop (j + 1)) (31 * (31 * x + (nI (tx ts j)).toInt64) + (tn ts j).toInt64) := by
  rw [drD h]
  rfl

set_option maxRecDepth 4000 in
set_option maxHeartbeats 1000000 in
theorem C11_digest  (G : Nat → Nat → Int32) (L : Nat → Nat → Int64) (T : Nat → tms) (t : Nat → Bool) (hM : msh G L T t) (k m : Nat) (bs : List Nat) (hl : mlp G k m bs) (q : Nat) (th : Nat → Bool) (hs : msp0 G q th)  : fv_M Y11_digest 2 0 0 [.ref 0] (fw mT G L) none (fv_eq (some (.long (xDig (xCou (kpt t 12 0 0) bs.length k m q (rct th 8 0 0)) T t bs))) (fw mT G L)) := by
  refine fv_enter rfl (Nat.le_of_ble_eq_true rfl) ?_
  obtain ⟨Q, hQ⟩ : ∃ Q : Option Value → fv_F → Option Nat → Prop, Q = (fv_eq (some (.long (xDig (xCou (kpt t 12 0 0) bs.length k m q (rct th 8 0 0)) T t bs))) (fw mT G L)) := ⟨_, rfl⟩
  rw [← hQ]
  show fv_At Y11_digest 2 0 0 Q 0 [(0, .ref 0)] [] (fw mT G L) none 0 0
  have h16 := hl.2.2.2.1
  refine fx_ldc2 (v := 17) dX11_digest_0 kc11_280 ?_
  refine fx_lstore_n (lv2 := [(0, .ref 0), (1, .long 17)]) dX11_digest_3 (i := 1) rfl (by decide) rfl ?_
  refine fx_iconst (v := (nI 0)) dX11_digest_4 (by decide) ?_
  refine fx_istore_n (lv2 := [(0, .ref 0), (1, .long 17), (3, .int (nI 0))]) dX11_digest_5 (i := 3) rfl (by decide) rfl ?_
  have L6 : ∀ (k1 : Nat) (h : Int64) (w : Nat), (w + k1 = 6) → (dgc (xCou (kpt t 12 0 0) bs.length k m q (rct th 8 0 0)) k1 w h = dgc (xCou (kpt t 12 0 0) bs.length k m q (rct th 8 0 0)) 6 0 17) → fv_At Y11_digest 2 0 0 Q 6 [(0, .ref 0), (1, .long h), (3, .int (nI w))] [] (fw mT G L) none 0 0 := by
    intro k1
    induction k1 with
    | zero =>
      intro h w hw hR
      refine fx_iload_n dX11_digest_6 rfl (i := 3) rfl ?_
      refine fx_bipush (v := (nI 6)) dX11_digest_7 (by decide) ?_
      refine fn_icmp_ge (tgt := 31) dX11_digest_9 (by decide) (by omega) (by omega) (fun c9 => ?_) (fun c9 => ?_)
      · skip
        refine fx_iconst (v := (nI 0)) dX11_digest_31 (by decide) ?_
        refine fx_istore_n (lv2 := [(0, .ref 0), (1, .long h), (3, .int (nI 0))]) dX11_digest_32 (i := 3) rfl (by decide) rfl ?_
        have L33 : ∀ (k2 : Nat) (h2 : Int64) (s : Nat), (s + k2 = 12) → (dgs T t k2 s h2 = dgs T t 12 0 (dgc (xCou (kpt t 12 0 0) bs.length k m q (rct th 8 0 0)) 6 0 17)) → fv_At Y11_digest 2 0 0 Q 33 [(0, .ref 0), (1, .long h2), (3, .int (nI s))] [] (fw mT G L) none 0 0 := by
          intro k2
          induction k2 with
          | zero =>
            intro h2 s hs2 hR2
            refine fx_iload_n dX11_digest_33 rfl (i := 3) rfl ?_
            refine fx_bipush (v := (nI 12)) dX11_digest_34 (by decide) ?_
            refine fn_icmp_ge (tgt := 138) dX11_digest_36 (by decide) (by omega) (by omega) (fun c36 => ?_) (fun c36 => ?_)
            · skip
              refine fx_iconst (v := (nI 0)) dX11_digest_138 (by decide) ?_
              refine fx_istore_n (lv2 := [(0, .ref 0), (1, .long h2), (3, .int (nI 0))]) dX11_digest_139 (i := 3) rfl (by decide) rfl ?_
              have L140 : ∀ (k4 : Nat) (h4 : Int64) (j2 : Nat), (j2 + k4 = bs.length) → (bgl (bs.drop j2) h4 = xDig (xCou (kpt t 12 0 0) bs.length k m q (rct th 8 0 0)) T t bs) → fv_At Y11_digest 2 0 0 Q 140 [(0, .ref 0), (1, .long h4), (3, .int (nI j2))] [] (fw mT G L) none 0 0 := by
                intro k4
                induction k4 with
                | zero =>
                  intro h4 j2 hj2 hR4
                  refine fx_iload_n dX11_digest_140 rfl (i := 3) rfl ?_
                  refine fx_aload_n dX11_digest_141 rfl (i := 0) rfl ?_
                  refine fw_geti dX11_digest_142 fd11_234 rfl rfl ?_
                  refine fn_to (show _ = (nI bs.length) from hl.2.2.1) ?_
                  refine fn_icmp_ge (tgt := 168) dX11_digest_145 (by decide) (by omega) (by omega) (fun c145 => ?_) (fun c145 => ?_)
                  · skip
                    refine fx_lload_n dX11_digest_168 rfl (i := 1) rfl ?_
                    exact fx_lret dX11_digest_169 rfl rfl rfl (by rw [hQ]; exact ⟨by rw [← hR4, List.drop_eq_nil_of_le (by omega)]; rfl, rfl, rfl⟩)
                  · exfalso; omega
                | succ k4 ih140 =>
                  intro h4 j2 hj2 hR4
                  refine fx_iload_n dX11_digest_140 rfl (i := 3) rfl ?_
                  refine fx_aload_n dX11_digest_141 rfl (i := 0) rfl ?_
                  refine fw_geti dX11_digest_142 fd11_234 rfl rfl ?_
                  refine fn_to (show _ = (nI bs.length) from hl.2.2.1) ?_
                  refine fn_icmp_ge (tgt := 168) dX11_digest_145 (by decide) (by omega) (by omega) (fun c145 => ?_) (fun c145 => ?_)
                  · exfalso; omega
                  · skip
                    refine fx_ldc2 (v := 31) dX11_digest_148 kc11_282 ?_
                    refine fx_lload_n dX11_digest_151 rfl (i := 1) rfl ?_
                    refine fx_lmul dX11_digest_152 ?_
                    refine fx_aload_n dX11_digest_153 rfl (i := 0) rfl ?_
                    refine fw_getr dX11_digest_154 fd11_70 rfl rfl ?_
                    refine fx_iload_n dX11_digest_157 rfl (i := 3) rfl ?_
                    refine fw_iald j2 dX11_digest_158 rfl rfl (by omega) (by decide) ?_
                    refine fn_to (show _ = (nI (bs.getD j2 0)) from (hl.2.2.2.2 j2 (by omega))) ?_
                    refine fx_i2l dX11_digest_159 ?_
                    refine fx_ladd dX11_digest_160 ?_
                    refine fx_lstore_n (lv2 := [(0, .ref 0), (1, .long (((31 * h4)) + ((((nI (bs.getD j2 0))).toInt64)))), (3, .int (nI j2))]) dX11_digest_161 (i := 1) rfl (by decide) rfl ?_
                    refine fn_iinc (c := 1) (lv2 := [(0, .ref 0), (1, .long (((31 * h4)) + ((((nI (bs.getD j2 0))).toInt64)))), (3, .int (nI (j2 + 1)))]) dX11_digest_162 (by decide) rfl (by decide) rfl ?_
                    refine fx_goto (tgt := 140) dX11_digest_165 (by decide) ?_
                    exact (ih140 ((((31 * h4)) + ((((nI (bs.getD j2 0))).toInt64)))) (j2 + 1) (by omega) (by rw [← hR4, bgl_s (show j2 < bs.length by omega)]))
              exact (L140 bs.length h2 0 (by omega) (by rw [show h2 = dgs T t 12 0 (dgc (xCou (kpt t 12 0 0) bs.length k m q (rct th 8 0 0)) 6 0 17) from hR2]; rfl))
            · exfalso; omega
          | succ k2 ih33 =>
            intro h2 s hs2 hR2
            refine fx_iload_n dX11_digest_33 rfl (i := 3) rfl ?_
            refine fx_bipush (v := (nI 12)) dX11_digest_34 (by decide) ?_
            refine fn_icmp_ge (tgt := 138) dX11_digest_36 (by decide) (by omega) (by omega) (fun c36 => ?_) (fun c36 => ?_)
            · exfalso; omega
            · skip
              refine fx_aload_n dX11_digest_39 rfl (i := 0) rfl ?_
              refine fw_getr dX11_digest_40 fd11_16 rfl rfl ?_
              refine fx_iload_n dX11_digest_43 rfl (i := 3) rfl ?_
              refine fw_zald s dX11_digest_44 rfl rfl (by omega) (by decide) ?_
              refine fn_to (show _ = (bI (t s)) from (hM s (by omega)).1) ?_
              refine fn_if_eqB (tgt := 132) dX11_digest_45 (by decide) (fun c45 => ?_) (fun c45 => ?_)
              · skip
                refine fn_iinc (c := 1) (lv2 := [(0, .ref 0), (1, .long h2), (3, .int (nI (s + 1)))]) dX11_digest_132 (by decide) rfl (by decide) rfl ?_
                refine fx_goto (tgt := 33) dX11_digest_135 (by decide) ?_
                exact (ih33 h2 (s + 1) (by omega) (by rw [← hR2, dgs_s, if_neg (by rw [c45]; decide)]))
              · skip
                have h6 := ((hM s (by omega)).2 c45).1
                refine fx_ldc2 (v := 31) dX11_digest_48 kc11_282 ?_
                refine fx_lload_n dX11_digest_51 rfl (i := 1) rfl ?_
                refine fx_lmul dX11_digest_52 ?_
                refine fx_iload_n dX11_digest_53 rfl (i := 3) rfl ?_
                refine fx_i2l dX11_digest_54 ?_
                refine fx_ladd dX11_digest_55 ?_
                refine fx_lstore_n (lv2 := [(0, .ref 0), (1, .long (((31 * h2)) + ((((nI s)).toInt64)))), (3, .int (nI s))]) dX11_digest_56 (i := 1) rfl (by decide) rfl ?_
                refine fx_ldc2 (v := 31) dX11_digest_57 kc11_282 ?_
                refine fx_lload_n dX11_digest_60 rfl (i := 1) rfl ?_
                refine fx_lmul dX11_digest_61 ?_
                refine fx_aload_n dX11_digest_62 rfl (i := 0) rfl ?_
                refine fw_getr dX11_digest_63 fd11_20 rfl rfl ?_
                refine fx_iload_n dX11_digest_66 rfl (i := 3) rfl ?_
                refine fw_iald s dX11_digest_67 rfl rfl (by omega) (by decide) ?_
                refine fn_to (show _ = (nI ((T s).length)) from ((hM s (by omega)).2 c45).2.1) ?_
                refine fx_i2l dX11_digest_68 ?_
                refine fx_ladd dX11_digest_69 ?_
                refine fx_lstore_n (lv2 := [(0, .ref 0), (1, .long (((31 * ((((31 * h2)) + ((((nI s)).toInt64)))))) + ((((nI ((T s).length))).toInt64)))), (3, .int (nI s))]) dX11_digest_70 (i := 1) rfl (by decide) rfl ?_
                refine fx_iconst (v := (nI 0)) dX11_digest_71 (by decide) ?_
                refine fx_istore (lv2 := [(0, .ref 0), (1, .long (((31 * ((((31 * h2)) + ((((nI s)).toInt64)))))) + ((((nI ((T s).length))).toInt64)))), (3, .int (nI s)), (4, .int (nI 0))]) dX11_digest_72 (by decide) rfl ?_
                have L74 : ∀ (k3 : Nat) (h3 : Int64) (j : Nat), (j + k3 = (T s).length) → (dgl ((T s).drop j) h3 = dgl (T s) (31 * (31 * h2 + (nI s).toInt64) + (nI (T s).length).toInt64)) → fv_At Y11_digest 2 0 0 Q 74 [(0, .ref 0), (1, .long h3), (3, .int (nI s)), (4, .int (nI j))] [] (fw mT G L) none 0 0 := by
                  intro k3
                  induction k3 with
                  | zero =>
                    intro h3 j hj hR3
                    refine fx_iload dX11_digest_74 rfl ?_
                    refine fx_aload_n dX11_digest_76 rfl (i := 0) rfl ?_
                    refine fw_getr dX11_digest_77 fd11_20 rfl rfl ?_
                    refine fx_iload_n dX11_digest_80 rfl (i := 3) rfl ?_
                    refine fw_iald s dX11_digest_81 rfl rfl (by omega) (by decide) ?_
                    refine fn_to (show _ = (nI ((T s).length)) from ((hM s (by omega)).2 c45).2.1) ?_
                    refine fn_icmp_ge (tgt := 132) dX11_digest_82 (by decide) (by omega) (by omega) (fun c82 => ?_) (fun c82 => ?_)
                    · skip
                      refine fn_iinc (c := 1) (lv2 := [(0, .ref 0), (1, .long h3), (3, .int (nI (s + 1))), (4, .int (nI j))]) dX11_digest_132 (by decide) rfl (by decide) rfl ?_
                      refine fx_goto (tgt := 33) dX11_digest_135 (by decide) ?_
                      exact fn_sub [0, 1, 2] rfl (ih33 h3 (s + 1) (by omega) (by rw [← hR2, dgs_s, if_pos c45, ← hR3, List.drop_eq_nil_of_le (by omega)]; rfl))
                    · exfalso; omega
                  | succ k3 ih74 =>
                    intro h3 j hj hR3
                    refine fx_iload dX11_digest_74 rfl ?_
                    refine fx_aload_n dX11_digest_76 rfl (i := 0) rfl ?_
                    refine fw_getr dX11_digest_77 fd11_20 rfl rfl ?_
                    refine fx_iload_n dX11_digest_80 rfl (i := 3) rfl ?_
                    refine fw_iald s dX11_digest_81 rfl rfl (by omega) (by decide) ?_
                    refine fn_to (show _ = (nI ((T s).length)) from ((hM s (by omega)).2 c45).2.1) ?_
                    refine fn_icmp_ge (tgt := 132) dX11_digest_82 (by decide) (by omega) (by omega) (fun c82 => ?_) (fun c82 => ?_)
                    · exfalso; omega
                    · skip
                      refine fx_ldc2 (v := 31) dX11_digest_85 kc11_282 ?_
                      refine fx_lload_n dX11_digest_88 rfl (i := 1) rfl ?_
                      refine fx_lmul dX11_digest_89 ?_
                      refine fx_aload_n dX11_digest_90 rfl (i := 0) rfl ?_
                      refine fw_getr dX11_digest_91 fd11_23 rfl rfl ?_
                      refine fx_sipush (v := (nI 600)) dX11_digest_94 (by decide) ?_
                      refine fx_iload_n dX11_digest_97 rfl (i := 3) rfl ?_
                      refine fn_imul dX11_digest_98 ?_
                      refine fx_iload dX11_digest_99 rfl ?_
                      refine fn_iadd dX11_digest_101 ?_
                      refine fw_iald ((600 * s) + j) dX11_digest_102 rfl rfl (by omega) (by decide) ?_
                      refine fn_to (show _ = (nI (tx (T s) j)) from (((hM s (by omega)).2 c45).2.2 j (by omega)).1) ?_
                      refine fx_i2l dX11_digest_103 ?_
                      refine fx_ladd dX11_digest_104 ?_
                      refine fx_lstore_n (lv2 := [(0, .ref 0), (1, .long (((31 * h3)) + ((((nI (tx (T s) j))).toInt64)))), (3, .int (nI s)), (4, .int (nI j))]) dX11_digest_105 (i := 1) rfl (by decide) rfl ?_
                      refine fx_ldc2 (v := 31) dX11_digest_106 kc11_282 ?_
                      refine fx_lload_n dX11_digest_109 rfl (i := 1) rfl ?_
                      refine fx_lmul dX11_digest_110 ?_
                      refine fx_aload_n dX11_digest_111 rfl (i := 0) rfl ?_
                      refine fw_getr dX11_digest_112 fd11_26 rfl rfl ?_
                      refine fx_sipush (v := (nI 600)) dX11_digest_115 (by decide) ?_
                      refine fx_iload_n dX11_digest_118 rfl (i := 3) rfl ?_
                      refine fn_imul dX11_digest_119 ?_
                      refine fx_iload dX11_digest_120 rfl ?_
                      refine fn_iadd dX11_digest_122 ?_
                      refine fw_lald ((600 * s) + j) dX11_digest_123 rfl rfl (by omega) (by decide) ?_
                      refine fn_toL (show _ = ((tn (T s) j).toInt64) from (((hM s (by omega)).2 c45).2.2 j (by omega)).2) ?_
                      refine fx_ladd dX11_digest_124 ?_
                      refine fx_lstore_n (lv2 := [(0, .ref 0), (1, .long (((31 * ((((31 * h3)) + ((((nI (tx (T s) j))).toInt64)))))) + (((tn (T s) j).toInt64)))), (3, .int (nI s)), (4, .int (nI j))]) dX11_digest_125 (i := 1) rfl (by decide) rfl ?_
                      refine fn_iinc (c := 1) (lv2 := [(0, .ref 0), (1, .long (((31 * ((((31 * h3)) + ((((nI (tx (T s) j))).toInt64)))))) + (((tn (T s) j).toInt64)))), (3, .int (nI s)), (4, .int (nI (j + 1)))]) dX11_digest_126 (by decide) rfl (by decide) rfl ?_
                      refine fx_goto (tgt := 74) dX11_digest_129 (by decide) ?_
                      exact (ih74 ((((31 * ((((31 * h3)) + ((((nI (tx (T s) j))).toInt64)))))) + (((tn (T s) j).toInt64)))) (j + 1) (by omega) (by rw [← hR3, dgl_s (show j < (T s).length by omega)]))
                exact (L74 ((T s).length) ((((31 * ((((31 * h2)) + ((((nI s)).toInt64)))))) + ((((nI ((T s).length))).toInt64)))) 0 (by omega) rfl)
        exact (L33 12 h 0 (by omega) (by rw [← hR]; rfl))
      · exfalso; omega
    | succ k1 ih6 =>
      intro h w hw hR
      refine fx_iload_n dX11_digest_6 rfl (i := 3) rfl ?_
      refine fx_bipush (v := (nI 6)) dX11_digest_7 (by decide) ?_
      refine fn_icmp_ge (tgt := 31) dX11_digest_9 (by decide) (by omega) (by omega) (fun c9 => ?_) (fun c9 => ?_)
      · exfalso; omega
      · skip
        refine fx_ldc2 (v := 31) dX11_digest_12 kc11_282 ?_
        refine fx_lload_n dX11_digest_15 rfl (i := 1) rfl ?_
        refine fx_lmul dX11_digest_16 ?_
        refine fx_aload_n dX11_digest_17 rfl (i := 0) rfl ?_
        refine fx_iload_n dX11_digest_18 rfl (i := 3) rfl ?_
        refine fn_cV dX11_digest_19 lk11_284 fv_c8 rfl (fw_at (show mT 0 = some (3, 8, 38, [some 1, none, some 2, some 3, some 4, some 5, some 6, some 7, some 8, some 9, some 10, some 11, some 12, some 13, some 14, some 15, some 16, some 17, some 18, some 19, none, none, none, some 20, some 21, some 22, some 23, none, some 24, some 25, some 26, some 27, some 28, some 29, some 30, some 31, none, some 32]) from rfl)) (C11_count G L T t hM k m bs hl q th hs ((w : Nat) : Int) (by omega) (by omega)) rfl rfl (by decide) (Nat.le_of_ble_eq_true rfl) ?_
        show fv_At Y11_digest 2 0 0 Q 22 [(0, .ref 0), (1, .long h), (3, .int (nI w))] [.int (iI (xCou (kpt t 12 0 0) bs.length k m q (rct th 8 0 0) ((w : Nat) : Int))), .long (31 * h)] (fw mT G L) none 0 0
        refine fx_i2l dX11_digest_22 ?_
        refine fx_ladd dX11_digest_23 ?_
        refine fx_lstore_n (lv2 := [(0, .ref 0), (1, .long (((31 * h)) + ((((iI (xCou (kpt t 12 0 0) bs.length k m q (rct th 8 0 0) ((w : Nat) : Int)))).toInt64)))), (3, .int (nI w))]) dX11_digest_24 (i := 1) rfl (by decide) rfl ?_
        refine fn_iinc (c := 1) (lv2 := [(0, .ref 0), (1, .long (((31 * h)) + ((((iI (xCou (kpt t 12 0 0) bs.length k m q (rct th 8 0 0) ((w : Nat) : Int)))).toInt64)))), (3, .int (nI (w + 1)))]) dX11_digest_25 (by decide) rfl (by decide) rfl ?_
        refine fx_goto (tgt := 6) dX11_digest_28 (by decide) ?_
        exact (ih6 ((((31 * h)) + ((((iI (xCou (kpt t 12 0 0) bs.length k m q (rct th 8 0 0) ((w : Nat) : Int)))).toInt64)))) (w + 1) (by omega) (by rw [← hR, dgc_s]))
  exact (L6 6 17 0 (by omega) rfl)

set_option maxRecDepth 4000 in
set_option maxHeartbeats 1000000 in
theorem C11_drops  (G : Nat → Nat → Int32) (L : Nat → Nat → Int64)  : fv_M Y11_drops 0 0 0 [.ref 0] (fw mT G L) none (fun r2 f2 al2 => ∃ G2 : Nat → Nat → Int32, r2 = none ∧ f2 = fw mT G2 L ∧ al2 = none ∧ (∀ i, i ≠ 24 → G2 i = G i) ∧ ∀ r, r < 8 → G2 24 r = bI false) := by
  refine fv_enter rfl (Nat.le_of_ble_eq_true rfl) ?_
  obtain ⟨Q, hQ⟩ : ∃ Q : Option Value → fv_F → Option Nat → Prop, Q = (fun r2 f2 al2 => ∃ G2 : Nat → Nat → Int32, r2 = none ∧ f2 = fw mT G2 L ∧ al2 = none ∧ (∀ i, i ≠ 24 → G2 i = G i) ∧ ∀ r, r < 8 → G2 24 r = bI false) := ⟨_, rfl⟩
  rw [← hQ]
  show fv_At Y11_drops 0 0 0 Q 0 [(0, .ref 0)] [] (fw mT G L) none 0 0
  refine fx_iconst (v := (nI 0)) dX11_drops_0 (by decide) ?_
  refine fx_istore_n (lv2 := [(0, .ref 0), (1, .int (nI 0))]) dX11_drops_1 (i := 1) rfl (by decide) rfl ?_
  have L2 : ∀ (j : Nat) (r : Nat) (G1 : Nat → Nat → Int32), (r + j = 8) → (∀ i, i ≠ 24 → G1 i = G i) → (∀ p, p < r → G1 24 p = bI false) → fv_At Y11_drops 0 0 0 Q 2 [(0, .ref 0), (1, .int (nI r))] [] (fw mT G1 L) none 0 0 := by
    intro j
    induction j with
    | zero =>
      intro r G1 hj hoG hN
      refine fx_iload_n dX11_drops_2 rfl (i := 1) rfl ?_
      refine fx_bipush (v := (nI 8)) dX11_drops_3 (by decide) ?_
      refine fn_icmp_ge (tgt := 21) dX11_drops_5 (by decide) (by omega) (by omega) (fun c5 => ?_) (fun c5 => ?_)
      · skip
        exact fx_vret dX11_drops_21 rfl rfl rfl (by rw [hQ]; exact ⟨G1, rfl, rfl, rfl, hoG, fun p hp => hN p (by omega)⟩)
      · exfalso; omega
    | succ j ih2 =>
      intro r G1 hj hoG hN
      refine fx_iload_n dX11_drops_2 rfl (i := 1) rfl ?_
      refine fx_bipush (v := (nI 8)) dX11_drops_3 (by decide) ?_
      refine fn_icmp_ge (tgt := 21) dX11_drops_5 (by decide) (by omega) (by omega) (fun c5 => ?_) (fun c5 => ?_)
      · exfalso; omega
      · skip
        refine fx_aload_n dX11_drops_8 rfl (i := 0) rfl ?_
        refine fw_getr dX11_drops_9 fd11_82 rfl rfl ?_
        refine fx_iload_n dX11_drops_12 rfl (i := 1) rfl ?_
        refine fx_iconst (v := (nI 0)) dX11_drops_13 (by decide) ?_
        refine fw_zast r dX11_drops_14 (Or.inl rfl) rfl rfl (by omega) (by decide) ?_
        refine fn_iinc (c := 1) (lv2 := [(0, .ref 0), (1, .int (nI (r + 1)))]) dX11_drops_15 (by decide) rfl (by decide) rfl ?_
        refine fx_goto (tgt := 2) dX11_drops_18 (by decide) ?_
        exact (ih2 (r + 1) (g2 G1 24 r ((nI 0))) (by omega) (fun i q => (g2_row _ _ q).trans (hoG i q)) (fun p q => by by_cases w : p = r; (rw [w]; exact g2_eq _ _ _ _); exact (g2_ne _ _ (fun z => w z.2)).trans (hN p (by omega))))
  exact (L2 8 0 G (by omega) (fun _ _ => rfl) (fun p q => absurd q (Nat.not_lt_zero _)))
