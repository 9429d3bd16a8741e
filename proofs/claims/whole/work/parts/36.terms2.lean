/-- where exponents lie at work; -1: they are none -/
def xPla (x : Int) : Int := if okB x = true then (nin x.toNat : Nat) else -1
theorem xPla_b (x : Int) : -1 ≤ xPla x ∧ xPla x < 59049 := by
  unfold xPla
  split
  · rename_i h
    have := nin_in (okB_1 h).2
    omega
  · omega
theorem xPla_1 {x : Int} (h : xPla x ≠ -1) : okB x = true := by
  cases e : okB x with
  | true => rfl
  | false => exact absurd (by unfold xPla; rw [e]; rfl) h
theorem xPla_0 {x : Int} (h : xPla x = -1) : okB x = false := by
  cases e : okB x with
  | false => rfl
  | true =>
    unfold xPla at h
    rw [if_pos e] at h
    omega
theorem xPla_N {x : Nat} (h : okc x) : xPla (x : Int) = (nin x : Nat) := by
  unfold xPla
  rw [if_pos (okB_in h)]
  rfl
theorem nin_nex {e : Nat} (h : e < 59049) : okc (nex e) ∧ nin (nex e) = e := by
  obtain ⟨d0, e0⟩ : ∃ d, d = e % 9 := ⟨_, rfl⟩
  obtain ⟨d1, e1⟩ : ∃ d, d = e / 9 % 9 := ⟨_, rfl⟩
  obtain ⟨d2, e2⟩ : ∃ d, d = e / 9 / 9 % 9 := ⟨_, rfl⟩
  obtain ⟨d3, e3⟩ : ∃ d, d = e / 9 / 9 / 9 % 9 := ⟨_, rfl⟩
  obtain ⟨d4, e4⟩ : ∃ d, d = e / 9 / 9 / 9 / 9 % 9 := ⟨_, rfl⟩
  have hx : nex e = d4 * 10000 + d3 * 1000 + d2 * 100 + d1 * 10 + d0 := by
    show 0 + 1 * (e % 9) + 10 * 1 * (e / 9 % 9) + 10 * (10 * 1) * (e / 9 / 9 % 9) + 10 * (10 * (10 * 1)) * (e / 9 / 9 / 9 % 9) + 10 * (10 * (10 * (10 * 1))) * (e / 9 / 9 / 9 / 9 % 9) = _
    rw [← e0, ← e1, ← e2, ← e3, ← e4]
    omega
  have b0 : d0 ≤ 8 := by omega
  have b1 : d1 ≤ 8 := by omega
  have b2 : d2 ≤ 8 := by omega
  have b3 : d3 ≤ 8 := by omega
  have b4 : d4 ≤ 8 := by omega
  have he : e = d4 * 6561 + d3 * 729 + d2 * 81 + d1 * 9 + d0 := by omega
  rw [hx]
  refine ⟨okc_of b4 b3 b2 b1 b0, ?_⟩
  clear hx e0 e1 e2 e3 e4
  generalize hy : d4 * 10000 + d3 * 1000 + d2 * 100 + d1 * 10 + d0 = x
  have f0 : x % 10 = d0 := by omega
  have f1 : x / 10 % 10 = d1 := by omega
  have f2 : x / 10 / 10 % 10 = d2 := by omega
  have f3 : x / 10 / 10 / 10 % 10 = d3 := by omega
  have f4 : x / 10 / 10 / 10 / 10 % 10 = d4 := by omega
  show 0 + 1 * (x % 10) + 9 * 1 * (x / 10 % 10) + 9 * (9 * 1) * (x / 10 / 10 % 10) + 9 * (9 * (9 * 1)) * (x / 10 / 10 / 10 % 10) + 9 * (9 * (9 * (9 * 1))) * (x / 10 / 10 / 10 / 10 % 10) = e
  rw [f0, f1, f2, f3, f4, he]
  omega
theorem nin_lt {x y : Nat} (hx : okc x) (hy : okc y) (h : x < y) : nin x < nin y := by
  obtain ⟨a4, a3, a2, a1, a0, b4, b3, b2, b1, b0, ex⟩ := okc_dig hx
  obtain ⟨c4, c3, c2, c1, c0, d4, d3, d2, d1, d0, ey⟩ := okc_dig hy
  have k1 : ∀ {x a4 a3 a2 a1 a0 : Nat}, a4 ≤ 8 → a3 ≤ 8 → a2 ≤ 8 → a1 ≤ 8 → a0 ≤ 8 → x = a4 * 10000 + a3 * 1000 + a2 * 100 + a1 * 10 + a0 → nin x = a4 * 6561 + a3 * 729 + a2 * 81 + a1 * 9 + a0 := by
    intro x a4 a3 a2 a1 a0 b4 b3 b2 b1 b0 hx
    have f0 : x % 10 = a0 := by omega
    have f1 : x / 10 % 10 = a1 := by omega
    have f2 : x / 10 / 10 % 10 = a2 := by omega
    have f3 : x / 10 / 10 / 10 % 10 = a3 := by omega
    have f4 : x / 10 / 10 / 10 / 10 % 10 = a4 := by omega
    show 0 + 1 * (x % 10) + 9 * 1 * (x / 10 % 10) + 9 * (9 * 1) * (x / 10 / 10 % 10) + 9 * (9 * (9 * 1)) * (x / 10 / 10 / 10 % 10) + 9 * (9 * (9 * (9 * 1))) * (x / 10 / 10 / 10 / 10 % 10) = _
    rw [f0, f1, f2, f3, f4]
    omega
  rw [k1 b4 b3 b2 b1 b0 ex, k1 d4 d3 d2 d1 d0 ey]
  clear k1 hx hy
  rcases Nat.lt_trichotomy a4 c4 with q | q | q
  · omega
  · rcases Nat.lt_trichotomy a3 c3 with q3 | q3 | q3
    · omega
    · rcases Nat.lt_trichotomy a2 c2 with q2 | q2 | q2
      · omega
      · rcases Nat.lt_trichotomy a1 c1 with q1 | q1 | q1
        · omega
        · omega
        · omega
      · omega
    · omega
  · omega

set_option maxRecDepth 4000 in
set_option maxHeartbeats 1000000 in
theorem C11_placeOf (x : Int) (x1 : -2147483648 ≤ x) (x2 : x < 2147483648) (f : fv_F) : fv_M Y11_placeOf 1 0 0 [.int (iI x)] f none (fv_eq (some (.int (iI (xPla x)))) f) := by
  refine fv_enter rfl (Nat.le_of_ble_eq_true rfl) ?_
  obtain ⟨Q, hQ⟩ : ∃ Q : Option Value → fv_F → Option Nat → Prop, Q = (fv_eq (some (.int (iI (xPla x)))) f) := ⟨_, rfl⟩
  rw [← hQ]
  show fv_At Y11_placeOf 1 0 0 Q 0 [(0, .int (iI x))] [] f none 0 0
  refine fx_iload_n dX11_placeOf_0 rfl (i := 0) rfl ?_
  refine fx_i2l dX11_placeOf_1 ?_
  refine fn_toL (show _ = lI x from lI_of (z := x) (by omega) (by omega)) ?_
  refine fx_lconst (v := 0) dX11_placeOf_2 (by decide) ?_
  refine fn_toL (show _ = (lI 0) from (by decide)) ?_
  refine fx_ldc2 dX11_placeOf_3 kc11_152 (fn_toL (show _ = lI (88888) by decide) ?_)
  refine fn_cS dX11_placeOf_6 lk11_126 (C11_in (v := x) (a := 0) (b := 88888) (by omega) (by omega) (by omega) (by omega) (by omega) (by omega) (f := f)) rfl rfl (by decide) (Nat.le_of_ble_eq_true rfl) ?_
  show fv_At Y11_placeOf 1 0 0 Q 9 [(0, .int (iI x))] [.int (bI (decide (0 ≤ x ∧ x ≤ 88888)))] f none 0 0
  refine fn_if_neB (tgt := 14) dX11_placeOf_9 (by decide) (fun c9 => ?_) (fun c9 => ?_)
  · skip
    have h0 := of_decide_eq_true c9
    obtain ⟨a, rfl⟩ : ∃ w : Nat, x = (w : Int) := ⟨x.toNat, by omega⟩
    show fv_At Y11_placeOf 1 0 0 Q 14 [(0, .int (nI a))] [] f none 0 0
    refine fx_iconst (v := (nI 0)) dX11_placeOf_14 (by decide) ?_
    refine fx_istore_n (lv2 := [(0, .int (nI a)), (1, .int (nI 0))]) dX11_placeOf_15 (i := 1) rfl (by decide) rfl ?_
    refine fx_iconst (v := (nI 1)) dX11_placeOf_16 (by decide) ?_
    refine fx_istore_n (lv2 := [(0, .int (nI a)), (1, .int (nI 0)), (2, .int (nI 1))]) dX11_placeOf_17 (i := 2) rfl (by decide) rfl ?_
    refine fx_iload_n dX11_placeOf_18 rfl (i := 0) rfl ?_
    refine fx_istore_n (lv2 := [(0, .int (nI a)), (1, .int (nI 0)), (2, .int (nI 1)), (3, .int (nI a))]) dX11_placeOf_19 (i := 3) rfl (by decide) rfl ?_
    refine fx_iconst (v := (nI 0)) dX11_placeOf_20 (by decide) ?_
    refine fx_istore (lv2 := [(0, .int (nI a)), (1, .int (nI 0)), (2, .int (nI 1)), (3, .int (nI a)), (4, .int (nI 0))]) dX11_placeOf_21 (by decide) rfl ?_
    have L23 : ∀ (k : Nat) (c : Nat) (m : Nat) (r : Nat) (i : Nat), (i + k = 5) → (r = a / 10 ^ i ∧ r < 100000) → (∀ j, j < i → a / 10 ^ j % 10 ≤ 8) → (pl9 k c m r = nin a) → fv_At Y11_placeOf 1 0 0 Q 23 [(0, .int (nI a)), (1, .int (nI c)), (2, .int (nI m)), (3, .int (nI r)), (4, .int (nI i))] [] f none 0 0 := by
      intro k
      induction k with
      | zero =>
        intro c m r i hi hr hD hR
        refine fx_iload dX11_placeOf_23 rfl ?_
        refine fx_iconst (v := (nI 5)) dX11_placeOf_25 (by decide) ?_
        refine fn_icmp_ge (tgt := 65) dX11_placeOf_26 (by decide) (by omega) (by omega) (fun c26 => ?_) (fun c26 => ?_)
        · skip
          refine fx_iload_n dX11_placeOf_65 rfl (i := 1) rfl ?_
          exact fx_iret dX11_placeOf_66 rfl rfl rfl (by rw [hQ]; exact ⟨by rw [xPla_N (okc_fat (by omega) (fun l q1 q2 => hD (5 - l) (by omega))), ← hR]; rfl, rfl, rfl⟩)
        · exfalso; omega
      | succ k ih23 =>
        intro c m r i hi hr hD hR
        refine fx_iload dX11_placeOf_23 rfl ?_
        refine fx_iconst (v := (nI 5)) dX11_placeOf_25 (by decide) ?_
        refine fn_icmp_ge (tgt := 65) dX11_placeOf_26 (by decide) (by omega) (by omega) (fun c26 => ?_) (fun c26 => ?_)
        · exfalso; omega
        · skip
          refine fx_iload_n dX11_placeOf_29 rfl (i := 3) rfl ?_
          refine fx_bipush (v := (nI 10)) dX11_placeOf_30 (by decide) ?_
          refine fn_irem dX11_placeOf_32 (by omega) (by omega) (by omega) ?_
          refine fx_bipush (v := (nI 8)) dX11_placeOf_33 (by decide) ?_
          refine fn_icmp_le (tgt := 40) dX11_placeOf_35 (by decide) (by omega) (by omega) (fun c35 => ?_) (fun c35 => ?_)
          · skip
            refine fx_iload_n dX11_placeOf_40 rfl (i := 1) rfl ?_
            refine fx_iload_n dX11_placeOf_41 rfl (i := 2) rfl ?_
            refine fx_iload_n dX11_placeOf_42 rfl (i := 3) rfl ?_
            refine fx_bipush (v := (nI 10)) dX11_placeOf_43 (by decide) ?_
            refine fn_irem dX11_placeOf_45 (by omega) (by omega) (by omega) ?_
            refine fn_imul dX11_placeOf_46 ?_
            refine fn_iadd dX11_placeOf_47 ?_
            refine fx_istore_n (lv2 := [(0, .int (nI a)), (1, .int (nI (c + (m * (r % 10))))), (2, .int (nI m)), (3, .int (nI r)), (4, .int (nI i))]) dX11_placeOf_48 (i := 1) rfl (by decide) rfl ?_
            refine fx_bipush (v := (nI 9)) dX11_placeOf_49 (by decide) ?_
            refine fx_iload_n dX11_placeOf_51 rfl (i := 2) rfl ?_
            refine fn_imul dX11_placeOf_52 ?_
            refine fx_istore_n (lv2 := [(0, .int (nI a)), (1, .int (nI (c + (m * (r % 10))))), (2, .int (nI (9 * m))), (3, .int (nI r)), (4, .int (nI i))]) dX11_placeOf_53 (i := 2) rfl (by decide) rfl ?_
            refine fx_iload_n dX11_placeOf_54 rfl (i := 3) rfl ?_
            refine fx_bipush (v := (nI 10)) dX11_placeOf_55 (by decide) ?_
            refine fn_idiv dX11_placeOf_57 (by omega) (by omega) (by omega) ?_
            refine fx_istore_n (lv2 := [(0, .int (nI a)), (1, .int (nI (c + (m * (r % 10))))), (2, .int (nI (9 * m))), (3, .int (nI (r / 10))), (4, .int (nI i))]) dX11_placeOf_58 (i := 3) rfl (by decide) rfl ?_
            refine fn_iinc (c := 1) (lv2 := [(0, .int (nI a)), (1, .int (nI (c + (m * (r % 10))))), (2, .int (nI (9 * m))), (3, .int (nI (r / 10))), (4, .int (nI (i + 1)))]) dX11_placeOf_59 (by decide) rfl (by decide) rfl ?_
            refine fx_goto (tgt := 23) dX11_placeOf_62 (by decide) ?_
            exact (ih23 (c + (m * (r % 10))) (9 * m) (r / 10) (i + 1) (by omega) (by refine ⟨?_, by omega⟩; rw [hr.1, Nat.div_div_eq_div_mul, ← Nat.pow_succ]) (fun j q => by by_cases e : j = i; (rw [e, ← hr.1]; omega); exact hD j (by omega)) hR)
          · skip
            refine fx_iconst (v := (iI (-1))) dX11_placeOf_38 (by decide) ?_
            exact fx_iret dX11_placeOf_39 rfl rfl rfl (by rw [hQ]; exact ⟨by unfold xPla; rw [okB_no (okc_no (l := 5 - i) (by omega) (by omega) (by unfold fat; rw [show 5 - (5 - i) = i by omega, ← hr.1]; omega))]; rfl, rfl, rfl⟩)
    exact (L23 5 0 1 a 0 (by omega) (by rw [Nat.pow_zero, Nat.div_one]; omega) (fun j q => by omega) rfl)
  · skip
    refine fx_iconst (v := (iI (-1))) dX11_placeOf_12 (by decide) ?_
    exact fx_iret dX11_placeOf_13 rfl rfl rfl (by rw [hQ]; exact ⟨by unfold xPla; rw [okB_out (by have := of_decide_eq_false c9; omega)]; rfl, rfl, rfl⟩)

theorem C11_placeN (x : Nat) (h : okc x) (f : fv_F) : fv_M Y11_placeOf 1 0 0 [.int (nI x)] f none (fv_eq (some (.int (nI (nin x)))) f) := by
  have hl := okc_le h
  have q := C11_placeOf (x : Int) (by omega) (by omega) f
  rw [xPla_N h] at q
  exact q

set_option maxRecDepth 4000 in
set_option maxHeartbeats 1000000 in
theorem C11_toldOf (e : Nat) (he : e < 2147483648) (f : fv_F) : fv_M Y11_toldOf 0 0 0 [.int (nI e)] f none (fv_eq (some (.int (nI (nex e)))) f) := by
  refine fv_enter rfl (Nat.le_of_ble_eq_true rfl) ?_
  obtain ⟨Q, hQ⟩ : ∃ Q : Option Value → fv_F → Option Nat → Prop, Q = (fv_eq (some (.int (nI (nex e)))) f) := ⟨_, rfl⟩
  rw [← hQ]
  show fv_At Y11_toldOf 0 0 0 Q 0 [(0, .int (nI e))] [] f none 0 0
  refine fx_iconst (v := (nI 0)) dX11_toldOf_0 (by decide) ?_
  refine fx_istore_n (lv2 := [(0, .int (nI e)), (1, .int (nI 0))]) dX11_toldOf_1 (i := 1) rfl (by decide) rfl ?_
  refine fx_iconst (v := (nI 1)) dX11_toldOf_2 (by decide) ?_
  refine fx_istore_n (lv2 := [(0, .int (nI e)), (1, .int (nI 0)), (2, .int (nI 1))]) dX11_toldOf_3 (i := 2) rfl (by decide) rfl ?_
  refine fx_iload_n dX11_toldOf_4 rfl (i := 0) rfl ?_
  refine fx_istore_n (lv2 := [(0, .int (nI e)), (1, .int (nI 0)), (2, .int (nI 1)), (3, .int (nI e))]) dX11_toldOf_5 (i := 3) rfl (by decide) rfl ?_
  refine fx_iconst (v := (nI 0)) dX11_toldOf_6 (by decide) ?_
  refine fx_istore (lv2 := [(0, .int (nI e)), (1, .int (nI 0)), (2, .int (nI 1)), (3, .int (nI e)), (4, .int (nI 0))]) dX11_toldOf_7 (by decide) rfl ?_
  have L9 : ∀ (k : Nat) (c : Nat) (m : Nat) (r : Nat) (i : Nat), (i + k = 5) → (r < 2147483648) → (tl9 k c m r = nex e) → fv_At Y11_toldOf 0 0 0 Q 9 [(0, .int (nI e)), (1, .int (nI c)), (2, .int (nI m)), (3, .int (nI r)), (4, .int (nI i))] [] f none 0 0 := by
    intro k
    induction k with
    | zero =>
      intro c m r i hi hr hR
      refine fx_iload dX11_toldOf_9 rfl ?_
      refine fx_iconst (v := (nI 5)) dX11_toldOf_11 (by decide) ?_
      refine fn_icmp_ge (tgt := 40) dX11_toldOf_12 (by decide) (by omega) (by omega) (fun c12 => ?_) (fun c12 => ?_)
      · skip
        refine fx_iload_n dX11_toldOf_40 rfl (i := 1) rfl ?_
        exact fx_iret dX11_toldOf_41 rfl rfl rfl (by rw [hQ]; exact ⟨by rw [← hR]; rfl, rfl, rfl⟩)
      · exfalso; omega
    | succ k ih9 =>
      intro c m r i hi hr hR
      refine fx_iload dX11_toldOf_9 rfl ?_
      refine fx_iconst (v := (nI 5)) dX11_toldOf_11 (by decide) ?_
      refine fn_icmp_ge (tgt := 40) dX11_toldOf_12 (by decide) (by omega) (by omega) (fun c12 => ?_) (fun c12 => ?_)
      · exfalso; omega
      · skip
        refine fx_iload_n dX11_toldOf_15 rfl (i := 1) rfl ?_
        refine fx_iload_n dX11_toldOf_16 rfl (i := 2) rfl ?_
        refine fx_iload_n dX11_toldOf_17 rfl (i := 3) rfl ?_
        refine fx_bipush (v := (nI 9)) dX11_toldOf_18 (by decide) ?_
        refine fn_irem dX11_toldOf_20 (by omega) (by omega) (by omega) ?_
        refine fn_imul dX11_toldOf_21 ?_
        refine fn_iadd dX11_toldOf_22 ?_
        refine fx_istore_n (lv2 := [(0, .int (nI e)), (1, .int (nI (c + (m * (r % 9))))), (2, .int (nI m)), (3, .int (nI r)), (4, .int (nI i))]) dX11_toldOf_23 (i := 1) rfl (by decide) rfl ?_
        refine fx_bipush (v := (nI 10)) dX11_toldOf_24 (by decide) ?_
        refine fx_iload_n dX11_toldOf_26 rfl (i := 2) rfl ?_
        refine fn_imul dX11_toldOf_27 ?_
        refine fx_istore_n (lv2 := [(0, .int (nI e)), (1, .int (nI (c + (m * (r % 9))))), (2, .int (nI (10 * m))), (3, .int (nI r)), (4, .int (nI i))]) dX11_toldOf_28 (i := 2) rfl (by decide) rfl ?_
        refine fx_iload_n dX11_toldOf_29 rfl (i := 3) rfl ?_
        refine fx_bipush (v := (nI 9)) dX11_toldOf_30 (by decide) ?_
        refine fn_idiv dX11_toldOf_32 (by omega) (by omega) (by omega) ?_
        refine fx_istore_n (lv2 := [(0, .int (nI e)), (1, .int (nI (c + (m * (r % 9))))), (2, .int (nI (10 * m))), (3, .int (nI (r / 9))), (4, .int (nI i))]) dX11_toldOf_33 (i := 3) rfl (by decide) rfl ?_
        refine fn_iinc (c := 1) (lv2 := [(0, .int (nI e)), (1, .int (nI (c + (m * (r % 9))))), (2, .int (nI (10 * m))), (3, .int (nI (r / 9))), (4, .int (nI (i + 1)))]) dX11_toldOf_34 (by decide) rfl (by decide) rfl ?_
        refine fx_goto (tgt := 9) dX11_toldOf_37 (by decide) ?_
        exact (ih9 (c + (m * (r % 9))) (10 * m) (r / 9) (i + 1) (by omega) (by omega) hR)
  exact (L9 5 0 1 e 0 (by omega) (by omega) rfl)

set_option maxRecDepth 4000 in
set_option maxHeartbeats 1000000 in
theorem C11_exponents  (G : Nat → Nat → Int32) (L : Nat → Nat → Int64) (T : Nat → tms) (t : Nat → Bool) (hM : msh G L T t) (s j : Int) (s1 : -2147483648 ≤ s) (s2 : s < 2147483648) (j1 : -2147483648 ≤ j) (j2 : j < 2147483648) : fv_M Y11_exponents 2 0 0 [.ref 0, .int (iI s), .int (iI j)] (fw mT G L) none (fv_eq (some (.int (iI (xExp T t s j)))) (fw mT G L)) := by
  refine fv_enter rfl (Nat.le_of_ble_eq_true rfl) ?_
  obtain ⟨Q, hQ⟩ : ∃ Q : Option Value → fv_F → Option Nat → Prop, Q = (fv_eq (some (.int (iI (xExp T t s j)))) (fw mT G L)) := ⟨_, rfl⟩
  rw [← hQ]
  show fv_At Y11_exponents 2 0 0 Q 0 [(0, .ref 0), (1, .int (iI s)), (2, .int (iI j))] [] (fw mT G L) none 0 0
  refine fx_iload_n dX11_exponents_0 rfl (i := 1) rfl ?_
  refine fn_cS dX11_exponents_1 lk11_169 (C11_isSheet (s := s) (by omega) (by omega) (f := (fw mT G L))) rfl rfl (by decide) (Nat.le_of_ble_eq_true rfl) ?_
  show fv_At Y11_exponents 2 0 0 Q 4 [(0, .ref 0), (1, .int (iI s)), (2, .int (iI j))] [.int (bI (isSt s))] (fw mT G L) none 0 0
  refine fn_if_neB (tgt := 10) dX11_exponents_4 (by decide) (fun c4 => ?_) (fun c4 => ?_)
  · skip
    have hst := isSt_1 c4
    obtain ⟨a, rfl⟩ : ∃ w : Nat, s = (w : Int) := ⟨s.toNat, by omega⟩
    show fv_At Y11_exponents 2 0 0 Q 10 [(0, .ref 0), (1, .int (nI a)), (2, .int (iI j))] [] (fw mT G L) none 0 0
    refine fx_aload_n dX11_exponents_10 rfl (i := 0) rfl ?_
    refine fw_getr dX11_exponents_11 fd11_16 rfl rfl ?_
    refine fx_iload_n dX11_exponents_14 rfl (i := 1) rfl ?_
    refine fw_zald a dX11_exponents_15 rfl rfl (by omega) (by decide) ?_
    refine fn_to (show _ = (bI (t a)) from (hM a (by omega)).1) ?_
    refine fn_if_neB (tgt := 22) dX11_exponents_16 (by decide) (fun c16 => ?_) (fun c16 => ?_)
    · skip
      have h6 := ((hM a (by omega)).2 c16).1
      refine fx_iload_n dX11_exponents_22 rfl (i := 2) rfl ?_
      refine fx_i2l dX11_exponents_23 ?_
      refine fn_toL (show _ = lI j from lI_of (z := j) (by omega) (by omega)) ?_
      refine fx_lconst (v := 0) dX11_exponents_24 (by decide) ?_
      refine fn_toL (show _ = (lI 0) from (by decide)) ?_
      refine fx_aload_n dX11_exponents_25 rfl (i := 0) rfl ?_
      refine fw_getr dX11_exponents_26 fd11_20 rfl rfl ?_
      refine fx_iload_n dX11_exponents_29 rfl (i := 1) rfl ?_
      refine fw_iald a dX11_exponents_30 rfl rfl (by omega) (by decide) ?_
      refine fn_to (show _ = (nI ((T a).length)) from ((hM a (by omega)).2 c16).2.1) ?_
      refine fx_iconst (v := (nI 1)) dX11_exponents_31 (by decide) ?_
      refine fn_isubZ (a := (((T a).length : Nat) : Int)) (b := ((1 : Nat) : Int)) dX11_exponents_32 ?_
      refine fx_i2l dX11_exponents_33 ?_
      refine fn_toL (show _ = lI (((((T a).length : Nat) : Int)) - (((1 : Nat) : Int))) from lI_of (z := ((((T a).length : Nat) : Int)) - (((1 : Nat) : Int))) (by omega) (by omega)) ?_
      refine fn_cS dX11_exponents_34 lk11_126 (C11_in (v := j) (a := 0) (b := ((((T a).length : Nat) : Int)) - (((1 : Nat) : Int))) (by omega) (by omega) (by omega) (by omega) (by omega) (by omega) (f := (fw mT G L))) rfl rfl (by decide) (Nat.le_of_ble_eq_true rfl) ?_
      show fv_At Y11_exponents 2 0 0 Q 37 [(0, .ref 0), (1, .int (nI a)), (2, .int (iI j))] [.int (bI (decide (0 ≤ j ∧ j ≤ (((((T a).length : Nat) : Int)) - (((1 : Nat) : Int))))))] (fw mT G L) none 0 0
      refine fn_if_eqB (tgt := 55) dX11_exponents_37 (by decide) (fun c37 => ?_) (fun c37 => ?_)
      · skip
        refine fx_bipush (v := (iI (-2))) dX11_exponents_55 (by decide) ?_
        exact fx_iret dX11_exponents_57 rfl rfl rfl (by rw [hQ]; exact ⟨by unfold xExp; rw [if_pos c4, if_pos (by simpa using c16), if_neg (by have hj := of_decide_eq_false c37; show ¬ (0 ≤ j ∧ j < ((T a).length : Nat)); omega)], rfl, rfl⟩)
      · skip
        have hj := of_decide_eq_true c37
        obtain ⟨b, rfl⟩ : ∃ w : Nat, j = (w : Int) := ⟨j.toNat, by omega⟩
        show fv_At Y11_exponents 2 0 0 Q 40 [(0, .ref 0), (1, .int (nI a)), (2, .int (nI b))] [] (fw mT G L) none 0 0
        refine fx_aload_n dX11_exponents_40 rfl (i := 0) rfl ?_
        refine fw_getr dX11_exponents_41 fd11_23 rfl rfl ?_
        refine fx_sipush (v := (nI 600)) dX11_exponents_44 (by decide) ?_
        refine fx_iload_n dX11_exponents_47 rfl (i := 1) rfl ?_
        refine fn_imul dX11_exponents_48 ?_
        refine fx_iload_n dX11_exponents_49 rfl (i := 2) rfl ?_
        refine fn_iadd dX11_exponents_50 ?_
        refine fw_iald ((600 * a) + b) dX11_exponents_51 rfl rfl (by omega) (by decide) ?_
        refine fn_to (show _ = (nI (tx (T a) b)) from (((hM a (by omega)).2 c16).2.2 b (by omega)).1) ?_
        refine fx_goto (tgt := 57) dX11_exponents_52 (by decide) ?_
        exact fx_iret dX11_exponents_57 rfl rfl rfl (by rw [hQ]; exact ⟨by unfold xExp; rw [if_pos c4, if_pos (by simpa using c16), if_pos (by show 0 ≤ (b : Int) ∧ (b : Int) < ((T a).length : Nat); omega)]; rfl, rfl, rfl⟩)
    · skip
      refine fx_bipush (v := (iI (-3))) dX11_exponents_19 (by decide) ?_
      exact fx_iret dX11_exponents_21 rfl rfl rfl (by rw [hQ]; exact ⟨by unfold xExp; rw [if_pos c4, if_neg (by simpa using c16)], rfl, rfl⟩)
  · skip
    refine fx_bipush (v := (iI (-2))) dX11_exponents_7 (by decide) ?_
    exact fx_iret dX11_exponents_9 rfl rfl rfl (by rw [hQ]; exact ⟨by unfold xExp; rw [c4]; rfl, rfl, rfl⟩)

/-- exponents as told are right ones, numbers within what is told -/
def nbd (n : Int32) : Prop := -100000000 ≤ n.toInt ∧ n.toInt ≤ 100000000
def pvs (T : Nat → tms) (t : Nat → Bool) : Prop := ∀ s, s < 12 → t s = true → pvd (T s) ∧ ∀ j, j < (T s).length → nbd (tn (T s) j)

set_option maxRecDepth 4000 in
set_option maxHeartbeats 1000000 in
theorem C11_number  (G : Nat → Nat → Int32) (L : Nat → Nat → Int64) (T : Nat → tms) (t : Nat → Bool) (hM : msh G L T t) (hV : pvs T t) (s c : Int) (s1 : -2147483648 ≤ s) (s2 : s < 2147483648) (c1 : -2147483648 ≤ c) (c2 : c < 2147483648) : fv_M Y11_number 2 0 0 [.ref 0, .int (iI s), .int (iI c)] (fw mT G L) none (fv_eq (some (.long (xNum T t s c))) (fw mT G L)) := by
  refine fv_enter rfl (Nat.le_of_ble_eq_true rfl) ?_
  obtain ⟨Q, hQ⟩ : ∃ Q : Option Value → fv_F → Option Nat → Prop, Q = (fv_eq (some (.long (xNum T t s c))) (fw mT G L)) := ⟨_, rfl⟩
  rw [← hQ]
  show fv_At Y11_number 2 0 0 Q 0 [(0, .ref 0), (1, .int (iI s)), (2, .int (iI c))] [] (fw mT G L) none 0 0
  refine fx_iload_n dX11_number_0 rfl (i := 1) rfl ?_
  refine fn_cS dX11_number_1 lk11_169 (C11_isSheet (s := s) (by omega) (by omega) (f := (fw mT G L))) rfl rfl (by decide) (Nat.le_of_ble_eq_true rfl) ?_
  show fv_At Y11_number 2 0 0 Q 4 [(0, .ref 0), (1, .int (iI s)), (2, .int (iI c))] [.int (bI (isSt s))] (fw mT G L) none 0 0
  refine fn_if_eqB (tgt := 15) dX11_number_4 (by decide) (fun c4 => ?_) (fun c4 => ?_)
  · skip
    refine fx_bipush (v := (iI (-2))) dX11_number_15 (by decide) ?_
    refine fn_cS dX11_number_17 lk11_182 (C11_no (c := -2)  (f := (fw mT G L))) rfl rfl (by decide) (Nat.le_of_ble_eq_true rfl) ?_
    show fv_At Y11_number 2 0 0 Q 20 [(0, .ref 0), (1, .int (iI s)), (2, .int (iI c))] [.long (rfs (-2))] (fw mT G L) none 0 0
    exact fx_lret dX11_number_20 rfl rfl rfl (by rw [hQ]; exact ⟨by unfold xNum; rw [if_neg (fun q => by first | exact absurd (c4.symm.trans q.1) (by decide) | exact absurd ((xPla_0 c12).symm.trans q.2) (by decide))], rfl, rfl⟩)
  · skip
    refine fx_iload_n dX11_number_7 rfl (i := 2) rfl ?_
    refine fn_cS dX11_number_8 lk11_154 (C11_placeOf c (by omega) (by omega) (fw mT G L)) rfl rfl (by decide) (Nat.le_of_ble_eq_true rfl) ?_
    show fv_At Y11_number 2 0 0 Q 11 [(0, .ref 0), (1, .int (iI s)), (2, .int (iI c))] [.int (iI (xPla c))] (fw mT G L) none 0 0
    refine fx_iconst (v := (iI (-1))) dX11_number_11 (by decide) ?_
    have hxp := xPla_b c
    refine fn_icmp_neZ (a := xPla c) (b := -1) (tgt := 21) dX11_number_12 (by decide) (by omega) (by omega) (by omega) (by omega) (fun c12 => ?_) (fun c12 => ?_)
    · skip
      have hst := isSt_1 c4
      have hok := okB_1 (xPla_1 c12)
      have hle := okc_le hok.2
      obtain ⟨a, rfl⟩ : ∃ w : Nat, s = (w : Int) := ⟨s.toNat, by omega⟩
      obtain ⟨b, rfl⟩ : ∃ w : Nat, c = (w : Int) := ⟨c.toNat, by omega⟩
      have hle2 : b ≤ 88888 := hle
      show fv_At Y11_number 2 0 0 Q 21 [(0, .ref 0), (1, .int (nI a)), (2, .int (nI b))] [] (fw mT G L) none 0 0
      refine fx_aload_n dX11_number_21 rfl (i := 0) rfl ?_
      refine fw_getr dX11_number_22 fd11_16 rfl rfl ?_
      refine fx_iload_n dX11_number_25 rfl (i := 1) rfl ?_
      refine fw_zald a dX11_number_26 rfl rfl (by omega) (by decide) ?_
      refine fn_to (show _ = (bI (t a)) from (hM a (by omega)).1) ?_
      refine fn_if_neB (tgt := 36) dX11_number_27 (by decide) (fun c27 => ?_) (fun c27 => ?_)
      · skip
        have h6 := ((hM a (by omega)).2 c27).1
        refine fx_iconst (v := (nI 0)) dX11_number_36 (by decide) ?_
        refine fx_istore_n (lv2 := [(0, .ref 0), (1, .int (nI a)), (2, .int (nI b)), (3, .int (nI 0))]) dX11_number_37 (i := 3) rfl (by decide) rfl ?_
        have L38 : ∀ (k : Nat) (j : Nat), (j + k = (T a).length) → (nofL ((T a).drop j) b = nofL (T a) b) → fv_At Y11_number 2 0 0 Q 38 [(0, .ref 0), (1, .int (nI a)), (2, .int (nI b)), (3, .int (nI j))] [] (fw mT G L) none 0 0 := by
          intro k
          induction k with
          | zero =>
            intro j hj hR
            refine fx_iload_n dX11_number_38 rfl (i := 3) rfl ?_
            refine fx_aload_n dX11_number_39 rfl (i := 0) rfl ?_
            refine fw_getr dX11_number_40 fd11_20 rfl rfl ?_
            refine fx_iload_n dX11_number_43 rfl (i := 1) rfl ?_
            refine fw_iald a dX11_number_44 rfl rfl (by omega) (by decide) ?_
            refine fn_to (show _ = (nI ((T a).length)) from ((hM a (by omega)).2 c27).2.1) ?_
            refine fn_icmp_ge (tgt := 83) dX11_number_45 (by decide) (by omega) (by omega) (fun c45 => ?_) (fun c45 => ?_)
            · skip
              refine fx_lconst (v := 0) dX11_number_83 (by decide) ?_
              exact fx_lret dX11_number_84 rfl rfl rfl (by rw [hQ]; exact ⟨by unfold xNum; rw [if_pos ⟨c4, xPla_1 c12⟩, if_pos (by exact c27)]; show _ = some (Value.long (nofL (T a) b).toInt64); rw [← hR, List.drop_eq_nil_of_le (by omega)]; rfl, rfl, rfl⟩)
            · exfalso; omega
          | succ k ih38 =>
            intro j hj hR
            refine fx_iload_n dX11_number_38 rfl (i := 3) rfl ?_
            refine fx_aload_n dX11_number_39 rfl (i := 0) rfl ?_
            refine fw_getr dX11_number_40 fd11_20 rfl rfl ?_
            refine fx_iload_n dX11_number_43 rfl (i := 1) rfl ?_
            refine fw_iald a dX11_number_44 rfl rfl (by omega) (by decide) ?_
            refine fn_to (show _ = (nI ((T a).length)) from ((hM a (by omega)).2 c27).2.1) ?_
            refine fn_icmp_ge (tgt := 83) dX11_number_45 (by decide) (by omega) (by omega) (fun c45 => ?_) (fun c45 => ?_)
            · exfalso; omega
            · skip
              refine fx_aload_n dX11_number_48 rfl (i := 0) rfl ?_
              refine fw_getr dX11_number_49 fd11_23 rfl rfl ?_
              refine fx_sipush (v := (nI 600)) dX11_number_52 (by decide) ?_
              refine fx_iload_n dX11_number_55 rfl (i := 1) rfl ?_
              refine fn_imul dX11_number_56 ?_
              refine fx_iload_n dX11_number_57 rfl (i := 3) rfl ?_
              refine fn_iadd dX11_number_58 ?_
              have h9 := okc_le ((hV a (by omega) c27).1 j (by omega))
              refine fw_iald ((600 * a) + j) dX11_number_59 rfl rfl (by omega) (by decide) ?_
              refine fn_to (show _ = (nI (tx (T a) j)) from (((hM a (by omega)).2 c27).2.2 j (by omega)).1) ?_
              refine fx_iload_n dX11_number_60 rfl (i := 2) rfl ?_
              refine fn_icmp_ne (tgt := 77) dX11_number_61 (by decide) (by omega) (by omega) (fun c61 => ?_) (fun c61 => ?_)
              · skip
                refine fn_iinc (c := 1) (lv2 := [(0, .ref 0), (1, .int (nI a)), (2, .int (nI b)), (3, .int (nI (j + 1)))]) dX11_number_77 (by decide) rfl (by decide) rfl ?_
                refine fx_goto (tgt := 38) dX11_number_80 (by decide) ?_
                exact (ih38 (j + 1) (by omega) (by rw [← hR, drD (show j < (T a).length by omega), nofL, if_neg (by omega)]))
              · skip
                refine fx_aload_n dX11_number_64 rfl (i := 0) rfl ?_
                refine fw_getr dX11_number_65 fd11_26 rfl rfl ?_
                refine fx_sipush (v := (nI 600)) dX11_number_68 (by decide) ?_
                refine fx_iload_n dX11_number_71 rfl (i := 1) rfl ?_
                refine fn_imul dX11_number_72 ?_
                refine fx_iload_n dX11_number_73 rfl (i := 3) rfl ?_
                refine fn_iadd dX11_number_74 ?_
                refine fw_lald ((600 * a) + j) dX11_number_75 rfl rfl (by omega) (by decide) ?_
                refine fn_toL (show _ = ((tn (T a) j).toInt64) from (((hM a (by omega)).2 c27).2.2 j (by omega)).2) ?_
                exact fx_lret dX11_number_76 rfl rfl rfl (by rw [hQ]; exact ⟨by unfold xNum; rw [if_pos ⟨c4, xPla_1 c12⟩, if_pos (by exact c27)]; show _ = some (Value.long (nofL (T a) b).toInt64); rw [← hR, drD (show j < (T a).length by omega), nofL, if_pos (by exact c61)], rfl, rfl⟩)
        exact (L38 ((T a).length) 0 (by omega) rfl)
      · skip
        refine fx_bipush (v := (iI (-3))) dX11_number_30 (by decide) ?_
        refine fn_cS dX11_number_32 lk11_182 (C11_no (c := -3)  (f := (fw mT G L))) rfl rfl (by decide) (Nat.le_of_ble_eq_true rfl) ?_
        show fv_At Y11_number 2 0 0 Q 35 [(0, .ref 0), (1, .int (nI a)), (2, .int (nI b))] [.long (rfs (-3))] (fw mT G L) none 0 0
        exact fx_lret dX11_number_35 rfl rfl rfl (by rw [hQ]; exact ⟨by unfold xNum; rw [if_pos ⟨c4, xPla_1 c12⟩, if_neg (by simpa using c27)], rfl, rfl⟩)
    · skip
      refine fx_bipush (v := (iI (-2))) dX11_number_15 (by decide) ?_
      refine fn_cS dX11_number_17 lk11_182 (C11_no (c := -2)  (f := (fw mT G L))) rfl rfl (by decide) (Nat.le_of_ble_eq_true rfl) ?_
      show fv_At Y11_number 2 0 0 Q 20 [(0, .ref 0), (1, .int (iI s)), (2, .int (iI c))] [.long (rfs (-2))] (fw mT G L) none 0 0
      exact fx_lret dX11_number_20 rfl rfl rfl (by rw [hQ]; exact ⟨by unfold xNum; rw [if_neg (fun q => by first | exact absurd (c4.symm.trans q.1) (by decide) | exact absurd ((xPla_0 c12).symm.trans q.2) (by decide))], rfl, rfl⟩)

/-- the sums at work -/
def wkd (L : Nat → Nat → Int64) (S : Nat → Int64) : Prop := ∀ e, e < 59049 → L 7 e = S (nex e)
theorem wkd_ad {L : Nat → Nat → Int64} {S : Nat → Int64} (h : wkd L S) {x : Nat} (hx : okc x) {y : Int64} : wkd (g2 L 7 (nin x) (S x + y)) (adS S x y) := by
  intro e he
  unfold adS upS
  by_cases q : e = nin x
  · rw [q, g2_eq, nex_nin hx, if_pos rfl]
  · rw [g2_ne _ _ (fun w => q w.2), if_neg (fun w => q (by rw [← w, (nin_nex he).2])), h e he]
/-- an answer of the work's: the sums, nothing else changed -/
def qwk (G : Nat → Nat → Int32) (L : Nat → Nat → Int64) (S : Nat → Int64) : Option Value → fv_F → Option Nat → Prop := fun r2 f2 al2 => ∃ L2 : Nat → Nat → Int64, r2 = none ∧ f2 = fw mT G L2 ∧ al2 = none ∧ (∀ i, i ≠ 7 → L2 i = L i) ∧ wkd L2 S
theorem g2_rowL {L : Nat → Nat → Int64} {a k : Nat} {x : Int64} {i : Nat} (h : i ≠ a) : g2 L a k x i = L i := by
  funext j
  exact g2_ne _ _ (fun q => h q.1)

set_option maxRecDepth 4000 in
set_option maxHeartbeats 1000000 in
theorem C11_wipe  (G : Nat → Nat → Int32) (L : Nat → Nat → Int64)  : fv_M Y11_wipe 0 0 0 [.ref 0] (fw mT G L) none (qwk G L zS) := by
  refine fv_enter rfl (Nat.le_of_ble_eq_true rfl) ?_
  obtain ⟨Q, hQ⟩ : ∃ Q : Option Value → fv_F → Option Nat → Prop, Q = (qwk G L zS) := ⟨_, rfl⟩
  rw [← hQ]
  show fv_At Y11_wipe 0 0 0 Q 0 [(0, .ref 0)] [] (fw mT G L) none 0 0
  refine fx_iconst (v := (nI 0)) dX11_wipe_0 (by decide) ?_
  refine fx_istore_n (lv2 := [(0, .ref 0), (1, .int (nI 0))]) dX11_wipe_1 (i := 1) rfl (by decide) rfl ?_
  have L2 : ∀ (k : Nat) (e : Nat) (L1 : Nat → Nat → Int64), (e + k = 59049) → (∀ i, i ≠ 7 → L1 i = L i) → (∀ j, j < e → L1 7 j = 0) → fv_At Y11_wipe 0 0 0 Q 2 [(0, .ref 0), (1, .int (nI e))] [] (fw mT G L1) none 0 0 := by
    intro k
    induction k with
    | zero =>
      intro e L1 he hoL hW
      refine fx_iload_n dX11_wipe_2 rfl (i := 1) rfl ?_
      refine fx_ldc dX11_wipe_3 kc11_30 (fn_to (show _ = (nI 59049) by decide) ?_)
      refine fn_icmp_ge (tgt := 21) dX11_wipe_5 (by decide) (by omega) (by omega) (fun c5 => ?_) (fun c5 => ?_)
      · skip
        exact fx_vret dX11_wipe_21 rfl rfl rfl (by rw [hQ]; exact ⟨L1, rfl, rfl, rfl, hoL, fun j q => hW j (by omega)⟩)
      · exfalso; omega
    | succ k ih2 =>
      intro e L1 he hoL hW
      refine fx_iload_n dX11_wipe_2 rfl (i := 1) rfl ?_
      refine fx_ldc dX11_wipe_3 kc11_30 (fn_to (show _ = (nI 59049) by decide) ?_)
      refine fn_icmp_ge (tgt := 21) dX11_wipe_5 (by decide) (by omega) (by omega) (fun c5 => ?_) (fun c5 => ?_)
      · exfalso; omega
      · skip
        refine fx_aload_n dX11_wipe_8 rfl (i := 0) rfl ?_
        refine fw_getr dX11_wipe_9 fd11_31 rfl rfl ?_
        refine fx_iload_n dX11_wipe_12 rfl (i := 1) rfl ?_
        refine fx_lconst (v := 0) dX11_wipe_13 (by decide) ?_
        refine fw_last e dX11_wipe_14 rfl rfl (by omega) (by decide) ?_
        refine fn_iinc (c := 1) (lv2 := [(0, .ref 0), (1, .int (nI (e + 1)))]) dX11_wipe_15 (by decide) rfl (by decide) rfl ?_
        refine fx_goto (tgt := 2) dX11_wipe_18 (by decide) ?_
        exact (ih2 (e + 1) (g2 L1 7 e 0) (by omega) (fun i q => (g2_rowL q).trans (hoL i q)) (fun j q => by by_cases w : j = e; (rw [w]; exact g2_eq _ _ _ _); exact (g2_ne _ _ (fun z => w z.2)).trans (hW j (by omega))))
  exact (L2 59049 0 L (by omega) (fun _ _ => rfl) (fun j q => by omega))

set_option maxRecDepth 4000 in
set_option maxHeartbeats 1000000 in
theorem C11_takes  (G : Nat → Nat → Int32) (L : Nat → Nat → Int64) (T : Nat → tms) (t : Nat → Bool) (hM : msh G L T t) (hV : pvs T t) (s : Nat) (hs : s < 12) (ht : t s = true) (m : Int64) (S : Nat → Int64) (hS : wkd L S) : fv_M Y11_takes 2 0 0 [.ref 0, .int (nI s), .long m] (fw mT G L) none (qwk G L (pal m (T s) S)) := by
  refine fv_enter rfl (Nat.le_of_ble_eq_true rfl) ?_
  obtain ⟨Q, hQ⟩ : ∃ Q : Option Value → fv_F → Option Nat → Prop, Q = (qwk G L (pal m (T s) S)) := ⟨_, rfl⟩
  rw [← hQ]
  show fv_At Y11_takes 2 0 0 Q 0 [(0, .ref 0), (1, .int (nI s)), (2, .long m)] [] (fw mT G L) none 0 0
  have h6 := ((hM s hs).2 ht).1
  have h7 := (hV s hs ht).1
  refine fx_iconst (v := (nI 0)) dX11_takes_0 (by decide) ?_
  refine fx_istore (lv2 := [(0, .ref 0), (1, .int (nI s)), (2, .long m), (4, .int (nI 0))]) dX11_takes_1 (by decide) rfl ?_
  have L3 : ∀ (k : Nat) (j : Nat) (S1 : Nat → Int64) (L1 : Nat → Nat → Int64), (j + k = (T s).length) → (∀ i, i ≠ 7 → L1 i = L i) → (wkd L1 S1) → (pal m ((T s).drop j) S1 = pal m (T s) S) → fv_At Y11_takes 2 0 0 Q 3 [(0, .ref 0), (1, .int (nI s)), (2, .long m), (4, .int (nI j))] [] (fw mT G L1) none 0 0 := by
    intro k
    induction k with
    | zero =>
      intro j S1 L1 hj hoL hW hR
      refine fx_iload dX11_takes_3 rfl ?_
      refine fx_aload_n dX11_takes_5 rfl (i := 0) rfl ?_
      refine fw_getr dX11_takes_6 fd11_20 rfl rfl ?_
      refine fx_iload_n dX11_takes_9 rfl (i := 1) rfl ?_
      refine fw_iald s dX11_takes_10 rfl rfl (by omega) (by decide) ?_
      refine fn_to (show _ = (nI ((T s).length)) from ((hM s hs).2 ht).2.1) ?_
      refine fn_icmp_ge (tgt := 59) dX11_takes_11 (by decide) (by omega) (by omega) (fun c11 => ?_) (fun c11 => ?_)
      · skip
        exact fx_vret dX11_takes_59 rfl rfl rfl (by rw [hQ]; exact ⟨L1, rfl, rfl, rfl, hoL, by rw [← hR, List.drop_eq_nil_of_le (by omega)]; exact hW⟩)
      · exfalso; omega
    | succ k ih3 =>
      intro j S1 L1 hj hoL hW hR
      refine fx_iload dX11_takes_3 rfl ?_
      refine fx_aload_n dX11_takes_5 rfl (i := 0) rfl ?_
      refine fw_getr dX11_takes_6 fd11_20 rfl rfl ?_
      refine fx_iload_n dX11_takes_9 rfl (i := 1) rfl ?_
      refine fw_iald s dX11_takes_10 rfl rfl (by omega) (by decide) ?_
      refine fn_to (show _ = (nI ((T s).length)) from ((hM s hs).2 ht).2.1) ?_
      refine fn_icmp_ge (tgt := 59) dX11_takes_11 (by decide) (by omega) (by omega) (fun c11 => ?_) (fun c11 => ?_)
      · exfalso; omega
      · skip
        have h8 := h7 j (by omega)
        have h9 := nin_in h8
        have h10 := okc_le h8
        refine fx_aload_n dX11_takes_14 rfl (i := 0) rfl ?_
        refine fw_getr dX11_takes_15 fd11_31 rfl rfl ?_
        refine fx_aload_n dX11_takes_18 rfl (i := 0) rfl ?_
        refine fw_getr dX11_takes_19 fd11_23 rfl rfl ?_
        refine fx_sipush (v := (nI 600)) dX11_takes_22 (by decide) ?_
        refine fx_iload_n dX11_takes_25 rfl (i := 1) rfl ?_
        refine fn_imul dX11_takes_26 ?_
        refine fx_iload dX11_takes_27 rfl ?_
        refine fn_iadd dX11_takes_29 ?_
        refine fw_iald ((600 * s) + j) dX11_takes_30 rfl rfl (by omega) (by decide) ?_
        refine fn_to (show _ = (nI (tx (T s) j)) from (((hM s hs).2 ht).2.2 j (by omega)).1) ?_
        refine fn_cS dX11_takes_31 lk11_154 (C11_placeN (tx (T s) j) h8 (fw mT G L1)) rfl rfl (by decide) (Nat.le_of_ble_eq_true rfl) ?_
        show fv_At Y11_takes 2 0 0 Q 34 [(0, .ref 0), (1, .int (nI s)), (2, .long m), (4, .int (nI j))] [.int (nI (nin (tx (T s) j))), .ref 7] (fw mT G L1) none 0 0
        refine fx_dup2 dX11_takes_34 rfl rfl ?_
        refine fw_lald (nin (tx (T s) j)) dX11_takes_35 rfl rfl (by omega) (by decide) ?_
        refine fn_toL (show _ = (S1 (tx (T s) j)) from (by rw [hW _ h9, nex_nin h8])) ?_
        refine fx_lload_n dX11_takes_36 rfl (i := 2) rfl ?_
        refine fx_aload_n dX11_takes_37 rfl (i := 0) rfl ?_
        refine fw_getr dX11_takes_38 fd11_26 rfl rfl ?_
        refine fx_sipush (v := (nI 600)) dX11_takes_41 (by decide) ?_
        refine fx_iload_n dX11_takes_44 rfl (i := 1) rfl ?_
        refine fn_imul dX11_takes_45 ?_
        refine fx_iload dX11_takes_46 rfl ?_
        refine fn_iadd dX11_takes_48 ?_
        refine fw_lald ((600 * s) + j) dX11_takes_49 rfl rfl (by omega) (by decide) ?_
        refine fn_toL (show _ = ((tn (T s) j).toInt64) from (by rw [hoL 6 (by decide)]; exact (((hM s hs).2 ht).2.2 j (by omega)).2)) ?_
        refine fx_lmul dX11_takes_50 ?_
        refine fx_ladd dX11_takes_51 ?_
        refine fw_last (nin (tx (T s) j)) dX11_takes_52 rfl rfl (by omega) (by decide) ?_
        refine fn_iinc (c := 1) (lv2 := [(0, .ref 0), (1, .int (nI s)), (2, .long m), (4, .int (nI (j + 1)))]) dX11_takes_53 (by decide) rfl (by decide) rfl ?_
        refine fx_goto (tgt := 3) dX11_takes_56 (by decide) ?_
        exact (ih3 (j + 1) (adS S1 (tx (T s) j) (m * (tn (T s) j).toInt64)) (g2 L1 7 (nin (tx (T s) j)) ((((S1 (tx (T s) j))) + ((m * (((tn (T s) j).toInt64))))))) (by omega) (fun i q => (g2_rowL q).trans (hoL i q)) (wkd_ad hW h8) (by rw [← hR, drD (show j < (T s).length by omega), pal]))
  exact (L3 ((T s).length) 0 S L (by omega) (fun _ _ => rfl) hS rfl)
