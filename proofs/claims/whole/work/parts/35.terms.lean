/-- right exponents -/
def okB (x : Int) : Bool := decide (0 ≤ x ∧ x.toNat < 100000 ∧ x.toNat % 10 ≤ 8 ∧ x.toNat / 10 % 10 ≤ 8 ∧ x.toNat / 100 % 10 ≤ 8 ∧ x.toNat / 1000 % 10 ≤ 8 ∧ x.toNat / 10000 % 10 ≤ 8)
theorem okB_1 {x : Int} (h : okB x = true) : 0 ≤ x ∧ okc x.toNat := by
  unfold okB at h
  have q := of_decide_eq_true h
  exact q
theorem okB_f {x : Int} (h : ¬ (0 ≤ x ∧ okc x.toNat)) : okB x = false := by
  cases e : okB x with
  | false => rfl
  | true => exact absurd (okB_1 e) h
theorem okc_fat {x : Nat} (h1 : x ≤ 88888) (h : ∀ l, 1 ≤ l → l < 6 → fat x (5 - l) ≤ 8) : okc x := by
  have a0 : x % 10 ≤ 8 := by simpa [fat] using h 5 (by decide) (by decide)
  have a1 : x / 10 % 10 ≤ 8 := by simpa [fat] using h 4 (by decide) (by decide)
  have a2 : x / 100 % 10 ≤ 8 := by simpa [fat] using h 3 (by decide) (by decide)
  have a3 : x / 1000 % 10 ≤ 8 := by simpa [fat] using h 2 (by decide) (by decide)
  have a4 : x / 10000 % 10 ≤ 8 := by simpa [fat] using h 1 (by decide) (by decide)
  exact ⟨by omega, a0, a1, a2, a3, a4⟩
theorem okc_no {x l : Nat} (h1 : 1 ≤ l) (h2 : l < 6) (h : 8 < fat x (5 - l)) : ¬ okc x := by
  intro q
  obtain ⟨q0, q1, q2, q3, q4, q5⟩ := q
  have hl : l = 1 ∨ l = 2 ∨ l = 3 ∨ l = 4 ∨ l = 5 := by omega
  rcases hl with rfl | rfl | rfl | rfl | rfl <;> simp [fat] at h <;> omega
theorem okB_out {x : Int} (h : x < 0 ∨ 88888 < x) : okB x = false := by
  refine okB_f (fun q => ?_)
  have := okc_le q.2
  omega
theorem okB_in {x : Nat} (h : okc x) : okB (x : Int) = true := by
  unfold okB
  exact decide_eq_true ⟨Int.natCast_nonneg x, h⟩
theorem okB_no {x : Nat} (h : ¬ okc x) : okB (x : Int) = false := okB_f (fun q => h q.2)

set_option maxRecDepth 4000 in
set_option maxHeartbeats 1000000 in
theorem C10_areExponents (x : Int) (x1 : -2147483648 ≤ x) (x2 : x < 2147483648) (f : fv_F) : fv_M Y10_areExponents 1 0 0 [.int (iI x)] f none (fv_eq (some (.int (bI (okB x)))) f) := by
  refine fv_enter rfl (Nat.le_of_ble_eq_true rfl) ?_
  obtain ⟨Q, hQ⟩ : ∃ Q : Option Value → fv_F → Option Nat → Prop, Q = (fv_eq (some (.int (bI (okB x)))) f) := ⟨_, rfl⟩
  rw [← hQ]
  show fv_At Y10_areExponents 1 0 0 Q 0 [(0, .int (iI x))] [] f none 0 0
  refine fx_iload_n dX10_areExponents_0 rfl (i := 0) rfl ?_
  refine fn_if_ltZ (tgt := 10) dX10_areExponents_1 (by decide) (by omega) (by omega) (fun c1 => ?_) (fun c1 => ?_)
  · skip
    refine fx_iconst (v := (nI 0)) dX10_areExponents_10 (by decide) ?_
    refine fn_to (show _ = (bI false) from rfl) ?_
    exact fx_zret dX10_areExponents_11 rfl (bI_01 _) rfl rfl (by rw [hQ]; exact ⟨by rw [okB_out (by omega)], rfl, rfl⟩)
  · skip
    refine fx_iload_n dX10_areExponents_4 rfl (i := 0) rfl ?_
    refine fx_ldc dX10_areExponents_5 kc10_234 (fn_to (show _ = (nI 88888) by decide) ?_)
    refine fn_icmp_leZ (a := x) (b := ((88888 : Nat) : Int)) (tgt := 12) dX10_areExponents_7 (by decide) (by omega) (by omega) (by omega) (by omega) (fun c7 => ?_) (fun c7 => ?_)
    · skip
      obtain ⟨a, rfl⟩ : ∃ w : Nat, x = (w : Int) := ⟨x.toNat, by omega⟩
      show fv_At Y10_areExponents 1 0 0 Q 12 [(0, .int (nI a))] [] f none 0 0
      refine fx_iconst (v := (nI 1)) dX10_areExponents_12 (by decide) ?_
      refine fx_istore_n (lv2 := [(0, .int (nI a)), (1, .int (nI 1))]) dX10_areExponents_13 (i := 1) rfl (by decide) rfl ?_
      have L14 : ∀ (k : Nat) (l : Nat), (l + k = 6) → (1 ≤ l) → (∀ j, 1 ≤ j → j < l → fat a (5 - j) ≤ 8) → fv_At Y10_areExponents 1 0 0 Q 14 [(0, .int (nI a)), (1, .int (nI l))] [] f none 0 0 := by
        intro k
        induction k with
        | zero =>
          intro l hl h1 hF
          refine fx_iload_n dX10_areExponents_14 rfl (i := 1) rfl ?_
          refine fx_iconst (v := (nI 5)) dX10_areExponents_15 (by decide) ?_
          refine fn_icmp_gt (tgt := 39) dX10_areExponents_16 (by decide) (by omega) (by omega) (fun c16 => ?_) (fun c16 => ?_)
          · skip
            refine fx_iconst (v := (nI 1)) dX10_areExponents_39 (by decide) ?_
            refine fn_to (show _ = (bI true) from rfl) ?_
            exact fx_zret dX10_areExponents_40 rfl (bI_01 _) rfl rfl (by rw [hQ]; exact ⟨by rw [okB_in (okc_fat (by omega) (fun j q1 q2 => hF j q1 (by omega)))], rfl, rfl⟩)
          · exfalso; omega
        | succ k ih14 =>
          intro l hl h1 hF
          refine fx_iload_n dX10_areExponents_14 rfl (i := 1) rfl ?_
          refine fx_iconst (v := (nI 5)) dX10_areExponents_15 (by decide) ?_
          refine fn_icmp_gt (tgt := 39) dX10_areExponents_16 (by decide) (by omega) (by omega) (fun c16 => ?_) (fun c16 => ?_)
          · exfalso; omega
          · skip
            refine fx_iload_n dX10_areExponents_19 rfl (i := 0) rfl ?_
            refine fx_iconst (v := (nI 5)) dX10_areExponents_20 (by decide) ?_
            refine fx_iload_n dX10_areExponents_21 rfl (i := 1) rfl ?_
            refine fn_isub dX10_areExponents_22 (by omega) ?_
            refine fn_cS dX10_areExponents_23 lk10_235 (C3_at (a := a) (k := 5 - l) (by omega) (by omega) (f := f)) rfl rfl (by decide) (Nat.le_of_ble_eq_true rfl) ?_
            show fv_At Y10_areExponents 1 0 0 Q 26 [(0, .int (nI a)), (1, .int (nI l))] [.int (nI (fat a (5 - l)))] f none 0 0
            refine fx_bipush (v := (nI 8)) dX10_areExponents_26 (by decide) ?_
            have h10 := fat_lt a (5 - l)
            refine fn_icmp_le (tgt := 33) dX10_areExponents_28 (by decide) (by omega) (by omega) (fun c28 => ?_) (fun c28 => ?_)
            · skip
              refine fn_iinc (c := 1) (lv2 := [(0, .int (nI a)), (1, .int (nI (l + 1)))]) dX10_areExponents_33 (by decide) rfl (by decide) rfl ?_
              refine fx_goto (tgt := 14) dX10_areExponents_36 (by decide) ?_
              exact (ih14 (l + 1) (by omega) (by omega) (fun j q1 q2 => by by_cases e : j = l <;> first | (rw [e]; omega) | exact hF j q1 (by omega)))
            · skip
              refine fx_iconst (v := (nI 0)) dX10_areExponents_31 (by decide) ?_
              refine fn_to (show _ = (bI false) from rfl) ?_
              exact fx_zret dX10_areExponents_32 rfl (bI_01 _) rfl rfl (by rw [hQ]; exact ⟨by rw [okB_no (okc_no h1 (by omega) (by omega))], rfl, rfl⟩)
      exact (L14 5 1 (by omega) (by decide) (fun j _ _ => by omega))
    · skip
      refine fx_iconst (v := (nI 0)) dX10_areExponents_10 (by decide) ?_
      refine fn_to (show _ = (bI false) from rfl) ?_
      exact fx_zret dX10_areExponents_11 rfl (bI_01 _) rfl rfl (by rw [hQ]; exact ⟨by rw [okB_out (by omega)], rfl, rfl⟩)

def pl9 : Nat → Nat → Nat → Nat → Nat
  | 0, c, _, _ => c
  | k + 1, c, m, r => pl9 k (c + m * (r % 10)) (9 * m) (r / 10)
def tl9 : Nat → Nat → Nat → Nat → Nat
  | 0, c, _, _ => c
  | k + 1, c, m, r => tl9 k (c + m * (r % 9)) (10 * m) (r / 9)
/-- where a number of exponents lies -/
def nin (x : Nat) : Nat := pl9 5 0 1 x
/-- which exponents lie there -/
def nex (x : Nat) : Nat := tl9 5 0 1 x
def xExp (T : Nat → tms) (t : Nat → Bool) (s j : Int) : Int := if isSt s = true then (if t s.toNat = true then (if 0 ≤ j ∧ j < ((T s.toNat).length : Nat) then (tx (T s.toNat) j.toNat : Nat) else -2) else -3) else -2
def xNum (T : Nat → tms) (t : Nat → Bool) (s c : Int) : Int64 := if isSt s = true ∧ okB c = true then (if t s.toNat = true then (nofL (T s.toNat) c.toNat).toInt64 else rfs (-3)) else rfs (-2)
theorem nin_in {x : Nat} (h : okc x) : nin x < 59049 := by
  obtain ⟨a4, a3, a2, a1, a0, b4, b3, b2, b1, b0, hx⟩ := okc_dig h
  have e0 : x % 10 = a0 := by omega
  have e1 : x / 10 % 10 = a1 := by omega
  have e2 : x / 10 / 10 % 10 = a2 := by omega
  have e3 : x / 10 / 10 / 10 % 10 = a3 := by omega
  have e4 : x / 10 / 10 / 10 / 10 % 10 = a4 := by omega
  show 0 + 1 * (x % 10) + 9 * 1 * (x / 10 % 10) + 9 * (9 * 1) * (x / 10 / 10 % 10) + 9 * (9 * (9 * 1)) * (x / 10 / 10 / 10 % 10) + 9 * (9 * (9 * (9 * 1))) * (x / 10 / 10 / 10 / 10 % 10) < 59049
  rw [e0, e1, e2, e3, e4]
  omega
theorem nex_nin {x : Nat} (h : okc x) : nex (nin x) = x := by
  obtain ⟨a4, a3, a2, a1, a0, b4, b3, b2, b1, b0, hx⟩ := okc_dig h
  have e0 : x % 10 = a0 := by omega
  have e1 : x / 10 % 10 = a1 := by omega
  have e2 : x / 10 / 10 % 10 = a2 := by omega
  have e3 : x / 10 / 10 / 10 % 10 = a3 := by omega
  have e4 : x / 10 / 10 / 10 / 10 % 10 = a4 := by omega
  have hn : nin x = 0 + 1 * (x % 10) + 9 * 1 * (x / 10 % 10) + 9 * (9 * 1) * (x / 10 / 10 % 10) + 9 * (9 * (9 * 1)) * (x / 10 / 10 / 10 % 10) + 9 * (9 * (9 * (9 * 1))) * (x / 10 / 10 / 10 / 10 % 10) := rfl
  rw [e0, e1, e2, e3, e4] at hn
  generalize nin x = y at hn
  show 0 + 1 * (y % 9) + 10 * 1 * (y / 9 % 9) + 10 * (10 * 1) * (y / 9 / 9 % 9) + 10 * (10 * (10 * 1)) * (y / 9 / 9 / 9 % 9) + 10 * (10 * (10 * (10 * 1))) * (y / 9 / 9 / 9 / 9 % 9) = x
  have f0 : y % 9 = a0 := by omega
  have f1 : y / 9 % 9 = a1 := by omega
  have f2 : y / 9 / 9 % 9 = a2 := by omega
  have f3 : y / 9 / 9 / 9 % 9 = a3 := by omega
  have f4 : y / 9 / 9 / 9 / 9 % 9 = a4 := by omega
  rw [f0, f1, f2, f3, f4, hx]
  omega

set_option maxRecDepth 4000 in
set_option maxHeartbeats 1000000 in
theorem C10_exponents  (G : Nat → Nat → Int32) (L : Nat → Nat → Int64) (T : Nat → tms) (t : Nat → Bool) (hC : csh G T t) (s j : Int) (s1 : -2147483648 ≤ s) (s2 : s < 2147483648) (j1 : -2147483648 ≤ j) (j2 : j < 2147483648) : fv_M Y10_exponents 2 0 0 [.ref 0, .int (iI s), .int (iI j)] (fw cT G L) none (fv_eq (some (.int (iI (xExp T t s j)))) (fw cT G L)) := by
  refine fv_enter rfl (Nat.le_of_ble_eq_true rfl) ?_
  obtain ⟨Q, hQ⟩ : ∃ Q : Option Value → fv_F → Option Nat → Prop, Q = (fv_eq (some (.int (iI (xExp T t s j)))) (fw cT G L)) := ⟨_, rfl⟩
  rw [← hQ]
  show fv_At Y10_exponents 2 0 0 Q 0 [(0, .ref 0), (1, .int (iI s)), (2, .int (iI j))] [] (fw cT G L) none 0 0
  refine fx_iload_n dX10_exponents_0 rfl (i := 1) rfl ?_
  refine fn_cS dX10_exponents_1 lk10_60 (C10_isSheet (s := s) (by omega) (by omega) (f := (fw cT G L))) rfl rfl (by decide) (Nat.le_of_ble_eq_true rfl) ?_
  show fv_At Y10_exponents 2 0 0 Q 4 [(0, .ref 0), (1, .int (iI s)), (2, .int (iI j))] [.int (bI (isSt s))] (fw cT G L) none 0 0
  refine fn_if_neB (tgt := 10) dX10_exponents_4 (by decide) (fun c4 => ?_) (fun c4 => ?_)
  · skip
    have hst := isSt_1 c4
    obtain ⟨a, rfl⟩ : ∃ w : Nat, s = (w : Int) := ⟨s.toNat, by omega⟩
    show fv_At Y10_exponents 2 0 0 Q 10 [(0, .ref 0), (1, .int (nI a)), (2, .int (iI j))] [] (fw cT G L) none 0 0
    refine fx_aload_n dX10_exponents_10 rfl (i := 0) rfl ?_
    refine fx_iload_n dX10_exponents_11 rfl (i := 1) rfl ?_
    refine fn_cV dX10_exponents_12 lk10_67 fv_c7 rfl (fw_at (show cT 0 = some (3, 7, 4, [some 1, some 2, some 15, some 31]) from rfl)) (C10_isLost G L T t hC a (by omega)) rfl rfl (by decide) (Nat.le_of_ble_eq_true rfl) ?_
    show fv_At Y10_exponents 2 0 0 Q 15 [(0, .ref 0), (1, .int (nI a)), (2, .int (iI j))] [.int (bI (!t a))] (fw cT G L) none 0 0
    refine fn_if_eqB (tgt := 21) dX10_exponents_15 (by decide) (fun c15 => ?_) (fun c15 => ?_)
    · skip
      refine fx_iload_n dX10_exponents_21 rfl (i := 2) rfl ?_
      refine fn_if_ltZ (tgt := 38) dX10_exponents_22 (by decide) (by omega) (by omega) (fun c22 => ?_) (fun c22 => ?_)
      · skip
        refine fx_bipush (v := (iI (-2))) dX10_exponents_38 (by decide) ?_
        exact fx_iret dX10_exponents_40 rfl rfl rfl (by rw [hQ]; exact ⟨by unfold xExp; rw [if_pos c4, if_pos (by simpa using c15), if_neg (by show ¬ (0 ≤ j ∧ j < ((T a).length : Nat)); omega)], rfl, rfl⟩)
      · skip
        have h6 := (hC a (by omega)).1
        refine fx_iload_n dX10_exponents_25 rfl (i := 2) rfl ?_
        refine fx_aload_n dX10_exponents_26 rfl (i := 0) rfl ?_
        refine fw_getr dX10_exponents_27 fd10_11 rfl rfl ?_
        refine fx_iload_n dX10_exponents_30 rfl (i := 1) rfl ?_
        refine fw_aald (r := 51 + 3 * a) a dX10_exponents_31 rfl (by decide) rfl (by omega) (by decide) (sheets_at (by omega)) ?_
        refine fn_cV dX10_exponents_32 lk10_70 fv_c4 rfl (fw_at (sht_lay (by omega))) (C7_size cT (51 + 3 * a) (sht_lay (by omega)) (sht_lay1 (by omega)) (sht_lay2 (by omega)) G L (T a) (t a) (hC a (by omega))  ) rfl rfl (by decide) (Nat.le_of_ble_eq_true rfl) ?_
        show fv_At Y10_exponents 2 0 0 Q 35 [(0, .ref 0), (1, .int (nI a)), (2, .int (iI j))] [.int (nI (((T a)).length)), .int (iI j)] (fw cT G L) none 0 0
        refine fn_icmp_ltZ (a := j) (b := ((((T a)).length : Nat) : Int)) (tgt := 41) dX10_exponents_35 (by decide) (by omega) (by omega) (by omega) (by omega) (fun c35 => ?_) (fun c35 => ?_)
        · skip
          obtain ⟨b, rfl⟩ : ∃ w : Nat, j = (w : Int) := ⟨j.toNat, by omega⟩
          show fv_At Y10_exponents 2 0 0 Q 41 [(0, .ref 0), (1, .int (nI a)), (2, .int (nI b))] [] (fw cT G L) none 0 0
          refine fx_aload_n dX10_exponents_41 rfl (i := 0) rfl ?_
          refine fw_getr dX10_exponents_42 fd10_11 rfl rfl ?_
          refine fx_iload_n dX10_exponents_45 rfl (i := 1) rfl ?_
          refine fw_aald (r := 51 + 3 * a) a dX10_exponents_46 rfl (by decide) rfl (by omega) (by decide) (sheets_at (by omega)) ?_
          refine fx_iload_n dX10_exponents_47 rfl (i := 2) rfl ?_
          refine fn_cV dX10_exponents_48 lk10_88 fv_c4 rfl (fw_at (sht_lay (by omega))) (C7_exponentsAt cT (51 + 3 * a) (sht_lay (by omega)) (sht_lay1 (by omega)) (sht_lay2 (by omega)) G L (T a) (t a) (hC a (by omega)) b (by omega)) rfl rfl (by decide) (Nat.le_of_ble_eq_true rfl) ?_
          show fv_At Y10_exponents 2 0 0 Q 51 [(0, .ref 0), (1, .int (nI a)), (2, .int (nI b))] [.int (nI (tx ((T a)) b))] (fw cT G L) none 0 0
          exact fx_iret dX10_exponents_51 rfl rfl rfl (by rw [hQ]; exact ⟨by unfold xExp; rw [if_pos c4, if_pos (by simpa using c15), if_pos (by show 0 ≤ (b : Int) ∧ (b : Int) < ((T a).length : Nat); omega)]; rfl, rfl, rfl⟩)
        · skip
          refine fx_bipush (v := (iI (-2))) dX10_exponents_38 (by decide) ?_
          exact fx_iret dX10_exponents_40 rfl rfl rfl (by rw [hQ]; exact ⟨by unfold xExp; rw [if_pos c4, if_pos (by simpa using c15), if_neg (by show ¬ (0 ≤ j ∧ j < ((T a).length : Nat)); omega)], rfl, rfl⟩)
    · skip
      refine fx_bipush (v := (iI (-3))) dX10_exponents_18 (by decide) ?_
      exact fx_iret dX10_exponents_20 rfl rfl rfl (by rw [hQ]; exact ⟨by unfold xExp; rw [if_pos c4, if_neg (by simpa using c15)], rfl, rfl⟩)
  · skip
    refine fx_bipush (v := (iI (-2))) dX10_exponents_7 (by decide) ?_
    exact fx_iret dX10_exponents_9 rfl rfl rfl (by rw [hQ]; exact ⟨by unfold xExp; rw [c4]; rfl, rfl, rfl⟩)

set_option maxRecDepth 4000 in
set_option maxHeartbeats 1000000 in
theorem C10_number  (G : Nat → Nat → Int32) (L : Nat → Nat → Int64) (T : Nat → tms) (t : Nat → Bool) (hC : csh G T t) (s c : Int) (s1 : -2147483648 ≤ s) (s2 : s < 2147483648) (c1 : -2147483648 ≤ c) (c2 : c < 2147483648) : fv_M Y10_number 3 0 0 [.ref 0, .int (iI s), .int (iI c)] (fw cT G L) none (fv_eq (some (.long (xNum T t s c))) (fw cT G L)) := by
  refine fv_enter rfl (Nat.le_of_ble_eq_true rfl) ?_
  obtain ⟨Q, hQ⟩ : ∃ Q : Option Value → fv_F → Option Nat → Prop, Q = (fv_eq (some (.long (xNum T t s c))) (fw cT G L)) := ⟨_, rfl⟩
  rw [← hQ]
  show fv_At Y10_number 3 0 0 Q 0 [(0, .ref 0), (1, .int (iI s)), (2, .int (iI c))] [] (fw cT G L) none 0 0
  refine fx_iload_n dX10_number_0 rfl (i := 1) rfl ?_
  refine fn_cS dX10_number_1 lk10_60 (C10_isSheet (s := s) (by omega) (by omega) (f := (fw cT G L))) rfl rfl (by decide) (Nat.le_of_ble_eq_true rfl) ?_
  show fv_At Y10_number 3 0 0 Q 4 [(0, .ref 0), (1, .int (iI s)), (2, .int (iI c))] [.int (bI (isSt s))] (fw cT G L) none 0 0
  refine fn_if_eqB (tgt := 14) dX10_number_4 (by decide) (fun c4 => ?_) (fun c4 => ?_)
  · skip
    refine fx_bipush (v := (iI (-2))) dX10_number_14 (by decide) ?_
    refine fn_cS dX10_number_16 lk10_91 (C10_refusal (c := -2)  (f := (fw cT G L))) rfl rfl (by decide) (Nat.le_of_ble_eq_true rfl) ?_
    show fv_At Y10_number 3 0 0 Q 19 [(0, .ref 0), (1, .int (iI s)), (2, .int (iI c))] [.long (rfs (-2))] (fw cT G L) none 0 0
    exact fx_lret dX10_number_19 rfl rfl rfl (by rw [hQ]; exact ⟨by unfold xNum; rw [if_neg (by simp_all)], rfl, rfl⟩)
  · skip
    refine fx_iload_n dX10_number_7 rfl (i := 2) rfl ?_
    refine fn_cS dX10_number_8 lk10_81 (C10_areExponents (x := c) (by omega) (by omega) (f := (fw cT G L))) rfl rfl (by decide) (Nat.le_of_ble_eq_true rfl) ?_
    show fv_At Y10_number 3 0 0 Q 11 [(0, .ref 0), (1, .int (iI s)), (2, .int (iI c))] [.int (bI (okB c))] (fw cT G L) none 0 0
    refine fn_if_neB (tgt := 20) dX10_number_11 (by decide) (fun c11 => ?_) (fun c11 => ?_)
    · skip
      have hst := isSt_1 c4
      have hok := okB_1 c11
      have hle := okc_le hok.2
      obtain ⟨a, rfl⟩ : ∃ w : Nat, s = (w : Int) := ⟨s.toNat, by omega⟩
      obtain ⟨b, rfl⟩ : ∃ w : Nat, c = (w : Int) := ⟨c.toNat, by omega⟩
      show fv_At Y10_number 3 0 0 Q 20 [(0, .ref 0), (1, .int (nI a)), (2, .int (nI b))] [] (fw cT G L) none 0 0
      refine fx_aload_n dX10_number_20 rfl (i := 0) rfl ?_
      refine fx_iload_n dX10_number_21 rfl (i := 1) rfl ?_
      refine fn_cV dX10_number_22 lk10_67 fv_c7 rfl (fw_at (show cT 0 = some (3, 7, 4, [some 1, some 2, some 15, some 31]) from rfl)) (C10_isLost G L T t hC a (by omega)) rfl rfl (by decide) (Nat.le_of_ble_eq_true rfl) ?_
      show fv_At Y10_number 3 0 0 Q 25 [(0, .ref 0), (1, .int (nI a)), (2, .int (nI b))] [.int (bI (!t a))] (fw cT G L) none 0 0
      refine fn_if_eqB (tgt := 36) dX10_number_25 (by decide) (fun c25 => ?_) (fun c25 => ?_)
      · skip
        refine fx_aload_n dX10_number_36 rfl (i := 0) rfl ?_
        refine fw_getr dX10_number_37 fd10_11 rfl rfl ?_
        refine fx_iload_n dX10_number_40 rfl (i := 1) rfl ?_
        refine fw_aald (r := 51 + 3 * a) a dX10_number_41 rfl (by decide) rfl (by omega) (by decide) (sheets_at (by omega)) ?_
        refine fx_iload_n dX10_number_42 rfl (i := 2) rfl ?_
        refine fn_cV dX10_number_43 lk10_95 fv_c4 rfl (fw_at (sht_lay (by omega))) (C7_numberOf cT (51 + 3 * a) (sht_lay (by omega)) (sht_lay1 (by omega)) (sht_lay2 (by omega)) G L (T a) (t a) (hC a (by omega)) b (by omega)) rfl rfl (by decide) (Nat.le_of_ble_eq_true rfl) ?_
        show fv_At Y10_number 3 0 0 Q 46 [(0, .ref 0), (1, .int (nI a)), (2, .int (nI b))] [.int (nofL ((T a)) b)] (fw cT G L) none 0 0
        refine fx_i2l dX10_number_46 ?_
        exact fx_lret dX10_number_47 rfl rfl rfl (by rw [hQ]; exact ⟨by unfold xNum; rw [if_pos ⟨c4, c11⟩, if_pos (by simpa using c25)]; rfl, rfl, rfl⟩)
      · skip
        refine fx_bipush (v := (iI (-3))) dX10_number_28 (by decide) ?_
        refine fn_cS dX10_number_30 lk10_91 (C10_refusal (c := -3)  (f := (fw cT G L))) rfl rfl (by decide) (Nat.le_of_ble_eq_true rfl) ?_
        show fv_At Y10_number 3 0 0 Q 33 [(0, .ref 0), (1, .int (nI a)), (2, .int (nI b))] [.long (rfs (-3))] (fw cT G L) none 0 0
        refine fx_goto (tgt := 47) dX10_number_33 (by decide) ?_
        exact fx_lret dX10_number_47 rfl rfl rfl (by rw [hQ]; exact ⟨by unfold xNum; rw [if_pos ⟨c4, c11⟩, if_neg (by simpa using c25)], rfl, rfl⟩)
    · skip
      refine fx_bipush (v := (iI (-2))) dX10_number_14 (by decide) ?_
      refine fn_cS dX10_number_16 lk10_91 (C10_refusal (c := -2)  (f := (fw cT G L))) rfl rfl (by decide) (Nat.le_of_ble_eq_true rfl) ?_
      show fv_At Y10_number 3 0 0 Q 19 [(0, .ref 0), (1, .int (iI s)), (2, .int (iI c))] [.long (rfs (-2))] (fw cT G L) none 0 0
      exact fx_lret dX10_number_19 rfl rfl rfl (by rw [hQ]; exact ⟨by unfold xNum; rw [if_neg (by simp_all)], rfl, rfl⟩)
