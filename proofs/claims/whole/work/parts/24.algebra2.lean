/-- of a term: the exponents of letters i + 1, i + 2; what stays; the codes of its difference -/
def dP (x i : Nat) : Nat := fat x (5 - (i + 1))
def dQ (x i : Nat) : Nat := fat x (5 - (i + 1 + 1))
def dO (x i : Nat) : Nat := x - dP x i * 10 ^ (5 - (i + 1)) - dQ x i * 10 ^ (5 - (i + 1) - 1)
def dC (x i e : Nat) : Nat := dO x i + e * 10 ^ (5 - (i + 1)) + (dP x i + dQ x i - 1 - e) * 10 ^ (5 - (i + 1) - 1)
def pdl (x i : Nat) (m : Int64) : Nat → Nat → (Nat → Int64) → Nat → Int64
  | 0, _, S => S
  | k + 1, e, S => pdl x i m k (e + 1) (adS S (dC x i e) m)
def dN (x i : Nat) (n : Int32) : Int32 := if dQ x i < dP x i then n else -n
def pdt (x i : Nat) (n : Int32) (S : Nat → Int64) : Nat → Int64 := pdl x i (dN x i n).toInt64 (max (dP x i) (dQ x i) - min (dP x i) (dQ x i)) (min (dP x i) (dQ x i)) S
def pdf (i : Nat) : tms → (Nat → Int64) → Nat → Int64
  | [], S => S
  | q :: r, S => pdf i r (pdt q.1 i q.2 S)
/-- the codes of the difference of a term are told in five figures up to 8 -/
def okd (x i : Nat) : Prop := ∀ e, min (dP x i) (dQ x i) ≤ e → e < max (dP x i) (dQ x i) → dC x i e ≤ 88888
theorem dO_le (x i : Nat) (hi : i < 4) : dP x i * 10 ^ (5 - (i + 1)) + dQ x i * 10 ^ (5 - (i + 1) - 1) ≤ x := by
  have h := fat_two (a := x) (show 5 - (i + 1 + 1) < 5 - (i + 1) by omega)
  have e : 5 - (i + 1) - 1 = 5 - (i + 1 + 1) := by omega
  rw [e]
  exact h
theorem eqS_pdl {x i : Nat} {m : Int64} : ∀ (k e : Nat) {S S2 : Nat → Int64}, eqS S S2 → (∀ j, e ≤ j → j < e + k → dC x i j ≤ 88888) → eqS (pdl x i m k e S) (pdl x i m k e S2)
  | 0, _, _, _, h, _ => h
  | k + 1, e, _, _, h, hx => eqS_pdl k (e + 1) (eqS_ad h _ (hx e (Nat.le_refl _) (by omega))) (fun j h1 h2 => hx j (by omega) (by omega))
theorem eqS_pdt {x i : Nat} {n : Int32} {S S2 : Nat → Int64} (h : eqS S S2) (hx : okd x i) : eqS (pdt x i n S) (pdt x i n S2) := eqS_pdl _ _ h (fun j h1 h2 => hx j h1 (by omega))
theorem eqS_pdf {i : Nat} : ∀ {ts : tms} {S S2 : Nat → Int64}, eqS S S2 → (∀ j, j < ts.length → okd (tx ts j) i) → eqS (pdf i ts S) (pdf i ts S2)
  | [], _, _, h, _ => h
  | q :: r, _, _, h, hx => eqS_pdf (ts := r) (eqS_pdt h (hx 0 (by simp))) (fun j hj => hx (j + 1) (by simp; exact hj))

set_option maxRecDepth 4000 in
set_option maxHeartbeats 1000000 in
theorem C0_pourDifference  (G : Nat → Nat → Int32) (L : Nat → Nat → Int64) (U : Nat → Int32) (S : Nat → Int64) (hok : pok U S) (p2 : Nat) (hq : cT p2 = some (3, 4, 4, [some (p2 + 1), some (p2 + 2), none, none])) (hq1 : cT (p2 + 1) = some (0, 0, 600, [])) (hq2 : cT (p2 + 2) = some (0, 0, 600, [])) (ts : tms) (t : Bool) (hP : pat G p2 ts t) (j i : Nat) (hj : j < ts.length) (hi : i < 4) (hd : okd (tx ts j) i) : fv_M Y0_pourDifference 2 0 0 [.ref 2, .ref p2, .int (nI j), .int (nI (i + 1))] (fw cT (rw5 G U) (rwL L S)) none (qpo none G L (pdt (tx ts j) i (tn ts j) S)) := by
  refine fv_enter rfl (Nat.le_of_ble_eq_true rfl) ?_
  obtain ⟨Q, hQ⟩ : ∃ Q : Option Value → fv_F → Option Nat → Prop, Q = (qpo none G L (pdt (tx ts j) i (tn ts j) S)) := ⟨_, rfl⟩
  rw [← hQ]
  show fv_At Y0_pourDifference 2 0 0 Q 0 [(0, .ref 2), (1, .ref p2), (2, .int (nI j)), (3, .int (nI (i + 1)))] [] (fw cT (rw5 G U) (rwL L S)) none 0 0
  have h5 := (hP.2.2.2 j hj).2.2
  have h2 := dO_le (tx ts j) i hi
  refine fx_aload_n dX0_pourDifference_0 rfl (i := 1) rfl ?_
  refine fx_iload_n dX0_pourDifference_1 rfl (i := 2) rfl ?_
  refine fx_iload_n dX0_pourDifference_2 rfl (i := 3) rfl ?_
  refine fn_cV dX0_pourDifference_3 lk0_68 fv_c4 rfl (fw_at hq) (C7_exponentAt cT p2 hq hq1 hq2 (rw5 G U) (rwL L S) ts t (pat_5 hq hq1 hq2 hP) j (i + 1) (by omega) (by omega)) rfl rfl (by decide) (Nat.le_of_ble_eq_true rfl) ?_
  show fv_At Y0_pourDifference 2 0 0 Q 6 [(0, .ref 2), (1, .ref p2), (2, .int (nI j)), (3, .int (nI (i + 1)))] [.int (nI (fat (tx ts j) (5 - (i + 1))))] (fw cT (rw5 G U) (rwL L S)) none 0 0
  refine fx_istore (lv2 := [(0, .ref 2), (1, .ref p2), (2, .int (nI j)), (3, .int (nI (i + 1))), (4, .int (nI (fat (tx ts j) (5 - (i + 1)))))]) dX0_pourDifference_6 (by decide) rfl ?_
  obtain ⟨p, hp⟩ : ∃ z, z = dP (tx ts j) i := ⟨_, rfl⟩
  rw [show fat (tx ts j) (5 - (i + 1)) = p from hp.symm]
  show fv_At Y0_pourDifference 2 0 0 Q 8 [(0, .ref 2), (1, .ref p2), (2, .int (nI j)), (3, .int (nI (i + 1))), (4, .int (nI p))] [] (fw cT (rw5 G U) (rwL L S)) none 0 0
  refine fx_aload_n dX0_pourDifference_8 rfl (i := 1) rfl ?_
  refine fx_iload_n dX0_pourDifference_9 rfl (i := 2) rfl ?_
  refine fx_iload_n dX0_pourDifference_10 rfl (i := 3) rfl ?_
  refine fx_iconst (v := (nI 1)) dX0_pourDifference_11 (by decide) ?_
  refine fn_iadd dX0_pourDifference_12 ?_
  refine fn_cV dX0_pourDifference_13 lk0_68 fv_c4 rfl (fw_at hq) (C7_exponentAt cT p2 hq hq1 hq2 (rw5 G U) (rwL L S) ts t (pat_5 hq hq1 hq2 hP) j ((i + 1) + 1) (by omega) (by omega)) rfl rfl (by decide) (Nat.le_of_ble_eq_true rfl) ?_
  show fv_At Y0_pourDifference 2 0 0 Q 16 [(0, .ref 2), (1, .ref p2), (2, .int (nI j)), (3, .int (nI (i + 1))), (4, .int (nI p))] [.int (nI (fat (tx ts j) (5 - ((i + 1) + 1))))] (fw cT (rw5 G U) (rwL L S)) none 0 0
  refine fx_istore (lv2 := [(0, .ref 2), (1, .ref p2), (2, .int (nI j)), (3, .int (nI (i + 1))), (4, .int (nI p)), (5, .int (nI (fat (tx ts j) (5 - ((i + 1) + 1)))))]) dX0_pourDifference_16 (by decide) rfl ?_
  obtain ⟨q, hqd⟩ : ∃ z, z = dQ (tx ts j) i := ⟨_, rfl⟩
  rw [show fat (tx ts j) (5 - (i + 1 + 1)) = q from hqd.symm]
  show fv_At Y0_pourDifference 2 0 0 Q 18 [(0, .ref 2), (1, .ref p2), (2, .int (nI j)), (3, .int (nI (i + 1))), (4, .int (nI p)), (5, .int (nI q))] [] (fw cT (rw5 G U) (rwL L S)) none 0 0
  refine fx_bipush (v := (nI 10)) dX0_pourDifference_18 (by decide) ?_
  refine fx_iconst (v := (nI 5)) dX0_pourDifference_20 (by decide) ?_
  refine fx_iload_n dX0_pourDifference_21 rfl (i := 3) rfl ?_
  refine fn_isub dX0_pourDifference_22 (by omega) ?_
  refine fn_cS dX0_pourDifference_23 lk0_72 (C3_power (b := 10) (k := 5 - (i + 1)) (by omega) (f := (fw cT (rw5 G U) (rwL L S)))) rfl rfl (by decide) (Nat.le_of_ble_eq_true rfl) ?_
  show fv_At Y0_pourDifference 2 0 0 Q 26 [(0, .ref 2), (1, .ref p2), (2, .int (nI j)), (3, .int (nI (i + 1))), (4, .int (nI p)), (5, .int (nI q))] [.int (nI (10 ^ (5 - (i + 1))))] (fw cT (rw5 G U) (rwL L S)) none 0 0
  refine fx_istore (lv2 := [(0, .ref 2), (1, .ref p2), (2, .int (nI j)), (3, .int (nI (i + 1))), (4, .int (nI p)), (5, .int (nI q)), (6, .int (nI (10 ^ (5 - (i + 1)))))]) dX0_pourDifference_26 (by decide) rfl ?_
  obtain ⟨un, hun⟩ : ∃ z, z = 10 ^ (5 - (i + 1)) := ⟨_, rfl⟩
  rw [← hun]
  show fv_At Y0_pourDifference 2 0 0 Q 28 [(0, .ref 2), (1, .ref p2), (2, .int (nI j)), (3, .int (nI (i + 1))), (4, .int (nI p)), (5, .int (nI q)), (6, .int (nI un))] [] (fw cT (rw5 G U) (rwL L S)) none 0 0
  refine fx_bipush (v := (nI 10)) dX0_pourDifference_28 (by decide) ?_
  refine fx_iconst (v := (nI 5)) dX0_pourDifference_30 (by decide) ?_
  refine fx_iload_n dX0_pourDifference_31 rfl (i := 3) rfl ?_
  refine fn_isub dX0_pourDifference_32 (by omega) ?_
  refine fx_iconst (v := (nI 1)) dX0_pourDifference_33 (by decide) ?_
  refine fn_isub dX0_pourDifference_34 (by omega) ?_
  refine fn_cS dX0_pourDifference_35 lk0_72 (C3_power (b := 10) (k := (5 - (i + 1)) - 1) (by omega) (f := (fw cT (rw5 G U) (rwL L S)))) rfl rfl (by decide) (Nat.le_of_ble_eq_true rfl) ?_
  show fv_At Y0_pourDifference 2 0 0 Q 38 [(0, .ref 2), (1, .ref p2), (2, .int (nI j)), (3, .int (nI (i + 1))), (4, .int (nI p)), (5, .int (nI q)), (6, .int (nI un))] [.int (nI (10 ^ ((5 - (i + 1)) - 1)))] (fw cT (rw5 G U) (rwL L S)) none 0 0
  refine fx_istore (lv2 := [(0, .ref 2), (1, .ref p2), (2, .int (nI j)), (3, .int (nI (i + 1))), (4, .int (nI p)), (5, .int (nI q)), (6, .int (nI un)), (7, .int (nI (10 ^ ((5 - (i + 1)) - 1))))]) dX0_pourDifference_38 (by decide) rfl ?_
  obtain ⟨nx, hnx⟩ : ∃ z, z = 10 ^ (5 - (i + 1) - 1) := ⟨_, rfl⟩
  rw [← hnx]
  rw [← hp, ← hqd, ← hun, ← hnx] at h2
  have hp9 : p < 10 := by rw [hp]; exact fat_lt _ _
  have hq9 : q < 10 := by rw [hqd]; exact fat_lt _ _
  show fv_At Y0_pourDifference 2 0 0 Q 40 [(0, .ref 2), (1, .ref p2), (2, .int (nI j)), (3, .int (nI (i + 1))), (4, .int (nI p)), (5, .int (nI q)), (6, .int (nI un)), (7, .int (nI nx))] [] (fw cT (rw5 G U) (rwL L S)) none 0 0
  refine fx_aload_n dX0_pourDifference_40 rfl (i := 1) rfl ?_
  refine fx_iload_n dX0_pourDifference_41 rfl (i := 2) rfl ?_
  refine fn_cV dX0_pourDifference_42 lk0_52 fv_c4 rfl (fw_at hq) (C7_exponentsAt cT p2 hq hq1 hq2 (rw5 G U) (rwL L S) ts t (pat_5 hq hq1 hq2 hP) j (by omega)) rfl rfl (by decide) (Nat.le_of_ble_eq_true rfl) ?_
  show fv_At Y0_pourDifference 2 0 0 Q 45 [(0, .ref 2), (1, .ref p2), (2, .int (nI j)), (3, .int (nI (i + 1))), (4, .int (nI p)), (5, .int (nI q)), (6, .int (nI un)), (7, .int (nI nx))] [.int (nI (tx ts j))] (fw cT (rw5 G U) (rwL L S)) none 0 0
  refine fx_iload dX0_pourDifference_45 rfl ?_
  refine fx_iload dX0_pourDifference_47 rfl ?_
  refine fn_imul dX0_pourDifference_49 ?_
  refine fn_isub dX0_pourDifference_50 (by omega) ?_
  refine fx_iload dX0_pourDifference_51 rfl ?_
  refine fx_iload dX0_pourDifference_53 rfl ?_
  refine fn_imul dX0_pourDifference_55 ?_
  refine fn_isub dX0_pourDifference_56 (by omega) ?_
  refine fx_istore (lv2 := [(0, .ref 2), (1, .ref p2), (2, .int (nI j)), (3, .int (nI (i + 1))), (4, .int (nI p)), (5, .int (nI q)), (6, .int (nI un)), (7, .int (nI nx)), (8, .int (nI (((tx ts j) - (p * un)) - (q * nx))))]) dX0_pourDifference_57 (by decide) rfl ?_
  obtain ⟨o, ho⟩ : ∃ z, z = tx ts j - p * un - q * nx := ⟨_, rfl⟩
  rw [← ho]
  show fv_At Y0_pourDifference 2 0 0 Q 59 [(0, .ref 2), (1, .ref p2), (2, .int (nI j)), (3, .int (nI (i + 1))), (4, .int (nI p)), (5, .int (nI q)), (6, .int (nI un)), (7, .int (nI nx)), (8, .int (nI o))] [] (fw cT (rw5 G U) (rwL L S)) none 0 0
  refine fx_iload dX0_pourDifference_59 rfl ?_
  refine fx_iload dX0_pourDifference_61 rfl ?_
  refine fn_icmp_le (tgt := 74) dX0_pourDifference_63 (by decide) (by omega) (by omega) (fun c63 => ?_) (fun c63 => ?_)
  · skip
    refine fx_aload_n dX0_pourDifference_74 rfl (i := 1) rfl ?_
    refine fx_iload_n dX0_pourDifference_75 rfl (i := 2) rfl ?_
    refine fn_cV dX0_pourDifference_76 lk0_48 fv_c4 rfl (fw_at hq) (C7_numberAt cT p2 hq hq1 hq2 (rw5 G U) (rwL L S) ts t (pat_5 hq hq1 hq2 hP) j (by omega)) rfl rfl (by decide) (Nat.le_of_ble_eq_true rfl) ?_
    show fv_At Y0_pourDifference 2 0 0 Q 79 [(0, .ref 2), (1, .ref p2), (2, .int (nI j)), (3, .int (nI (i + 1))), (4, .int (nI p)), (5, .int (nI q)), (6, .int (nI un)), (7, .int (nI nx)), (8, .int (nI o))] [.int (tn ts j)] (fw cT (rw5 G U) (rwL L S)) none 0 0
    refine fx_ineg dX0_pourDifference_79 ?_
    refine fx_istore (lv2 := [(0, .ref 2), (1, .ref p2), (2, .int (nI j)), (3, .int (nI (i + 1))), (4, .int (nI p)), (5, .int (nI q)), (6, .int (nI un)), (7, .int (nI nx)), (8, .int (nI o)), (9, .int (-((tn ts j))))]) dX0_pourDifference_80 (by decide) rfl ?_
    obtain ⟨m, hm⟩ : ∃ z, z = dN (tx ts j) i (tn ts j) := ⟨_, rfl⟩
    have em : (-((tn ts j))) = m := by rw [hm]; unfold dN; rw [← hp, ← hqd]; first | rw [if_pos c63] | rw [if_neg (by omega)]
    rw [em]
    show fv_At Y0_pourDifference 2 0 0 Q 82 [(0, .ref 2), (1, .ref p2), (2, .int (nI j)), (3, .int (nI (i + 1))), (4, .int (nI p)), (5, .int (nI q)), (6, .int (nI un)), (7, .int (nI nx)), (8, .int (nI o)), (9, .int m)] [] (fw cT (rw5 G U) (rwL L S)) none 0 0
    refine fx_iload dX0_pourDifference_82 rfl ?_
    refine fx_iload dX0_pourDifference_84 rfl ?_
    refine fn_iadd dX0_pourDifference_86 ?_
    refine fx_iconst (v := (nI 1)) dX0_pourDifference_87 (by decide) ?_
    refine fn_isubZ (a := ((p + q : Nat) : Int)) (b := ((1 : Nat) : Int)) dX0_pourDifference_88 ?_
    refine fx_istore (lv2 := [(0, .ref 2), (1, .ref p2), (2, .int (nI j)), (3, .int (nI (i + 1))), (4, .int (nI p)), (5, .int (nI q)), (6, .int (nI un)), (7, .int (nI nx)), (8, .int (nI o)), (9, .int m), (10, .int (iI ((((p + q : Nat) : Int)) - (((1 : Nat) : Int)))))]) dX0_pourDifference_89 (by decide) rfl ?_
    refine fx_iload dX0_pourDifference_91 rfl ?_
    refine fx_iload dX0_pourDifference_93 rfl ?_
    refine fx_mmin dX0_pourDifference_95 lk0_77 (by omega) (by omega) (by decide) (Nat.le_of_ble_eq_true rfl) ?_
    refine fx_istore (lv2 := [(0, .ref 2), (1, .ref p2), (2, .int (nI j)), (3, .int (nI (i + 1))), (4, .int (nI p)), (5, .int (nI q)), (6, .int (nI un)), (7, .int (nI nx)), (8, .int (nI o)), (9, .int m), (10, .int (iI ((((p + q : Nat) : Int)) - (((1 : Nat) : Int))))), (11, .int (nI (min p q)))]) dX0_pourDifference_98 (by decide) rfl ?_
    have L100 : ∀ (k : Nat) (e : Nat) (U1 : Nat → Int32) (S1 : Nat → Int64), (e + k = max p q ∧ min p q ≤ e) → (pok U1 S1) → (pdl (tx ts j) i m.toInt64 k e S1 = pdt (tx ts j) i (tn ts j) S) → fv_At Y0_pourDifference 2 0 0 Q 100 [(0, .ref 2), (1, .ref p2), (2, .int (nI j)), (3, .int (nI (i + 1))), (4, .int (nI p)), (5, .int (nI q)), (6, .int (nI un)), (7, .int (nI nx)), (8, .int (nI o)), (9, .int m), (10, .int (iI ((((p + q : Nat) : Int)) - (((1 : Nat) : Int))))), (11, .int (nI e))] [] (fw cT (rw5 G U1) (rwL L S1)) none 0 0 := by
      intro k
      induction k with
      | zero =>
        intro e U1 S1 he hok1 hR
        refine fx_iload dX0_pourDifference_100 rfl ?_
        refine fx_iload dX0_pourDifference_102 rfl ?_
        refine fx_iload dX0_pourDifference_104 rfl ?_
        refine fx_mmax dX0_pourDifference_106 lk0_82 (by omega) (by omega) (by decide) (Nat.le_of_ble_eq_true rfl) ?_
        refine fn_icmp_ge (tgt := 145) dX0_pourDifference_109 (by decide) (by omega) (by omega) (fun c109 => ?_) (fun c109 => ?_)
        · skip
          exact fx_vret dX0_pourDifference_145 rfl rfl rfl (by rw [hQ]; exact (by rw [← hR]; exact ⟨U1, rfl, rfl, rfl, hok1⟩))
        · exfalso; omega
      | succ k ih100 =>
        intro e U1 S1 he hok1 hR
        refine fx_iload dX0_pourDifference_100 rfl ?_
        refine fx_iload dX0_pourDifference_102 rfl ?_
        refine fx_iload dX0_pourDifference_104 rfl ?_
        refine fx_mmax dX0_pourDifference_106 lk0_82 (by omega) (by omega) (by decide) (Nat.le_of_ble_eq_true rfl) ?_
        refine fn_icmp_ge (tgt := 145) dX0_pourDifference_109 (by decide) (by omega) (by omega) (fun c109 => ?_) (fun c109 => ?_)
        · exfalso; omega
        · skip
          obtain ⟨bo, hbo⟩ : ∃ z, p + q = z + 1 := ⟨p + q - 1, by omega⟩
          have hbz : iI (((p + q : Nat) : Int) - ((1 : Nat) : Int)) = nI bo := by rw [← iI_n]; congr 1; omega
          rw [hbz]
          have ecd : o + e * un + (bo - e) * nx = dC (tx ts j) i e := by unfold dC dO; rw [← hp, ← hqd, ← hun, ← hnx, ← ho, show p + q - 1 - e = bo - e by omega]
          have hcd := hd e (by rw [← hp, ← hqd]; omega) (by rw [← hp, ← hqd]; omega)
          show fv_At Y0_pourDifference 2 0 0 Q 112 [(0, .ref 2), (1, .ref p2), (2, .int (nI j)), (3, .int (nI (i + 1))), (4, .int (nI p)), (5, .int (nI q)), (6, .int (nI un)), (7, .int (nI nx)), (8, .int (nI o)), (9, .int m), (10, .int (nI bo)), (11, .int (nI e))] [] (fw cT (rw5 G U1) (rwL L S1)) none 0 0
          refine fx_aload_n dX0_pourDifference_112 rfl (i := 0) rfl ?_
          refine fw_getr dX0_pourDifference_113 fd0_12 rfl rfl ?_
          refine fx_iload dX0_pourDifference_116 rfl ?_
          refine fx_iload dX0_pourDifference_118 rfl ?_
          refine fx_iload dX0_pourDifference_120 rfl ?_
          refine fn_imul dX0_pourDifference_122 ?_
          refine fn_iadd dX0_pourDifference_123 ?_
          refine fx_iload dX0_pourDifference_124 rfl ?_
          refine fx_iload dX0_pourDifference_126 rfl ?_
          refine fn_isub dX0_pourDifference_128 (by omega) ?_
          refine fx_iload dX0_pourDifference_129 rfl ?_
          refine fn_imul dX0_pourDifference_131 ?_
          refine fn_iadd dX0_pourDifference_132 ?_
          refine fn_to (show _ = (nI (dC (tx ts j) i e)) from (by rw [ecd])) ?_
          refine fx_iload dX0_pourDifference_133 rfl ?_
          refine fx_i2l dX0_pourDifference_135 ?_
          refine fn_cV dX0_pourDifference_136 lk0_32 fv_c5 rfl (fw_at (show cT 3 = some (3, 5, 5, [some 4, some 5, some 6, none, none]) from rfl)) (C8_pour G L U1 S1 (dC (tx ts j) i e) (((m).toInt64)) hcd) rfl rfl (by decide) (Nat.le_of_ble_eq_true rfl) ?_
          show fv_At Y0_pourDifference 2 0 0 Q 139 [(0, .ref 2), (1, .ref p2), (2, .int (nI j)), (3, .int (nI (i + 1))), (4, .int (nI p)), (5, .int (nI q)), (6, .int (nI un)), (7, .int (nI nx)), (8, .int (nI o)), (9, .int m), (10, .int (nI bo)), (11, .int (nI e))] [] (fw cT (rw5 G (upU U1 ((dC (tx ts j) i e) / 100) (bI true))) (rwL L (adS S1 (dC (tx ts j) i e) (((m).toInt64))))) none 0 0
          refine fn_iinc (c := 1) (lv2 := [(0, .ref 2), (1, .ref p2), (2, .int (nI j)), (3, .int (nI (i + 1))), (4, .int (nI p)), (5, .int (nI q)), (6, .int (nI un)), (7, .int (nI nx)), (8, .int (nI o)), (9, .int m), (10, .int (nI bo)), (11, .int (nI (e + 1)))]) dX0_pourDifference_139 (by decide) rfl (by decide) rfl ?_
          refine fx_goto (tgt := 100) dX0_pourDifference_142 (by decide) ?_
          rw [← hbz]
          exact (ih100 (e + 1) ((upU U1 ((dC (tx ts j) i e) / 100) (bI true))) ((adS S1 (dC (tx ts j) i e) (((m).toInt64)))) (by omega) (pok_ad hok1 _ _) (by rw [← hR, pdl]))
    exact (L100 (max p q - min p q) (min p q) U S (by omega) hok (by unfold pdt; rw [← hp, ← hqd, ← hm]))
  · skip
    refine fx_aload_n dX0_pourDifference_66 rfl (i := 1) rfl ?_
    refine fx_iload_n dX0_pourDifference_67 rfl (i := 2) rfl ?_
    refine fn_cV dX0_pourDifference_68 lk0_48 fv_c4 rfl (fw_at hq) (C7_numberAt cT p2 hq hq1 hq2 (rw5 G U) (rwL L S) ts t (pat_5 hq hq1 hq2 hP) j (by omega)) rfl rfl (by decide) (Nat.le_of_ble_eq_true rfl) ?_
    show fv_At Y0_pourDifference 2 0 0 Q 71 [(0, .ref 2), (1, .ref p2), (2, .int (nI j)), (3, .int (nI (i + 1))), (4, .int (nI p)), (5, .int (nI q)), (6, .int (nI un)), (7, .int (nI nx)), (8, .int (nI o))] [.int (tn ts j)] (fw cT (rw5 G U) (rwL L S)) none 0 0
    refine fx_goto (tgt := 80) dX0_pourDifference_71 (by decide) ?_
    refine fx_istore (lv2 := [(0, .ref 2), (1, .ref p2), (2, .int (nI j)), (3, .int (nI (i + 1))), (4, .int (nI p)), (5, .int (nI q)), (6, .int (nI un)), (7, .int (nI nx)), (8, .int (nI o)), (9, .int (tn ts j))]) dX0_pourDifference_80 (by decide) rfl ?_
    obtain ⟨m, hm⟩ : ∃ z, z = dN (tx ts j) i (tn ts j) := ⟨_, rfl⟩
    have em : (tn ts j) = m := by rw [hm]; unfold dN; rw [← hp, ← hqd]; first | rw [if_pos c63] | rw [if_neg (by omega)]
    rw [em]
    show fv_At Y0_pourDifference 2 0 0 Q 82 [(0, .ref 2), (1, .ref p2), (2, .int (nI j)), (3, .int (nI (i + 1))), (4, .int (nI p)), (5, .int (nI q)), (6, .int (nI un)), (7, .int (nI nx)), (8, .int (nI o)), (9, .int m)] [] (fw cT (rw5 G U) (rwL L S)) none 0 0
    refine fx_iload dX0_pourDifference_82 rfl ?_
    refine fx_iload dX0_pourDifference_84 rfl ?_
    refine fn_iadd dX0_pourDifference_86 ?_
    refine fx_iconst (v := (nI 1)) dX0_pourDifference_87 (by decide) ?_
    refine fn_isubZ (a := ((p + q : Nat) : Int)) (b := ((1 : Nat) : Int)) dX0_pourDifference_88 ?_
    refine fx_istore (lv2 := [(0, .ref 2), (1, .ref p2), (2, .int (nI j)), (3, .int (nI (i + 1))), (4, .int (nI p)), (5, .int (nI q)), (6, .int (nI un)), (7, .int (nI nx)), (8, .int (nI o)), (9, .int m), (10, .int (iI ((((p + q : Nat) : Int)) - (((1 : Nat) : Int)))))]) dX0_pourDifference_89 (by decide) rfl ?_
    refine fx_iload dX0_pourDifference_91 rfl ?_
    refine fx_iload dX0_pourDifference_93 rfl ?_
    refine fx_mmin dX0_pourDifference_95 lk0_77 (by omega) (by omega) (by decide) (Nat.le_of_ble_eq_true rfl) ?_
    refine fx_istore (lv2 := [(0, .ref 2), (1, .ref p2), (2, .int (nI j)), (3, .int (nI (i + 1))), (4, .int (nI p)), (5, .int (nI q)), (6, .int (nI un)), (7, .int (nI nx)), (8, .int (nI o)), (9, .int m), (10, .int (iI ((((p + q : Nat) : Int)) - (((1 : Nat) : Int))))), (11, .int (nI (min p q)))]) dX0_pourDifference_98 (by decide) rfl ?_
    have L100 : ∀ (k : Nat) (e : Nat) (U1 : Nat → Int32) (S1 : Nat → Int64), (e + k = max p q ∧ min p q ≤ e) → (pok U1 S1) → (pdl (tx ts j) i m.toInt64 k e S1 = pdt (tx ts j) i (tn ts j) S) → fv_At Y0_pourDifference 2 0 0 Q 100 [(0, .ref 2), (1, .ref p2), (2, .int (nI j)), (3, .int (nI (i + 1))), (4, .int (nI p)), (5, .int (nI q)), (6, .int (nI un)), (7, .int (nI nx)), (8, .int (nI o)), (9, .int m), (10, .int (iI ((((p + q : Nat) : Int)) - (((1 : Nat) : Int))))), (11, .int (nI e))] [] (fw cT (rw5 G U1) (rwL L S1)) none 0 0 := by
      intro k
      induction k with
      | zero =>
        intro e U1 S1 he hok1 hR
        refine fx_iload dX0_pourDifference_100 rfl ?_
        refine fx_iload dX0_pourDifference_102 rfl ?_
        refine fx_iload dX0_pourDifference_104 rfl ?_
        refine fx_mmax dX0_pourDifference_106 lk0_82 (by omega) (by omega) (by decide) (Nat.le_of_ble_eq_true rfl) ?_
        refine fn_icmp_ge (tgt := 145) dX0_pourDifference_109 (by decide) (by omega) (by omega) (fun c109 => ?_) (fun c109 => ?_)
        · skip
          exact fx_vret dX0_pourDifference_145 rfl rfl rfl (by rw [hQ]; exact (by rw [← hR]; exact ⟨U1, rfl, rfl, rfl, hok1⟩))
        · exfalso; omega
      | succ k ih100 =>
        intro e U1 S1 he hok1 hR
        refine fx_iload dX0_pourDifference_100 rfl ?_
        refine fx_iload dX0_pourDifference_102 rfl ?_
        refine fx_iload dX0_pourDifference_104 rfl ?_
        refine fx_mmax dX0_pourDifference_106 lk0_82 (by omega) (by omega) (by decide) (Nat.le_of_ble_eq_true rfl) ?_
        refine fn_icmp_ge (tgt := 145) dX0_pourDifference_109 (by decide) (by omega) (by omega) (fun c109 => ?_) (fun c109 => ?_)
        · exfalso; omega
        · skip
          obtain ⟨bo, hbo⟩ : ∃ z, p + q = z + 1 := ⟨p + q - 1, by omega⟩
          have hbz : iI (((p + q : Nat) : Int) - ((1 : Nat) : Int)) = nI bo := by rw [← iI_n]; congr 1; omega
          rw [hbz]
          have ecd : o + e * un + (bo - e) * nx = dC (tx ts j) i e := by unfold dC dO; rw [← hp, ← hqd, ← hun, ← hnx, ← ho, show p + q - 1 - e = bo - e by omega]
          have hcd := hd e (by rw [← hp, ← hqd]; omega) (by rw [← hp, ← hqd]; omega)
          show fv_At Y0_pourDifference 2 0 0 Q 112 [(0, .ref 2), (1, .ref p2), (2, .int (nI j)), (3, .int (nI (i + 1))), (4, .int (nI p)), (5, .int (nI q)), (6, .int (nI un)), (7, .int (nI nx)), (8, .int (nI o)), (9, .int m), (10, .int (nI bo)), (11, .int (nI e))] [] (fw cT (rw5 G U1) (rwL L S1)) none 0 0
          refine fx_aload_n dX0_pourDifference_112 rfl (i := 0) rfl ?_
          refine fw_getr dX0_pourDifference_113 fd0_12 rfl rfl ?_
          refine fx_iload dX0_pourDifference_116 rfl ?_
          refine fx_iload dX0_pourDifference_118 rfl ?_
          refine fx_iload dX0_pourDifference_120 rfl ?_
          refine fn_imul dX0_pourDifference_122 ?_
          refine fn_iadd dX0_pourDifference_123 ?_
          refine fx_iload dX0_pourDifference_124 rfl ?_
          refine fx_iload dX0_pourDifference_126 rfl ?_
          refine fn_isub dX0_pourDifference_128 (by omega) ?_
          refine fx_iload dX0_pourDifference_129 rfl ?_
          refine fn_imul dX0_pourDifference_131 ?_
          refine fn_iadd dX0_pourDifference_132 ?_
          refine fn_to (show _ = (nI (dC (tx ts j) i e)) from (by rw [ecd])) ?_
          refine fx_iload dX0_pourDifference_133 rfl ?_
          refine fx_i2l dX0_pourDifference_135 ?_
          refine fn_cV dX0_pourDifference_136 lk0_32 fv_c5 rfl (fw_at (show cT 3 = some (3, 5, 5, [some 4, some 5, some 6, none, none]) from rfl)) (C8_pour G L U1 S1 (dC (tx ts j) i e) (((m).toInt64)) hcd) rfl rfl (by decide) (Nat.le_of_ble_eq_true rfl) ?_
          show fv_At Y0_pourDifference 2 0 0 Q 139 [(0, .ref 2), (1, .ref p2), (2, .int (nI j)), (3, .int (nI (i + 1))), (4, .int (nI p)), (5, .int (nI q)), (6, .int (nI un)), (7, .int (nI nx)), (8, .int (nI o)), (9, .int m), (10, .int (nI bo)), (11, .int (nI e))] [] (fw cT (rw5 G (upU U1 ((dC (tx ts j) i e) / 100) (bI true))) (rwL L (adS S1 (dC (tx ts j) i e) (((m).toInt64))))) none 0 0
          refine fn_iinc (c := 1) (lv2 := [(0, .ref 2), (1, .ref p2), (2, .int (nI j)), (3, .int (nI (i + 1))), (4, .int (nI p)), (5, .int (nI q)), (6, .int (nI un)), (7, .int (nI nx)), (8, .int (nI o)), (9, .int m), (10, .int (nI bo)), (11, .int (nI (e + 1)))]) dX0_pourDifference_139 (by decide) rfl (by decide) rfl ?_
          refine fx_goto (tgt := 100) dX0_pourDifference_142 (by decide) ?_
          rw [← hbz]
          exact (ih100 (e + 1) ((upU U1 ((dC (tx ts j) i e) / 100) (bI true))) ((adS S1 (dC (tx ts j) i e) (((m).toInt64)))) (by omega) (pok_ad hok1 _ _) (by rw [← hR, pdl]))
    exact (L100 (max p q - min p q) (min p q) U S (by omega) hok (by unfold pdt; rw [← hp, ← hqd, ← hm]))

set_option maxRecDepth 4000 in
set_option maxHeartbeats 1000000 in
theorem C0_differ  (G : Nat → Nat → Int32) (L : Nat → Nat → Int64) (hem : emp G L) (p : Nat) (hp : cT p = some (3, 4, 4, [some (p + 1), some (p + 2), none, none])) (hp1 : cT (p + 1) = some (0, 0, 600, [])) (hp2 : cT (p + 2) = some (0, 0, 600, [])) (hne : p + 3 ≤ 6 ∨ 9 ≤ p) (p2 : Nat) (hq : cT p2 = some (3, 4, 4, [some (p2 + 1), some (p2 + 2), none, none])) (hq1 : cT (p2 + 1) = some (0, 0, 600, [])) (hq2 : cT (p2 + 2) = some (0, 0, 600, [])) (ts : tms) (t : Bool) (hP : pat G p2 ts t) (i : Nat) (hi : i < 4) (hd : ∀ j, j < ts.length → okd (tx ts j) i) : fv_M Y0_differ 4 0 0 [.ref 2, .ref p, .ref p2, .int (nI (i + 1))] (fw cT G L) none (qop G L p (stl (pdf i ts zS)) (trm (pdf i ts zS))) := by
  refine fv_enter rfl (Nat.le_of_ble_eq_true rfl) ?_
  obtain ⟨Q, hQ⟩ : ∃ Q : Option Value → fv_F → Option Nat → Prop, Q = (qop G L p (stl (pdf i ts zS)) (trm (pdf i ts zS))) := ⟨_, rfl⟩
  rw [← hQ]
  show fv_At Y0_differ 4 0 0 Q 0 [(0, .ref 2), (1, .ref p), (2, .ref p2), (3, .int (nI (i + 1)))] [] (fw cT G L) none 0 0
  rw [fw_self]
  have h6 := hP.1
  refine fx_iconst (v := (nI 0)) dX0_differ_0 (by decide) ?_
  refine fx_istore (lv2 := [(0, .ref 2), (1, .ref p), (2, .ref p2), (3, .int (nI (i + 1))), (4, .int (nI 0))]) dX0_differ_1 (by decide) rfl ?_
  have L3 : ∀ (k : Nat) (j : Nat) (U1 : Nat → Int32) (S1 : Nat → Int64), (j + k = ts.length) → (pok U1 S1) → (pdf i (ts.drop j) S1 = pdf i ts (L 4)) → fv_At Y0_differ 4 0 0 Q 3 [(0, .ref 2), (1, .ref p), (2, .ref p2), (3, .int (nI (i + 1))), (4, .int (nI j))] [] (fw cT (rw5 G U1) (rwL L S1)) none 0 0 := by
    intro k
    induction k with
    | zero =>
      intro j U1 S1 hj hok1 hR
      refine fx_iload dX0_differ_3 rfl ?_
      refine fx_aload_n dX0_differ_5 rfl (i := 2) rfl ?_
      refine fn_cV dX0_differ_6 lk0_44 fv_c4 rfl (fw_at hq) (C7_size cT p2 hq hq1 hq2 (rw5 G U1) (rwL L S1) ts t (pat_5 hq hq1 hq2 hP)  ) rfl rfl (by decide) (Nat.le_of_ble_eq_true rfl) ?_
      show fv_At Y0_differ 4 0 0 Q 9 [(0, .ref 2), (1, .ref p), (2, .ref p2), (3, .int (nI (i + 1))), (4, .int (nI j))] [.int (nI ts.length), .int (nI j)] (fw cT (rw5 G U1) (rwL L S1)) none 0 0
      refine fn_icmp_ge (tgt := 26) dX0_differ_9 (by decide) (by omega) (by omega) (fun c9 => ?_) (fun c9 => ?_)
      · skip
        refine fx_aload_n dX0_differ_26 rfl (i := 0) rfl ?_
        refine fw_getr dX0_differ_27 fd0_12 rfl rfl ?_
        refine fx_aload_n dX0_differ_30 rfl (i := 1) rfl ?_
        refine fx_callV dX0_differ_31 lk0_36 fv_c5 rfl (fw_at (show cT 3 = some (3, 5, 5, [some 4, some 5, some 6, none, none]) from rfl)) (C8_settle (rw5 G U1) L S1 hok1 p hp hp1 hp2 hne) rfl rfl (by decide) (Nat.le_of_ble_eq_true rfl) (by decide) (by decide) (fun r31 f31 al31 h31 => ?_)
        have hq := h31
        obtain ⟨G2, S2, rfl, rfl, rfl, -, -, -, -, -⟩ := h31
        show fv_At Y0_differ 4 0 0 Q 34 [(0, .ref 2), (1, .ref p), (2, .ref p2), (3, .int (nI (i + 1))), (4, .int (nI j))] [.int (iI (stl S1))] (fw cT G2 (rwL L S2)) none 0 0
        exact fx_iret dX0_differ_34 rfl rfl rfl (by rw [hQ]; exact qop_of hq (fun c hc => by have e : S1 = pdf i ts (L 4) := (by rw [← hR, List.drop_eq_nil_of_le (by omega)]; rfl); rw [e]; exact eqS_pdf (eqS_z hem) hd c hc))
      · exfalso; omega
    | succ k ih3 =>
      intro j U1 S1 hj hok1 hR
      refine fx_iload dX0_differ_3 rfl ?_
      refine fx_aload_n dX0_differ_5 rfl (i := 2) rfl ?_
      refine fn_cV dX0_differ_6 lk0_44 fv_c4 rfl (fw_at hq) (C7_size cT p2 hq hq1 hq2 (rw5 G U1) (rwL L S1) ts t (pat_5 hq hq1 hq2 hP)  ) rfl rfl (by decide) (Nat.le_of_ble_eq_true rfl) ?_
      show fv_At Y0_differ 4 0 0 Q 9 [(0, .ref 2), (1, .ref p), (2, .ref p2), (3, .int (nI (i + 1))), (4, .int (nI j))] [.int (nI ts.length), .int (nI j)] (fw cT (rw5 G U1) (rwL L S1)) none 0 0
      refine fn_icmp_ge (tgt := 26) dX0_differ_9 (by decide) (by omega) (by omega) (fun c9 => ?_) (fun c9 => ?_)
      · exfalso; omega
      · skip
        refine fx_aload_n dX0_differ_12 rfl (i := 0) rfl ?_
        refine fx_aload_n dX0_differ_13 rfl (i := 2) rfl ?_
        refine fx_iload dX0_differ_14 rfl ?_
        refine fx_iload_n dX0_differ_16 rfl (i := 3) rfl ?_
        refine fx_callV dX0_differ_17 lk0_64 fv_c0 rfl (fw_at (show cT 2 = some (3, 0, 3, [some 3, some 9, some 12]) from rfl)) (C0_pourDifference G L U1 S1 hok1 p2 hq hq1 hq2 ts t hP j i (by omega) hi (hd j (by omega))) rfl rfl (by decide) (Nat.le_of_ble_eq_true rfl) (by decide) (by decide) (fun r17 f17 al17 h17 => ?_)
        obtain ⟨U2, rfl, rfl, rfl, hok2⟩ := h17
        show fv_At Y0_differ 4 0 0 Q 20 [(0, .ref 2), (1, .ref p), (2, .ref p2), (3, .int (nI (i + 1))), (4, .int (nI j))] [] (fw cT (rw5 G U2) (rwL L (pdt (tx ts j) i (tn ts j) S1))) none 0 0
        refine fn_iinc (c := 1) (lv2 := [(0, .ref 2), (1, .ref p), (2, .ref p2), (3, .int (nI (i + 1))), (4, .int (nI (j + 1)))]) dX0_differ_20 (by decide) rfl (by decide) rfl ?_
        refine fx_goto (tgt := 3) dX0_differ_23 (by decide) ?_
        exact (ih3 (j + 1) U2 ((pdt (tx ts j) i (tn ts j) S1)) (by omega) hok2 (by rw [← hR, drD (show j < ts.length by omega), pdf]))
  exact (L3 ts.length 0 ((G 5)) ((L 4)) (by omega) (emp_pok hem) rfl)

/-- exponents n - 1, n - 2, .. of the first letters -/
def str (n : Nat) : Nat := ((((0 * 10 + max (n - 1) 0) * 10 + max (n - 2) 0) * 10 + max (n - 3) 0) * 10 + max (n - 4) 0) * 10 + max (n - 5) 0
