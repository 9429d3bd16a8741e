/-- the sheets of the class: terms, whether there -/
def csh (G : Nat → Nat → Int32) (T : Nat → tms) (t : Nat → Bool) : Prop := ∀ s, s < 12 → pat G (51 + 3 * s) (T s) (t s)
/-- the sheets of the model -/
def msh (G : Nat → Nat → Int32) (L : Nat → Nat → Int64) (T : Nat → tms) (t : Nat → Bool) : Prop := ∀ s, s < 12 → G 3 s = bI (t s) ∧ (t s = true → (T s).length ≤ 600 ∧ G 4 s = nI (T s).length ∧ ∀ j, j < (T s).length → G 5 (600 * s + j) = nI (tx (T s) j) ∧ L 6 (600 * s + j) = (tn (T s) j).toInt64)
def xBla (s : Int) : Int := if isSt s = true then 1 else -2
def xLos (T : Nat → tms) (t : Nat → Bool) (s : Int) : Int := if isSt s = true then (if t s.toNat = true then ((T s.toNat).length : Nat) else -3) else -2
theorem isSt_1 {s : Int} (h : isSt s = true) : 0 ≤ s ∧ s < 12 := of_decide_eq_true h
def kpt (t : Nat → Bool) : Nat → Nat → Nat → Nat
  | 0, _, c => c
  | k + 1, s, c => kpt t k (s + 1) (if t s = true then c + 1 else c)

set_option maxRecDepth 4000 in
set_option maxHeartbeats 1000000 in
theorem C10_isLost  (G : Nat → Nat → Int32) (L : Nat → Nat → Int64) (T : Nat → tms) (t : Nat → Bool) (hC : csh G T t) (s : Nat) (hs : s < 12) : fv_M Y10_isLost 1 0 0 [.ref 0, .int (nI s)] (fw cT G L) none (fv_eq (some (.int (bI (!t s)))) (fw cT G L)) := by
  refine fv_enter rfl (Nat.le_of_ble_eq_true rfl) ?_
  obtain ⟨Q, hQ⟩ : ∃ Q : Option Value → fv_F → Option Nat → Prop, Q = (fv_eq (some (.int (bI (!t s)))) (fw cT G L)) := ⟨_, rfl⟩
  rw [← hQ]
  show fv_At Y10_isLost 1 0 0 Q 0 [(0, .ref 0), (1, .int (nI s))] [] (fw cT G L) none 0 0
  refine fx_iload_n dX10_isLost_0 rfl (i := 1) rfl ?_
  refine fn_cS dX10_isLost_1 lk10_60 (C10_isSheet (s := ((s : Nat) : Int)) (by omega) (by omega) (f := (fw cT G L))) rfl rfl (by decide) (Nat.le_of_ble_eq_true rfl) ?_
  show fv_At Y10_isLost 1 0 0 Q 4 [(0, .ref 0), (1, .int (nI s))] [.int (bI (isSt (((s : Nat) : Int))))] (fw cT G L) none 0 0
  refine fn_to (show _ = (bI true) from (by unfold isSt; rw [decide_eq_true (by omega)])) ?_
  refine fn_if_eqB (tgt := 19) dX10_isLost_4 (by decide) (fun c4 => ?_) (fun c4 => ?_)
  · exact absurd c4 (by decide)
  · skip
    refine fx_aload_n dX10_isLost_7 rfl (i := 0) rfl ?_
    refine fw_getr dX10_isLost_8 fd10_11 rfl rfl ?_
    refine fx_iload_n dX10_isLost_11 rfl (i := 1) rfl ?_
    refine fw_aald (r := 51 + 3 * s) s dX10_isLost_12 rfl (by decide) rfl (by omega) (by decide) (sheets_at (by omega)) ?_
    refine fn_cV dX10_isLost_13 lk10_226 fv_c4 rfl (fw_at (sht_lay (by omega))) (C7_isThere cT (51 + 3 * s) (sht_lay (by omega)) (sht_lay1 (by omega)) (sht_lay2 (by omega)) G L (t s) (hC s (by omega)).2.2.1) rfl rfl (by decide) (Nat.le_of_ble_eq_true rfl) ?_
    show fv_At Y10_isLost 1 0 0 Q 16 [(0, .ref 0), (1, .int (nI s))] [.int (bI (t s))] (fw cT G L) none 0 0
    refine fn_if_neB (tgt := 23) dX10_isLost_16 (by decide) (fun c16 => ?_) (fun c16 => ?_)
    · skip
      refine fx_iconst (v := (nI 0)) dX10_isLost_23 (by decide) ?_
      refine fn_to (show _ = (bI false) from rfl) ?_
      exact fx_zret dX10_isLost_24 rfl (bI_01 _) rfl rfl (by rw [hQ]; exact ⟨by rw [c16]; rfl, rfl, rfl⟩)
    · skip
      refine fx_iconst (v := (nI 1)) dX10_isLost_19 (by decide) ?_
      refine fn_to (show _ = (bI true) from rfl) ?_
      refine fx_goto (tgt := 24) dX10_isLost_20 (by decide) ?_
      exact fx_zret dX10_isLost_24 rfl (bI_01 _) rfl rfl (by rw [hQ]; exact ⟨by rw [c16]; rfl, rfl, rfl⟩)

set_option maxRecDepth 4000 in
set_option maxHeartbeats 1000000 in
theorem C10_keptSheets  (G : Nat → Nat → Int32) (L : Nat → Nat → Int64) (T : Nat → tms) (t : Nat → Bool) (hC : csh G T t)  : fv_M Y10_keptSheets 2 0 0 [.ref 0] (fw cT G L) none (fv_eq (some (.int (nI (kpt t 12 0 0)))) (fw cT G L)) := by
  refine fv_enter rfl (Nat.le_of_ble_eq_true rfl) ?_
  obtain ⟨Q, hQ⟩ : ∃ Q : Option Value → fv_F → Option Nat → Prop, Q = (fv_eq (some (.int (nI (kpt t 12 0 0)))) (fw cT G L)) := ⟨_, rfl⟩
  rw [← hQ]
  show fv_At Y10_keptSheets 2 0 0 Q 0 [(0, .ref 0)] [] (fw cT G L) none 0 0
  refine fx_iconst (v := (nI 0)) dX10_keptSheets_0 (by decide) ?_
  refine fx_istore_n (lv2 := [(0, .ref 0), (1, .int (nI 0))]) dX10_keptSheets_1 (i := 1) rfl (by decide) rfl ?_
  refine fx_iconst (v := (nI 0)) dX10_keptSheets_2 (by decide) ?_
  refine fx_istore_n (lv2 := [(0, .ref 0), (1, .int (nI 0)), (2, .int (nI 0))]) dX10_keptSheets_3 (i := 2) rfl (by decide) rfl ?_
  have L4 : ∀ (k : Nat) (c : Nat) (s : Nat), (s + k = 12) → (kpt t k s c = kpt t 12 0 0) → fv_At Y10_keptSheets 2 0 0 Q 4 [(0, .ref 0), (1, .int (nI c)), (2, .int (nI s))] [] (fw cT G L) none 0 0 := by
    intro k
    induction k with
    | zero =>
      intro c s hs hR
      refine fx_iload_n dX10_keptSheets_4 rfl (i := 2) rfl ?_
      refine fx_bipush (v := (nI 12)) dX10_keptSheets_5 (by decide) ?_
      refine fn_icmp_ge (tgt := 27) dX10_keptSheets_7 (by decide) (by omega) (by omega) (fun c7 => ?_) (fun c7 => ?_)
      · skip
        refine fx_iload_n dX10_keptSheets_27 rfl (i := 1) rfl ?_
        exact fx_iret dX10_keptSheets_28 rfl rfl rfl (by rw [hQ]; exact ⟨by rw [← hR]; rfl, rfl, rfl⟩)
      · exfalso; omega
    | succ k ih4 =>
      intro c s hs hR
      refine fx_iload_n dX10_keptSheets_4 rfl (i := 2) rfl ?_
      refine fx_bipush (v := (nI 12)) dX10_keptSheets_5 (by decide) ?_
      refine fn_icmp_ge (tgt := 27) dX10_keptSheets_7 (by decide) (by omega) (by omega) (fun c7 => ?_) (fun c7 => ?_)
      · exfalso; omega
      · skip
        refine fx_aload_n dX10_keptSheets_10 rfl (i := 0) rfl ?_
        refine fx_iload_n dX10_keptSheets_11 rfl (i := 2) rfl ?_
        refine fn_cV dX10_keptSheets_12 lk10_67 fv_c7 rfl (fw_at (show cT 0 = some (3, 7, 4, [some 1, some 2, some 15, some 31]) from rfl)) (C10_isLost G L T t hC s (by omega)) rfl rfl (by decide) (Nat.le_of_ble_eq_true rfl) ?_
        show fv_At Y10_keptSheets 2 0 0 Q 15 [(0, .ref 0), (1, .int (nI c)), (2, .int (nI s))] [.int (bI (!t s))] (fw cT G L) none 0 0
        refine fn_if_neB (tgt := 21) dX10_keptSheets_15 (by decide) (fun c15 => ?_) (fun c15 => ?_)
        · skip
          refine fn_iinc (c := 1) (lv2 := [(0, .ref 0), (1, .int (nI c)), (2, .int (nI (s + 1)))]) dX10_keptSheets_21 (by decide) rfl (by decide) rfl ?_
          refine fx_goto (tgt := 4) dX10_keptSheets_24 (by decide) ?_
          exact (ih4 c (s + 1) (by omega) (by rw [← hR, kpt]; first | rw [if_pos (by simpa using c15)] | rw [if_neg (by simpa using c15)]))
        · skip
          refine fn_iinc (c := 1) (lv2 := [(0, .ref 0), (1, .int (nI (c + 1))), (2, .int (nI s))]) dX10_keptSheets_18 (by decide) rfl (by decide) rfl ?_
          refine fn_iinc (c := 1) (lv2 := [(0, .ref 0), (1, .int (nI (c + 1))), (2, .int (nI (s + 1)))]) dX10_keptSheets_21 (by decide) rfl (by decide) rfl ?_
          refine fx_goto (tgt := 4) dX10_keptSheets_24 (by decide) ?_
          exact (ih4 (c + 1) (s + 1) (by omega) (by rw [← hR, kpt]; first | rw [if_pos (by simpa using c15)] | rw [if_neg (by simpa using c15)]))
  exact (L4 12 0 0 (by omega) rfl)

set_option maxRecDepth 4000 in
set_option maxHeartbeats 1000000 in
theorem C10_blank  (G : Nat → Nat → Int32) (L : Nat → Nat → Int64) (s : Int) (s1 : -2147483648 ≤ s) (s2 : s < 2147483648) : fv_M Y10_blank 1 0 0 [.ref 0, .int (iI s)] (fw cT G L) none (fv_eq (some (.int (iI (xBla s)))) (if isSt s = true then fw cT (pL G (51 + 3 * s.toNat) [] true) L else fw cT G L)) := by
  refine fv_enter rfl (Nat.le_of_ble_eq_true rfl) ?_
  obtain ⟨Q, hQ⟩ : ∃ Q : Option Value → fv_F → Option Nat → Prop, Q = (fv_eq (some (.int (iI (xBla s)))) (if isSt s = true then fw cT (pL G (51 + 3 * s.toNat) [] true) L else fw cT G L)) := ⟨_, rfl⟩
  rw [← hQ]
  show fv_At Y10_blank 1 0 0 Q 0 [(0, .ref 0), (1, .int (iI s))] [] (fw cT G L) none 0 0
  refine fx_iload_n dX10_blank_0 rfl (i := 1) rfl ?_
  refine fn_cS dX10_blank_1 lk10_60 (C10_isSheet (s := s) (by omega) (by omega) (f := (fw cT G L))) rfl rfl (by decide) (Nat.le_of_ble_eq_true rfl) ?_
  show fv_At Y10_blank 1 0 0 Q 4 [(0, .ref 0), (1, .int (iI s))] [.int (bI (isSt s))] (fw cT G L) none 0 0
  refine fn_if_neB (tgt := 10) dX10_blank_4 (by decide) (fun c4 => ?_) (fun c4 => ?_)
  · skip
    have hst := isSt_1 c4
    obtain ⟨a, rfl⟩ : ∃ w : Nat, s = (w : Int) := ⟨s.toNat, by omega⟩
    show fv_At Y10_blank 1 0 0 Q 10 [(0, .ref 0), (1, .int (nI a))] [] (fw cT G L) none 0 0
    refine fx_aload_n dX10_blank_10 rfl (i := 0) rfl ?_
    refine fw_getr dX10_blank_11 fd10_11 rfl rfl ?_
    refine fx_iload_n dX10_blank_14 rfl (i := 1) rfl ?_
    refine fw_aald (r := 51 + 3 * a) a dX10_blank_15 rfl (by decide) rfl (by omega) (by decide) (sheets_at (by omega)) ?_
    refine fn_cV dX10_blank_16 lk10_64 fv_c4 rfl (fw_at (sht_lay (by omega))) (C7_clear cT (51 + 3 * a) (sht_lay (by omega)) (sht_lay1 (by omega)) (sht_lay2 (by omega)) G L) rfl rfl (by decide) (Nat.le_of_ble_eq_true rfl) ?_
    show fv_At Y10_blank 1 0 0 Q 19 [(0, .ref 0), (1, .int (nI a))] [] (fw cT (pL G (51 + 3 * a) [] true) L) none 0 0
    refine fx_iconst (v := (nI 1)) dX10_blank_19 (by decide) ?_
    exact fx_iret dX10_blank_20 rfl rfl rfl (by rw [hQ]; exact ⟨by unfold xBla; rw [c4]; rfl, by rw [if_pos c4]; rfl, rfl⟩)
  · skip
    refine fx_bipush (v := (iI (-2))) dX10_blank_7 (by decide) ?_
    exact fx_iret dX10_blank_9 rfl rfl rfl (by rw [hQ]; exact ⟨by unfold xBla; rw [c4]; rfl, by rw [if_neg (by rw [c4]; decide)], rfl⟩)

set_option maxRecDepth 4000 in
set_option maxHeartbeats 1000000 in
theorem C10_lose  (G : Nat → Nat → Int32) (L : Nat → Nat → Int64) (T : Nat → tms) (t : Nat → Bool) (hC : csh G T t) (s : Int) (s1 : -2147483648 ≤ s) (s2 : s < 2147483648) : fv_M Y10_lose 2 0 0 [.ref 0, .int (iI s)] (fw cT G L) none (fv_eq (some (.int (iI (xLos T t s)))) (if isSt s = true ∧ t s.toNat = true then fw cT (pL G (51 + 3 * s.toNat) [] false) L else fw cT G L)) := by
  refine fv_enter rfl (Nat.le_of_ble_eq_true rfl) ?_
  obtain ⟨Q, hQ⟩ : ∃ Q : Option Value → fv_F → Option Nat → Prop, Q = (fv_eq (some (.int (iI (xLos T t s)))) (if isSt s = true ∧ t s.toNat = true then fw cT (pL G (51 + 3 * s.toNat) [] false) L else fw cT G L)) := ⟨_, rfl⟩
  rw [← hQ]
  show fv_At Y10_lose 2 0 0 Q 0 [(0, .ref 0), (1, .int (iI s))] [] (fw cT G L) none 0 0
  refine fx_iload_n dX10_lose_0 rfl (i := 1) rfl ?_
  refine fn_cS dX10_lose_1 lk10_60 (C10_isSheet (s := s) (by omega) (by omega) (f := (fw cT G L))) rfl rfl (by decide) (Nat.le_of_ble_eq_true rfl) ?_
  show fv_At Y10_lose 2 0 0 Q 4 [(0, .ref 0), (1, .int (iI s))] [.int (bI (isSt s))] (fw cT G L) none 0 0
  refine fn_if_neB (tgt := 10) dX10_lose_4 (by decide) (fun c4 => ?_) (fun c4 => ?_)
  · skip
    have hst := isSt_1 c4
    obtain ⟨a, rfl⟩ : ∃ w : Nat, s = (w : Int) := ⟨s.toNat, by omega⟩
    show fv_At Y10_lose 2 0 0 Q 10 [(0, .ref 0), (1, .int (nI a))] [] (fw cT G L) none 0 0
    refine fx_aload_n dX10_lose_10 rfl (i := 0) rfl ?_
    refine fx_iload_n dX10_lose_11 rfl (i := 1) rfl ?_
    refine fn_cV dX10_lose_12 lk10_67 fv_c7 rfl (fw_at (show cT 0 = some (3, 7, 4, [some 1, some 2, some 15, some 31]) from rfl)) (C10_isLost G L T t hC a (by omega)) rfl rfl (by decide) (Nat.le_of_ble_eq_true rfl) ?_
    show fv_At Y10_lose 2 0 0 Q 15 [(0, .ref 0), (1, .int (nI a))] [.int (bI (!t a))] (fw cT G L) none 0 0
    refine fn_if_eqB (tgt := 21) dX10_lose_15 (by decide) (fun c15 => ?_) (fun c15 => ?_)
    · skip
      refine fx_aload_n dX10_lose_21 rfl (i := 0) rfl ?_
      refine fw_getr dX10_lose_22 fd10_11 rfl rfl ?_
      refine fx_iload_n dX10_lose_25 rfl (i := 1) rfl ?_
      refine fw_aald (r := 51 + 3 * a) a dX10_lose_26 rfl (by decide) rfl (by omega) (by decide) (sheets_at (by omega)) ?_
      refine fn_cV dX10_lose_27 lk10_70 fv_c4 rfl (fw_at (sht_lay (by omega))) (C7_size cT (51 + 3 * a) (sht_lay (by omega)) (sht_lay1 (by omega)) (sht_lay2 (by omega)) G L (T a) (t a) (hC a (by omega))  ) rfl rfl (by decide) (Nat.le_of_ble_eq_true rfl) ?_
      show fv_At Y10_lose 2 0 0 Q 30 [(0, .ref 0), (1, .int (nI a))] [.int (nI (((T a)).length))] (fw cT G L) none 0 0
      refine fx_istore_n (lv2 := [(0, .ref 0), (1, .int (nI a)), (2, .int (nI (((T a)).length)))]) dX10_lose_30 (i := 2) rfl (by decide) rfl ?_
      refine fx_aload_n dX10_lose_31 rfl (i := 0) rfl ?_
      refine fw_getr dX10_lose_32 fd10_11 rfl rfl ?_
      refine fx_iload_n dX10_lose_35 rfl (i := 1) rfl ?_
      refine fw_aald (r := 51 + 3 * a) a dX10_lose_36 rfl (by decide) rfl (by omega) (by decide) (sheets_at (by omega)) ?_
      refine fn_cV dX10_lose_37 lk10_74 fv_c4 rfl (fw_at (sht_lay (by omega))) (C7_vanish cT (51 + 3 * a) (sht_lay (by omega)) (sht_lay1 (by omega)) (sht_lay2 (by omega)) G L) rfl rfl (by decide) (Nat.le_of_ble_eq_true rfl) ?_
      show fv_At Y10_lose 2 0 0 Q 40 [(0, .ref 0), (1, .int (nI a)), (2, .int (nI (((T a)).length)))] [] (fw cT (pL G (51 + 3 * a) [] false) L) none 0 0
      refine fx_iload_n dX10_lose_40 rfl (i := 2) rfl ?_
      exact fx_iret dX10_lose_41 rfl rfl rfl (by rw [hQ]; exact ⟨by unfold xLos; rw [if_pos c4, if_pos (by simpa using c15)]; rfl, by rw [if_pos ⟨c4, by simpa using c15⟩]; rfl, rfl⟩)
    · skip
      refine fx_bipush (v := (iI (-3))) dX10_lose_18 (by decide) ?_
      exact fx_iret dX10_lose_20 rfl rfl rfl (by rw [hQ]; exact ⟨by unfold xLos; rw [if_pos c4, if_neg (by simpa using c15)], by rw [if_neg (by simp_all)], rfl⟩)
  · skip
    refine fx_bipush (v := (iI (-2))) dX10_lose_7 (by decide) ?_
    exact fx_iret dX10_lose_9 rfl rfl rfl (by rw [hQ]; exact ⟨by unfold xLos; rw [c4]; rfl, by rw [if_neg (fun h => absurd (c4.symm.trans h.1) (by decide))], rfl⟩)

set_option maxRecDepth 4000 in
set_option maxHeartbeats 1000000 in
theorem C10_terms  (G : Nat → Nat → Int32) (L : Nat → Nat → Int64) (T : Nat → tms) (t : Nat → Bool) (hC : csh G T t) (s : Int) (s1 : -2147483648 ≤ s) (s2 : s < 2147483648) : fv_M Y10_terms 2 0 0 [.ref 0, .int (iI s)] (fw cT G L) none (fv_eq (some (.int (iI (xLos T t s)))) (fw cT G L)) := by
  refine fv_enter rfl (Nat.le_of_ble_eq_true rfl) ?_
  obtain ⟨Q, hQ⟩ : ∃ Q : Option Value → fv_F → Option Nat → Prop, Q = (fv_eq (some (.int (iI (xLos T t s)))) (fw cT G L)) := ⟨_, rfl⟩
  rw [← hQ]
  show fv_At Y10_terms 2 0 0 Q 0 [(0, .ref 0), (1, .int (iI s))] [] (fw cT G L) none 0 0
  refine fx_iload_n dX10_terms_0 rfl (i := 1) rfl ?_
  refine fn_cS dX10_terms_1 lk10_60 (C10_isSheet (s := s) (by omega) (by omega) (f := (fw cT G L))) rfl rfl (by decide) (Nat.le_of_ble_eq_true rfl) ?_
  show fv_At Y10_terms 2 0 0 Q 4 [(0, .ref 0), (1, .int (iI s))] [.int (bI (isSt s))] (fw cT G L) none 0 0
  refine fn_if_neB (tgt := 10) dX10_terms_4 (by decide) (fun c4 => ?_) (fun c4 => ?_)
  · skip
    have hst := isSt_1 c4
    obtain ⟨a, rfl⟩ : ∃ w : Nat, s = (w : Int) := ⟨s.toNat, by omega⟩
    show fv_At Y10_terms 2 0 0 Q 10 [(0, .ref 0), (1, .int (nI a))] [] (fw cT G L) none 0 0
    refine fx_aload_n dX10_terms_10 rfl (i := 0) rfl ?_
    refine fx_iload_n dX10_terms_11 rfl (i := 1) rfl ?_
    refine fn_cV dX10_terms_12 lk10_67 fv_c7 rfl (fw_at (show cT 0 = some (3, 7, 4, [some 1, some 2, some 15, some 31]) from rfl)) (C10_isLost G L T t hC a (by omega)) rfl rfl (by decide) (Nat.le_of_ble_eq_true rfl) ?_
    show fv_At Y10_terms 2 0 0 Q 15 [(0, .ref 0), (1, .int (nI a))] [.int (bI (!t a))] (fw cT G L) none 0 0
    refine fn_if_eqB (tgt := 23) dX10_terms_15 (by decide) (fun c15 => ?_) (fun c15 => ?_)
    · skip
      refine fx_aload_n dX10_terms_23 rfl (i := 0) rfl ?_
      refine fw_getr dX10_terms_24 fd10_11 rfl rfl ?_
      refine fx_iload_n dX10_terms_27 rfl (i := 1) rfl ?_
      refine fw_aald (r := 51 + 3 * a) a dX10_terms_28 rfl (by decide) rfl (by omega) (by decide) (sheets_at (by omega)) ?_
      refine fn_cV dX10_terms_29 lk10_70 fv_c4 rfl (fw_at (sht_lay (by omega))) (C7_size cT (51 + 3 * a) (sht_lay (by omega)) (sht_lay1 (by omega)) (sht_lay2 (by omega)) G L (T a) (t a) (hC a (by omega))  ) rfl rfl (by decide) (Nat.le_of_ble_eq_true rfl) ?_
      show fv_At Y10_terms 2 0 0 Q 32 [(0, .ref 0), (1, .int (nI a))] [.int (nI (((T a)).length))] (fw cT G L) none 0 0
      exact fx_iret dX10_terms_32 rfl rfl rfl (by rw [hQ]; exact ⟨by unfold xLos; rw [if_pos c4, if_pos (by simpa using c15)]; rfl, rfl, rfl⟩)
    · skip
      refine fx_bipush (v := (iI (-3))) dX10_terms_18 (by decide) ?_
      refine fx_goto (tgt := 32) dX10_terms_20 (by decide) ?_
      exact fx_iret dX10_terms_32 rfl rfl rfl (by rw [hQ]; exact ⟨by unfold xLos; rw [if_pos c4, if_neg (by simpa using c15)], rfl, rfl⟩)
  · skip
    refine fx_bipush (v := (iI (-2))) dX10_terms_7 (by decide) ?_
    exact fx_iret dX10_terms_9 rfl rfl rfl (by rw [hQ]; exact ⟨by unfold xLos; rw [c4]; rfl, rfl, rfl⟩)

set_option maxRecDepth 4000 in
set_option maxHeartbeats 1000000 in
theorem C11_isSheet (s : Int) (s1 : -2147483648 ≤ s) (s2 : s < 2147483648) (f : fv_F) : fv_M Y11_isSheet 1 0 0 [.int (iI s)] f none (fv_eq (some (.int (bI (isSt s)))) f) := by
  refine fv_enter rfl (Nat.le_of_ble_eq_true rfl) ?_
  obtain ⟨Q, hQ⟩ : ∃ Q : Option Value → fv_F → Option Nat → Prop, Q = (fv_eq (some (.int (bI (isSt s)))) f) := ⟨_, rfl⟩
  rw [← hQ]
  show fv_At Y11_isSheet 1 0 0 Q 0 [(0, .int (iI s))] [] f none 0 0
  refine fx_iload_n dX11_isSheet_0 rfl (i := 0) rfl ?_
  refine fx_i2l dX11_isSheet_1 ?_
  refine fn_toL (show _ = lI s from lI_of (z := s) (by omega) (by omega)) ?_
  refine fx_lconst (v := 0) dX11_isSheet_2 (by decide) ?_
  refine fn_toL (show _ = (lI 0) from (by decide)) ?_
  refine fx_ldc2 dX11_isSheet_3 kc11_150 (fn_toL (show _ = lI (11) by decide) ?_)
  refine fn_cS dX11_isSheet_6 lk11_126 (C11_in (v := s) (a := 0) (b := 11) (by omega) (by omega) (by omega) (by omega) (by omega) (by omega) (f := f)) rfl rfl (by decide) (Nat.le_of_ble_eq_true rfl) ?_
  show fv_At Y11_isSheet 1 0 0 Q 9 [(0, .int (iI s))] [.int (bI (decide (0 ≤ s ∧ s ≤ 11)))] f none 0 0
  exact fx_zret dX11_isSheet_9 rfl (bI_01 _) rfl rfl (by rw [hQ]; exact ⟨by unfold isSt; congr 3; exact decide_eq_decide.mpr (by omega), rfl, rfl⟩)

set_option maxRecDepth 4000 in
set_option maxHeartbeats 1000000 in
theorem C11_blank  (G : Nat → Nat → Int32) (L : Nat → Nat → Int64) (s : Int) (s1 : -2147483648 ≤ s) (s2 : s < 2147483648) : fv_M Y11_blank 2 0 0 [.ref 0, .int (iI s)] (fw mT G L) none (fv_eq (some (.int (iI (xBla s)))) (if isSt s = true then fw mT (g2 (g2 G 3 s.toNat (bI true)) 4 s.toNat (nI 0)) L else fw mT G L)) := by
  refine fv_enter rfl (Nat.le_of_ble_eq_true rfl) ?_
  obtain ⟨Q, hQ⟩ : ∃ Q : Option Value → fv_F → Option Nat → Prop, Q = (fv_eq (some (.int (iI (xBla s)))) (if isSt s = true then fw mT (g2 (g2 G 3 s.toNat (bI true)) 4 s.toNat (nI 0)) L else fw mT G L)) := ⟨_, rfl⟩
  rw [← hQ]
  show fv_At Y11_blank 2 0 0 Q 0 [(0, .ref 0), (1, .int (iI s))] [] (fw mT G L) none 0 0
  refine fx_iload_n dX11_blank_0 rfl (i := 1) rfl ?_
  refine fn_cS dX11_blank_1 lk11_169 (C11_isSheet (s := s) (by omega) (by omega) (f := (fw mT G L))) rfl rfl (by decide) (Nat.le_of_ble_eq_true rfl) ?_
  show fv_At Y11_blank 2 0 0 Q 4 [(0, .ref 0), (1, .int (iI s))] [.int (bI (isSt s))] (fw mT G L) none 0 0
  refine fn_if_neB (tgt := 10) dX11_blank_4 (by decide) (fun c4 => ?_) (fun c4 => ?_)
  · skip
    have hst := isSt_1 c4
    obtain ⟨a, rfl⟩ : ∃ w : Nat, s = (w : Int) := ⟨s.toNat, by omega⟩
    show fv_At Y11_blank 2 0 0 Q 10 [(0, .ref 0), (1, .int (nI a))] [] (fw mT G L) none 0 0
    refine fx_aload_n dX11_blank_10 rfl (i := 0) rfl ?_
    refine fw_getr dX11_blank_11 fd11_16 rfl rfl ?_
    refine fx_iload_n dX11_blank_14 rfl (i := 1) rfl ?_
    refine fx_iconst (v := (nI 1)) dX11_blank_15 (by decide) ?_
    refine fn_to (show _ = (bI true) from rfl) ?_
    refine fw_zast a dX11_blank_16 (bI_01 _) rfl rfl (by omega) (by decide) ?_
    refine fx_aload_n dX11_blank_17 rfl (i := 0) rfl ?_
    refine fw_getr dX11_blank_18 fd11_20 rfl rfl ?_
    refine fx_iload_n dX11_blank_21 rfl (i := 1) rfl ?_
    refine fx_iconst (v := (nI 0)) dX11_blank_22 (by decide) ?_
    refine fw_iast a dX11_blank_23 rfl rfl (by omega) (by decide) ?_
    refine fx_iconst (v := (nI 1)) dX11_blank_24 (by decide) ?_
    exact fx_iret dX11_blank_25 rfl rfl rfl (by rw [hQ]; exact ⟨by unfold xBla; rw [c4]; rfl, by rw [if_pos c4]; rfl, rfl⟩)
  · skip
    refine fx_bipush (v := (iI (-2))) dX11_blank_7 (by decide) ?_
    exact fx_iret dX11_blank_9 rfl rfl rfl (by rw [hQ]; exact ⟨by unfold xBla; rw [c4]; rfl, by rw [if_neg (by rw [c4]; decide)], rfl⟩)

set_option maxRecDepth 4000 in
set_option maxHeartbeats 1000000 in
theorem C11_lose  (G : Nat → Nat → Int32) (L : Nat → Nat → Int64) (T : Nat → tms) (t : Nat → Bool) (hM : msh G L T t) (s : Int) (s1 : -2147483648 ≤ s) (s2 : s < 2147483648) : fv_M Y11_lose 2 0 0 [.ref 0, .int (iI s)] (fw mT G L) none (fv_eq (some (.int (iI (xLos T t s)))) (if isSt s = true ∧ t s.toNat = true then fw mT (g2 G 3 s.toNat (bI false)) L else fw mT G L)) := by
  refine fv_enter rfl (Nat.le_of_ble_eq_true rfl) ?_
  obtain ⟨Q, hQ⟩ : ∃ Q : Option Value → fv_F → Option Nat → Prop, Q = (fv_eq (some (.int (iI (xLos T t s)))) (if isSt s = true ∧ t s.toNat = true then fw mT (g2 G 3 s.toNat (bI false)) L else fw mT G L)) := ⟨_, rfl⟩
  rw [← hQ]
  show fv_At Y11_lose 2 0 0 Q 0 [(0, .ref 0), (1, .int (iI s))] [] (fw mT G L) none 0 0
  refine fx_iload_n dX11_lose_0 rfl (i := 1) rfl ?_
  refine fn_cS dX11_lose_1 lk11_169 (C11_isSheet (s := s) (by omega) (by omega) (f := (fw mT G L))) rfl rfl (by decide) (Nat.le_of_ble_eq_true rfl) ?_
  show fv_At Y11_lose 2 0 0 Q 4 [(0, .ref 0), (1, .int (iI s))] [.int (bI (isSt s))] (fw mT G L) none 0 0
  refine fn_if_neB (tgt := 10) dX11_lose_4 (by decide) (fun c4 => ?_) (fun c4 => ?_)
  · skip
    have hst := isSt_1 c4
    obtain ⟨a, rfl⟩ : ∃ w : Nat, s = (w : Int) := ⟨s.toNat, by omega⟩
    show fv_At Y11_lose 2 0 0 Q 10 [(0, .ref 0), (1, .int (nI a))] [] (fw mT G L) none 0 0
    refine fx_aload_n dX11_lose_10 rfl (i := 0) rfl ?_
    refine fw_getr dX11_lose_11 fd11_16 rfl rfl ?_
    refine fx_iload_n dX11_lose_14 rfl (i := 1) rfl ?_
    refine fw_zald a dX11_lose_15 rfl rfl (by omega) (by decide) ?_
    refine fn_to (show _ = (bI (t a)) from (hM a (by omega)).1) ?_
    refine fn_if_neB (tgt := 22) dX11_lose_16 (by decide) (fun c16 => ?_) (fun c16 => ?_)
    · skip
      refine fx_aload_n dX11_lose_22 rfl (i := 0) rfl ?_
      refine fw_getr dX11_lose_23 fd11_16 rfl rfl ?_
      refine fx_iload_n dX11_lose_26 rfl (i := 1) rfl ?_
      refine fx_iconst (v := (nI 0)) dX11_lose_27 (by decide) ?_
      refine fn_to (show _ = (bI false) from rfl) ?_
      refine fw_zast a dX11_lose_28 (bI_01 _) rfl rfl (by omega) (by decide) ?_
      refine fx_aload_n dX11_lose_29 rfl (i := 0) rfl ?_
      refine fw_getr dX11_lose_30 fd11_20 rfl rfl ?_
      refine fx_iload_n dX11_lose_33 rfl (i := 1) rfl ?_
      refine fw_iald a dX11_lose_34 rfl rfl (by omega) (by decide) ?_
      refine fn_to (show _ = (nI ((T a).length)) from (by rw [g2_ne _ _ (fun h => absurd h.1 (by decide))]; exact ((hM a (by omega)).2 c16).2.1)) ?_
      exact fx_iret dX11_lose_35 rfl rfl rfl (by rw [hQ]; exact ⟨by unfold xLos; rw [if_pos c4, if_pos (by simpa using c16)]; rfl, by rw [if_pos ⟨c4, by simpa using c16⟩]; rfl, rfl⟩)
    · skip
      refine fx_bipush (v := (iI (-3))) dX11_lose_19 (by decide) ?_
      exact fx_iret dX11_lose_21 rfl rfl rfl (by rw [hQ]; exact ⟨by unfold xLos; rw [if_pos c4, if_neg (by simpa using c16)], by rw [if_neg (by simp_all)], rfl⟩)
  · skip
    refine fx_bipush (v := (iI (-2))) dX11_lose_7 (by decide) ?_
    exact fx_iret dX11_lose_9 rfl rfl rfl (by rw [hQ]; exact ⟨by unfold xLos; rw [c4]; rfl, by rw [if_neg (fun h => absurd (c4.symm.trans h.1) (by decide))], rfl⟩)

set_option maxRecDepth 4000 in
set_option maxHeartbeats 1000000 in
theorem C11_terms  (G : Nat → Nat → Int32) (L : Nat → Nat → Int64) (T : Nat → tms) (t : Nat → Bool) (hM : msh G L T t) (s : Int) (s1 : -2147483648 ≤ s) (s2 : s < 2147483648) : fv_M Y11_terms 2 0 0 [.ref 0, .int (iI s)] (fw mT G L) none (fv_eq (some (.int (iI (xLos T t s)))) (fw mT G L)) := by
  refine fv_enter rfl (Nat.le_of_ble_eq_true rfl) ?_
  obtain ⟨Q, hQ⟩ : ∃ Q : Option Value → fv_F → Option Nat → Prop, Q = (fv_eq (some (.int (iI (xLos T t s)))) (fw mT G L)) := ⟨_, rfl⟩
  rw [← hQ]
  show fv_At Y11_terms 2 0 0 Q 0 [(0, .ref 0), (1, .int (iI s))] [] (fw mT G L) none 0 0
  refine fx_iload_n dX11_terms_0 rfl (i := 1) rfl ?_
  refine fn_cS dX11_terms_1 lk11_169 (C11_isSheet (s := s) (by omega) (by omega) (f := (fw mT G L))) rfl rfl (by decide) (Nat.le_of_ble_eq_true rfl) ?_
  show fv_At Y11_terms 2 0 0 Q 4 [(0, .ref 0), (1, .int (iI s))] [.int (bI (isSt s))] (fw mT G L) none 0 0
  refine fn_if_neB (tgt := 12) dX11_terms_4 (by decide) (fun c4 => ?_) (fun c4 => ?_)
  · skip
    have hst := isSt_1 c4
    obtain ⟨a, rfl⟩ : ∃ w : Nat, s = (w : Int) := ⟨s.toNat, by omega⟩
    show fv_At Y11_terms 2 0 0 Q 12 [(0, .ref 0), (1, .int (nI a))] [] (fw mT G L) none 0 0
    refine fx_aload_n dX11_terms_12 rfl (i := 0) rfl ?_
    refine fw_getr dX11_terms_13 fd11_16 rfl rfl ?_
    refine fx_iload_n dX11_terms_16 rfl (i := 1) rfl ?_
    refine fw_zald a dX11_terms_17 rfl rfl (by omega) (by decide) ?_
    refine fn_to (show _ = (bI (t a)) from (hM a (by omega)).1) ?_
    refine fn_if_eqB (tgt := 30) dX11_terms_18 (by decide) (fun c18 => ?_) (fun c18 => ?_)
    · skip
      refine fx_bipush (v := (iI (-3))) dX11_terms_30 (by decide) ?_
      exact fx_iret dX11_terms_32 rfl rfl rfl (by rw [hQ]; exact ⟨by unfold xLos; rw [if_pos c4, if_neg (by simpa using c18)], rfl, rfl⟩)
    · skip
      refine fx_aload_n dX11_terms_21 rfl (i := 0) rfl ?_
      refine fw_getr dX11_terms_22 fd11_20 rfl rfl ?_
      refine fx_iload_n dX11_terms_25 rfl (i := 1) rfl ?_
      refine fw_iald a dX11_terms_26 rfl rfl (by omega) (by decide) ?_
      refine fn_to (show _ = (nI ((T a).length)) from ((hM a (by omega)).2 c18).2.1) ?_
      refine fx_goto (tgt := 32) dX11_terms_27 (by decide) ?_
      exact fx_iret dX11_terms_32 rfl rfl rfl (by rw [hQ]; exact ⟨by unfold xLos; rw [if_pos c4, if_pos (by simpa using c18)]; rfl, rfl, rfl⟩)
  · skip
    refine fx_bipush (v := (iI (-2))) dX11_terms_7 (by decide) ?_
    refine fx_goto (tgt := 32) dX11_terms_9 (by decide) ?_
    exact fx_iret dX11_terms_32 rfl rfl rfl (by rw [hQ]; exact ⟨by unfold xLos; rw [c4]; rfl, rfl, rfl⟩)
