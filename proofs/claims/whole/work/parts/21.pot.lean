/-- beyond what a number may be -/
def byd (x : Int64) : Bool := decide (x < -100000000 ∨ 100000000 < x)

set_option maxRecDepth 4000 in
set_option maxHeartbeats 1000000 in
theorem C10_isBeyond (x : Int64) (f : fv_F) : fv_M Y10_isBeyond 0 0 0 [.long x] f none (fv_eq (some (.int (bI (byd x)))) f) := by
  refine fv_enter rfl (Nat.le_of_ble_eq_true rfl) ?_
  obtain ⟨Q, hQ⟩ : ∃ Q : Option Value → fv_F → Option Nat → Prop, Q = (fv_eq (some (.int (bI (byd x)))) f) := ⟨_, rfl⟩
  rw [← hQ]
  show fv_At Y10_isBeyond 0 0 0 Q 0 [(0, .long x)] [] f none 0 0
  refine fx_lload_n dX10_isBeyond_0 rfl (i := 0) rfl ?_
  refine fx_ldc2 (v := -100000000) dX10_isBeyond_1 kc10_230 ?_
  refine fx_lcmp dX10_isBeyond_4 ?_
  refine fn_if_ltC (tgt := 16) dX10_isBeyond_5 (by decide) (fun c5 => ?_) (fun c5 => ?_)
  · skip
    refine fx_iconst (v := (nI 1)) dX10_isBeyond_16 (by decide) ?_
    refine fn_to (show _ = (bI true) from rfl) ?_
    refine fx_goto (tgt := 21) dX10_isBeyond_17 (by decide) ?_
    exact fx_zret dX10_isBeyond_21 rfl (bI_01 _) rfl rfl (by rw [hQ]; exact ⟨by unfold byd; first | rw [decide_eq_true (Or.inl (by assumption))] | rw [decide_eq_true (Or.inr (Int64.not_le.mp (by assumption)))] | rw [decide_eq_false (fun h => h.elim (by assumption) (fun h2 => absurd (by assumption) (Int64.not_le.mpr h2)))], rfl, rfl⟩)
  · skip
    refine fx_lload_n dX10_isBeyond_8 rfl (i := 0) rfl ?_
    refine fx_ldc2 (v := 100000000) dX10_isBeyond_9 kc10_232 ?_
    refine fx_lcmp dX10_isBeyond_12 ?_
    refine fn_if_leC (tgt := 20) dX10_isBeyond_13 (by decide) (fun c13 => ?_) (fun c13 => ?_)
    · skip
      refine fx_iconst (v := (nI 0)) dX10_isBeyond_20 (by decide) ?_
      refine fn_to (show _ = (bI false) from rfl) ?_
      exact fx_zret dX10_isBeyond_21 rfl (bI_01 _) rfl rfl (by rw [hQ]; exact ⟨by unfold byd; first | rw [decide_eq_true (Or.inl (by assumption))] | rw [decide_eq_true (Or.inr (Int64.not_le.mp (by assumption)))] | rw [decide_eq_false (fun h => h.elim (by assumption) (fun h2 => absurd (by assumption) (Int64.not_le.mpr h2)))], rfl, rfl⟩)
    · skip
      refine fx_iconst (v := (nI 1)) dX10_isBeyond_16 (by decide) ?_
      refine fn_to (show _ = (bI true) from rfl) ?_
      refine fx_goto (tgt := 21) dX10_isBeyond_17 (by decide) ?_
      exact fx_zret dX10_isBeyond_21 rfl (bI_01 _) rfl rfl (by rw [hQ]; exact ⟨by unfold byd; first | rw [decide_eq_true (Or.inl (by assumption))] | rw [decide_eq_true (Or.inr (Int64.not_le.mp (by assumption)))] | rw [decide_eq_false (fun h => h.elim (by assumption) (fun h2 => absurd (by assumption) (Int64.not_le.mpr h2)))], rfl, rfl⟩)

def rw5 (G : Nat → Nat → Int32) (U : Nat → Int32) : Nat → Nat → Int32 := fun i => if i = 5 then U else G i
def rwL (L : Nat → Nat → Int64) (S : Nat → Int64) : Nat → Nat → Int64 := fun i => if i = 4 then S else L i
def upU (U : Nat → Int32) (b : Nat) (x : Int32) : Nat → Int32 := fun j => if j = b then x else U j
def upS (S : Nat → Int64) (c : Nat) (x : Int64) : Nat → Int64 := fun j => if j = c then x else S j
theorem rw5_set (G : Nat → Nat → Int32) (U : Nat → Int32) (b : Nat) (x : Int32) : g2 (rw5 G U) 5 b x = rw5 G (upU U b x) := by
  funext i j
  unfold g2 rw5 upU
  by_cases h : i = 5
  · by_cases h2 : j = b
    · rw [if_pos ⟨h, h2⟩, if_pos h, if_pos h2]
    · rw [if_neg (fun q => h2 q.2), if_pos h, if_pos h, if_neg h2]
  · rw [if_neg (fun q => h q.1), if_neg h, if_neg h]
theorem rwL_set (L : Nat → Nat → Int64) (S : Nat → Int64) (c : Nat) (x : Int64) : g2 (rwL L S) 4 c x = rwL L (upS S c x) := by
  funext i j
  unfold g2 rwL upS
  by_cases h : i = 4
  · by_cases h2 : j = c
    · rw [if_pos ⟨h, h2⟩, if_pos h, if_pos h2]
    · rw [if_neg (fun q => h2 q.2), if_pos h, if_pos h, if_neg h2]
  · rw [if_neg (fun q => h q.1), if_neg h, if_neg h]
theorem rw5_ne {G : Nat → Nat → Int32} {U : Nat → Int32} {i : Nat} (h : i ≠ 5) : rw5 G U i = G i := if_neg h
theorem rw5_self (G : Nat → Nat → Int32) : rw5 G (G 5) = G := by
  funext i
  unfold rw5
  split
  · rename_i h; rw [h]
  · rfl
theorem rwL_self (L : Nat → Nat → Int64) : rwL L (L 4) = L := by
  funext i
  unfold rwL
  split
  · rename_i h; rw [h]
  · rfl
theorem rw5_out (G : Nat → Nat → Int32) (U : Nat → Int32) (a k : Nat) (x : Int32) (h : a ≠ 5) : g2 (rw5 G U) a k x = rw5 (g2 G a k x) U := by
  funext i j
  unfold g2 rw5
  by_cases h5 : i = 5
  · rw [if_neg (fun q => h (q.1.symm.trans h5)), if_pos h5, if_pos h5]
  · rw [if_neg h5, if_neg h5]
/-- every sum that is not 0 lies in a block that is marked -/
def pok (U : Nat → Int32) (S : Nat → Int64) : Prop := (∀ b, b < 889 → ∃ u, U b = bI u) ∧ ∀ c, c ≤ 88888 → S c ≠ 0 → U (c / 100) = bI true
def adS (S : Nat → Int64) (c : Nat) (x : Int64) : Nat → Int64 := upS S c (S c + x)
theorem pok_ad {U : Nat → Int32} {S : Nat → Int64} (h : pok U S) (c : Nat) (x : Int64) : pok (upU U (c / 100) (bI true)) (adS S c x) := by
  refine ⟨fun b hb => ?_, fun d hd hn => ?_⟩
  · unfold upU
    split
    · exact ⟨true, rfl⟩
    · exact h.1 b hb
  · unfold upU
    split
    · rfl
    · rename_i q
      refine h.2 d hd ?_
      unfold adS upS at hn
      rw [if_neg (fun e => q (by rw [e]))] at hn
      exact hn
/-- all terms, so often -/
def pal (m : Int64) : tms → (Nat → Int64) → Nat → Int64
  | [], S => S
  | q :: r, S => pal m r (adS S q.1 (m * q.2.toInt64))
/-- exponents as told: at most 88888 -/
def txs (ts : tms) : Prop := ∀ j, j < ts.length → tx ts j ≤ 88888
theorem pat_5 {G : Nat → Nat → Int32} {U : Nat → Int32} {p : Nat} {ts : tms} {t : Bool} (hp : cT p = some (3, 4, 4, [some (p + 1), some (p + 2), none, none])) (hp1 : cT (p + 1) = some (0, 0, 600, [])) (hp2 : cT (p + 2) = some (0, 0, 600, [])) (h : pat G p ts t) : pat (rw5 G U) p ts t :=
  pat_row h (rw5_ne (fun e => by rw [e] at hp; exact absurd hp (by decide +kernel))) (rw5_ne (fun e => by rw [e] at hp1; exact absurd hp1 (by decide +kernel))) (rw5_ne (fun e => by rw [e] at hp2; exact absurd hp2 (by decide +kernel)))

set_option maxRecDepth 4000 in
set_option maxHeartbeats 1000000 in
theorem C8_pour  (G : Nat → Nat → Int32) (L : Nat → Nat → Int64) (U : Nat → Int32) (S : Nat → Int64) (c : Nat) (x : Int64) (hc : c ≤ 88888) : fv_M Y8_pour 0 0 0 [.ref 3, .int (nI c), .long x] (fw cT (rw5 G U) (rwL L S)) none (fv_eq none (fw cT (rw5 G (upU U (c / 100) (bI true))) (rwL L (adS S c x)))) := by
  refine fv_enter rfl (Nat.le_of_ble_eq_true rfl) ?_
  obtain ⟨Q, hQ⟩ : ∃ Q : Option Value → fv_F → Option Nat → Prop, Q = (fv_eq none (fw cT (rw5 G (upU U (c / 100) (bI true))) (rwL L (adS S c x)))) := ⟨_, rfl⟩
  rw [← hQ]
  show fv_At Y8_pour 0 0 0 Q 0 [(0, .ref 3), (1, .int (nI c)), (2, .long x)] [] (fw cT (rw5 G U) (rwL L S)) none 0 0
  refine fx_iload_n dX8_pour_0 rfl (i := 1) rfl ?_
  refine fn_if_lt (tgt := 30) dX8_pour_1 (by decide) (by omega) (fun c1 => ?_) (fun c1 => ?_)
  · exfalso; omega
  · skip
    refine fx_iload_n dX8_pour_4 rfl (i := 1) rfl ?_
    refine fx_ldc dX8_pour_5 kc8_35 (fn_to (show _ = (nI 88888) by decide) ?_)
    refine fn_icmp_gt (tgt := 30) dX8_pour_7 (by decide) (by omega) (by omega) (fun c7 => ?_) (fun c7 => ?_)
    · exfalso; omega
    · skip
      refine fx_aload_n dX8_pour_10 rfl (i := 0) rfl ?_
      refine fw_getr dX8_pour_11 fd8_10 rfl rfl ?_
      refine fx_iload_n dX8_pour_14 rfl (i := 1) rfl ?_
      refine fx_dup2 dX8_pour_15 rfl rfl ?_
      refine fw_lald c dX8_pour_16 rfl rfl (by omega) (by decide) ?_
      refine fn_toL (show _ = (S c) from rfl) ?_
      refine fx_lload_n dX8_pour_17 rfl (i := 2) rfl ?_
      refine fx_ladd dX8_pour_18 ?_
      refine fw_last c dX8_pour_19 rfl rfl (by omega) (by decide) ?_
      rw [rwL_set]
      refine fx_aload_n dX8_pour_20 rfl (i := 0) rfl ?_
      refine fw_getr dX8_pour_21 fd8_16 rfl rfl ?_
      refine fx_iload_n dX8_pour_24 rfl (i := 1) rfl ?_
      refine fx_bipush (v := (nI 100)) dX8_pour_25 (by decide) ?_
      refine fn_idiv dX8_pour_27 (by omega) (by omega) (by omega) ?_
      refine fx_iconst (v := (nI 1)) dX8_pour_28 (by decide) ?_
      refine fn_to (show _ = (bI true) from rfl) ?_
      refine fw_zast (c / 100) dX8_pour_29 (bI_01 _) rfl rfl (by omega) (by decide) ?_
      rw [rw5_set]
      exact fx_vret dX8_pour_30 rfl rfl rfl (by rw [hQ]; exact ⟨rfl, rfl, rfl⟩)

/-- an answer; the pot's sums are S2, its marks are in order; all else stays -/
def qpo (r : Option Value) (G : Nat → Nat → Int32) (L : Nat → Nat → Int64) (S2 : Nat → Int64) : Option Value → fv_F → Option Nat → Prop := fun r2 f2 al2 => ∃ U2, r2 = r ∧ f2 = fw cT (rw5 G U2) (rwL L S2) ∧ al2 = none ∧ pok U2 S2

set_option maxRecDepth 4000 in
set_option maxHeartbeats 1000000 in
theorem C8_pourAll  (G : Nat → Nat → Int32) (L : Nat → Nat → Int64) (U : Nat → Int32) (S : Nat → Int64) (hok : pok U S) (p : Nat) (hp : cT p = some (3, 4, 4, [some (p + 1), some (p + 2), none, none])) (hp1 : cT (p + 1) = some (0, 0, 600, [])) (hp2 : cT (p + 2) = some (0, 0, 600, [])) (ts : tms) (t : Bool) (hP : pat G p ts t) (hx : txs ts) (m : Int64) : fv_M Y8_pourAll 1 0 0 [.ref 3, .ref p, .long m] (fw cT (rw5 G U) (rwL L S)) none (qpo none G L (pal m ts S)) := by
  refine fv_enter rfl (Nat.le_of_ble_eq_true rfl) ?_
  obtain ⟨Q, hQ⟩ : ∃ Q : Option Value → fv_F → Option Nat → Prop, Q = (qpo none G L (pal m ts S)) := ⟨_, rfl⟩
  rw [← hQ]
  show fv_At Y8_pourAll 1 0 0 Q 0 [(0, .ref 3), (1, .ref p), (2, .long m)] [] (fw cT (rw5 G U) (rwL L S)) none 0 0
  have h6 := hP.1
  refine fx_iconst (v := (nI 0)) dX8_pourAll_0 (by decide) ?_
  refine fx_istore (lv2 := [(0, .ref 3), (1, .ref p), (2, .long m), (4, .int (nI 0))]) dX8_pourAll_1 (by decide) rfl ?_
  have L3 : ∀ (k : Nat) (j : Nat) (U1 : Nat → Int32) (S1 : Nat → Int64), (j + k = ts.length) → (pok U1 S1) → (pal m (ts.drop j) S1 = pal m ts S) → fv_At Y8_pourAll 1 0 0 Q 3 [(0, .ref 3), (1, .ref p), (2, .long m), (4, .int (nI j))] [] (fw cT (rw5 G U1) (rwL L S1)) none 0 0 := by
    intro k
    induction k with
    | zero =>
      intro j U1 S1 hj hok1 hR
      refine fx_iload dX8_pourAll_3 rfl ?_
      refine fx_aload_n dX8_pourAll_5 rfl (i := 1) rfl ?_
      refine fn_cV dX8_pourAll_6 lk8_36 fv_c4 rfl (fw_at hp) (C7_size cT p hp hp1 hp2 (rw5 G U1) (rwL L S1) ts t (pat_5 hp hp1 hp2 hP)  ) rfl rfl (by decide) (Nat.le_of_ble_eq_true rfl) ?_
      show fv_At Y8_pourAll 1 0 0 Q 9 [(0, .ref 3), (1, .ref p), (2, .long m), (4, .int (nI j))] [.int (nI ts.length), .int (nI j)] (fw cT (rw5 G U1) (rwL L S1)) none 0 0
      refine fn_icmp_ge (tgt := 37) dX8_pourAll_9 (by decide) (by omega) (by omega) (fun c9 => ?_) (fun c9 => ?_)
      · skip
        exact fx_vret dX8_pourAll_37 rfl rfl rfl (by rw [hQ]; exact (by rw [show pal m ts S = S1 by (rw [← hR, List.drop_eq_nil_of_le (by omega)]; rfl)]; exact ⟨U1, rfl, rfl, rfl, hok1⟩))
      · exfalso; omega
    | succ k ih3 =>
      intro j U1 S1 hj hok1 hR
      refine fx_iload dX8_pourAll_3 rfl ?_
      refine fx_aload_n dX8_pourAll_5 rfl (i := 1) rfl ?_
      refine fn_cV dX8_pourAll_6 lk8_36 fv_c4 rfl (fw_at hp) (C7_size cT p hp hp1 hp2 (rw5 G U1) (rwL L S1) ts t (pat_5 hp hp1 hp2 hP)  ) rfl rfl (by decide) (Nat.le_of_ble_eq_true rfl) ?_
      show fv_At Y8_pourAll 1 0 0 Q 9 [(0, .ref 3), (1, .ref p), (2, .long m), (4, .int (nI j))] [.int (nI ts.length), .int (nI j)] (fw cT (rw5 G U1) (rwL L S1)) none 0 0
      refine fn_icmp_ge (tgt := 37) dX8_pourAll_9 (by decide) (by omega) (by omega) (fun c9 => ?_) (fun c9 => ?_)
      · exfalso; omega
      · skip
        refine fx_aload_n dX8_pourAll_12 rfl (i := 0) rfl ?_
        refine fx_aload_n dX8_pourAll_13 rfl (i := 1) rfl ?_
        refine fx_iload dX8_pourAll_14 rfl ?_
        refine fn_cV dX8_pourAll_16 lk8_40 fv_c4 rfl (fw_at hp) (C7_exponentsAt cT p hp hp1 hp2 (rw5 G U1) (rwL L S1) ts t (pat_5 hp hp1 hp2 hP) j (by omega)) rfl rfl (by decide) (Nat.le_of_ble_eq_true rfl) ?_
        show fv_At Y8_pourAll 1 0 0 Q 19 [(0, .ref 3), (1, .ref p), (2, .long m), (4, .int (nI j))] [.int (nI (tx ts j)), .ref 3] (fw cT (rw5 G U1) (rwL L S1)) none 0 0
        refine fx_lload_n dX8_pourAll_19 rfl (i := 2) rfl ?_
        refine fx_aload_n dX8_pourAll_20 rfl (i := 1) rfl ?_
        refine fx_iload dX8_pourAll_21 rfl ?_
        refine fn_cV dX8_pourAll_23 lk8_44 fv_c4 rfl (fw_at hp) (C7_numberAt cT p hp hp1 hp2 (rw5 G U1) (rwL L S1) ts t (pat_5 hp hp1 hp2 hP) j (by omega)) rfl rfl (by decide) (Nat.le_of_ble_eq_true rfl) ?_
        show fv_At Y8_pourAll 1 0 0 Q 26 [(0, .ref 3), (1, .ref p), (2, .long m), (4, .int (nI j))] [.int (tn ts j), .long m, .int (nI (tx ts j)), .ref 3] (fw cT (rw5 G U1) (rwL L S1)) none 0 0
        refine fx_i2l dX8_pourAll_26 ?_
        refine fx_lmul dX8_pourAll_27 ?_
        refine fn_cV dX8_pourAll_28 lk8_47 fv_c5 rfl (fw_at (show cT 3 = some (3, 5, 5, [some 4, some 5, some 6, none, none]) from rfl)) (C8_pour G L U1 S1 (tx ts j) ((m * ((((tn ts j)).toInt64)))) (hx j (by omega))) rfl rfl (by decide) (Nat.le_of_ble_eq_true rfl) ?_
        show fv_At Y8_pourAll 1 0 0 Q 31 [(0, .ref 3), (1, .ref p), (2, .long m), (4, .int (nI j))] [] (fw cT (rw5 G (upU U1 ((tx ts j) / 100) (bI true))) (rwL L (adS S1 (tx ts j) ((m * ((((tn ts j)).toInt64))))))) none 0 0
        refine fn_iinc (c := 1) (lv2 := [(0, .ref 3), (1, .ref p), (2, .long m), (4, .int (nI (j + 1)))]) dX8_pourAll_31 (by decide) rfl (by decide) rfl ?_
        refine fx_goto (tgt := 3) dX8_pourAll_34 (by decide) ?_
        exact (ih3 (j + 1) ((upU U1 (tx ts j / 100) (bI true))) ((adS S1 (tx ts j) (m * (tn ts j).toInt64))) (by omega) (pok_ad hok1 _ _) (by rw [← hR, drD (show j < ts.length by omega), pal]))
  exact (L3 ts.length 0 U S (by omega) hok rfl)
