/-- the list of the class -/
def lsp (G : Nat → Nat → Int32) (k m : Nat) (bs : List Nat) : Prop := G 15 5 = nI k ∧ G 15 6 = nI m ∧ G 15 7 = nI bs.length ∧ bs.length ≤ 16 ∧ ∀ j, j < bs.length → G 27 j = nI (bs.getD j 0)
/-- the list of the model -/
def mlp (G : Nat → Nat → Int32) (k m : Nat) (bs : List Nat) : Prop := G 0 20 = nI k ∧ G 0 21 = nI m ∧ G 0 22 = nI bs.length ∧ bs.length ≤ 16 ∧ ∀ j, j < bs.length → G 20 j = nI (bs.getD j 0)
def xStr (k m b p i : Int) : Int := if isBx k m b = true ∧ 0 ≤ p ∧ p ≤ 16 then stA (dgt b.toNat k.toNat) k.toNat m.toNat p.toNat i else -2
def xOof (k m b : Int) : Int := if isBx k m b = true ∧ k + m ≤ 5 then (tor (dgt b.toNat k.toNat) k.toNat m.toNat : Nat) else -2
def xBeg (n : Nat) (k m : Int) : Int := if isSh k m = true then (n : Nat) else -2
def xCnd (k m n : Nat) (b : Int) : Int := if isBx (k : Int) (m : Int) b = true then (if n < 16 then ((n + 1 : Nat) : Int) else -7) else -2
def xFie (q : Nat) (f : Int) : Int := if f = 2 ∨ f = 3 ∨ f = 5 then (q : Nat) else -2
def xRod (q : Nat) (r a b : Int) : Int := if isRd r = true ∧ isPt q a = true ∧ isPt q b = true ∧ ldf (plk a.toNat b.toNat q) ≠ 0 then 1 else -2
def xDro (th : Nat → Bool) (r : Int) : Int := if isRd r = true then (if th r.toNat = true then 1 else -3) else -2
def xMee (th : Nat → Bool) (rs : Nat → Nat → Nat) (q : Nat) (a b : Int) : Int := if isRd a = true ∧ isRd b = true then hmt th rs q a.toNat b.toNat else -2
def xLin (th : Nat → Bool) (rs : Nat → Nat → Nat) (q : Nat) (b : Int) : Int := if isBt b = true then (if att th b.toNat 8 0 = true then ((lnm rs q b.toNat : Nat) : Int) else -3) else -2
def xPoi (th : Nat → Bool) (rs : Nat → Nat → Nat) (q : Nat) (b : Int) : Int := if isBt b = true then (if att th b.toNat 8 0 = true then ((pon rs q b.toNat : Nat) : Int) else -3) else -2
theorem isBx_3 {k m b : Int} (h : isBx k m b = true) : isSh k m = true ∧ 0 ≤ b ∧ b < 10 ^ k.toNat ∧ bxl (dgt b.toNat k.toNat) k.toNat 0 m.toNat = true := by
  unfold isBx at h
  rw [Bool.and_eq_true, Bool.and_eq_true] at h
  have q := of_decide_eq_true h.2.1
  exact ⟨h.1, q.1, q.2, h.2.2⟩
theorem bxl_v : ∀ (k p a : Nat) (h : Nat → Nat), bxl h k p a = true → ∀ j, p ≤ j → j < p + k → h j ≤ (if j = p then a else h (j - 1))
  | 0, _, _, _, _, j, h1, h2 => by omega
  | k + 1, p, a, h, hb, j, h1, h2 => by
    unfold bxl at hb
    by_cases q : a < h p
    · simp [q] at hb
    · simp [q] at hb
      by_cases e : j = p
      · rw [if_pos e, e]; omega
      · have w := bxl_v k (p + 1) (h p) h hb j (by omega) (by omega)
        rw [if_neg e]
        by_cases e2 : j = p + 1
        · rw [if_pos e2] at w
          rw [show j - 1 = p by omega]
          exact w
        · rw [if_neg e2] at w
          exact w
theorem isBx_v {k m b : Int} (h : isBx k m b = true) : bxv (dgt b.toNat k.toNat) k.toNat m.toNat := by
  intro p hp
  have q := bxl_v _ _ _ _ (isBx_3 h).2.2.2 p (Nat.zero_le _) (by omega)
  exact q
theorem isBx_s {k m b : Int} (h : isBx k m b = true) : 1 ≤ k ∧ k ≤ 4 ∧ 1 ≤ m ∧ m ≤ 4 ∧ 0 ≤ b ∧ b < 10000 := by
  have q := isBx_3 h
  have s := isSh_1 q.1
  have h2 : 10 ^ k.toNat ≤ 10 ^ 4 := Nat.pow_le_pow_right (by decide) (by omega)
  have h3 : ((10 ^ k.toNat : Nat) : Int) ≤ ((10 ^ 4 : Nat) : Int) := Int.ofNat_le.mpr h2
  rw [Int.natCast_pow] at h3
  have h4 := q.2.2.1
  refine ⟨s.1, s.2.1, s.2.2.1, s.2.2.2, q.2.1, ?_⟩
  have h5 : ((10 : Nat) : Int) ^ k.toNat = (10 : Int) ^ k.toNat := rfl
  rw [h5] at h3
  have h6 : ((10 ^ 4 : Nat) : Int) = 10000 := by decide
  omega

set_option maxRecDepth 4000 in
set_option maxHeartbeats 1000000 in
theorem C10_strip  (G : Nat → Nat → Int32) (L : Nat → Nat → Int64) (k m b p i : Int) (k1 : -2147483648 ≤ k) (k2 : k < 2147483648) (m1 : -2147483648 ≤ m) (m2 : m < 2147483648) (b1 : -2147483648 ≤ b) (b2 : b < 2147483648) (p1 : -2147483648 ≤ p) (p2 : p < 2147483648) (i1 : -2147483648 ≤ i) (i2 : i < 2147483648) : fv_M Y10_strip 9 0 0 [.ref 0, .int (iI k), .int (iI m), .int (iI b), .int (iI p), .int (iI i)] (fw cT G L) none (fv_eq (some (.int (iI (xStr k m b p i)))) (fw cT G L)) := by
  refine fv_enter rfl (Nat.le_of_ble_eq_true rfl) ?_
  obtain ⟨Q, hQ⟩ : ∃ Q : Option Value → fv_F → Option Nat → Prop, Q = (fv_eq (some (.int (iI (xStr k m b p i)))) (fw cT G L)) := ⟨_, rfl⟩
  rw [← hQ]
  show fv_At Y10_strip 9 0 0 Q 0 [(0, .ref 0), (1, .int (iI k)), (2, .int (iI m)), (3, .int (iI b)), (4, .int (iI p)), (5, .int (iI i))] [] (fw cT G L) none 0 0
  refine fx_iload_n dX10_strip_0 rfl (i := 1) rfl ?_
  refine fx_iload_n dX10_strip_1 rfl (i := 2) rfl ?_
  refine fx_iload_n dX10_strip_2 rfl (i := 3) rfl ?_
  refine fn_cS dX10_strip_3 lk10_131 (C1_isBox k m b (by omega) (by omega) (by omega) (by omega) (by omega) (by omega) (fw cT G L)) rfl rfl (by decide) (Nat.le_of_ble_eq_true rfl) ?_
  show fv_At Y10_strip 9 0 0 Q 6 [(0, .ref 0), (1, .int (iI k)), (2, .int (iI m)), (3, .int (iI b)), (4, .int (iI p)), (5, .int (iI i))] [.int (bI (isBx k m b))] (fw cT G L) none 0 0
  refine fn_if_eqB (tgt := 21) dX10_strip_6 (by decide) (fun c6 => ?_) (fun c6 => ?_)
  · skip
    refine fx_bipush (v := (iI (-2))) dX10_strip_21 (by decide) ?_
    exact fx_iret dX10_strip_23 rfl rfl rfl (by rw [hQ]; exact ⟨by unfold xStr; rw [if_neg (fun q => by first | (have q1 := q.2; omega) | simp_all)], rfl, rfl⟩)
  · skip
    refine fx_iload dX10_strip_9 rfl ?_
    refine fn_if_ltZ (tgt := 21) dX10_strip_11 (by decide) (by omega) (by omega) (fun c11 => ?_) (fun c11 => ?_)
    · skip
      refine fx_bipush (v := (iI (-2))) dX10_strip_21 (by decide) ?_
      exact fx_iret dX10_strip_23 rfl rfl rfl (by rw [hQ]; exact ⟨by unfold xStr; rw [if_neg (fun q => by first | (have q1 := q.2; omega) | simp_all)], rfl, rfl⟩)
    · skip
      refine fx_iload dX10_strip_14 rfl ?_
      refine fx_bipush (v := (nI 16)) dX10_strip_16 (by decide) ?_
      refine fn_icmp_leZ (a := p) (b := ((16 : Nat) : Int)) (tgt := 24) dX10_strip_18 (by decide) (by omega) (by omega) (by omega) (by omega) (fun c18 => ?_) (fun c18 => ?_)
      · skip
        have hin : isBx k m b = true ∧ 0 ≤ p ∧ p ≤ 16 := ⟨c6, by omega, by omega⟩
        have hbs := isBx_s c6
        have hbv := isBx_v c6
        obtain ⟨k0, rfl⟩ : ∃ z : Nat, k = (z : Int) := ⟨k.toNat, by omega⟩
        obtain ⟨m0, rfl⟩ : ∃ z : Nat, m = (z : Int) := ⟨m.toNat, by omega⟩
        obtain ⟨b0, rfl⟩ : ∃ z : Nat, b = (z : Int) := ⟨b.toNat, by omega⟩
        obtain ⟨p0, rfl⟩ : ∃ z : Nat, p = (z : Int) := ⟨p.toNat, by omega⟩
        show fv_At Y10_strip 9 0 0 Q 24 [(0, .ref 0), (1, .int (nI k0)), (2, .int (nI m0)), (3, .int (nI b0)), (4, .int (nI p0)), (5, .int (iI i))] [] (fw cT G L) none 0 0
        refine fx_iload_n dX10_strip_24 rfl (i := 1) rfl ?_
        refine fx_iload_n dX10_strip_25 rfl (i := 2) rfl ?_
        refine fx_iload_n dX10_strip_26 rfl (i := 3) rfl ?_
        refine fx_iload dX10_strip_27 rfl ?_
        refine fx_iload dX10_strip_29 rfl ?_
        refine fn_cS dX10_strip_31 lk10_137 (C1_stripAt k0 m0 b0 (by omega) (by omega) (by omega) hbv p0 i (by omega) (by omega) (by omega) (fw cT G L)) rfl rfl (by decide) (Nat.le_of_ble_eq_true rfl) ?_
        show fv_At Y10_strip 9 0 0 Q 34 [(0, .ref 0), (1, .int (nI k0)), (2, .int (nI m0)), (3, .int (nI b0)), (4, .int (nI p0)), (5, .int (iI i))] [.int (iI (stA (dgt b0 k0) k0 m0 p0 i))] (fw cT G L) none 0 0
        exact fx_iret dX10_strip_34 rfl rfl rfl (by rw [hQ]; exact ⟨by unfold xStr; rw [if_pos hin]; rfl, rfl, rfl⟩)
      · skip
        refine fx_bipush (v := (iI (-2))) dX10_strip_21 (by decide) ?_
        exact fx_iret dX10_strip_23 rfl rfl rfl (by rw [hQ]; exact ⟨by unfold xStr; rw [if_neg (fun q => by first | (have q1 := q.2; omega) | simp_all)], rfl, rfl⟩)

set_option maxRecDepth 4000 in
set_option maxHeartbeats 1000000 in
theorem C10_orderOf  (G : Nat → Nat → Int32) (L : Nat → Nat → Int64) (k m b : Int) (k1 : -2147483648 ≤ k) (k2 : k < 2147483648) (m1 : -2147483648 ≤ m) (m2 : m < 2147483648) (b1 : -2147483648 ≤ b) (b2 : b < 2147483648) : fv_M Y10_orderOf 3 0 0 [.ref 0, .int (iI k), .int (iI m), .int (iI b)] (fw cT G L) none (fv_eq (some (.int (iI (xOof k m b)))) (fw cT G L)) := by
  refine fv_enter rfl (Nat.le_of_ble_eq_true rfl) ?_
  obtain ⟨Q, hQ⟩ : ∃ Q : Option Value → fv_F → Option Nat → Prop, Q = (fv_eq (some (.int (iI (xOof k m b)))) (fw cT G L)) := ⟨_, rfl⟩
  rw [← hQ]
  show fv_At Y10_orderOf 3 0 0 Q 0 [(0, .ref 0), (1, .int (iI k)), (2, .int (iI m)), (3, .int (iI b))] [] (fw cT G L) none 0 0
  refine fx_iload_n dX10_orderOf_0 rfl (i := 1) rfl ?_
  refine fx_iload_n dX10_orderOf_1 rfl (i := 2) rfl ?_
  refine fx_iload_n dX10_orderOf_2 rfl (i := 3) rfl ?_
  refine fn_cS dX10_orderOf_3 lk10_131 (C1_isBox k m b (by omega) (by omega) (by omega) (by omega) (by omega) (by omega) (fw cT G L)) rfl rfl (by decide) (Nat.le_of_ble_eq_true rfl) ?_
  show fv_At Y10_orderOf 3 0 0 Q 6 [(0, .ref 0), (1, .int (iI k)), (2, .int (iI m)), (3, .int (iI b))] [.int (bI (isBx k m b))] (fw cT G L) none 0 0
  refine fn_if_eqB (tgt := 16) dX10_orderOf_6 (by decide) (fun c6 => ?_) (fun c6 => ?_)
  · skip
    refine fx_bipush (v := (iI (-2))) dX10_orderOf_16 (by decide) ?_
    exact fx_iret dX10_orderOf_18 rfl rfl rfl (by rw [hQ]; exact ⟨by unfold xOof; rw [if_neg (fun q => by first | (have q1 := q.2; omega) | simp_all)], rfl, rfl⟩)
  · skip
    have hbs := isBx_s c6
    have hbv := isBx_v c6
    refine fx_iload_n dX10_orderOf_9 rfl (i := 1) rfl ?_
    refine fx_iload_n dX10_orderOf_10 rfl (i := 2) rfl ?_
    refine fn_iaddZ (a := k) (b := m) dX10_orderOf_11 ?_
    refine fx_iconst (v := (nI 5)) dX10_orderOf_12 (by decide) ?_
    refine fn_icmp_leZ (a := k + m) (b := ((5 : Nat) : Int)) (tgt := 19) dX10_orderOf_13 (by decide) (by omega) (by omega) (by omega) (by omega) (fun c13 => ?_) (fun c13 => ?_)
    · skip
      have hin : isBx k m b = true ∧ k + m ≤ 5 := ⟨c6, by omega⟩
      obtain ⟨k0, rfl⟩ : ∃ z : Nat, k = (z : Int) := ⟨k.toNat, by omega⟩
      obtain ⟨m0, rfl⟩ : ∃ z : Nat, m = (z : Int) := ⟨m.toNat, by omega⟩
      obtain ⟨b0, rfl⟩ : ∃ z : Nat, b = (z : Int) := ⟨b.toNat, by omega⟩
      show fv_At Y10_orderOf 3 0 0 Q 19 [(0, .ref 0), (1, .int (nI k0)), (2, .int (nI m0)), (3, .int (nI b0))] [] (fw cT G L) none 0 0
      refine fx_iload_n dX10_orderOf_19 rfl (i := 1) rfl ?_
      refine fx_iload_n dX10_orderOf_20 rfl (i := 2) rfl ?_
      refine fx_iload_n dX10_orderOf_21 rfl (i := 3) rfl ?_
      refine fn_cS dX10_orderOf_22 lk10_150 (C1_toOrder k0 m0 b0 (by omega) (by omega) (by omega) hbv (by omega) (fw cT G L)) rfl rfl (by decide) (Nat.le_of_ble_eq_true rfl) ?_
      show fv_At Y10_orderOf 3 0 0 Q 25 [(0, .ref 0), (1, .int (nI k0)), (2, .int (nI m0)), (3, .int (nI b0))] [.int (nI (tor (dgt b0 k0) k0 m0))] (fw cT G L) none 0 0
      exact fx_iret dX10_orderOf_25 rfl rfl rfl (by rw [hQ]; exact ⟨by unfold xOof; rw [if_pos hin]; rfl, rfl, rfl⟩)
    · skip
      refine fx_bipush (v := (iI (-2))) dX10_orderOf_16 (by decide) ?_
      exact fx_iret dX10_orderOf_18 rfl rfl rfl (by rw [hQ]; exact ⟨by unfold xOof; rw [if_neg (fun q => by first | (have q1 := q.2; omega) | simp_all)], rfl, rfl⟩)

set_option maxRecDepth 4000 in
set_option maxHeartbeats 1000000 in
theorem C2_restart  (G : Nat → Nat → Int32) (L : Nat → Nat → Int64) (k m : Nat) (bs : List Nat) (hl : lsp G k m bs) (k2 m2 : Nat) : fv_M Y2_restart 0 0 0 [.ref 15, .int (nI k2), .int (nI m2)] (fw cT G L) none (fv_eq (some (.int (nI bs.length))) (fw cT (g2 (g2 (g2 G 15 5 (nI k2)) 15 6 (nI m2)) 15 7 (nI 0)) L)) := by
  refine fv_enter rfl (Nat.le_of_ble_eq_true rfl) ?_
  obtain ⟨Q, hQ⟩ : ∃ Q : Option Value → fv_F → Option Nat → Prop, Q = (fv_eq (some (.int (nI bs.length))) (fw cT (g2 (g2 (g2 G 15 5 (nI k2)) 15 6 (nI m2)) 15 7 (nI 0)) L)) := ⟨_, rfl⟩
  rw [← hQ]
  show fv_At Y2_restart 0 0 0 Q 0 [(0, .ref 15), (1, .int (nI k2)), (2, .int (nI m2))] [] (fw cT G L) none 0 0
  refine fx_aload_n dX2_restart_0 rfl (i := 0) rfl ?_
  refine fw_geti dX2_restart_1 fd2_39 rfl rfl ?_
  refine fn_to (show _ = (nI bs.length) from hl.2.2.1) ?_
  refine fx_istore_n (lv2 := [(0, .ref 15), (1, .int (nI k2)), (2, .int (nI m2)), (3, .int (nI bs.length))]) dX2_restart_4 (i := 3) rfl (by decide) rfl ?_
  refine fx_aload_n dX2_restart_5 rfl (i := 0) rfl ?_
  refine fx_iload_n dX2_restart_6 rfl (i := 1) rfl ?_
  refine fw_puti dX2_restart_7 fd2_32 rfl rfl ?_
  refine fx_aload_n dX2_restart_10 rfl (i := 0) rfl ?_
  refine fx_iload_n dX2_restart_11 rfl (i := 2) rfl ?_
  refine fw_puti dX2_restart_12 fd2_36 rfl rfl ?_
  refine fx_aload_n dX2_restart_15 rfl (i := 0) rfl ?_
  refine fx_iconst (v := (nI 0)) dX2_restart_16 (by decide) ?_
  refine fw_puti dX2_restart_17 fd2_39 rfl rfl ?_
  refine fx_iload_n dX2_restart_20 rfl (i := 3) rfl ?_
  exact fx_iret dX2_restart_21 rfl rfl rfl (by rw [hQ]; exact ⟨rfl, rfl, rfl⟩)

set_option maxRecDepth 4000 in
set_option maxHeartbeats 1000000 in
theorem C2_append  (G : Nat → Nat → Int32) (L : Nat → Nat → Int64) (k m : Nat) (bs : List Nat) (hl : lsp G k m bs) (b : Nat) : fv_M Y2_append 0 0 0 [.ref 15, .int (nI b)] (fw cT G L) none (fv_eq (some (.int (iI (if bs.length < 16 then ((bs.length + 1 : Nat) : Int) else -7)))) (if bs.length < 16 then fw cT (g2 (g2 G 27 bs.length (nI b)) 15 7 (nI (bs.length + 1))) L else fw cT G L)) := by
  refine fv_enter rfl (Nat.le_of_ble_eq_true rfl) ?_
  obtain ⟨Q, hQ⟩ : ∃ Q : Option Value → fv_F → Option Nat → Prop, Q = (fv_eq (some (.int (iI (if bs.length < 16 then ((bs.length + 1 : Nat) : Int) else -7)))) (if bs.length < 16 then fw cT (g2 (g2 G 27 bs.length (nI b)) 15 7 (nI (bs.length + 1))) L else fw cT G L)) := ⟨_, rfl⟩
  rw [← hQ]
  show fv_At Y2_append 0 0 0 Q 0 [(0, .ref 15), (1, .int (nI b))] [] (fw cT G L) none 0 0
  have h16 := hl.2.2.2.1
  refine fx_aload_n dX2_append_0 rfl (i := 0) rfl ?_
  refine fw_geti dX2_append_1 fd2_39 rfl rfl ?_
  refine fn_to (show _ = (nI bs.length) from hl.2.2.1) ?_
  refine fx_bipush (v := (nI 16)) dX2_append_4 (by decide) ?_
  refine fn_icmp_lt (tgt := 12) dX2_append_6 (by decide) (by omega) (by omega) (fun c6 => ?_) (fun c6 => ?_)
  · skip
    refine fx_aload_n dX2_append_12 rfl (i := 0) rfl ?_
    refine fw_getr dX2_append_13 fd2_18 rfl rfl ?_
    refine fx_aload_n dX2_append_16 rfl (i := 0) rfl ?_
    refine fw_geti dX2_append_17 fd2_39 rfl rfl ?_
    refine fn_to (show _ = (nI bs.length) from hl.2.2.1) ?_
    refine fx_iload_n dX2_append_20 rfl (i := 1) rfl ?_
    refine fw_iast bs.length dX2_append_21 rfl rfl (by omega) (by decide) ?_
    refine fx_aload_n dX2_append_22 rfl (i := 0) rfl ?_
    refine fx_dup dX2_append_23 rfl ?_
    refine fw_geti dX2_append_24 fd2_39 rfl rfl ?_
    refine fn_to (show _ = (nI bs.length) from (by rw [g2_ne _ _ (fun q => absurd q.1 (by decide))]; exact hl.2.2.1)) ?_
    refine fx_iconst (v := (nI 1)) dX2_append_27 (by decide) ?_
    refine fn_iadd dX2_append_28 ?_
    refine fw_puti dX2_append_29 fd2_39 rfl rfl ?_
    refine fx_aload_n dX2_append_32 rfl (i := 0) rfl ?_
    refine fw_geti dX2_append_33 fd2_39 rfl rfl ?_
    refine fn_to (show _ = (nI (bs.length + 1)) from (g2_eq _ _ _ _)) ?_
    exact fx_iret dX2_append_36 rfl rfl rfl (by rw [hQ]; exact ⟨by rw [if_pos (by omega)]; rfl, by rw [if_pos (by omega)], rfl⟩)
  · skip
    refine fx_bipush (v := (iI (-7))) dX2_append_9 (by decide) ?_
    exact fx_iret dX2_append_11 rfl rfl rfl (by rw [hQ]; exact ⟨by rw [if_neg (by omega)], by rw [if_neg (by omega)], rfl⟩)

set_option maxRecDepth 4000 in
set_option maxHeartbeats 1000000 in
theorem C2_rows  (G : Nat → Nat → Int32) (L : Nat → Nat → Int64) (k m : Nat) (bs : List Nat) (hl : lsp G k m bs)  : fv_M Y2_rows 0 0 0 [.ref 15] (fw cT G L) none (fv_eq (some (.int (nI k))) (fw cT G L)) := by
  refine fv_enter rfl (Nat.le_of_ble_eq_true rfl) ?_
  obtain ⟨Q, hQ⟩ : ∃ Q : Option Value → fv_F → Option Nat → Prop, Q = (fv_eq (some (.int (nI k))) (fw cT G L)) := ⟨_, rfl⟩
  rw [← hQ]
  show fv_At Y2_rows 0 0 0 Q 0 [(0, .ref 15)] [] (fw cT G L) none 0 0
  refine fx_aload_n dX2_rows_0 rfl (i := 0) rfl ?_
  refine fw_geti dX2_rows_1 fd2_32 rfl rfl ?_
  refine fn_to (show _ = (nI k) from hl.1) ?_
  exact fx_iret dX2_rows_4 rfl rfl rfl (by rw [hQ]; exact ⟨rfl, rfl, rfl⟩)

set_option maxRecDepth 4000 in
set_option maxHeartbeats 1000000 in
theorem C2_columns  (G : Nat → Nat → Int32) (L : Nat → Nat → Int64) (k m : Nat) (bs : List Nat) (hl : lsp G k m bs)  : fv_M Y2_columns 0 0 0 [.ref 15] (fw cT G L) none (fv_eq (some (.int (nI m))) (fw cT G L)) := by
  refine fv_enter rfl (Nat.le_of_ble_eq_true rfl) ?_
  obtain ⟨Q, hQ⟩ : ∃ Q : Option Value → fv_F → Option Nat → Prop, Q = (fv_eq (some (.int (nI m))) (fw cT G L)) := ⟨_, rfl⟩
  rw [← hQ]
  show fv_At Y2_columns 0 0 0 Q 0 [(0, .ref 15)] [] (fw cT G L) none 0 0
  refine fx_aload_n dX2_columns_0 rfl (i := 0) rfl ?_
  refine fw_geti dX2_columns_1 fd2_36 rfl rfl ?_
  refine fn_to (show _ = (nI m) from hl.2.1) ?_
  exact fx_iret dX2_columns_4 rfl rfl rfl (by rw [hQ]; exact ⟨rfl, rfl, rfl⟩)

set_option maxRecDepth 4000 in
set_option maxHeartbeats 1000000 in
theorem C2_size  (G : Nat → Nat → Int32) (L : Nat → Nat → Int64) (k m : Nat) (bs : List Nat) (hl : lsp G k m bs)  : fv_M Y2_size 0 0 0 [.ref 15] (fw cT G L) none (fv_eq (some (.int (nI bs.length))) (fw cT G L)) := by
  refine fv_enter rfl (Nat.le_of_ble_eq_true rfl) ?_
  obtain ⟨Q, hQ⟩ : ∃ Q : Option Value → fv_F → Option Nat → Prop, Q = (fv_eq (some (.int (nI bs.length))) (fw cT G L)) := ⟨_, rfl⟩
  rw [← hQ]
  show fv_At Y2_size 0 0 0 Q 0 [(0, .ref 15)] [] (fw cT G L) none 0 0
  refine fx_aload_n dX2_size_0 rfl (i := 0) rfl ?_
  refine fw_geti dX2_size_1 fd2_39 rfl rfl ?_
  refine fn_to (show _ = (nI bs.length) from hl.2.2.1) ?_
  exact fx_iret dX2_size_4 rfl rfl rfl (by rw [hQ]; exact ⟨rfl, rfl, rfl⟩)

theorem ifG {P : Prop} {h : Decidable P} (A B : Nat → Nat → Int32) (L : Nat → Nat → Int64) : fw cT (if P then A else B) L = (if P then fw cT A L else fw cT B L) := by
  by_cases q : P
  · rw [if_pos q, if_pos q]
  · rw [if_neg q, if_neg q]
def bgl (bs : List Nat) : Int64 → Int64 := fun h => bs.foldl (fun h b => 31 * h + (nI b).toInt64) h
theorem bgl_s {bs : List Nat} {j : Nat} (h : j < bs.length) (x : Int64) : bgl (bs.drop j) x = bgl (bs.drop (j + 1)) (31 * x + (nI (bs.getD j 0)).toInt64) := by
  rw [List.drop_eq_getElem_cons h, List.getD_eq_getElem?_getD, List.getElem?_eq_getElem h]
  rfl

set_option maxRecDepth 4000 in
set_option maxHeartbeats 1000000 in
theorem C2_digestOn  (G : Nat → Nat → Int32) (L : Nat → Nat → Int64) (k m : Nat) (bs : List Nat) (hl : lsp G k m bs) (h : Int64) : fv_M Y2_digestOn 0 0 0 [.ref 15, .long h] (fw cT G L) none (fv_eq (some (.long (bgl bs h))) (fw cT G L)) := by
  refine fv_enter rfl (Nat.le_of_ble_eq_true rfl) ?_
  obtain ⟨Q, hQ⟩ : ∃ Q : Option Value → fv_F → Option Nat → Prop, Q = (fv_eq (some (.long (bgl bs h))) (fw cT G L)) := ⟨_, rfl⟩
  rw [← hQ]
  show fv_At Y2_digestOn 0 0 0 Q 0 [(0, .ref 15), (1, .long h)] [] (fw cT G L) none 0 0
  have h16 := hl.2.2.2.1
  refine fx_lload_n dX2_digestOn_0 rfl (i := 1) rfl ?_
  refine fx_lstore_n (lv2 := [(0, .ref 15), (1, .long h), (3, .long h)]) dX2_digestOn_1 (i := 3) rfl (by decide) rfl ?_
  refine fx_iconst (v := (nI 0)) dX2_digestOn_2 (by decide) ?_
  refine fx_istore (lv2 := [(0, .ref 15), (1, .long h), (3, .long h), (5, .int (nI 0))]) dX2_digestOn_3 (by decide) rfl ?_
  have L5 : ∀ (k1 : Nat) (x : Int64) (j : Nat), (j + k1 = bs.length) → (bgl (bs.drop j) x = bgl bs h) → fv_At Y2_digestOn 0 0 0 Q 5 [(0, .ref 15), (1, .long h), (3, .long x), (5, .int (nI j))] [] (fw cT G L) none 0 0 := by
    intro k1
    induction k1 with
    | zero =>
      intro x j hj hR
      refine fx_iload dX2_digestOn_5 rfl ?_
      refine fx_aload_n dX2_digestOn_7 rfl (i := 0) rfl ?_
      refine fw_geti dX2_digestOn_8 fd2_39 rfl rfl ?_
      refine fn_to (show _ = (nI bs.length) from hl.2.2.1) ?_
      refine fn_icmp_ge (tgt := 35) dX2_digestOn_11 (by decide) (by omega) (by omega) (fun c11 => ?_) (fun c11 => ?_)
      · skip
        refine fx_lload_n dX2_digestOn_35 rfl (i := 3) rfl ?_
        exact fx_lret dX2_digestOn_36 rfl rfl rfl (by rw [hQ]; exact ⟨by rw [← hR, List.drop_eq_nil_of_le (by omega)]; rfl, rfl, rfl⟩)
      · exfalso; omega
    | succ k1 ih5 =>
      intro x j hj hR
      refine fx_iload dX2_digestOn_5 rfl ?_
      refine fx_aload_n dX2_digestOn_7 rfl (i := 0) rfl ?_
      refine fw_geti dX2_digestOn_8 fd2_39 rfl rfl ?_
      refine fn_to (show _ = (nI bs.length) from hl.2.2.1) ?_
      refine fn_icmp_ge (tgt := 35) dX2_digestOn_11 (by decide) (by omega) (by omega) (fun c11 => ?_) (fun c11 => ?_)
      · exfalso; omega
      · skip
        refine fx_ldc2 (v := 31) dX2_digestOn_14 kc2_62 ?_
        refine fx_lload_n dX2_digestOn_17 rfl (i := 3) rfl ?_
        refine fx_lmul dX2_digestOn_18 ?_
        refine fx_aload_n dX2_digestOn_19 rfl (i := 0) rfl ?_
        refine fw_getr dX2_digestOn_20 fd2_18 rfl rfl ?_
        refine fx_iload dX2_digestOn_23 rfl ?_
        refine fw_iald j dX2_digestOn_25 rfl rfl (by omega) (by decide) ?_
        refine fn_to (show _ = (nI (bs.getD j 0)) from (hl.2.2.2.2 j (by omega))) ?_
        refine fx_i2l dX2_digestOn_26 ?_
        refine fx_ladd dX2_digestOn_27 ?_
        refine fx_lstore_n (lv2 := [(0, .ref 15), (1, .long h), (3, .long (((31 * x)) + ((((nI (bs.getD j 0))).toInt64)))), (5, .int (nI j))]) dX2_digestOn_28 (i := 3) rfl (by decide) rfl ?_
        refine fn_iinc (c := 1) (lv2 := [(0, .ref 15), (1, .long h), (3, .long (((31 * x)) + ((((nI (bs.getD j 0))).toInt64)))), (5, .int (nI (j + 1)))]) dX2_digestOn_29 (by decide) rfl (by decide) rfl ?_
        refine fx_goto (tgt := 5) dX2_digestOn_32 (by decide) ?_
        exact (ih5 ((((31 * x)) + ((((nI (bs.getD j 0))).toInt64)))) (j + 1) (by omega) (by rw [← hR, bgl_s (show j < bs.length by omega)]))
  exact (L5 bs.length h 0 (by omega) rfl)

/-- an answer of the class's; only the list may have changed -/
def qcb (G : Nat → Nat → Int32) (L : Nat → Nat → Int64) (v : Int) (k m : Nat) (bs : List Nat) : Option Value → fv_F → Option Nat → Prop := fun r2 f2 al2 => ∃ G2 : Nat → Nat → Int32, r2 = some (.int (iI v)) ∧ f2 = fw cT G2 L ∧ al2 = none ∧ lsp G2 k m bs ∧ ∀ i, i ≠ 15 → i ≠ 27 → G2 i = G i
theorem lsp_a {G : Nat → Nat → Int32} {k m : Nat} {bs : List Nat} (h : lsp G k m bs) (b : Nat) (hb : bs.length < 16) : lsp (g2 (g2 G 27 bs.length (nI b)) 15 7 (nI (bs.length + 1))) k m (bs ++ [b]) := by
  refine ⟨?_, ?_, ?_, ?_, fun j hj => ?_⟩
  · rw [g2_ne _ _ (by omega), g2_ne _ _ (by omega)]; exact h.1
  · rw [g2_ne _ _ (by omega), g2_ne _ _ (by omega)]; exact h.2.1
  · rw [g2_eq, List.length_append]; rfl
  · rw [List.length_append]; simp; omega
  · rw [List.length_append] at hj
    simp at hj
    rw [g2_ne _ _ (by omega)]
    by_cases e : j = bs.length
    · rw [e, g2_eq, gdN_e]
    · rw [g2_ne _ _ (by omega), gdN_l _ _ (by omega)]
      exact h.2.2.2.2 j (by omega)

set_option maxRecDepth 4000 in
set_option maxHeartbeats 1000000 in
theorem C10_begin  (G : Nat → Nat → Int32) (L : Nat → Nat → Int64) (k m : Nat) (bs : List Nat) (hl : lsp G k m bs) (a b : Int) (a1 : -2147483648 ≤ a) (a2 : a < 2147483648) (b1 : -2147483648 ≤ b) (b2 : b < 2147483648) : fv_M Y10_begin 1 0 0 [.ref 0, .int (iI a), .int (iI b)] (fw cT G L) none (qcb G L (xBeg bs.length a b) (if isSh a b = true then a.toNat else k) (if isSh a b = true then b.toNat else m) (if isSh a b = true then [] else bs)) := by
  refine fv_enter rfl (Nat.le_of_ble_eq_true rfl) ?_
  obtain ⟨Q, hQ⟩ : ∃ Q : Option Value → fv_F → Option Nat → Prop, Q = (qcb G L (xBeg bs.length a b) (if isSh a b = true then a.toNat else k) (if isSh a b = true then b.toNat else m) (if isSh a b = true then [] else bs)) := ⟨_, rfl⟩
  rw [← hQ]
  show fv_At Y10_begin 1 0 0 Q 0 [(0, .ref 0), (1, .int (iI a)), (2, .int (iI b))] [] (fw cT G L) none 0 0
  refine fx_iload_n dX10_begin_0 rfl (i := 1) rfl ?_
  refine fx_iload_n dX10_begin_1 rfl (i := 2) rfl ?_
  refine fn_cS dX10_begin_2 lk10_154 (C1_isShape a b (by omega) (by omega) (by omega) (by omega) (fw cT G L)) rfl rfl (by decide) (Nat.le_of_ble_eq_true rfl) ?_
  show fv_At Y10_begin 1 0 0 Q 5 [(0, .ref 0), (1, .int (iI a)), (2, .int (iI b))] [.int (bI (isSh a b))] (fw cT G L) none 0 0
  refine fn_if_neB (tgt := 11) dX10_begin_5 (by decide) (fun c5 => ?_) (fun c5 => ?_)
  · skip
    have hin := isSh_1 c5
    obtain ⟨a0, rfl⟩ : ∃ z : Nat, a = (z : Int) := ⟨a.toNat, by omega⟩
    obtain ⟨b0, rfl⟩ : ∃ z : Nat, b = (z : Int) := ⟨b.toNat, by omega⟩
    show fv_At Y10_begin 1 0 0 Q 11 [(0, .ref 0), (1, .int (nI a0)), (2, .int (nI b0))] [] (fw cT G L) none 0 0
    refine fx_aload_n dX10_begin_11 rfl (i := 0) rfl ?_
    refine fw_getr dX10_begin_12 fd10_25 rfl rfl ?_
    refine fx_iload_n dX10_begin_15 rfl (i := 1) rfl ?_
    refine fx_iload_n dX10_begin_16 rfl (i := 2) rfl ?_
    refine fn_cV dX10_begin_17 lk10_158 fv_c1 rfl (fw_at (show cT 15 = some (3, 1, 8, [some 16, some 27, some 28, some 29, some 30, none, none, none]) from rfl)) (C2_restart G L k m bs hl a0 b0) rfl rfl (by decide) (Nat.le_of_ble_eq_true rfl) ?_
    show fv_At Y10_begin 1 0 0 Q 20 [(0, .ref 0), (1, .int (nI a0)), (2, .int (nI b0))] [.int (nI bs.length)] (fw cT (g2 (g2 (g2 G 15 5 (nI a0)) 15 6 (nI b0)) 15 7 (nI 0)) L) none 0 0
    exact fx_iret dX10_begin_20 rfl rfl rfl (by rw [hQ]; exact (by rw [if_pos c5, if_pos c5, if_pos c5]; exact ⟨_, by unfold xBeg; rw [if_pos c5]; rfl, rfl, rfl, ⟨by rw [g2_ne _ _ (by omega), g2_ne _ _ (by omega), g2_eq]; rfl, by rw [g2_ne _ _ (by omega), g2_eq]; rfl, by rw [g2_eq]; rfl, Nat.zero_le _, fun j hj => absurd hj (Nat.not_lt_zero _)⟩, fun i q1 q2 => by rw [g2_row _ _ q1, g2_row _ _ q1, g2_row _ _ q1]⟩))
  · skip
    refine fx_bipush (v := (iI (-2))) dX10_begin_8 (by decide) ?_
    exact fx_iret dX10_begin_10 rfl rfl rfl (by rw [hQ]; exact (by rw [if_neg (by rw [c5]; decide), if_neg (by rw [c5]; decide), if_neg (by rw [c5]; decide)]; exact ⟨G, by unfold xBeg; rw [c5]; rfl, rfl, rfl, hl, fun _ _ _ => rfl⟩))

set_option maxRecDepth 4000 in
set_option maxHeartbeats 1000000 in
theorem C10_condition  (G : Nat → Nat → Int32) (L : Nat → Nat → Int64) (k m : Nat) (bs : List Nat) (hl : lsp G k m bs) (hk : k ≤ 4) (hm : m ≤ 4) (b : Int) (b1 : -2147483648 ≤ b) (b2 : b < 2147483648) : fv_M Y10_condition 3 0 0 [.ref 0, .int (iI b)] (fw cT G L) none (qcb G L (xCnd k m bs.length b) k m (if isBx k m b = true ∧ bs.length < 16 then bs ++ [b.toNat] else bs)) := by
  refine fv_enter rfl (Nat.le_of_ble_eq_true rfl) ?_
  obtain ⟨Q, hQ⟩ : ∃ Q : Option Value → fv_F → Option Nat → Prop, Q = (qcb G L (xCnd k m bs.length b) k m (if isBx k m b = true ∧ bs.length < 16 then bs ++ [b.toNat] else bs)) := ⟨_, rfl⟩
  rw [← hQ]
  show fv_At Y10_condition 3 0 0 Q 0 [(0, .ref 0), (1, .int (iI b))] [] (fw cT G L) none 0 0
  refine fx_aload_n dX10_condition_0 rfl (i := 0) rfl ?_
  refine fw_getr dX10_condition_1 fd10_25 rfl rfl ?_
  refine fn_cV dX10_condition_4 lk10_161 fv_c1 rfl (fw_at (show cT 15 = some (3, 1, 8, [some 16, some 27, some 28, some 29, some 30, none, none, none]) from rfl)) (C2_rows G L k m bs hl) rfl rfl (by decide) (Nat.le_of_ble_eq_true rfl) ?_
  show fv_At Y10_condition 3 0 0 Q 7 [(0, .ref 0), (1, .int (iI b))] [.int (nI k)] (fw cT G L) none 0 0
  refine fx_aload_n dX10_condition_7 rfl (i := 0) rfl ?_
  refine fw_getr dX10_condition_8 fd10_25 rfl rfl ?_
  refine fn_cV dX10_condition_11 lk10_164 fv_c1 rfl (fw_at (show cT 15 = some (3, 1, 8, [some 16, some 27, some 28, some 29, some 30, none, none, none]) from rfl)) (C2_columns G L k m bs hl) rfl rfl (by decide) (Nat.le_of_ble_eq_true rfl) ?_
  show fv_At Y10_condition 3 0 0 Q 14 [(0, .ref 0), (1, .int (iI b))] [.int (nI m), .int (nI k)] (fw cT G L) none 0 0
  refine fx_iload_n dX10_condition_14 rfl (i := 1) rfl ?_
  refine fn_cS dX10_condition_15 lk10_131 (C1_isBox ((k : Nat) : Int) ((m : Nat) : Int) b (by omega) (by omega) (by omega) (by omega) (by omega) (by omega) (fw cT G L)) rfl rfl (by decide) (Nat.le_of_ble_eq_true rfl) ?_
  show fv_At Y10_condition 3 0 0 Q 18 [(0, .ref 0), (1, .int (iI b))] [.int (bI (isBx ((k : Nat) : Int) ((m : Nat) : Int) b))] (fw cT G L) none 0 0
  refine fn_if_neB (tgt := 24) dX10_condition_18 (by decide) (fun c18 => ?_) (fun c18 => ?_)
  · skip
    have hbs := isBx_s c18
    have hbv := isBx_v c18
    obtain ⟨b0, rfl⟩ : ∃ z : Nat, b = (z : Int) := ⟨b.toNat, by omega⟩
    show fv_At Y10_condition 3 0 0 Q 24 [(0, .ref 0), (1, .int (nI b0))] [] (fw cT G L) none 0 0
    refine fx_aload_n dX10_condition_24 rfl (i := 0) rfl ?_
    refine fw_getr dX10_condition_25 fd10_25 rfl rfl ?_
    refine fx_iload_n dX10_condition_28 rfl (i := 1) rfl ?_
    refine fx_callV dX10_condition_29 lk10_167 fv_c1 rfl (fw_at (show cT 15 = some (3, 1, 8, [some 16, some 27, some 28, some 29, some 30, none, none, none]) from rfl)) (C2_append G L k m bs hl b0) rfl rfl (by decide) (Nat.le_of_ble_eq_true rfl) (by decide) (by decide) (fun r29 f29 al29 h29 => ?_)
    obtain ⟨rfl, hf, rfl⟩ := h29
    rw [← ifG] at hf
    subst hf
    show fv_At Y10_condition 3 0 0 Q 32 [(0, .ref 0), (1, .int (nI b0))] [.int (iI (if bs.length < 16 then ((bs.length + 1 : Nat) : Int) else -7))] (fw cT (if bs.length < 16 then g2 (g2 G 27 bs.length (nI b0)) 15 7 (nI (bs.length + 1)) else G) L) none 0 0
    exact fx_iret dX10_condition_32 rfl rfl rfl (by rw [hQ]; exact (by refine ⟨_, by unfold xCnd; rw [if_pos c18], rfl, rfl, ?_, ?_⟩; (by_cases q : bs.length < 16; (rw [if_pos q, if_pos ⟨c18, q⟩]; exact lsp_a hl b0 q); rw [if_neg q, if_neg (fun w => q w.2)]; exact hl); intro i q1 q2; by_cases q : bs.length < 16; (rw [if_pos q, g2_row _ _ q1, g2_row _ _ q2]); rw [if_neg q]))
  · skip
    refine fx_bipush (v := (iI (-2))) dX10_condition_21 (by decide) ?_
    exact fx_iret dX10_condition_23 rfl rfl rfl (by rw [hQ]; exact (by rw [if_neg (fun q => absurd (c18.symm.trans q.1) (by decide))]; exact ⟨G, by unfold xCnd; rw [c18]; rfl, rfl, rfl, hl, fun _ _ _ => rfl⟩))
