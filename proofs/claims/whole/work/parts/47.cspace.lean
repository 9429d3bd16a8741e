/-- an answer of the class's; only the space may have changed -/
def qcp2 (G : Nat → Nat → Int32) (L : Nat → Nat → Int64) (v : Int) (q : Nat) (th : Nat → Bool) (rs : Nat → Nat → Nat) : Option Value → fv_F → Option Nat → Prop := fun r2 f2 al2 => ∃ G2 : Nat → Nat → Int32, r2 = some (.int (iI v)) ∧ f2 = fw cT G2 L ∧ al2 = none ∧ spc G2 q th rs ∧ ∀ i, (i < 31 ∨ 50 < i) → G2 i = G i
theorem spc_o {G G2 : Nat → Nat → Int32} {q : Nat} {th : Nat → Bool} {rs : Nat → Nat → Nat} (h : spc G q th rs) (ho : offp G G2) : spc G2 q th rs := by
  obtain ⟨h1, h2, h3, h4⟩ := h
  refine ⟨by rw [ho 31 (by decide) (by decide)]; exact h1, h2, fun r hr => by rw [ho _ (by omega) (by omega)]; exact h3 r hr, fun r hr ht j hj => by rw [ho _ (by omega) (by omega)]; exact h4 r hr ht j hj⟩
def tF (_ : Nat) : Bool := false
def tS (th : Nat → Bool) (r : Nat) (v : Bool) (s : Nat) : Bool := if s = r then v else th s
def rS (rs : Nat → Nat → Nat) (r : Nat) (l : Nat → Nat) (s : Nat) : Nat → Nat := if s = r then l else rs s
theorem tS_e (th : Nat → Bool) (r : Nat) (v : Bool) : tS th r v r = v := if_pos rfl
theorem tS_n {th : Nat → Bool} {r s : Nat} {v : Bool} (h : s ≠ r) : tS th r v s = th s := if_neg h
theorem rS_e (rs : Nat → Nat → Nat) (r : Nat) (l : Nat → Nat) : rS rs r l r = l := if_pos rfl
theorem rS_n {rs : Nat → Nat → Nat} {r s : Nat} {l : Nat → Nat} (h : s ≠ r) : rS rs r l s = rs s := if_neg h
theorem spc_f {G : Nat → Nat → Int32} {rs : Nat → Nat → Nat} {t : Nat} (ht : t = 2 ∨ t = 3 ∨ t = 5) : spc (vsh (g2 G 31 2 (nI t)) 8) t tF rs := by
  refine ⟨?_, ht, fun r hr => ?_, fun r hr h => absurd (show false = true from h) (by decide)⟩
  · unfold vsh
    rw [if_neg (by omega), g2_eq]
  · unfold vsh
    rw [if_pos (by omega)]
    rfl
theorem spc_d {G : Nat → Nat → Int32} {q : Nat} {th : Nat → Bool} {rs : Nat → Nat → Nat} (h : spc G q th rs) {r : Nat} (hr : r < 8) : spc (g2 G (35 + 2 * r) 1 (bI false)) q (tS th r false) rs := by
  obtain ⟨h1, h2, h3, h4⟩ := h
  refine ⟨by rw [g2_ne _ _ (by omega)]; exact h1, h2, fun s hs => ?_, fun s hs ht j hj => ?_⟩
  · by_cases e : s = r
    · rw [e, tS_e, g2_eq]
    · rw [tS_n e, g2_ne _ _ (by omega)]; exact h3 s hs
  · by_cases e : s = r
    · rw [e, tS_e] at ht; exact absurd ht (by decide)
    · rw [tS_n e] at ht
      rw [g2_ne _ _ (by omega)]
      exact h4 s hs ht j hj
theorem lyr_n {G : Nat → Nat → Int32} {q r a b : Nat} (i : Nat) (q1 : i ≠ 33) (q2 : i ≠ 34) (q3 : i ≠ 35 + 2 * r) (q4 : i ≠ 35 + 2 * r + 1) : lyr G q r a b i = G i := by
  funext j
  unfold lyr lyp w6 g2
  dsimp only
  rw [if_neg (by omega), if_neg (by omega), if_neg (by omega), if_neg (by omega)]
theorem spc_l {G : Nat → Nat → Int32} {q : Nat} {th : Nat → Bool} {rs : Nat → Nat → Nat} (h : spc G q th rs) {r a b : Nat} (hr : r < 8) (hn : ldf (plk a b q) ≠ 0) (hb : ∀ j, j < 6 → pln a b q j < 5) : spc (lyr G q r a b) q (tS th r true) (rS rs r (pln a b q)) := by
  obtain ⟨h1, h2, h3, h4⟩ := h
  refine ⟨by rw [lyr_n 31 (by omega) (by omega) (by omega) (by omega)]; exact h1, h2, fun s hs => ?_, fun s hs ht j hj => ?_⟩
  · by_cases e : s = r
    · rw [e, tS_e]
      unfold lyr
      rw [g2_eq, decide_eq_true hn]
    · rw [tS_n e, lyr_n _ (by omega) (by omega) (by omega) (by omega)]; exact h3 s hs
  · by_cases e : s = r
    · rw [e, rS_e]
      refine ⟨?_, hb j hj⟩
      unfold lyr
      rw [g2_ne _ _ (by omega)]
      unfold w6
      rw [if_pos ⟨rfl, hj⟩]
    · rw [tS_n e] at ht
      rw [rS_n e, lyr_n _ (by omega) (by omega) (by omega) (by omega)]
      exact h4 s hs ht j hj
theorem vsh_o {G : Nat → Nat → Int32} {t i : Nat} (h : i < 31 ∨ 50 < i) : vsh (g2 G 31 2 (nI t)) 8 i = G i := by
  funext j
  unfold vsh
  rw [if_neg (by omega), g2_ne _ _ (by omega)]
theorem lyp_o {G : Nat → Nat → Int32} {q a b : Nat} : offp G (lyp G q a b) := by
  intro i h1 h2
  funext j
  unfold lyp w6 g2
  dsimp only
  rw [if_neg (by omega), if_neg (by omega)]
theorem lyr_o {G : Nat → Nat → Int32} {q r a b i : Nat} (hr : r < 8) (h : i < 31 ∨ 50 < i) : lyr G q r a b i = G i := lyr_n i (by omega) (by omega) (by omega) (by omega)
theorem plk_b {x y q : Nat} (hq : 0 < q) (j : Nat) : plk x y q j < q := by
  unfold plk md
  have h1 := Int.emod_nonneg (plz x y (pli j) (plj j)) (show (q : Int) ≠ 0 by omega)
  have h2 := Int.emod_lt_of_pos (plz x y (pli j) (plj j)) (show (0 : Int) < (q : Int) by omega)
  omega
theorem pln_b {x y q : Nat} (hq : 0 < q) (j : Nat) : pln x y q j < q := by
  unfold pln lnr
  split
  · exact plk_b hq j
  · unfold nrm md
    have h1 := Int.emod_nonneg ((plk x y q j * fc q (ldf (plk x y q)) : Nat) : Int) (show (q : Int) ≠ 0 by omega)
    have h2 := Int.emod_lt_of_pos ((plk x y q j * fc q (ldf (plk x y q)) : Nat) : Int) (show (0 : Int) < (q : Int) by omega)
    omega
theorem isPt_b {q : Nat} {p : Int} (h : isPt q p = true) : 1 ≤ p ∧ p < 10000 := by
  unfold isPt at h
  rw [Bool.and_eq_true] at h
  exact of_decide_eq_true h.1
theorem isRd_1 {r : Int} (h : isRd r = true) : 0 ≤ r ∧ r < 8 := of_decide_eq_true h
theorem isBt_1 {r : Int} (h : isBt r = true) : 0 ≤ r ∧ r < 256 := of_decide_eq_true h
theorem att_t (th : Nat → Bool) (b : Nat) : ∀ k r, att th b k r = true → ∀ s, r ≤ s → s < r + k → btd b s = true → th s = true
  | 0, r, _, s, h1, h2, _ => by omega
  | k + 1, r, h, s, h1, h2, h3 => by
    unfold att at h
    by_cases e : s = r
    · rw [← e] at h
      cases ht : th s with
      | true => rfl
      | false =>
        rw [h3, ht] at h
        simp at h
    · refine att_t th b k (r + 1) ?_ s (by omega) (by omega) h3
      split at h
      · exact absurd h (by decide)
      · exact h

set_option maxRecDepth 4000 in
set_option maxHeartbeats 1000000 in
theorem C10_field  (G : Nat → Nat → Int32) (L : Nat → Nat → Int64) (q : Nat) (th : Nat → Bool) (rs : Nat → Nat → Nat) (hS : spc G q th rs) (f : Int) (f1 : -2147483648 ≤ f) (f2 : f < 2147483648) : fv_M Y10_field 2 0 0 [.ref 0, .int (iI f)] (fw cT G L) none (qcp2 G L (xFie q f) (if f = 2 ∨ f = 3 ∨ f = 5 then f.toNat else q) (if f = 2 ∨ f = 3 ∨ f = 5 then tF else th) rs) := by
  refine fv_enter rfl (Nat.le_of_ble_eq_true rfl) ?_
  obtain ⟨Q, hQ⟩ : ∃ Q : Option Value → fv_F → Option Nat → Prop, Q = (qcp2 G L (xFie q f) (if f = 2 ∨ f = 3 ∨ f = 5 then f.toNat else q) (if f = 2 ∨ f = 3 ∨ f = 5 then tF else th) rs) := ⟨_, rfl⟩
  rw [← hQ]
  show fv_At Y10_field 2 0 0 Q 0 [(0, .ref 0), (1, .int (iI f))] [] (fw cT G L) none 0 0
  refine fx_iload_n dX10_field_0 rfl (i := 1) rfl ?_
  refine fx_iconst (v := (nI 2)) dX10_field_1 (by decide) ?_
  refine fn_icmp_eqZ (a := f) (b := ((2 : Nat) : Int)) (tgt := 18) dX10_field_2 (by decide) (by omega) (by omega) (by omega) (by omega) (fun c2 => ?_) (fun c2 => ?_)
  · skip
    have hin : f = 2 ∨ f = 3 ∨ f = 5 := by omega
    obtain ⟨f0, rfl⟩ : ∃ z : Nat, f = (z : Int) := ⟨f.toNat, by omega⟩
    show fv_At Y10_field 2 0 0 Q 18 [(0, .ref 0), (1, .int (nI f0))] [] (fw cT G L) none 0 0
    refine fx_aload_n dX10_field_18 rfl (i := 0) rfl ?_
    refine fw_getr dX10_field_19 fd10_32 rfl rfl ?_
    refine fx_iload_n dX10_field_22 rfl (i := 1) rfl ?_
    refine fn_cV dX10_field_23 lk10_174 fv_c6 rfl (fw_at (show cT 31 = some (3, 6, 3, [some 32, some 33, none]) from rfl)) (C9_change G L q th rs hS f0) rfl rfl (by decide) (Nat.le_of_ble_eq_true rfl) ?_
    show fv_At Y10_field 2 0 0 Q 26 [(0, .ref 0), (1, .int (nI f0))] [.int (nI q)] (fw cT (vsh (g2 G 31 2 (nI f0)) 8) L) none 0 0
    exact fx_iret dX10_field_26 rfl rfl rfl (by rw [hQ]; exact (by rw [if_pos hin, if_pos hin]; exact ⟨_, by unfold xFie; rw [if_pos hin]; rfl, rfl, rfl, spc_f (by omega), fun i hi => vsh_o hi⟩))
  · skip
    refine fx_iload_n dX10_field_5 rfl (i := 1) rfl ?_
    refine fx_iconst (v := (nI 3)) dX10_field_6 (by decide) ?_
    refine fn_icmp_eqZ (a := f) (b := ((3 : Nat) : Int)) (tgt := 18) dX10_field_7 (by decide) (by omega) (by omega) (by omega) (by omega) (fun c7 => ?_) (fun c7 => ?_)
    · skip
      have hin : f = 2 ∨ f = 3 ∨ f = 5 := by omega
      obtain ⟨f0, rfl⟩ : ∃ z : Nat, f = (z : Int) := ⟨f.toNat, by omega⟩
      show fv_At Y10_field 2 0 0 Q 18 [(0, .ref 0), (1, .int (nI f0))] [] (fw cT G L) none 0 0
      refine fx_aload_n dX10_field_18 rfl (i := 0) rfl ?_
      refine fw_getr dX10_field_19 fd10_32 rfl rfl ?_
      refine fx_iload_n dX10_field_22 rfl (i := 1) rfl ?_
      refine fn_cV dX10_field_23 lk10_174 fv_c6 rfl (fw_at (show cT 31 = some (3, 6, 3, [some 32, some 33, none]) from rfl)) (C9_change G L q th rs hS f0) rfl rfl (by decide) (Nat.le_of_ble_eq_true rfl) ?_
      show fv_At Y10_field 2 0 0 Q 26 [(0, .ref 0), (1, .int (nI f0))] [.int (nI q)] (fw cT (vsh (g2 G 31 2 (nI f0)) 8) L) none 0 0
      exact fx_iret dX10_field_26 rfl rfl rfl (by rw [hQ]; exact (by rw [if_pos hin, if_pos hin]; exact ⟨_, by unfold xFie; rw [if_pos hin]; rfl, rfl, rfl, spc_f (by omega), fun i hi => vsh_o hi⟩))
    · skip
      refine fx_iload_n dX10_field_10 rfl (i := 1) rfl ?_
      refine fx_iconst (v := (nI 5)) dX10_field_11 (by decide) ?_
      refine fn_icmp_eqZ (a := f) (b := ((5 : Nat) : Int)) (tgt := 18) dX10_field_12 (by decide) (by omega) (by omega) (by omega) (by omega) (fun c12 => ?_) (fun c12 => ?_)
      · skip
        have hin : f = 2 ∨ f = 3 ∨ f = 5 := by omega
        obtain ⟨f0, rfl⟩ : ∃ z : Nat, f = (z : Int) := ⟨f.toNat, by omega⟩
        show fv_At Y10_field 2 0 0 Q 18 [(0, .ref 0), (1, .int (nI f0))] [] (fw cT G L) none 0 0
        refine fx_aload_n dX10_field_18 rfl (i := 0) rfl ?_
        refine fw_getr dX10_field_19 fd10_32 rfl rfl ?_
        refine fx_iload_n dX10_field_22 rfl (i := 1) rfl ?_
        refine fn_cV dX10_field_23 lk10_174 fv_c6 rfl (fw_at (show cT 31 = some (3, 6, 3, [some 32, some 33, none]) from rfl)) (C9_change G L q th rs hS f0) rfl rfl (by decide) (Nat.le_of_ble_eq_true rfl) ?_
        show fv_At Y10_field 2 0 0 Q 26 [(0, .ref 0), (1, .int (nI f0))] [.int (nI q)] (fw cT (vsh (g2 G 31 2 (nI f0)) 8) L) none 0 0
        exact fx_iret dX10_field_26 rfl rfl rfl (by rw [hQ]; exact (by rw [if_pos hin, if_pos hin]; exact ⟨_, by unfold xFie; rw [if_pos hin]; rfl, rfl, rfl, spc_f (by omega), fun i hi => vsh_o hi⟩))
      · skip
        refine fx_bipush (v := (iI (-2))) dX10_field_15 (by decide) ?_
        exact fx_iret dX10_field_17 rfl rfl rfl (by rw [hQ]; exact (by rw [if_neg (by omega), if_neg (by omega)]; exact ⟨G, by unfold xFie; rw [if_neg (by omega)], rfl, rfl, hS, fun _ _ => rfl⟩))

set_option maxRecDepth 4000 in
set_option maxHeartbeats 1000000 in
theorem C10_rod  (G : Nat → Nat → Int32) (L : Nat → Nat → Int64) (q : Nat) (th : Nat → Bool) (rs : Nat → Nat → Nat) (hS : spc G q th rs) (r a b : Int) (r1 : -2147483648 ≤ r) (r2 : r < 2147483648) (a1 : -2147483648 ≤ a) (a2 : a < 2147483648) (b1 : -2147483648 ≤ b) (b2 : b < 2147483648) : fv_M Y10_rod 5 0 0 [.ref 0, .int (iI r), .int (iI a), .int (iI b)] (fw cT G L) none (qcp2 G L (xRod q r a b) q (if xRod q r a b = 1 then tS th r.toNat true else th) (if xRod q r a b = 1 then rS rs r.toNat (pln a.toNat b.toNat q) else rs)) := by
  refine fv_enter rfl (Nat.le_of_ble_eq_true rfl) ?_
  obtain ⟨Q, hQ⟩ : ∃ Q : Option Value → fv_F → Option Nat → Prop, Q = (qcp2 G L (xRod q r a b) q (if xRod q r a b = 1 then tS th r.toNat true else th) (if xRod q r a b = 1 then rS rs r.toNat (pln a.toNat b.toNat q) else rs)) := ⟨_, rfl⟩
  rw [← hQ]
  show fv_At Y10_rod 5 0 0 Q 0 [(0, .ref 0), (1, .int (iI r)), (2, .int (iI a)), (3, .int (iI b))] [] (fw cT G L) none 0 0
  have hq5 : 0 < q ∧ q ≤ 5 := by have := hS.2.1; omega
  refine fx_iload_n dX10_rod_0 rfl (i := 1) rfl ?_
  refine fn_cS dX10_rod_1 lk10_177 (C9_isRod r (by omega) (by omega) (fw cT G L)) rfl rfl (by decide) (Nat.le_of_ble_eq_true rfl) ?_
  show fv_At Y10_rod 5 0 0 Q 4 [(0, .ref 0), (1, .int (iI r)), (2, .int (iI a)), (3, .int (iI b))] [.int (bI (isRd r))] (fw cT G L) none 0 0
  refine fn_if_eqB (tgt := 29) dX10_rod_4 (by decide) (fun c4 => ?_) (fun c4 => ?_)
  · skip
    refine fx_bipush (v := (iI (-2))) dX10_rod_29 (by decide) ?_
    exact fx_iret dX10_rod_31 rfl rfl rfl (by rw [hQ]; exact (by rw [show xRod q r a b = -2 by unfold xRod; exact if_neg (fun w => by simp_all), if_neg (by decide), if_neg (by decide)]; exact ⟨G, rfl, rfl, rfl, hS, fun _ _ => rfl⟩))
  · skip
    refine fx_aload_n dX10_rod_7 rfl (i := 0) rfl ?_
    refine fw_getr dX10_rod_8 fd10_32 rfl rfl ?_
    refine fx_iload_n dX10_rod_11 rfl (i := 2) rfl ?_
    refine fn_cV dX10_rod_12 lk10_180 fv_c6 rfl (fw_at (show cT 31 = some (3, 6, 3, [some 32, some 33, none]) from rfl)) (C9_isPoint G L q th rs hS a (by omega) (by omega)) rfl rfl (by decide) (Nat.le_of_ble_eq_true rfl) ?_
    show fv_At Y10_rod 5 0 0 Q 15 [(0, .ref 0), (1, .int (iI r)), (2, .int (iI a)), (3, .int (iI b))] [.int (bI (isPt q a))] (fw cT G L) none 0 0
    refine fn_if_eqB (tgt := 29) dX10_rod_15 (by decide) (fun c15 => ?_) (fun c15 => ?_)
    · skip
      refine fx_bipush (v := (iI (-2))) dX10_rod_29 (by decide) ?_
      exact fx_iret dX10_rod_31 rfl rfl rfl (by rw [hQ]; exact (by rw [show xRod q r a b = -2 by unfold xRod; exact if_neg (fun w => by simp_all), if_neg (by decide), if_neg (by decide)]; exact ⟨G, rfl, rfl, rfl, hS, fun _ _ => rfl⟩))
    · skip
      refine fx_aload_n dX10_rod_18 rfl (i := 0) rfl ?_
      refine fw_getr dX10_rod_19 fd10_32 rfl rfl ?_
      refine fx_iload_n dX10_rod_22 rfl (i := 3) rfl ?_
      refine fn_cV dX10_rod_23 lk10_180 fv_c6 rfl (fw_at (show cT 31 = some (3, 6, 3, [some 32, some 33, none]) from rfl)) (C9_isPoint G L q th rs hS b (by omega) (by omega)) rfl rfl (by decide) (Nat.le_of_ble_eq_true rfl) ?_
      show fv_At Y10_rod 5 0 0 Q 26 [(0, .ref 0), (1, .int (iI r)), (2, .int (iI a)), (3, .int (iI b))] [.int (bI (isPt q b))] (fw cT G L) none 0 0
      refine fn_if_neB (tgt := 32) dX10_rod_26 (by decide) (fun c26 => ?_) (fun c26 => ?_)
      · skip
        have hr1 := isRd_1 c4
        have ha1 := isPt_b c15
        have hb1 := isPt_b c26
        obtain ⟨r0, rfl⟩ : ∃ z : Nat, r = (z : Int) := ⟨r.toNat, by omega⟩
        obtain ⟨a0, rfl⟩ : ∃ z : Nat, a = (z : Int) := ⟨a.toNat, by omega⟩
        obtain ⟨b0, rfl⟩ : ∃ z : Nat, b = (z : Int) := ⟨b.toNat, by omega⟩
        show fv_At Y10_rod 5 0 0 Q 32 [(0, .ref 0), (1, .int (nI r0)), (2, .int (nI a0)), (3, .int (nI b0))] [] (fw cT G L) none 0 0
        refine fx_aload_n dX10_rod_32 rfl (i := 0) rfl ?_
        refine fw_getr dX10_rod_33 fd10_32 rfl rfl ?_
        refine fx_iload_n dX10_rod_36 rfl (i := 1) rfl ?_
        refine fx_iload_n dX10_rod_37 rfl (i := 2) rfl ?_
        refine fx_iload_n dX10_rod_38 rfl (i := 3) rfl ?_
        refine fx_callV dX10_rod_39 lk10_183 fv_c6 rfl (fw_at (show cT 31 = some (3, 6, 3, [some 32, some 33, none]) from rfl)) (C9_lay G L q th rs hS r0 a0 b0 (by omega) (by omega) (by omega)) rfl rfl (by decide) (Nat.le_of_ble_eq_true rfl) (by decide) (by decide) (fun r39 f39 al39 h39 => ?_)
        obtain ⟨rfl, hf, rfl⟩ := h39
        rw [← ifG] at hf
        subst hf
        show fv_At Y10_rod 5 0 0 Q 42 [(0, .ref 0), (1, .int (nI r0)), (2, .int (nI a0)), (3, .int (nI b0))] [.int (bI (decide (ldf (plk a0 b0 q) ≠ 0)))] (fw cT (if ldf (plk a0 b0 q) ≠ 0 then lyr G q r0 a0 b0 else lyp G q a0 b0) L) none 0 0
        refine fn_if_eqB (tgt := 49) dX10_rod_42 (by decide) (fun c42 => ?_) (fun c42 => ?_)
        · skip
          refine fx_bipush (v := (iI (-2))) dX10_rod_49 (by decide) ?_
          exact fx_iret dX10_rod_51 rfl rfl rfl (by rw [hQ]; exact (by have hn := of_decide_eq_false c42; rw [show xRod q (r0 : Int) (a0 : Int) (b0 : Int) = -2 by unfold xRod; exact if_neg (fun w => hn w.2.2.2), if_neg (by decide), if_neg (by decide)]; refine ⟨_, rfl, rfl, rfl, ?_, ?_⟩; (rw [if_neg hn]; exact spc_o hS lyp_o); intro i hi; rw [if_neg hn]; exact lyp_o i (by omega) (by omega)))
        · skip
          refine fx_iconst (v := (nI 1)) dX10_rod_45 (by decide) ?_
          refine fx_goto (tgt := 51) dX10_rod_46 (by decide) ?_
          exact fx_iret dX10_rod_51 rfl rfl rfl (by rw [hQ]; exact (by have hn := of_decide_eq_true c42; rw [show xRod q (r0 : Int) (a0 : Int) (b0 : Int) = 1 by unfold xRod; exact if_pos ⟨c4, c15, c26, hn⟩, if_pos rfl, if_pos rfl]; refine ⟨_, rfl, rfl, rfl, ?_, ?_⟩; (rw [if_pos hn]; exact spc_l hS (by omega) hn (fun j _ => Nat.lt_of_lt_of_le (pln_b hq5.1 j) hq5.2)); intro i hi; rw [if_pos hn]; exact lyr_o (by omega) hi))
      · skip
        refine fx_bipush (v := (iI (-2))) dX10_rod_29 (by decide) ?_
        exact fx_iret dX10_rod_31 rfl rfl rfl (by rw [hQ]; exact (by rw [show xRod q r a b = -2 by unfold xRod; exact if_neg (fun w => by simp_all), if_neg (by decide), if_neg (by decide)]; exact ⟨G, rfl, rfl, rfl, hS, fun _ _ => rfl⟩))

set_option maxRecDepth 4000 in
set_option maxHeartbeats 1000000 in
theorem C10_drop  (G : Nat → Nat → Int32) (L : Nat → Nat → Int64) (q : Nat) (th : Nat → Bool) (rs : Nat → Nat → Nat) (hS : spc G q th rs) (r : Int) (r1 : -2147483648 ≤ r) (r2 : r < 2147483648) : fv_M Y10_drop 2 0 0 [.ref 0, .int (iI r)] (fw cT G L) none (qcp2 G L (xDro th r) q (if isRd r = true then tS th r.toNat false else th) rs) := by
  refine fv_enter rfl (Nat.le_of_ble_eq_true rfl) ?_
  obtain ⟨Q, hQ⟩ : ∃ Q : Option Value → fv_F → Option Nat → Prop, Q = (qcp2 G L (xDro th r) q (if isRd r = true then tS th r.toNat false else th) rs) := ⟨_, rfl⟩
  rw [← hQ]
  show fv_At Y10_drop 2 0 0 Q 0 [(0, .ref 0), (1, .int (iI r))] [] (fw cT G L) none 0 0
  refine fx_iload_n dX10_drop_0 rfl (i := 1) rfl ?_
  refine fn_cS dX10_drop_1 lk10_177 (C9_isRod r (by omega) (by omega) (fw cT G L)) rfl rfl (by decide) (Nat.le_of_ble_eq_true rfl) ?_
  show fv_At Y10_drop 2 0 0 Q 4 [(0, .ref 0), (1, .int (iI r))] [.int (bI (isRd r))] (fw cT G L) none 0 0
  refine fn_if_neB (tgt := 10) dX10_drop_4 (by decide) (fun c4 => ?_) (fun c4 => ?_)
  · skip
    have hr1 := isRd_1 c4
    obtain ⟨r0, rfl⟩ : ∃ z : Nat, r = (z : Int) := ⟨r.toNat, by omega⟩
    show fv_At Y10_drop 2 0 0 Q 10 [(0, .ref 0), (1, .int (nI r0))] [] (fw cT G L) none 0 0
    refine fx_aload_n dX10_drop_10 rfl (i := 0) rfl ?_
    refine fw_getr dX10_drop_11 fd10_32 rfl rfl ?_
    refine fx_iload_n dX10_drop_14 rfl (i := 1) rfl ?_
    refine fx_callV dX10_drop_15 lk10_186 fv_c6 rfl (fw_at (show cT 31 = some (3, 6, 3, [some 32, some 33, none]) from rfl)) (C9_remove G L q th rs hS r0 (by omega)) rfl rfl (by decide) (Nat.le_of_ble_eq_true rfl) (by decide) (by decide) (fun r15 f15 al15 h15 => ?_)
    obtain ⟨rfl, hf, rfl⟩ := h15
    rw [← ifG] at hf
    subst hf
    show fv_At Y10_drop 2 0 0 Q 18 [(0, .ref 0), (1, .int (nI r0))] [.int (bI (th r0))] (fw cT (if th r0 = true then g2 G (35 + 2 * r0) 1 (bI false) else G) L) none 0 0
    refine fn_if_eqB (tgt := 25) dX10_drop_18 (by decide) (fun c18 => ?_) (fun c18 => ?_)
    · skip
      refine fx_bipush (v := (iI (-3))) dX10_drop_25 (by decide) ?_
      exact fx_iret dX10_drop_27 rfl rfl rfl (by rw [hQ]; exact (by rw [if_pos c4]; refine ⟨_, by unfold xDro; rw [if_pos c4, if_neg (by simpa using c18)], rfl, rfl, ?_, ?_⟩; (rw [if_neg (by simpa using c18)]; have e : tS th (r0 : Int).toNat false = th := (by funext s; unfold tS; by_cases z : s = r0; (rw [z, c18]; exact if_pos rfl); exact if_neg z); rw [e]; exact hS); intro i hi; rw [if_neg (by simpa using c18)]))
    · skip
      refine fx_iconst (v := (nI 1)) dX10_drop_21 (by decide) ?_
      refine fx_goto (tgt := 27) dX10_drop_22 (by decide) ?_
      exact fx_iret dX10_drop_27 rfl rfl rfl (by rw [hQ]; exact (by rw [if_pos c4]; refine ⟨_, by unfold xDro; rw [if_pos c4, if_pos (by exact c18)]; rfl, rfl, rfl, ?_, ?_⟩; (rw [if_pos (by exact c18)]; exact spc_d hS (by omega)); intro i hi; rw [if_pos (by exact c18)]; exact g2_row _ _ (by omega)))
  · skip
    refine fx_bipush (v := (iI (-2))) dX10_drop_7 (by decide) ?_
    exact fx_iret dX10_drop_9 rfl rfl rfl (by rw [hQ]; exact (by rw [if_neg (by rw [c4]; decide)]; exact ⟨G, by unfold xDro; rw [c4]; rfl, rfl, rfl, hS, fun _ _ => rfl⟩))

set_option maxRecDepth 4000 in
set_option maxHeartbeats 1000000 in
theorem C10_meet  (G : Nat → Nat → Int32) (L : Nat → Nat → Int64) (q : Nat) (th : Nat → Bool) (rs : Nat → Nat → Nat) (hS : spc G q th rs) (a b : Int) (a1 : -2147483648 ≤ a) (a2 : a < 2147483648) (b1 : -2147483648 ≤ b) (b2 : b < 2147483648) : fv_M Y10_meet 4 0 0 [.ref 0, .int (iI a), .int (iI b)] (fw cT G L) none (fv_eq (some (.int (iI (xMee th rs q a b)))) (fw cT G L)) := by
  refine fv_enter rfl (Nat.le_of_ble_eq_true rfl) ?_
  obtain ⟨Q, hQ⟩ : ∃ Q : Option Value → fv_F → Option Nat → Prop, Q = (fv_eq (some (.int (iI (xMee th rs q a b)))) (fw cT G L)) := ⟨_, rfl⟩
  rw [← hQ]
  show fv_At Y10_meet 4 0 0 Q 0 [(0, .ref 0), (1, .int (iI a)), (2, .int (iI b))] [] (fw cT G L) none 0 0
  refine fx_iload_n dX10_meet_0 rfl (i := 1) rfl ?_
  refine fn_cS dX10_meet_1 lk10_177 (C9_isRod a (by omega) (by omega) (fw cT G L)) rfl rfl (by decide) (Nat.le_of_ble_eq_true rfl) ?_
  show fv_At Y10_meet 4 0 0 Q 4 [(0, .ref 0), (1, .int (iI a)), (2, .int (iI b))] [.int (bI (isRd a))] (fw cT G L) none 0 0
  refine fn_if_eqB (tgt := 14) dX10_meet_4 (by decide) (fun c4 => ?_) (fun c4 => ?_)
  · skip
    refine fx_bipush (v := (iI (-2))) dX10_meet_14 (by decide) ?_
    exact fx_iret dX10_meet_16 rfl rfl rfl (by rw [hQ]; exact ⟨by unfold xMee; rw [if_neg (fun w => by simp_all)], rfl, rfl⟩)
  · skip
    refine fx_iload_n dX10_meet_7 rfl (i := 2) rfl ?_
    refine fn_cS dX10_meet_8 lk10_177 (C9_isRod b (by omega) (by omega) (fw cT G L)) rfl rfl (by decide) (Nat.le_of_ble_eq_true rfl) ?_
    show fv_At Y10_meet 4 0 0 Q 11 [(0, .ref 0), (1, .int (iI a)), (2, .int (iI b))] [.int (bI (isRd b))] (fw cT G L) none 0 0
    refine fn_if_neB (tgt := 17) dX10_meet_11 (by decide) (fun c11 => ?_) (fun c11 => ?_)
    · skip
      have hr1 := isRd_1 c4
      have hr2 := isRd_1 c11
      obtain ⟨a0, rfl⟩ : ∃ z : Nat, a = (z : Int) := ⟨a.toNat, by omega⟩
      obtain ⟨b0, rfl⟩ : ∃ z : Nat, b = (z : Int) := ⟨b.toNat, by omega⟩
      show fv_At Y10_meet 4 0 0 Q 17 [(0, .ref 0), (1, .int (nI a0)), (2, .int (nI b0))] [] (fw cT G L) none 0 0
      refine fx_aload_n dX10_meet_17 rfl (i := 0) rfl ?_
      refine fw_getr dX10_meet_18 fd10_32 rfl rfl ?_
      refine fx_iload_n dX10_meet_21 rfl (i := 1) rfl ?_
      refine fx_iload_n dX10_meet_22 rfl (i := 2) rfl ?_
      refine fn_cV dX10_meet_23 lk10_189 fv_c6 rfl (fw_at (show cT 31 = some (3, 6, 3, [some 32, some 33, none]) from rfl)) (C9_howMet G L q th rs hS a0 b0 (by omega) (by omega)) rfl rfl (by decide) (Nat.le_of_ble_eq_true rfl) ?_
      show fv_At Y10_meet 4 0 0 Q 26 [(0, .ref 0), (1, .int (nI a0)), (2, .int (nI b0))] [.int (iI (hmt th rs q a0 b0))] (fw cT G L) none 0 0
      exact fx_iret dX10_meet_26 rfl rfl rfl (by rw [hQ]; exact ⟨by unfold xMee; rw [if_pos ⟨c4, c11⟩]; rfl, rfl, rfl⟩)
    · skip
      refine fx_bipush (v := (iI (-2))) dX10_meet_14 (by decide) ?_
      exact fx_iret dX10_meet_16 rfl rfl rfl (by rw [hQ]; exact ⟨by unfold xMee; rw [if_neg (fun w => by simp_all)], rfl, rfl⟩)

set_option maxRecDepth 4000 in
set_option maxHeartbeats 1000000 in
theorem C10_lines  (G : Nat → Nat → Int32) (L : Nat → Nat → Int64) (q : Nat) (th : Nat → Bool) (rs : Nat → Nat → Nat) (hS : spc G q th rs) (b : Int) (b1 : -2147483648 ≤ b) (b2 : b < 2147483648) : fv_M Y10_lines 6 0 0 [.ref 0, .int (iI b)] (fw cT G L) none (qcp2 G L (xLin th rs q b) q th rs) := by
  refine fv_enter rfl (Nat.le_of_ble_eq_true rfl) ?_
  obtain ⟨Q, hQ⟩ : ∃ Q : Option Value → fv_F → Option Nat → Prop, Q = (qcp2 G L (xLin th rs q b) q th rs) := ⟨_, rfl⟩
  rw [← hQ]
  show fv_At Y10_lines 6 0 0 Q 0 [(0, .ref 0), (1, .int (iI b))] [] (fw cT G L) none 0 0
  refine fx_iload_n dX10_lines_0 rfl (i := 1) rfl ?_
  refine fn_cS dX10_lines_1 lk10_192 (C9_areBits b (by omega) (by omega) (fw cT G L)) rfl rfl (by decide) (Nat.le_of_ble_eq_true rfl) ?_
  show fv_At Y10_lines 6 0 0 Q 4 [(0, .ref 0), (1, .int (iI b))] [.int (bI (isBt b))] (fw cT G L) none 0 0
  refine fn_if_neB (tgt := 10) dX10_lines_4 (by decide) (fun c4 => ?_) (fun c4 => ?_)
  · skip
    have hb1 := isBt_1 c4
    obtain ⟨b0, rfl⟩ : ∃ z : Nat, b = (z : Int) := ⟨b.toNat, by omega⟩
    show fv_At Y10_lines 6 0 0 Q 10 [(0, .ref 0), (1, .int (nI b0))] [] (fw cT G L) none 0 0
    refine fx_aload_n dX10_lines_10 rfl (i := 0) rfl ?_
    refine fw_getr dX10_lines_11 fd10_32 rfl rfl ?_
    refine fx_iload_n dX10_lines_14 rfl (i := 1) rfl ?_
    refine fn_cV dX10_lines_15 lk10_195 fv_c6 rfl (fw_at (show cT 31 = some (3, 6, 3, [some 32, some 33, none]) from rfl)) (C9_areThere G L q th rs hS b0 (by omega)) rfl rfl (by decide) (Nat.le_of_ble_eq_true rfl) ?_
    show fv_At Y10_lines 6 0 0 Q 18 [(0, .ref 0), (1, .int (nI b0))] [.int (bI (att th b0 8 0))] (fw cT G L) none 0 0
    refine fn_if_eqB (tgt := 32) dX10_lines_18 (by decide) (fun c18 => ?_) (fun c18 => ?_)
    · skip
      refine fx_bipush (v := (iI (-3))) dX10_lines_32 (by decide) ?_
      exact fx_iret dX10_lines_34 rfl rfl rfl (by rw [hQ]; exact ⟨G, by unfold xLin; rw [if_pos c4, if_neg (by simpa using c18)], rfl, rfl, hS, fun _ _ => rfl⟩)
    · skip
      have hth : ∀ r, r < 8 → btd b0 r = true → th r = true := fun r hr => att_t th b0 8 0 c18 r (Nat.zero_le _) (by omega)
      refine fx_aload_n dX10_lines_21 rfl (i := 0) rfl ?_
      refine fw_getr dX10_lines_22 fd10_32 rfl rfl ?_
      refine fx_iload_n dX10_lines_25 rfl (i := 1) rfl ?_
      refine fx_callV dX10_lines_26 lk10_198 fv_c6 rfl (fw_at (show cT 31 = some (3, 6, 3, [some 32, some 33, none]) from rfl)) (C9_linesMeeting G L q th rs hS b0 (by omega) hth) rfl rfl (by decide) (Nat.le_of_ble_eq_true rfl) (by decide) (by decide) (fun r26 f26 al26 h26 => ?_)
      obtain ⟨G2, rfl, rfl, rfl, ho2⟩ := h26
      show fv_At Y10_lines 6 0 0 Q 29 [(0, .ref 0), (1, .int (nI b0))] [.int (nI (lnm rs q b0))] (fw cT G2 L) none 0 0
      refine fx_goto (tgt := 34) dX10_lines_29 (by decide) ?_
      exact fx_iret dX10_lines_34 rfl rfl rfl (by rw [hQ]; exact ⟨G2, by unfold xLin; rw [if_pos c4, if_pos (by exact c18)]; rfl, rfl, rfl, spc_o hS ho2, fun i hi => ho2 i (by omega) (by omega)⟩)
  · skip
    refine fx_bipush (v := (iI (-2))) dX10_lines_7 (by decide) ?_
    exact fx_iret dX10_lines_9 rfl rfl rfl (by rw [hQ]; exact ⟨G, by unfold xLin; rw [c4]; rfl, rfl, rfl, hS, fun _ _ => rfl⟩)

set_option maxRecDepth 4000 in
set_option maxHeartbeats 1000000 in
theorem C10_points  (G : Nat → Nat → Int32) (L : Nat → Nat → Int64) (q : Nat) (th : Nat → Bool) (rs : Nat → Nat → Nat) (hS : spc G q th rs) (b : Int) (b1 : -2147483648 ≤ b) (b2 : b < 2147483648) : fv_M Y10_points 6 0 0 [.ref 0, .int (iI b)] (fw cT G L) none (qcp2 G L (xPoi th rs q b) q th rs) := by
  refine fv_enter rfl (Nat.le_of_ble_eq_true rfl) ?_
  obtain ⟨Q, hQ⟩ : ∃ Q : Option Value → fv_F → Option Nat → Prop, Q = (qcp2 G L (xPoi th rs q b) q th rs) := ⟨_, rfl⟩
  rw [← hQ]
  show fv_At Y10_points 6 0 0 Q 0 [(0, .ref 0), (1, .int (iI b))] [] (fw cT G L) none 0 0
  refine fx_iload_n dX10_points_0 rfl (i := 1) rfl ?_
  refine fn_cS dX10_points_1 lk10_192 (C9_areBits b (by omega) (by omega) (fw cT G L)) rfl rfl (by decide) (Nat.le_of_ble_eq_true rfl) ?_
  show fv_At Y10_points 6 0 0 Q 4 [(0, .ref 0), (1, .int (iI b))] [.int (bI (isBt b))] (fw cT G L) none 0 0
  refine fn_if_neB (tgt := 10) dX10_points_4 (by decide) (fun c4 => ?_) (fun c4 => ?_)
  · skip
    have hb1 := isBt_1 c4
    obtain ⟨b0, rfl⟩ : ∃ z : Nat, b = (z : Int) := ⟨b.toNat, by omega⟩
    show fv_At Y10_points 6 0 0 Q 10 [(0, .ref 0), (1, .int (nI b0))] [] (fw cT G L) none 0 0
    refine fx_aload_n dX10_points_10 rfl (i := 0) rfl ?_
    refine fw_getr dX10_points_11 fd10_32 rfl rfl ?_
    refine fx_iload_n dX10_points_14 rfl (i := 1) rfl ?_
    refine fn_cV dX10_points_15 lk10_195 fv_c6 rfl (fw_at (show cT 31 = some (3, 6, 3, [some 32, some 33, none]) from rfl)) (C9_areThere G L q th rs hS b0 (by omega)) rfl rfl (by decide) (Nat.le_of_ble_eq_true rfl) ?_
    show fv_At Y10_points 6 0 0 Q 18 [(0, .ref 0), (1, .int (nI b0))] [.int (bI (att th b0 8 0))] (fw cT G L) none 0 0
    refine fn_if_eqB (tgt := 32) dX10_points_18 (by decide) (fun c18 => ?_) (fun c18 => ?_)
    · skip
      refine fx_bipush (v := (iI (-3))) dX10_points_32 (by decide) ?_
      exact fx_iret dX10_points_34 rfl rfl rfl (by rw [hQ]; exact ⟨G, by unfold xPoi; rw [if_pos c4, if_neg (by simpa using c18)], rfl, rfl, hS, fun _ _ => rfl⟩)
    · skip
      have hth : ∀ r, r < 8 → btd b0 r = true → th r = true := fun r hr => att_t th b0 8 0 c18 r (Nat.zero_le _) (by omega)
      refine fx_aload_n dX10_points_21 rfl (i := 0) rfl ?_
      refine fw_getr dX10_points_22 fd10_32 rfl rfl ?_
      refine fx_iload_n dX10_points_25 rfl (i := 1) rfl ?_
      refine fn_cV dX10_points_26 lk10_201 fv_c6 rfl (fw_at (show cT 31 = some (3, 6, 3, [some 32, some 33, none]) from rfl)) (C9_pointsOn G L q th rs hS b0 (by omega) hth) rfl rfl (by decide) (Nat.le_of_ble_eq_true rfl) ?_
      show fv_At Y10_points 6 0 0 Q 29 [(0, .ref 0), (1, .int (nI b0))] [.int (nI (pon rs q b0))] (fw cT G L) none 0 0
      refine fx_goto (tgt := 34) dX10_points_29 (by decide) ?_
      exact fx_iret dX10_points_34 rfl rfl rfl (by rw [hQ]; exact ⟨G, by unfold xPoi; rw [if_pos c4, if_pos (by exact c18)]; rfl, rfl, rfl, hS, fun _ _ => rfl⟩)
  · skip
    refine fx_bipush (v := (iI (-2))) dX10_points_7 (by decide) ?_
    exact fx_iret dX10_points_9 rfl rfl rfl (by rw [hQ]; exact ⟨G, by unfold xPoi; rw [c4]; rfl, rfl, rfl, hS, fun _ _ => rfl⟩)

/-- what count answers -/
def xCou (n0 n1 n2 n3 n4 n5 : Nat) (w : Int) : Int := if w = 0 then (n0 : Nat) else if w = 1 then (n1 : Nat) else if w = 2 then (n2 : Nat) else if w = 3 then (n3 : Nat) else if w = 4 then (n4 : Nat) else if w = 5 then (n5 : Nat) else -2

set_option maxRecDepth 4000 in
set_option maxHeartbeats 1000000 in
theorem C10_count  (G : Nat → Nat → Int32) (L : Nat → Nat → Int64) (T : Nat → tms) (t : Nat → Bool) (hC : csh G T t) (k m : Nat) (bs : List Nat) (hl : lsp G k m bs) (q : Nat) (th : Nat → Bool) (rs : Nat → Nat → Nat) (hS : spc G q th rs) (w : Int) (w1 : -2147483648 ≤ w) (w2 : w < 2147483648) : fv_M Y10_count 3 0 0 [.ref 0, .int (iI w)] (fw cT G L) none (fv_eq (some (.int (iI (xCou (kpt t 12 0 0) bs.length k m q (rct th 8 0 0) w)))) (fw cT G L)) := by
  refine fv_enter rfl (Nat.le_of_ble_eq_true rfl) ?_
  obtain ⟨Q, hQ⟩ : ∃ Q : Option Value → fv_F → Option Nat → Prop, Q = (fv_eq (some (.int (iI (xCou (kpt t 12 0 0) bs.length k m q (rct th 8 0 0) w)))) (fw cT G L)) := ⟨_, rfl⟩
  rw [← hQ]
  show fv_At Y10_count 3 0 0 Q 0 [(0, .ref 0), (1, .int (iI w))] [] (fw cT G L) none 0 0
  refine fx_iload_n dX10_count_0 rfl (i := 1) rfl ?_
  rcases (show w = 0 ∨ w = 1 ∨ w = 2 ∨ w = 3 ∨ w = 4 ∨ w = 5 ∨ (w < 0 ∨ 5 < w) by omega) with rfl | rfl | rfl | rfl | rfl | rfl | c1
  · refine fx_tableIn (off := 39) (tgt := 40) dX10_count_1 (by decide) (by decide) rfl (by decide) ?_
    show fv_At Y10_count 3 0 0 Q 40 [(0, .ref 0), (1, .int (nI 0))] [] (fw cT G L) none 0 0
    refine fx_aload_n dX10_count_40 rfl (i := 0) rfl ?_
    refine fn_cV dX10_count_41 lk10_204 fv_c7 rfl (fw_at (show cT 0 = some (3, 7, 4, [some 1, some 2, some 15, some 31]) from rfl)) (C10_keptSheets G L T t hC) rfl rfl (by decide) (Nat.le_of_ble_eq_true rfl) ?_
    show fv_At Y10_count 3 0 0 Q 44 [(0, .ref 0), (1, .int (nI 0))] [.int (nI (kpt t 12 0 0))] (fw cT G L) none 0 0
    exact fx_iret dX10_count_44 rfl rfl rfl (by rw [hQ]; exact ⟨rfl, rfl, rfl⟩)
  · refine fx_tableIn (off := 44) (tgt := 45) dX10_count_1 (by decide) (by decide) rfl (by decide) ?_
    show fv_At Y10_count 3 0 0 Q 45 [(0, .ref 0), (1, .int (nI 1))] [] (fw cT G L) none 0 0
    refine fx_aload_n dX10_count_45 rfl (i := 0) rfl ?_
    refine fw_getr dX10_count_46 fd10_25 rfl rfl ?_
    refine fn_cV dX10_count_49 lk10_207 fv_c1 rfl (fw_at (show cT 15 = some (3, 1, 8, [some 16, some 27, some 28, some 29, some 30, none, none, none]) from rfl)) (C2_size G L k m bs hl) rfl rfl (by decide) (Nat.le_of_ble_eq_true rfl) ?_
    show fv_At Y10_count 3 0 0 Q 52 [(0, .ref 0), (1, .int (nI 1))] [.int (nI bs.length)] (fw cT G L) none 0 0
    exact fx_iret dX10_count_52 rfl rfl rfl (by rw [hQ]; exact ⟨rfl, rfl, rfl⟩)
  · refine fx_tableIn (off := 52) (tgt := 53) dX10_count_1 (by decide) (by decide) rfl (by decide) ?_
    show fv_At Y10_count 3 0 0 Q 53 [(0, .ref 0), (1, .int (nI 2))] [] (fw cT G L) none 0 0
    refine fx_aload_n dX10_count_53 rfl (i := 0) rfl ?_
    refine fw_getr dX10_count_54 fd10_25 rfl rfl ?_
    refine fn_cV dX10_count_57 lk10_161 fv_c1 rfl (fw_at (show cT 15 = some (3, 1, 8, [some 16, some 27, some 28, some 29, some 30, none, none, none]) from rfl)) (C2_rows G L k m bs hl) rfl rfl (by decide) (Nat.le_of_ble_eq_true rfl) ?_
    show fv_At Y10_count 3 0 0 Q 60 [(0, .ref 0), (1, .int (nI 2))] [.int (nI k)] (fw cT G L) none 0 0
    exact fx_iret dX10_count_60 rfl rfl rfl (by rw [hQ]; exact ⟨rfl, rfl, rfl⟩)
  · refine fx_tableIn (off := 60) (tgt := 61) dX10_count_1 (by decide) (by decide) rfl (by decide) ?_
    show fv_At Y10_count 3 0 0 Q 61 [(0, .ref 0), (1, .int (nI 3))] [] (fw cT G L) none 0 0
    refine fx_aload_n dX10_count_61 rfl (i := 0) rfl ?_
    refine fw_getr dX10_count_62 fd10_25 rfl rfl ?_
    refine fn_cV dX10_count_65 lk10_164 fv_c1 rfl (fw_at (show cT 15 = some (3, 1, 8, [some 16, some 27, some 28, some 29, some 30, none, none, none]) from rfl)) (C2_columns G L k m bs hl) rfl rfl (by decide) (Nat.le_of_ble_eq_true rfl) ?_
    show fv_At Y10_count 3 0 0 Q 68 [(0, .ref 0), (1, .int (nI 3))] [.int (nI m)] (fw cT G L) none 0 0
    exact fx_iret dX10_count_68 rfl rfl rfl (by rw [hQ]; exact ⟨rfl, rfl, rfl⟩)
  · refine fx_tableIn (off := 68) (tgt := 69) dX10_count_1 (by decide) (by decide) rfl (by decide) ?_
    show fv_At Y10_count 3 0 0 Q 69 [(0, .ref 0), (1, .int (nI 4))] [] (fw cT G L) none 0 0
    refine fx_aload_n dX10_count_69 rfl (i := 0) rfl ?_
    refine fw_getr dX10_count_70 fd10_32 rfl rfl ?_
    refine fn_cV dX10_count_73 lk10_208 fv_c6 rfl (fw_at (show cT 31 = some (3, 6, 3, [some 32, some 33, none]) from rfl)) (C9_order G L q th rs hS) rfl rfl (by decide) (Nat.le_of_ble_eq_true rfl) ?_
    show fv_At Y10_count 3 0 0 Q 76 [(0, .ref 0), (1, .int (nI 4))] [.int (nI q)] (fw cT G L) none 0 0
    exact fx_iret dX10_count_76 rfl rfl rfl (by rw [hQ]; exact ⟨rfl, rfl, rfl⟩)
  · refine fx_tableIn (off := 76) (tgt := 77) dX10_count_1 (by decide) (by decide) rfl (by decide) ?_
    show fv_At Y10_count 3 0 0 Q 77 [(0, .ref 0), (1, .int (nI 5))] [] (fw cT G L) none 0 0
    refine fx_aload_n dX10_count_77 rfl (i := 0) rfl ?_
    refine fw_getr dX10_count_78 fd10_32 rfl rfl ?_
    refine fn_cV dX10_count_81 lk10_211 fv_c6 rfl (fw_at (show cT 31 = some (3, 6, 3, [some 32, some 33, none]) from rfl)) (C9_rodsThere G L q th rs hS) rfl rfl (by decide) (Nat.le_of_ble_eq_true rfl) ?_
    show fv_At Y10_count 3 0 0 Q 84 [(0, .ref 0), (1, .int (nI 5))] [.int (nI (rct th 8 0 0))] (fw cT G L) none 0 0
    exact fx_iret dX10_count_84 rfl rfl rfl (by rw [hQ]; exact ⟨rfl, rfl, rfl⟩)
  · refine fx_tableOut (tgt := 85) dX10_count_1 (by rw [iI_t (by omega) (by omega)]; omega) (by decide) ?_
    refine fx_bipush (v := (iI (-2))) dX10_count_85 (by decide) ?_
    exact fx_iret dX10_count_87 rfl rfl rfl (by rw [hQ]; exact ⟨by unfold xCou; rw [if_neg (by omega), if_neg (by omega), if_neg (by omega), if_neg (by omega), if_neg (by omega), if_neg (by omega)], rfl, rfl⟩)

/-- digest: counts, sheets, list -/
def dgc (c : Int → Int) : Nat → Nat → Int64 → Int64
  | 0, _, h => h
  | k + 1, w, h => dgc c k (w + 1) (31 * h + (iI (c (w : Int))).toInt64)
theorem dgc_s (c : Int → Int) (k w : Nat) (h : Int64) : dgc c (k + 1) w h = dgc c k (w + 1) (31 * h + (iI (c (w : Int))).toInt64) := rfl
def dgs (T : Nat → tms) (t : Nat → Bool) : Nat → Nat → Int64 → Int64
  | 0, _, h => h
  | k + 1, s, h => dgs T t k (s + 1) (if t s = true then dgl (T s) (31 * (31 * h + (nI s).toInt64) + (nI (T s).length).toInt64) else h)
theorem dgs_s (T : Nat → tms) (t : Nat → Bool) (k s : Nat) (h : Int64) : dgs T t (k + 1) s h = dgs T t k (s + 1) (if t s = true then dgl (T s) (31 * (31 * h + (nI s).toInt64) + (nI (T s).length).toInt64) else h) := rfl
def xDig (c : Int → Int) (T : Nat → tms) (t : Nat → Bool) (bs : List Nat) : Int64 := bgl bs (dgs T t 12 0 (dgc c 6 0 17))

set_option maxRecDepth 4000 in
set_option maxHeartbeats 1000000 in
theorem C10_digest  (G : Nat → Nat → Int32) (L : Nat → Nat → Int64) (T : Nat → tms) (t : Nat → Bool) (hC : csh G T t) (k m : Nat) (bs : List Nat) (hl : lsp G k m bs) (q : Nat) (th : Nat → Bool) (rs : Nat → Nat → Nat) (hS : spc G q th rs)  : fv_M Y10_digest 4 0 0 [.ref 0] (fw cT G L) none (fv_eq (some (.long (xDig (xCou (kpt t 12 0 0) bs.length k m q (rct th 8 0 0)) T t bs))) (fw cT G L)) := by
  refine fv_enter rfl (Nat.le_of_ble_eq_true rfl) ?_
  obtain ⟨Q, hQ⟩ : ∃ Q : Option Value → fv_F → Option Nat → Prop, Q = (fv_eq (some (.long (xDig (xCou (kpt t 12 0 0) bs.length k m q (rct th 8 0 0)) T t bs))) (fw cT G L)) := ⟨_, rfl⟩
  rw [← hQ]
  show fv_At Y10_digest 4 0 0 Q 0 [(0, .ref 0)] [] (fw cT G L) none 0 0
  refine fx_ldc2 (v := 17) dX10_digest_0 kc10_214 ?_
  refine fx_lstore_n (lv2 := [(0, .ref 0), (1, .long 17)]) dX10_digest_3 (i := 1) rfl (by decide) rfl ?_
  refine fx_iconst (v := (nI 0)) dX10_digest_4 (by decide) ?_
  refine fx_istore_n (lv2 := [(0, .ref 0), (1, .long 17), (3, .int (nI 0))]) dX10_digest_5 (i := 3) rfl (by decide) rfl ?_
  have L6 : ∀ (k1 : Nat) (h : Int64) (w : Nat), (w + k1 = 6) → (dgc (xCou (kpt t 12 0 0) bs.length k m q (rct th 8 0 0)) k1 w h = dgc (xCou (kpt t 12 0 0) bs.length k m q (rct th 8 0 0)) 6 0 17) → fv_At Y10_digest 4 0 0 Q 6 [(0, .ref 0), (1, .long h), (3, .int (nI w))] [] (fw cT G L) none 0 0 := by
    intro k1
    induction k1 with
    | zero =>
      intro h w hw hR
      refine fx_iload_n dX10_digest_6 rfl (i := 3) rfl ?_
      refine fx_iconst (v := (nI 5)) dX10_digest_7 (by decide) ?_
      refine fn_icmp_gt (tgt := 30) dX10_digest_8 (by decide) (by omega) (by omega) (fun c8 => ?_) (fun c8 => ?_)
      · skip
        refine fx_iconst (v := (nI 0)) dX10_digest_30 (by decide) ?_
        refine fx_istore_n (lv2 := [(0, .ref 0), (1, .long h), (3, .int (nI 0))]) dX10_digest_31 (i := 3) rfl (by decide) rfl ?_
        have L32 : ∀ (k2 : Nat) (h2 : Int64) (s : Nat), (s + k2 = 12) → (dgs T t k2 s h2 = dgs T t 12 0 (dgc (xCou (kpt t 12 0 0) bs.length k m q (rct th 8 0 0)) 6 0 17)) → fv_At Y10_digest 4 0 0 Q 32 [(0, .ref 0), (1, .long h2), (3, .int (nI s))] [] (fw cT G L) none 0 0 := by
          intro k2
          induction k2 with
          | zero =>
            intro h2 s hs hR2
            refine fx_iload_n dX10_digest_32 rfl (i := 3) rfl ?_
            refine fx_bipush (v := (nI 12)) dX10_digest_33 (by decide) ?_
            refine fn_icmp_ge (tgt := 70) dX10_digest_35 (by decide) (by omega) (by omega) (fun c35 => ?_) (fun c35 => ?_)
            · skip
              refine fx_aload_n dX10_digest_70 rfl (i := 0) rfl ?_
              refine fw_getr dX10_digest_71 fd10_25 rfl rfl ?_
              refine fx_lload_n dX10_digest_74 rfl (i := 1) rfl ?_
              refine fn_cV dX10_digest_75 lk10_225 fv_c1 rfl (fw_at (show cT 15 = some (3, 1, 8, [some 16, some 27, some 28, some 29, some 30, none, none, none]) from rfl)) (C2_digestOn G L k m bs hl h2) rfl rfl (by decide) (Nat.le_of_ble_eq_true rfl) ?_
              show fv_At Y10_digest 4 0 0 Q 78 [(0, .ref 0), (1, .long h2), (3, .int (nI s))] [.long (bgl bs h2)] (fw cT G L) none 0 0
              exact fx_lret dX10_digest_78 rfl rfl rfl (by rw [hQ]; exact ⟨by rw [show h2 = dgs T t 12 0 (dgc (xCou (kpt t 12 0 0) bs.length k m q (rct th 8 0 0)) 6 0 17) from hR2]; rfl, rfl, rfl⟩)
            · exfalso; omega
          | succ k2 ih32 =>
            intro h2 s hs hR2
            refine fx_iload_n dX10_digest_32 rfl (i := 3) rfl ?_
            refine fx_bipush (v := (nI 12)) dX10_digest_33 (by decide) ?_
            refine fn_icmp_ge (tgt := 70) dX10_digest_35 (by decide) (by omega) (by omega) (fun c35 => ?_) (fun c35 => ?_)
            · exfalso; omega
            · skip
              refine fx_aload_n dX10_digest_38 rfl (i := 0) rfl ?_
              refine fx_iload_n dX10_digest_39 rfl (i := 3) rfl ?_
              refine fn_cV dX10_digest_40 lk10_67 fv_c7 rfl (fw_at (show cT 0 = some (3, 7, 4, [some 1, some 2, some 15, some 31]) from rfl)) (C10_isLost G L T t hC s (by omega)) rfl rfl (by decide) (Nat.le_of_ble_eq_true rfl) ?_
              show fv_At Y10_digest 4 0 0 Q 43 [(0, .ref 0), (1, .long h2), (3, .int (nI s))] [.int (bI (!t s))] (fw cT G L) none 0 0
              refine fn_if_neB (tgt := 64) dX10_digest_43 (by decide) (fun c43 => ?_) (fun c43 => ?_)
              · skip
                refine fn_iinc (c := 1) (lv2 := [(0, .ref 0), (1, .long h2), (3, .int (nI (s + 1)))]) dX10_digest_64 (by decide) rfl (by decide) rfl ?_
                refine fx_goto (tgt := 32) dX10_digest_67 (by decide) ?_
                exact (ih32 h2 (s + 1) (by omega) (by rw [← hR2, dgs_s]; first | rw [if_pos (by simpa using c43)] | rw [if_neg (by simpa using c43)]))
              · skip
                refine fx_aload_n dX10_digest_46 rfl (i := 0) rfl ?_
                refine fw_getr dX10_digest_47 fd10_11 rfl rfl ?_
                refine fx_iload_n dX10_digest_50 rfl (i := 3) rfl ?_
                refine fw_aald (r := 51 + 3 * s) s dX10_digest_51 rfl (by decide) rfl (by omega) (by decide) (sheets_at (by omega)) ?_
                refine fx_ldc2 (v := 31) dX10_digest_52 kc10_216 ?_
                refine fx_lload_n dX10_digest_55 rfl (i := 1) rfl ?_
                refine fx_lmul dX10_digest_56 ?_
                refine fx_iload_n dX10_digest_57 rfl (i := 3) rfl ?_
                refine fx_i2l dX10_digest_58 ?_
                refine fx_ladd dX10_digest_59 ?_
                refine fn_cV dX10_digest_60 lk10_221 fv_c4 rfl (fw_at (sht_lay (by omega))) (C7_digestOn cT (51 + 3 * s) (sht_lay (by omega)) (sht_lay1 (by omega)) (sht_lay2 (by omega)) G L (T s) (t s) (hC s (by omega)) ((((31 * h2)) + ((((nI s)).toInt64))))) rfl rfl (by decide) (Nat.le_of_ble_eq_true rfl) ?_
                show fv_At Y10_digest 4 0 0 Q 63 [(0, .ref 0), (1, .long h2), (3, .int (nI s))] [.long (dgl (T s) (31 * ((((31 * h2)) + ((((nI s)).toInt64)))) + (nI (T s).length).toInt64))] (fw cT G L) none 0 0
                refine fx_lstore_n (lv2 := [(0, .ref 0), (1, .long (dgl (T s) (31 * ((((31 * h2)) + ((((nI s)).toInt64)))) + (nI (T s).length).toInt64))), (3, .int (nI s))]) dX10_digest_63 (i := 1) rfl (by decide) rfl ?_
                refine fn_iinc (c := 1) (lv2 := [(0, .ref 0), (1, .long (dgl (T s) (31 * ((((31 * h2)) + ((((nI s)).toInt64)))) + (nI (T s).length).toInt64))), (3, .int (nI (s + 1)))]) dX10_digest_64 (by decide) rfl (by decide) rfl ?_
                refine fx_goto (tgt := 32) dX10_digest_67 (by decide) ?_
                exact (ih32 ((dgl (T s) (31 * ((((31 * h2)) + ((((nI s)).toInt64)))) + (nI (T s).length).toInt64))) (s + 1) (by omega) (by rw [← hR2, dgs_s]; first | rw [if_pos (by simpa using c43)] | rw [if_neg (by simpa using c43)]))
        exact (L32 12 h 0 (by omega) (by rw [← hR]; rfl))
      · exfalso; omega
    | succ k1 ih6 =>
      intro h w hw hR
      refine fx_iload_n dX10_digest_6 rfl (i := 3) rfl ?_
      refine fx_iconst (v := (nI 5)) dX10_digest_7 (by decide) ?_
      refine fn_icmp_gt (tgt := 30) dX10_digest_8 (by decide) (by omega) (by omega) (fun c8 => ?_) (fun c8 => ?_)
      · exfalso; omega
      · skip
        refine fx_ldc2 (v := 31) dX10_digest_11 kc10_216 ?_
        refine fx_lload_n dX10_digest_14 rfl (i := 1) rfl ?_
        refine fx_lmul dX10_digest_15 ?_
        refine fx_aload_n dX10_digest_16 rfl (i := 0) rfl ?_
        refine fx_iload_n dX10_digest_17 rfl (i := 3) rfl ?_
        refine fn_cV dX10_digest_18 lk10_218 fv_c7 rfl (fw_at (show cT 0 = some (3, 7, 4, [some 1, some 2, some 15, some 31]) from rfl)) (C10_count G L T t hC k m bs hl q th rs hS ((w : Nat) : Int) (by omega) (by omega)) rfl rfl (by decide) (Nat.le_of_ble_eq_true rfl) ?_
        show fv_At Y10_digest 4 0 0 Q 21 [(0, .ref 0), (1, .long h), (3, .int (nI w))] [.int (iI (xCou (kpt t 12 0 0) bs.length k m q (rct th 8 0 0) ((w : Nat) : Int))), .long (31 * h)] (fw cT G L) none 0 0
        refine fx_i2l dX10_digest_21 ?_
        refine fx_ladd dX10_digest_22 ?_
        refine fx_lstore_n (lv2 := [(0, .ref 0), (1, .long (((31 * h)) + ((((iI (xCou (kpt t 12 0 0) bs.length k m q (rct th 8 0 0) ((w : Nat) : Int)))).toInt64)))), (3, .int (nI w))]) dX10_digest_23 (i := 1) rfl (by decide) rfl ?_
        refine fn_iinc (c := 1) (lv2 := [(0, .ref 0), (1, .long (((31 * h)) + ((((iI (xCou (kpt t 12 0 0) bs.length k m q (rct th 8 0 0) ((w : Nat) : Int)))).toInt64)))), (3, .int (nI (w + 1)))]) dX10_digest_24 (by decide) rfl (by decide) rfl ?_
        refine fx_goto (tgt := 6) dX10_digest_27 (by decide) ?_
        exact (ih6 ((((31 * h)) + ((((iI (xCou (kpt t 12 0 0) bs.length k m q (rct th 8 0 0) ((w : Nat) : Int)))).toInt64)))) (w + 1) (by omega) (by rw [← hR, dgc_s]))
  exact (L6 6 17 0 (by omega) rfl)
