theorem msh_G {G G2 : Nat → Nat → Int32} {L L2 : Nat → Nat → Int64} {T : Nat → tms} {t : Nat → Bool} (h : msh G L T t) (h3 : ∀ i j, i = 3 ∨ i = 4 ∨ i = 5 → G2 i j = G i j) (h6 : L2 6 = L 6) : msh G2 L2 T t := by
  intro s hs
  obtain ⟨a, b⟩ := h s hs
  refine ⟨by rw [h3 3 s (Or.inl rfl)]; exact a, fun ht => ?_⟩
  obtain ⟨c, d, e⟩ := b ht
  refine ⟨c, by rw [h3 4 s (Or.inr (Or.inl rfl))]; exact d, fun j hj => ?_⟩
  rw [h3 5 _ (Or.inr (Or.inr rfl)), h6]
  exact e j hj
/-- an answer of the model's, a long; all sheets stay -/
def qml (G : Nat → Nat → Int32) (L : Nat → Nat → Int64) (T : Nat → tms) (t : Nat → Bool) (v : Int64) : Option Value → fv_F → Option Nat → Prop := fun r2 f2 al2 => ∃ (G2 : Nat → Nat → Int32) (L2 : Nat → Nat → Int64), r2 = some (.long v) ∧ f2 = fw mT G2 L2 ∧ al2 = none ∧ msh G2 L2 T t ∧ moff G G2 L L2
theorem qml_of {G G1 : Nat → Nat → Int32} {L L1 : Nat → Nat → Int64} {T : Nat → tms} {t : Nat → Bool} (hM : msh G L T t) (hG : ∀ i j, i ≠ 1 → i ≠ 9 → ¬ (i = 0 ∧ j = 1) → G1 i j = G i j) (hL : ∀ i, i = 6 ∨ 12 ≤ i → L1 i = L i) (v : Int64) : qml G L T t v (some (.long v)) (fw mT G1 L1) none :=
  ⟨G1, L1, rfl, rfl, rfl, msh_G hM (fun i j h => hG i j (by omega) (by omega) (by omega)) (hL 6 (Or.inl rfl)), fun i j a b => hG i j (by omega) (by omega) a, fun i a => hL i (Or.inr a)⟩
theorem qms_G {G G1 : Nat → Nat → Int32} {L L1 : Nat → Nat → Int64} {T : Nat → tms} {t : Nat → Bool} {v : Int} {c : Nat} {ts : tms} {r : Option Value} {f : fv_F} {al : Option Nat} (h : qms G1 L1 T t v c ts r f al) (hG : ∀ i j, i ≠ 1 → i ≠ 9 → ¬ (i = 0 ∧ j = 1) → G1 i j = G i j) (hl : ∀ i, 12 ≤ i → L1 i = L i) : qms G L T t v c ts r f al := by
  obtain ⟨G2, L2, h1, h2, h3, h4, h5, h6⟩ := h
  exact ⟨G2, L2, h1, h2, h3, h4, fun i j a b => (h5 i j a b).trans (hG i j (by omega) (by omega) a), fun i hi => (h6 i hi).trans (hl i hi)⟩
theorem figs_q {w : Nat} (h : figs (w : Int) ≠ 0) : cpb (figs (w : Int)) true 10 w = cq true w := by
  unfold cq
  rw [(figs_N h).1]
/-- what polynomial makes at work, and what is answered -/
def yPol (c o : Int) : Int := if isSt c = true ∧ figs o ≠ 0 then stl (mpo o.toNat) else -2
/-- what constant comes to, without a refusal -/
def yCon (u v w : Int) : Int64 := if figs u ≠ 0 ∧ figs v ≠ 0 ∧ figs w ≠ 0 then mfl false (cq true w.toNat) (mO (mpo u.toNat) (mpo v.toNat) 59049 0 zS) else rfs (-2)

set_option maxRecDepth 4000 in
set_option maxHeartbeats 1000000 in
theorem C11_polynomial  (G : Nat → Nat → Int32) (L : Nat → Nat → Int64) (T : Nat → tms) (t : Nat → Bool) (hM : msh G L T t) (c o : Int) (c1 : -2147483648 ≤ c) (c2 : c < 2147483648) (o1 : -2147483648 ≤ o) (o2 : o < 2147483648) : fv_M Y11_polynomial 3 0 0 [.ref 0, .int (iI c), .int (iI o)] (fw mT G L) none (qms G L T t (yPol c o) c.toNat (trm (mpo o.toNat))) := by
  refine fv_enter rfl (Nat.le_of_ble_eq_true rfl) ?_
  obtain ⟨Q, hQ⟩ : ∃ Q : Option Value → fv_F → Option Nat → Prop, Q = (qms G L T t (yPol c o) c.toNat (trm (mpo o.toNat))) := ⟨_, rfl⟩
  rw [← hQ]
  show fv_At Y11_polynomial 3 0 0 Q 0 [(0, .ref 0), (1, .int (iI c)), (2, .int (iI o))] [] (fw mT G L) none 0 0
  refine fx_iload_n dX11_polynomial_0 rfl (i := 1) rfl ?_
  refine fn_cS dX11_polynomial_1 lk11_169 (C11_isSheet (s := c) (by omega) (by omega) (f := (fw mT G L))) rfl rfl (by decide) (Nat.le_of_ble_eq_true rfl) ?_
  show fv_At Y11_polynomial 3 0 0 Q 4 [(0, .ref 0), (1, .int (iI c)), (2, .int (iI o))] [.int (bI (isSt c))] (fw mT G L) none 0 0
  refine fn_if_eqB (tgt := 15) dX11_polynomial_4 (by decide) (fun c4 => ?_) (fun c4 => ?_)
  · skip
    refine fx_bipush (v := (iI (-2))) dX11_polynomial_15 (by decide) ?_
    exact fx_iret dX11_polynomial_17 rfl rfl rfl (by rw [hQ]; exact (by rw [show yPol c o = -2 by unfold yPol; exact if_neg (fun q => by first | exact absurd (c4.symm.trans q.1) (by decide) | exact absurd q.2 (of_decide_eq_false c12))]; exact qms_n hM moff_r (by decide) _ _))
  · skip
    refine fx_aload_n dX11_polynomial_7 rfl (i := 0) rfl ?_
    refine fx_iload_n dX11_polynomial_8 rfl (i := 2) rfl ?_
    refine fx_callV dX11_polynomial_9 lk11_133 fv_c8 rfl (fw_at (show mT 0 = some (3, 8, 38, [some 1, none, some 2, some 3, some 4, some 5, some 6, some 7, some 8, some 9, some 10, some 11, some 12, some 13, some 14, some 15, some 16, some 17, some 18, some 19, none, none, none, some 20, some 21, some 22, some 23, none, some 24, some 25, some 26, some 27, some 28, some 29, some 30, some 31, none, some 32]) from rfl)) (C11_reads G L o (by omega) (by omega)) rfl rfl (by decide) (Nat.le_of_ble_eq_true rfl) (by decide) (by decide) (fun r9 f9 al9 h9 => ?_)
    obtain ⟨G9, rfl, rfl, rfl, ho9, hm9⟩ := h9
    show fv_At Y11_polynomial 3 0 0 Q 12 [(0, .ref 0), (1, .int (iI c)), (2, .int (iI o))] [.int (bI (decide (figs o ≠ 0)))] (fw mT G9 L) none 0 0
    refine fn_if_neB (tgt := 18) dX11_polynomial_12 (by decide) (fun c12 => ?_) (fun c12 => ?_)
    · skip
      have hfo := of_decide_eq_true c12
      have hin : isSt c = true ∧ figs o ≠ 0 := ⟨c4, hfo⟩
      have hs1 := isSt_1 c4
      have hfb := figs_b hfo
      obtain ⟨c0, rfl⟩ : ∃ z : Nat, c = (z : Int) := ⟨c.toNat, by omega⟩
      obtain ⟨o0, rfl⟩ : ∃ z : Nat, o = (z : Int) := ⟨o.toNat, by omega⟩
      obtain ⟨hfN, hoL⟩ := figs_N hfo
      show fv_At Y11_polynomial 3 0 0 Q 18 [(0, .ref 0), (1, .int (nI c0)), (2, .int (nI o0))] [] (fw mT G9 L) none 0 0
      refine fx_aload_n dX11_polynomial_18 rfl (i := 0) rfl ?_
      refine fx_iload_n dX11_polynomial_19 rfl (i := 2) rfl ?_
      refine fx_callV dX11_polynomial_20 lk11_203 fv_c8 rfl (fw_at (show mT 0 = some (3, 8, 38, [some 1, none, some 2, some 3, some 4, some 5, some 6, some 7, some 8, some 9, some 10, some 11, some 12, some 13, some 14, some 15, some 16, some 17, some 18, some 19, none, none, none, some 20, some 21, some 22, some 23, none, some 24, some 25, some 26, some 27, some 28, some 29, some 30, some 31, none, some 32]) from rfl)) (C11_makes G9 L o0 hfo) rfl rfl (by decide) (Nat.le_of_ble_eq_true rfl) (by decide) (by decide) (fun r20 f20 al20 h20 => ?_)
      obtain ⟨G20, L20, rfl, rfl, rfl, hg20, hl20, hw20⟩ := h20
      show fv_At Y11_polynomial 3 0 0 Q 23 [(0, .ref 0), (1, .int (nI c0)), (2, .int (nI o0))] [] (fw mT G20 L20) none 0 0
      refine fx_aload_n dX11_polynomial_23 rfl (i := 0) rfl ?_
      refine fx_iload_n dX11_polynomial_24 rfl (i := 1) rfl ?_
      refine fx_callV dX11_polynomial_25 lk11_179 fv_c8 rfl (fw_at (show mT 0 = some (3, 8, 38, [some 1, none, some 2, some 3, some 4, some 5, some 6, some 7, some 8, some 9, some 10, some 11, some 12, some 13, some 14, some 15, some 16, some 17, some 18, some 19, none, none, none, some 20, some 21, some 22, some 23, none, some 24, some 25, some 26, some 27, some 28, some 29, some 30, some 31, none, some 32]) from rfl)) (C11_lays G20 L20 T t (msh_G hM (fun i j h => (hg20 i j (by omega) (by omega) (by omega)).trans (ho9 i j (by omega) (by omega))) (hl20 6 (by decide) (by decide))) c0 (by omega) (mpo o0) hw20 (sok_mpo hoL)) rfl rfl (by decide) (Nat.le_of_ble_eq_true rfl) (by decide) (by decide) (fun r25 f25 al25 h25 => ?_)
      have hq := h25
      obtain ⟨G2, L2, rfl, rfl, rfl, -, -⟩ := h25
      show fv_At Y11_polynomial 3 0 0 Q 28 [(0, .ref 0), (1, .int (nI c0)), (2, .int (nI o0))] [.int (iI (stl (mpo o0)))] (fw mT G2 L2) none 0 0
      exact fx_iret dX11_polynomial_28 rfl rfl rfl (by rw [hQ]; exact (by rw [show yPol (c0 : Int) (o0 : Int) = stl (mpo o0) by unfold yPol; exact if_pos hin]; exact qms_G hq (fun i j a b c => (hg20 i j a b c).trans (ho9 i j a c)) (fun i hi => hl20 i (by omega) (by omega))))
    · skip
      refine fx_bipush (v := (iI (-2))) dX11_polynomial_15 (by decide) ?_
      exact fx_iret dX11_polynomial_17 rfl rfl rfl (by rw [hQ]; exact (by rw [show yPol c o = -2 by unfold yPol; exact if_neg (fun q => by first | exact absurd (c4.symm.trans q.1) (by decide) | exact absurd q.2 (of_decide_eq_false c12))]; exact qms_n (msh_G hM (fun i j h => ho9 i j (by omega) (by omega)) rfl) ⟨fun i j a b => ho9 i j (by omega) a, fun _ _ => rfl⟩ (by decide) _ _))

set_option maxRecDepth 4000 in
set_option maxHeartbeats 1000000 in
theorem C11_parts  (G : Nat → Nat → Int32) (L : Nat → Nat → Int64) (o : Nat) (hf : figs (o : Int) ≠ 0) (asked : Bool) (S : Nat → Int64) (hW : wkd L S) (hS : sok S) : fv_M Y11_parts 2 0 0 [.ref 0, .int (nI o), .int (bI asked)] (fw mT G L) none (qpm G L (mfl asked (cq true o) S)) := by
  refine fv_enter rfl (Nat.le_of_ble_eq_true rfl) ?_
  obtain ⟨Q, hQ⟩ : ∃ Q : Option Value → fv_F → Option Nat → Prop, Q = (qpm G L (mfl asked (cq true o) S)) := ⟨_, rfl⟩
  rw [← hQ]
  show fv_At Y11_parts 2 0 0 Q 0 [(0, .ref 0), (1, .int (nI o)), (2, .int (bI asked))] [] (fw mT G L) none 0 0
  have hfb := figs_b hf
  refine fx_aload_n dX11_parts_0 rfl (i := 0) rfl ?_
  refine fx_iload_n dX11_parts_1 rfl (i := 1) rfl ?_
  refine fx_callV dX11_parts_2 lk11_133 fv_c8 rfl (fw_at (show mT 0 = some (3, 8, 38, [some 1, none, some 2, some 3, some 4, some 5, some 6, some 7, some 8, some 9, some 10, some 11, some 12, some 13, some 14, some 15, some 16, some 17, some 18, some 19, none, none, none, some 20, some 21, some 22, some 23, none, some 24, some 25, some 26, some 27, some 28, some 29, some 30, some 31, none, some 32]) from rfl)) (C11_reads G L (((o : Nat) : Int)) (by omega) (by omega)) rfl rfl (by decide) (Nat.le_of_ble_eq_true rfl) (by decide) (by decide) (fun r2 f2 al2 h2 => ?_)
  obtain ⟨G2, rfl, rfl, rfl, ho2, hm2⟩ := h2
  show fv_At Y11_parts 2 0 0 Q 5 [(0, .ref 0), (1, .int (nI o)), (2, .int (bI asked))] [.int (bI (decide (figs (((o : Nat) : Int)) ≠ 0)))] (fw mT G2 L) none 0 0
  refine fx_istore_n (lv2 := [(0, .ref 0), (1, .int (nI o)), (2, .int (bI asked)), (3, .int (bI (decide (figs (((o : Nat) : Int)) ≠ 0))))]) dX11_parts_5 (i := 3) rfl (by decide) rfl ?_
  obtain ⟨hfN, hoL⟩ := figs_N hf
  have hb := ord_b o hoL
  have hm3 := hm2 hf
  rw [hfN] at hm3
  refine fx_iconst (v := (nI 0)) dX11_parts_6 (by decide) ?_
  refine fx_istore (lv2 := [(0, .ref 0), (1, .int (nI o)), (2, .int (bI asked)), (3, .int (bI (decide (figs (((o : Nat) : Int)) ≠ 0)))), (4, .int (nI 0))]) dX11_parts_7 (by decide) rfl ?_
  have L9 : ∀ (k : Nat) (i : Nat) (w : Nat) (S1 : Nat → Int64) (G1 : Nat → Nat → Int32) (L1 : Nat → Nat → Int64), ((cq true w).length * 8 + (figN o - 1 - i) ≤ k ∧ i + 1 ≤ figN o) → (w ∈ ordL ∧ figN w = figN o) → (mor G1 (figN o) (dgt w (figN o))) → (∀ i j, i ≠ 1 → ¬ (i = 0 ∧ j = 1) → G1 i j = G i j) → (wkd L1 S1) → (sok S1) → (∀ i, i ≠ 7 → i ≠ 8 → L1 i = L i) → (ofst (dgt w (figN o)) true (figN o - 1 - i) i = ofst (dgt w (figN o)) true (figN o - 1) 0) → (mfl asked (cq true w) S1 = mfl asked (cq true o) S) → fv_At Y11_parts 2 0 0 Q 9 [(0, .ref 0), (1, .int (nI o)), (2, .int (bI asked)), (3, .int (bI (decide (figs (((o : Nat) : Int)) ≠ 0)))), (4, .int (nI i))] [] (fw mT G1 L1) none 0 0 := by
    intro k
    induction k with
    | zero =>
      intro i w S1 G1 L1 hk hw hmo hoG hW1 hS1 hoL1 hsc hR
      refine fx_iload dX11_parts_9 rfl ?_
      refine fx_iconst (v := (nI 1)) dX11_parts_11 (by decide) ?_
      refine fn_iadd dX11_parts_12 ?_
      refine fx_aload_n dX11_parts_13 rfl (i := 0) rfl ?_
      refine fw_geti dX11_parts_14 fd11_130 rfl rfl ?_
      refine fn_to (show _ = (nI (figN o)) from hmo.2.1) ?_
      refine fn_icmp_ge (tgt := 94) dX11_parts_17 (by decide) (by omega) (by omega) (fun c17 => ?_) (fun c17 => ?_)
      · skip
        have hse : figN o - 1 - i = 0 := by omega
        rw [hse] at hsc
        have hce := cq_e (i := i) hw.1 true (by rw [hw.2]; exact hsc)
        refine fx_aload_n dX11_parts_94 rfl (i := 0) rfl ?_
        refine fw_getr dX11_parts_95 fd11_31 rfl rfl ?_
        refine fx_iconst (v := (nI 0)) dX11_parts_98 (by decide) ?_
        refine fw_lald 0 dX11_parts_99 rfl rfl (by omega) (by decide) ?_
        refine fn_toL (show _ = (S1 0) from (hW1 0 (by decide))) ?_
        exact fx_lret dX11_parts_100 rfl rfl rfl (by rw [hQ]; exact (by rw [← hR, hce]; exact ⟨G1, L1, rfl, rfl, rfl, hoG, hoL1⟩))
      · exfalso; omega
    | succ k ih9 =>
      intro i w S1 G1 L1 hk hw hmo hoG hW1 hS1 hoL1 hsc hR
      refine fx_iload dX11_parts_9 rfl ?_
      refine fx_iconst (v := (nI 1)) dX11_parts_11 (by decide) ?_
      refine fn_iadd dX11_parts_12 ?_
      refine fx_aload_n dX11_parts_13 rfl (i := 0) rfl ?_
      refine fw_geti dX11_parts_14 fd11_130 rfl rfl ?_
      refine fn_to (show _ = (nI (figN o)) from hmo.2.1) ?_
      refine fn_icmp_ge (tgt := 94) dX11_parts_17 (by decide) (by omega) (by omega) (fun c17 => ?_) (fun c17 => ?_)
      · skip
        have hse : figN o - 1 - i = 0 := by omega
        rw [hse] at hsc
        have hce := cq_e (i := i) hw.1 true (by rw [hw.2]; exact hsc)
        refine fx_aload_n dX11_parts_94 rfl (i := 0) rfl ?_
        refine fw_getr dX11_parts_95 fd11_31 rfl rfl ?_
        refine fx_iconst (v := (nI 0)) dX11_parts_98 (by decide) ?_
        refine fw_lald 0 dX11_parts_99 rfl rfl (by omega) (by decide) ?_
        refine fn_toL (show _ = (S1 0) from (hW1 0 (by decide))) ?_
        exact fx_lret dX11_parts_100 rfl rfl rfl (by rw [hQ]; exact (by rw [← hR, hce]; exact ⟨G1, L1, rfl, rfl, rfl, hoG, hoL1⟩))
      · skip
        have hd9a := dgt_lt w (figN o) i
        have hd9b := dgt_lt w (figN o) (i + 1)
        have hse : figN o - 1 - i = (figN o - 1 - (i + 1)) + 1 := by omega
        refine fx_aload_n dX11_parts_20 rfl (i := 0) rfl ?_
        refine fw_getr dX11_parts_21 fd11_7 rfl rfl ?_
        refine fx_iload dX11_parts_24 rfl ?_
        refine fw_iald i dX11_parts_26 rfl rfl (by omega) (by decide) ?_
        refine fn_to (show _ = (nI (dgt w (figN o) i)) from (hmo.2.2 i (by omega))) ?_
        refine fx_aload_n dX11_parts_27 rfl (i := 0) rfl ?_
        refine fw_getr dX11_parts_28 fd11_7 rfl rfl ?_
        refine fx_iload dX11_parts_31 rfl ?_
        refine fx_iconst (v := (nI 1)) dX11_parts_33 (by decide) ?_
        refine fn_iadd dX11_parts_34 ?_
        refine fw_iald (i + 1) dX11_parts_35 rfl rfl (by omega) (by decide) ?_
        refine fn_to (show _ = (nI (dgt w (figN o) (i + 1))) from (hmo.2.2 (i + 1) (by omega))) ?_
        refine fn_icmp_le (tgt := 88) dX11_parts_36 (by decide) (by omega) (by omega) (fun c36 => ?_) (fun c36 => ?_)
        · skip
          refine fn_iinc (c := 1) (lv2 := [(0, .ref 0), (1, .int (nI o)), (2, .int (bI asked)), (3, .int (bI (decide (figs (((o : Nat) : Int)) ≠ 0)))), (4, .int (nI (i + 1)))]) dX11_parts_88 (by decide) rfl (by decide) rfl ?_
          refine fx_goto (tgt := 9) dX11_parts_91 (by decide) ?_
          exact (ih9 (i + 1) w S1 G1 L1 (by omega) hw hmo hoG hW1 hS1 hoL1 (by rw [← hsc, hse, ofst, if_neg (by rw [decide_eq_false (by omega)]; decide)]) hR)
        · skip
          have cs := cq_s hw.1 true (i := i) (k := figN o - 1 - (i + 1)) (by rw [hw.2]; omega) (by rw [hw.2, ← hse]; exact hsc) (by rw [hw.2]; exact decide_eq_true (by omega))
          rw [hw.2] at cs
          have hl1 : (cq true w).length = (cq true (swp w (figN o) i (i + 1))).length + 1 := by rw [cs.1]; rfl
          have hun : mfl asked (cq true w) S1 = if asked = true ∧ stl (DF i S1) < 0 then rfs (stl (DF i S1)) else mfl asked (cq true (swp w (figN o) i (i + 1))) (DF i S1) := by rw [cs.1]; rfl
          have hsD := sok_DF (show i < 4 by omega) S1
          refine fx_aload_n dX11_parts_39 rfl (i := 0) rfl ?_
          refine fx_iload dX11_parts_40 rfl ?_
          refine fx_iconst (v := (nI 1)) dX11_parts_42 (by decide) ?_
          refine fn_iadd dX11_parts_43 ?_
          refine fx_callV dX11_parts_44 lk11_199 fv_c8 rfl (fw_at (show mT 0 = some (3, 8, 38, [some 1, none, some 2, some 3, some 4, some 5, some 6, some 7, some 8, some 9, some 10, some 11, some 12, some 13, some 14, some 15, some 16, some 17, some 18, some 19, none, none, none, some 20, some 21, some 22, some 23, none, some 24, some 25, some 26, some 27, some 28, some 29, some 30, some 31, none, some 32]) from rfl)) (C11_differ G1 L1 i (by omega) S1 hW1) rfl rfl (by decide) (Nat.le_of_ble_eq_true rfl) (by decide) (by decide) (fun r44 f44 al44 h44 => ?_)
          obtain ⟨L44, rfl, rfl, rfl, hl44, hw44⟩ := h44
          show fv_At Y11_parts 2 0 0 Q 47 [(0, .ref 0), (1, .int (nI o)), (2, .int (bI asked)), (3, .int (bI (decide (figs (((o : Nat) : Int)) ≠ 0)))), (4, .int (nI i))] [] (fw mT G1 L44) none 0 0
          refine fx_aload_n dX11_parts_47 rfl (i := 0) rfl ?_
          refine fx_iload dX11_parts_48 rfl ?_
          refine fx_iload dX11_parts_50 rfl ?_
          refine fx_iconst (v := (nI 1)) dX11_parts_52 (by decide) ?_
          refine fn_iadd dX11_parts_53 ?_
          refine fn_cV dX11_parts_54 lk11_141 fv_c8 rfl (fw_at (show mT 0 = some (3, 8, 38, [some 1, none, some 2, some 3, some 4, some 5, some 6, some 7, some 8, some 9, some 10, some 11, some 12, some 13, some 14, some 15, some 16, some 17, some 18, some 19, none, none, none, some 20, some 21, some 22, some 23, none, some 24, some 25, some 26, some 27, some 28, some 29, some 30, some 31, none, some 32]) from rfl)) (C11_change G1 L44 i (i + 1) (by omega) (by omega)) rfl rfl (by decide) (Nat.le_of_ble_eq_true rfl) ?_
          show fv_At Y11_parts 2 0 0 Q 57 [(0, .ref 0), (1, .int (nI o)), (2, .int (bI asked)), (3, .int (bI (decide (figs (((o : Nat) : Int)) ≠ 0)))), (4, .int (nI i))] [] (fw mT (g2 (g2 G1 1 i (G1 1 (i + 1))) 1 (i + 1) (G1 1 i)) L44) none 0 0
          refine fx_iload_n dX11_parts_57 rfl (i := 2) rfl ?_
          refine fn_if_eqB (tgt := 68) dX11_parts_58 (by decide) (fun c58 => ?_) (fun c58 => ?_)
          · skip
            refine fx_iconst (v := (nI 0)) dX11_parts_68 (by decide) ?_
            refine fx_istore (lv2 := [(0, .ref 0), (1, .int (nI o)), (2, .int (bI asked)), (3, .int (bI (decide (figs (((o : Nat) : Int)) ≠ 0)))), (4, .int (nI i)), (5, .int (nI 0))]) dX11_parts_69 (by decide) rfl ?_
            have htb := tmu_b (DF i S1)
            refine fx_iload dX11_parts_71 rfl ?_
            refine fn_if_eq (tgt := 82) dX11_parts_73 (by decide) (by omega) (fun c73 => ?_) (fun c73 => ?_)
            · skip
              have hgo : mfl asked (cq true w) S1 = mfl asked (cq true (swp w (figN o) i (i + 1))) (DF i S1) := by
                rw [hun]
                refine if_neg (fun q => ?_)
                first | exact absurd (c58.symm.trans q.1) (by decide) | (unfold tmu at c73; rw [if_pos q.2] at c73; have := q.2; omega)
              refine fx_iconst (v := (nI 0)) dX11_parts_82 (by decide) ?_
              refine fx_istore (lv2 := [(0, .ref 0), (1, .int (nI o)), (2, .int (bI asked)), (3, .int (bI (decide (figs (((o : Nat) : Int)) ≠ 0)))), (4, .int (nI 0)), (5, .int (nI 0))]) dX11_parts_83 (by decide) rfl ?_
              refine fx_goto (tgt := 9) dX11_parts_85 (by decide) ?_
              exact fn_sub [0, 1, 2, 3, 4] rfl (ih9 0 (swp w (figN o) i (i + 1)) (DF i S1) (g2 (g2 G1 1 i (G1 1 (i + 1))) 1 (i + 1) (G1 1 i)) L44 (by omega) ⟨cs.2.1, cs.2.2⟩ (mor_ord hw.1 hw.2 hmo (by omega)) (fun i j a b => by rw [g2_ne _ _ (fun q => a q.1), g2_ne _ _ (fun q => a q.1)]; exact hoG i j a b) hw44 hsD (fun i a b => (hl44 i a b).trans (hoL1 i a b)) rfl (by rw [← hR, hgo]))
            · exfalso; omega
          · skip
            refine fx_aload_n dX11_parts_61 rfl (i := 0) rfl ?_
            refine fn_cV dX11_parts_62 lk11_162 fv_c8 rfl (fw_at (show mT 0 = some (3, 8, 38, [some 1, none, some 2, some 3, some 4, some 5, some 6, some 7, some 8, some 9, some 10, some 11, some 12, some 13, some 14, some 15, some 16, some 17, some 18, some 19, none, none, none, some 20, some 21, some 22, some 23, none, some 24, some 25, some 26, some 27, some 28, some 29, some 30, some 31, none, some 32]) from rfl)) (C11_tooMuch (g2 (g2 G1 1 i (G1 1 (i + 1))) 1 (i + 1) (G1 1 i)) L44 (DF i S1) hw44 hsD) rfl rfl (by decide) (Nat.le_of_ble_eq_true rfl) ?_
            show fv_At Y11_parts 2 0 0 Q 65 [(0, .ref 0), (1, .int (nI o)), (2, .int (bI asked)), (3, .int (bI (decide (figs (((o : Nat) : Int)) ≠ 0)))), (4, .int (nI i))] [.int (iI (tmu (DF i S1)))] (fw mT (g2 (g2 G1 1 i (G1 1 (i + 1))) 1 (i + 1) (G1 1 i)) L44) none 0 0
            refine fx_goto (tgt := 69) dX11_parts_65 (by decide) ?_
            refine fx_istore (lv2 := [(0, .ref 0), (1, .int (nI o)), (2, .int (bI asked)), (3, .int (bI (decide (figs (((o : Nat) : Int)) ≠ 0)))), (4, .int (nI i)), (5, .int (iI (tmu (DF i S1))))]) dX11_parts_69 (by decide) rfl ?_
            have htb := tmu_b (DF i S1)
            refine fx_iload dX11_parts_71 rfl ?_
            refine fn_if_eqZ (tgt := 82) dX11_parts_73 (by decide) (by omega) (by omega) (fun c73 => ?_) (fun c73 => ?_)
            · skip
              have hgo : mfl asked (cq true w) S1 = mfl asked (cq true (swp w (figN o) i (i + 1))) (DF i S1) := by
                rw [hun]
                refine if_neg (fun q => ?_)
                first | exact absurd (c58.symm.trans q.1) (by decide) | (unfold tmu at c73; rw [if_pos q.2] at c73; have := q.2; omega)
              refine fx_iconst (v := (nI 0)) dX11_parts_82 (by decide) ?_
              refine fx_istore (lv2 := [(0, .ref 0), (1, .int (nI o)), (2, .int (bI asked)), (3, .int (bI (decide (figs (((o : Nat) : Int)) ≠ 0)))), (4, .int (nI 0)), (5, .int (iI (tmu (DF i S1))))]) dX11_parts_83 (by decide) rfl ?_
              refine fx_goto (tgt := 9) dX11_parts_85 (by decide) ?_
              exact fn_sub [0, 1, 2, 3, 4] rfl (ih9 0 (swp w (figN o) i (i + 1)) (DF i S1) (g2 (g2 G1 1 i (G1 1 (i + 1))) 1 (i + 1) (G1 1 i)) L44 (by omega) ⟨cs.2.1, cs.2.2⟩ (mor_ord hw.1 hw.2 hmo (by omega)) (fun i j a b => by rw [g2_ne _ _ (fun q => a q.1), g2_ne _ _ (fun q => a q.1)]; exact hoG i j a b) hw44 hsD (fun i a b => (hl44 i a b).trans (hoL1 i a b)) rfl (by rw [← hR, hgo]))
            · skip
              refine fx_iload dX11_parts_76 rfl ?_
              refine fn_cS dX11_parts_78 lk11_182 (C11_no (c := tmu (DF i S1))  (f := (fw mT (g2 (g2 G1 1 i (G1 1 (i + 1))) 1 (i + 1) (G1 1 i)) L44))) rfl rfl (by decide) (Nat.le_of_ble_eq_true rfl) ?_
              show fv_At Y11_parts 2 0 0 Q 81 [(0, .ref 0), (1, .int (nI o)), (2, .int (bI asked)), (3, .int (bI (decide (figs (((o : Nat) : Int)) ≠ 0)))), (4, .int (nI i)), (5, .int (iI (tmu (DF i S1))))] [.long (rfs (tmu (DF i S1)))] (fw mT (g2 (g2 G1 1 i (G1 1 (i + 1))) 1 (i + 1) (G1 1 i)) L44) none 0 0
              exact fx_lret dX11_parts_81 rfl rfl rfl (by rw [hQ]; exact (by rw [← hR, hun, if_pos (show asked = true ∧ stl (DF i S1) < 0 by refine ⟨by simpa using c58, ?_⟩; unfold tmu at c73; split at c73 <;> omega), show tmu (DF i S1) = stl (DF i S1) by unfold tmu; rw [if_pos (by unfold tmu at c73; split at c73 <;> omega)]]; exact ⟨_, _, rfl, rfl, rfl, fun i j a b => by rw [g2_ne _ _ (fun q => a q.1), g2_ne _ _ (fun q => a q.1)]; exact hoG i j a b, fun i a b => (hl44 i a b).trans (hoL1 i a b)⟩))
  exact (L9 ((cq true o).length * 8 + figN o) 0 o S G2 L (by omega) ⟨hoL, rfl⟩ hm3 (fun i j a c => ho2 i j a c) hW hS (fun _ _ _ => rfl) rfl rfl)

set_option maxRecDepth 4000 in
set_option maxHeartbeats 1000000 in
theorem C11_part  (G : Nat → Nat → Int32) (L : Nat → Nat → Int64) (T : Nat → tms) (t : Nat → Bool) (hM : msh G L T t) (hV : pvs T t) (hD : dvs T t) (a o : Int) (a1 : -2147483648 ≤ a) (a2 : a < 2147483648) (o1 : -2147483648 ≤ o) (o2 : o < 2147483648) : fv_M Y11_part 3 0 0 [.ref 0, .int (iI a), .int (iI o)] (fw mT G L) none (qml G L T t (xPar T t a o)) := by
  refine fv_enter rfl (Nat.le_of_ble_eq_true rfl) ?_
  obtain ⟨Q, hQ⟩ : ∃ Q : Option Value → fv_F → Option Nat → Prop, Q = (qml G L T t (xPar T t a o)) := ⟨_, rfl⟩
  rw [← hQ]
  show fv_At Y11_part 3 0 0 Q 0 [(0, .ref 0), (1, .int (iI a)), (2, .int (iI o))] [] (fw mT G L) none 0 0
  refine fx_iload_n dX11_part_0 rfl (i := 1) rfl ?_
  refine fn_cS dX11_part_1 lk11_169 (C11_isSheet (s := a) (by omega) (by omega) (f := (fw mT G L))) rfl rfl (by decide) (Nat.le_of_ble_eq_true rfl) ?_
  show fv_At Y11_part 3 0 0 Q 4 [(0, .ref 0), (1, .int (iI a)), (2, .int (iI o))] [.int (bI (isSt a))] (fw mT G L) none 0 0
  refine fn_if_eqB (tgt := 15) dX11_part_4 (by decide) (fun c4 => ?_) (fun c4 => ?_)
  · skip
    refine fx_bipush (v := (iI (-2))) dX11_part_15 (by decide) ?_
    refine fn_cS dX11_part_17 lk11_182 (C11_no (c := -2)  (f := (fw mT G L))) rfl rfl (by decide) (Nat.le_of_ble_eq_true rfl) ?_
    show fv_At Y11_part 3 0 0 Q 20 [(0, .ref 0), (1, .int (iI a)), (2, .int (iI o))] [.long (rfs (-2))] (fw mT G L) none 0 0
    exact fx_lret dX11_part_20 rfl rfl rfl (by rw [hQ]; exact (by rw [show xPar T t a o = rfs (-2) by unfold xPar; exact if_neg (fun q => by first | exact absurd (c4.symm.trans q.1) (by decide) | exact absurd q.2 (of_decide_eq_false c12))]; exact qml_of hM (fun _ _ _ _ _ => rfl) (fun _ _ => rfl) _))
  · skip
    refine fx_aload_n dX11_part_7 rfl (i := 0) rfl ?_
    refine fx_iload_n dX11_part_8 rfl (i := 2) rfl ?_
    refine fx_callV dX11_part_9 lk11_133 fv_c8 rfl (fw_at (show mT 0 = some (3, 8, 38, [some 1, none, some 2, some 3, some 4, some 5, some 6, some 7, some 8, some 9, some 10, some 11, some 12, some 13, some 14, some 15, some 16, some 17, some 18, some 19, none, none, none, some 20, some 21, some 22, some 23, none, some 24, some 25, some 26, some 27, some 28, some 29, some 30, some 31, none, some 32]) from rfl)) (C11_reads G L o (by omega) (by omega)) rfl rfl (by decide) (Nat.le_of_ble_eq_true rfl) (by decide) (by decide) (fun r9 f9 al9 h9 => ?_)
    obtain ⟨G9, rfl, rfl, rfl, ho9, hm9⟩ := h9
    show fv_At Y11_part 3 0 0 Q 12 [(0, .ref 0), (1, .int (iI a)), (2, .int (iI o))] [.int (bI (decide (figs o ≠ 0)))] (fw mT G9 L) none 0 0
    refine fn_if_neB (tgt := 21) dX11_part_12 (by decide) (fun c12 => ?_) (fun c12 => ?_)
    · skip
      have hfo := of_decide_eq_true c12
      have hin : isSt a = true ∧ figs o ≠ 0 := ⟨c4, hfo⟩
      have hs1 := isSt_1 c4
      have hfb := figs_b hfo
      obtain ⟨a0, rfl⟩ : ∃ z : Nat, a = (z : Int) := ⟨a.toNat, by omega⟩
      obtain ⟨o0, rfl⟩ : ∃ z : Nat, o = (z : Int) := ⟨o.toNat, by omega⟩
      obtain ⟨hfN, hoL⟩ := figs_N hfo
      have hM9 : msh G9 L T t := msh_G hM (fun i j h => ho9 i j (by omega) (by omega)) rfl
      show fv_At Y11_part 3 0 0 Q 21 [(0, .ref 0), (1, .int (nI a0)), (2, .int (nI o0))] [] (fw mT G9 L) none 0 0
      refine fx_aload_n dX11_part_21 rfl (i := 0) rfl ?_
      refine fw_getr dX11_part_22 fd11_16 rfl rfl ?_
      refine fx_iload_n dX11_part_25 rfl (i := 1) rfl ?_
      refine fw_zald a0 dX11_part_26 rfl rfl (by omega) (by decide) ?_
      refine fn_to (show _ = (bI (t a0)) from (by rw [ho9 3 a0 (by decide) (by omega)]; exact (hM a0 (by omega)).1)) ?_
      refine fn_if_neB (tgt := 36) dX11_part_27 (by decide) (fun c27 => ?_) (fun c27 => ?_)
      · skip
        have hta0 : t a0 = true := by simpa using c27
        have hva := hV a0 (by omega) hta0
        refine fx_aload_n dX11_part_36 rfl (i := 0) rfl ?_
        refine fx_callV dX11_part_37 lk11_172 fv_c8 rfl (fw_at (show mT 0 = some (3, 8, 38, [some 1, none, some 2, some 3, some 4, some 5, some 6, some 7, some 8, some 9, some 10, some 11, some 12, some 13, some 14, some 15, some 16, some 17, some 18, some 19, none, none, none, some 20, some 21, some 22, some 23, none, some 24, some 25, some 26, some 27, some 28, some 29, some 30, some 31, none, some 32]) from rfl)) (C11_wipe G9 L) rfl rfl (by decide) (Nat.le_of_ble_eq_true rfl) (by decide) (by decide) (fun r37 f37 al37 h37 => ?_)
        obtain ⟨L37, rfl, rfl, rfl, hl37, hw37⟩ := h37
        show fv_At Y11_part 3 0 0 Q 40 [(0, .ref 0), (1, .int (nI a0)), (2, .int (nI o0))] [] (fw mT G9 L37) none 0 0
        refine fx_aload_n dX11_part_40 rfl (i := 0) rfl ?_
        refine fx_iload_n dX11_part_41 rfl (i := 1) rfl ?_
        refine fx_lconst (v := 1) dX11_part_42 (by decide) ?_
        refine fx_callV dX11_part_43 lk11_175 fv_c8 rfl (fw_at (show mT 0 = some (3, 8, 38, [some 1, none, some 2, some 3, some 4, some 5, some 6, some 7, some 8, some 9, some 10, some 11, some 12, some 13, some 14, some 15, some 16, some 17, some 18, some 19, none, none, none, some 20, some 21, some 22, some 23, none, some 24, some 25, some 26, some 27, some 28, some 29, some 30, some 31, none, some 32]) from rfl)) (C11_takes G9 L37 T t (msh_L hM9 (hl37 6 (by decide))) hV a0 (by omega) hta0 1 zS hw37) rfl rfl (by decide) (Nat.le_of_ble_eq_true rfl) (by decide) (by decide) (fun r43 f43 al43 h43 => ?_)
        obtain ⟨L43, rfl, rfl, rfl, hl43, hw43⟩ := h43
        show fv_At Y11_part 3 0 0 Q 46 [(0, .ref 0), (1, .int (nI a0)), (2, .int (nI o0))] [] (fw mT G9 L43) none 0 0
        refine fx_aload_n dX11_part_46 rfl (i := 0) rfl ?_
        refine fx_iload_n dX11_part_47 rfl (i := 2) rfl ?_
        refine fx_iconst (v := (nI 1)) dX11_part_48 (by decide) ?_
        refine fn_to (show _ = (bI true) from rfl) ?_
        refine fx_callV dX11_part_49 lk11_206 fv_c8 rfl (fw_at (show mT 0 = some (3, 8, 38, [some 1, none, some 2, some 3, some 4, some 5, some 6, some 7, some 8, some 9, some 10, some 11, some 12, some 13, some 14, some 15, some 16, some 17, some 18, some 19, none, none, none, some 20, some 21, some 22, some 23, none, some 24, some 25, some 26, some 27, some 28, some 29, some 30, some 31, none, some 32]) from rfl)) (C11_parts G9 L43 o0 hfo true (pal 1 (T a0) zS) hw43 (sok_pal sok_z hva.1)) rfl rfl (by decide) (Nat.le_of_ble_eq_true rfl) (by decide) (by decide) (fun r49 f49 al49 h49 => ?_)
        obtain ⟨G49, L49, rfl, rfl, rfl, hg49, hl49⟩ := h49
        show fv_At Y11_part 3 0 0 Q 52 [(0, .ref 0), (1, .int (nI a0)), (2, .int (nI o0))] [.long (mfl true (cq true o0) ((pal 1 (T a0) zS)))] (fw mT G49 L49) none 0 0
        exact fx_lret dX11_part_52 rfl rfl rfl (by rw [hQ]; exact (by rw [show xPar T t (a0 : Int) (o0 : Int) = mfl true (cq true o0) (pal 1 (T a0) zS) by unfold xPar; rw [if_pos hin]; refine (if_pos hta0).trans ?_; show pfq (figs (o0 : Int)) 10 o0 (T a0) = _; rw [pfq_l, figs_q hfo]; exact pfl_s (hD a0 (by omega) hta0) hva.1 hva.2 _ (cq_ok o0 hoL true)]; exact qml_of hM (fun i j a _ c => (hg49 i j a c).trans (ho9 i j a c)) (fun i hi => (hl49 i (by omega) (by omega)).trans ((hl43 i (by omega)).trans (hl37 i (by omega)))) _))
      · skip
        refine fx_bipush (v := (iI (-3))) dX11_part_30 (by decide) ?_
        refine fn_cS dX11_part_32 lk11_182 (C11_no (c := -3)  (f := (fw mT G9 L))) rfl rfl (by decide) (Nat.le_of_ble_eq_true rfl) ?_
        show fv_At Y11_part 3 0 0 Q 35 [(0, .ref 0), (1, .int (nI a0)), (2, .int (nI o0))] [.long (rfs (-3))] (fw mT G9 L) none 0 0
        exact fx_lret dX11_part_35 rfl rfl rfl (by rw [hQ]; exact (by rw [show xPar T t (a0 : Int) (o0 : Int) = rfs (-3) by unfold xPar; rw [if_pos hin]; exact if_neg (by simpa using c27)]; exact qml_of hM (fun i j a _ c => ho9 i j a c) (fun _ _ => rfl) _))
    · skip
      refine fx_bipush (v := (iI (-2))) dX11_part_15 (by decide) ?_
      refine fn_cS dX11_part_17 lk11_182 (C11_no (c := -2)  (f := (fw mT G9 L))) rfl rfl (by decide) (Nat.le_of_ble_eq_true rfl) ?_
      show fv_At Y11_part 3 0 0 Q 20 [(0, .ref 0), (1, .int (iI a)), (2, .int (iI o))] [.long (rfs (-2))] (fw mT G9 L) none 0 0
      exact fx_lret dX11_part_20 rfl rfl rfl (by rw [hQ]; exact (by rw [show xPar T t a o = rfs (-2) by unfold xPar; exact if_neg (fun q => by first | exact absurd (c4.symm.trans q.1) (by decide) | exact absurd q.2 (of_decide_eq_false c12))]; exact qml_of hM (fun i j a _ c => ho9 i j a c) (fun _ _ => rfl) _))

set_option maxRecDepth 4000 in
set_option maxHeartbeats 1000000 in
theorem C11_constant  (G : Nat → Nat → Int32) (L : Nat → Nat → Int64) (T : Nat → tms) (t : Nat → Bool) (hM : msh G L T t) (u v w : Int) (u1 : -2147483648 ≤ u) (u2 : u < 2147483648) (v1 : -2147483648 ≤ v) (v2 : v < 2147483648) (w1 : -2147483648 ≤ w) (w2 : w < 2147483648) : fv_M Y11_constant 3 0 0 [.ref 0, .int (iI u), .int (iI v), .int (iI w)] (fw mT G L) none (qml G L T t (yCon u v w)) := by
  refine fv_enter rfl (Nat.le_of_ble_eq_true rfl) ?_
  obtain ⟨Q, hQ⟩ : ∃ Q : Option Value → fv_F → Option Nat → Prop, Q = (qml G L T t (yCon u v w)) := ⟨_, rfl⟩
  rw [← hQ]
  show fv_At Y11_constant 3 0 0 Q 0 [(0, .ref 0), (1, .int (iI u)), (2, .int (iI v)), (3, .int (iI w))] [] (fw mT G L) none 0 0
  refine fx_aload_n dX11_constant_0 rfl (i := 0) rfl ?_
  refine fx_iload_n dX11_constant_1 rfl (i := 1) rfl ?_
  refine fx_callV dX11_constant_2 lk11_133 fv_c8 rfl (fw_at (show mT 0 = some (3, 8, 38, [some 1, none, some 2, some 3, some 4, some 5, some 6, some 7, some 8, some 9, some 10, some 11, some 12, some 13, some 14, some 15, some 16, some 17, some 18, some 19, none, none, none, some 20, some 21, some 22, some 23, none, some 24, some 25, some 26, some 27, some 28, some 29, some 30, some 31, none, some 32]) from rfl)) (C11_reads G L u (by omega) (by omega)) rfl rfl (by decide) (Nat.le_of_ble_eq_true rfl) (by decide) (by decide) (fun r2 f2 al2 h2 => ?_)
  obtain ⟨G2, rfl, rfl, rfl, ho2, hm2⟩ := h2
  show fv_At Y11_constant 3 0 0 Q 5 [(0, .ref 0), (1, .int (iI u)), (2, .int (iI v)), (3, .int (iI w))] [.int (bI (decide (figs u ≠ 0)))] (fw mT G2 L) none 0 0
  refine fn_if_eqB (tgt := 24) dX11_constant_5 (by decide) (fun c5 => ?_) (fun c5 => ?_)
  · skip
    refine fx_bipush (v := (iI (-2))) dX11_constant_24 (by decide) ?_
    refine fn_cS dX11_constant_26 lk11_182 (C11_no (c := -2)  (f := (fw mT G2 L))) rfl rfl (by decide) (Nat.le_of_ble_eq_true rfl) ?_
    show fv_At Y11_constant 3 0 0 Q 29 [(0, .ref 0), (1, .int (iI u)), (2, .int (iI v)), (3, .int (iI w))] [.long (rfs (-2))] (fw mT G2 L) none 0 0
    exact fx_lret dX11_constant_29 rfl rfl rfl (by rw [hQ]; exact (by rw [show yCon u v w = rfs (-2) by unfold yCon; exact if_neg (fun q => by first | exact absurd q.1 (of_decide_eq_false c5) | exact absurd q.2.1 (of_decide_eq_false c13) | exact absurd q.2.2 (of_decide_eq_false c21))]; exact qml_of hM (fun i j a _ c => ho2 i j a c) (fun _ _ => rfl) _))
  · skip
    refine fx_aload_n dX11_constant_8 rfl (i := 0) rfl ?_
    refine fx_iload_n dX11_constant_9 rfl (i := 2) rfl ?_
    refine fx_callV dX11_constant_10 lk11_133 fv_c8 rfl (fw_at (show mT 0 = some (3, 8, 38, [some 1, none, some 2, some 3, some 4, some 5, some 6, some 7, some 8, some 9, some 10, some 11, some 12, some 13, some 14, some 15, some 16, some 17, some 18, some 19, none, none, none, some 20, some 21, some 22, some 23, none, some 24, some 25, some 26, some 27, some 28, some 29, some 30, some 31, none, some 32]) from rfl)) (C11_reads G2 L v (by omega) (by omega)) rfl rfl (by decide) (Nat.le_of_ble_eq_true rfl) (by decide) (by decide) (fun r10 f10 al10 h10 => ?_)
    obtain ⟨G10, rfl, rfl, rfl, ho10, hm10⟩ := h10
    show fv_At Y11_constant 3 0 0 Q 13 [(0, .ref 0), (1, .int (iI u)), (2, .int (iI v)), (3, .int (iI w))] [.int (bI (decide (figs v ≠ 0)))] (fw mT G10 L) none 0 0
    refine fn_if_eqB (tgt := 24) dX11_constant_13 (by decide) (fun c13 => ?_) (fun c13 => ?_)
    · skip
      refine fx_bipush (v := (iI (-2))) dX11_constant_24 (by decide) ?_
      refine fn_cS dX11_constant_26 lk11_182 (C11_no (c := -2)  (f := (fw mT G10 L))) rfl rfl (by decide) (Nat.le_of_ble_eq_true rfl) ?_
      show fv_At Y11_constant 3 0 0 Q 29 [(0, .ref 0), (1, .int (iI u)), (2, .int (iI v)), (3, .int (iI w))] [.long (rfs (-2))] (fw mT G10 L) none 0 0
      exact fx_lret dX11_constant_29 rfl rfl rfl (by rw [hQ]; exact (by rw [show yCon u v w = rfs (-2) by unfold yCon; exact if_neg (fun q => by first | exact absurd q.1 (of_decide_eq_false c5) | exact absurd q.2.1 (of_decide_eq_false c13) | exact absurd q.2.2 (of_decide_eq_false c21))]; exact qml_of hM (fun i j a _ c => (ho10 i j a c).trans (ho2 i j a c)) (fun _ _ => rfl) _))
    · skip
      refine fx_aload_n dX11_constant_16 rfl (i := 0) rfl ?_
      refine fx_iload_n dX11_constant_17 rfl (i := 3) rfl ?_
      refine fx_callV dX11_constant_18 lk11_133 fv_c8 rfl (fw_at (show mT 0 = some (3, 8, 38, [some 1, none, some 2, some 3, some 4, some 5, some 6, some 7, some 8, some 9, some 10, some 11, some 12, some 13, some 14, some 15, some 16, some 17, some 18, some 19, none, none, none, some 20, some 21, some 22, some 23, none, some 24, some 25, some 26, some 27, some 28, some 29, some 30, some 31, none, some 32]) from rfl)) (C11_reads G10 L w (by omega) (by omega)) rfl rfl (by decide) (Nat.le_of_ble_eq_true rfl) (by decide) (by decide) (fun r18 f18 al18 h18 => ?_)
      obtain ⟨G18, rfl, rfl, rfl, ho18, hm18⟩ := h18
      show fv_At Y11_constant 3 0 0 Q 21 [(0, .ref 0), (1, .int (iI u)), (2, .int (iI v)), (3, .int (iI w))] [.int (bI (decide (figs w ≠ 0)))] (fw mT G18 L) none 0 0
      refine fn_if_neB (tgt := 30) dX11_constant_21 (by decide) (fun c21 => ?_) (fun c21 => ?_)
      · skip
        have hin : figs u ≠ 0 ∧ figs v ≠ 0 ∧ figs w ≠ 0 := ⟨of_decide_eq_true c5, of_decide_eq_true c13, of_decide_eq_true c21⟩
        have hb1 := figs_b hin.1
        have hb2 := figs_b hin.2.1
        have hb3 := figs_b hin.2.2
        obtain ⟨u0, rfl⟩ : ∃ z : Nat, u = (z : Int) := ⟨u.toNat, by omega⟩
        obtain ⟨v0, rfl⟩ : ∃ z : Nat, v = (z : Int) := ⟨v.toNat, by omega⟩
        obtain ⟨w0, rfl⟩ : ∃ z : Nat, w = (z : Int) := ⟨w.toNat, by omega⟩
        obtain ⟨hN1, hO1⟩ := figs_N hin.1
        obtain ⟨hN2, hO2⟩ := figs_N hin.2.1
        obtain ⟨hN3, hO3⟩ := figs_N hin.2.2
        have hoA : ∀ i j, i ≠ 1 → ¬ (i = 0 ∧ j = 1) → G18 i j = G i j := fun i j a c => (ho18 i j a c).trans ((ho10 i j a c).trans (ho2 i j a c))
        show fv_At Y11_constant 3 0 0 Q 30 [(0, .ref 0), (1, .int (nI u0)), (2, .int (nI v0)), (3, .int (nI w0))] [] (fw mT G18 L) none 0 0
        refine fx_aload_n dX11_constant_30 rfl (i := 0) rfl ?_
        refine fx_iload_n dX11_constant_31 rfl (i := 1) rfl ?_
        refine fx_callV dX11_constant_32 lk11_203 fv_c8 rfl (fw_at (show mT 0 = some (3, 8, 38, [some 1, none, some 2, some 3, some 4, some 5, some 6, some 7, some 8, some 9, some 10, some 11, some 12, some 13, some 14, some 15, some 16, some 17, some 18, some 19, none, none, none, some 20, some 21, some 22, some 23, none, some 24, some 25, some 26, some 27, some 28, some 29, some 30, some 31, none, some 32]) from rfl)) (C11_makes G18 L u0 hin.1) rfl rfl (by decide) (Nat.le_of_ble_eq_true rfl) (by decide) (by decide) (fun r32 f32 al32 h32 => ?_)
        obtain ⟨G32, L32, rfl, rfl, rfl, hg32, hl32, hw32⟩ := h32
        show fv_At Y11_constant 3 0 0 Q 35 [(0, .ref 0), (1, .int (nI u0)), (2, .int (nI v0)), (3, .int (nI w0))] [] (fw mT G32 L32) none 0 0
        refine fx_iconst (v := (nI 0)) dX11_constant_35 (by decide) ?_
        refine fx_istore (lv2 := [(0, .ref 0), (1, .int (nI u0)), (2, .int (nI v0)), (3, .int (nI w0)), (4, .int (nI 0))]) dX11_constant_36 (by decide) rfl ?_
        have L38 : ∀ (k1 : Nat) (e : Nat) (L1 : Nat → Nat → Int64), (e + k1 = 59049) → (∀ i, i ≠ 10 → L1 i = L32 i) → (∀ p, p < e → L1 10 p = mpo u0 (nex p)) → fv_At Y11_constant 3 0 0 Q 38 [(0, .ref 0), (1, .int (nI u0)), (2, .int (nI v0)), (3, .int (nI w0)), (4, .int (nI e))] [] (fw mT G32 L1) none 0 0 := by
          intro k1
          induction k1 with
          | zero =>
            intro e L1 he hoL1 hA1
            refine fx_iload dX11_constant_38 rfl ?_
            refine fx_ldc dX11_constant_40 kc11_30 (fn_to (show _ = (nI 59049) by decide) ?_)
            refine fn_icmp_ge (tgt := 65) dX11_constant_42 (by decide) (by omega) (by omega) (fun c42 => ?_) (fun c42 => ?_)
            · skip
              refine fx_aload_n dX11_constant_65 rfl (i := 0) rfl ?_
              refine fx_iload_n dX11_constant_66 rfl (i := 2) rfl ?_
              refine fx_callV dX11_constant_67 lk11_203 fv_c8 rfl (fw_at (show mT 0 = some (3, 8, 38, [some 1, none, some 2, some 3, some 4, some 5, some 6, some 7, some 8, some 9, some 10, some 11, some 12, some 13, some 14, some 15, some 16, some 17, some 18, some 19, none, none, none, some 20, some 21, some 22, some 23, none, some 24, some 25, some 26, some 27, some 28, some 29, some 30, some 31, none, some 32]) from rfl)) (C11_makes G32 L1 v0 hin.2.1) rfl rfl (by decide) (Nat.le_of_ble_eq_true rfl) (by decide) (by decide) (fun r67 f67 al67 h67 => ?_)
              obtain ⟨G67, L67, rfl, rfl, rfl, hg67, hl67, hw67⟩ := h67
              show fv_At Y11_constant 3 0 0 Q 70 [(0, .ref 0), (1, .int (nI u0)), (2, .int (nI v0)), (3, .int (nI w0)), (4, .int (nI e))] [] (fw mT G67 L67) none 0 0
              refine fx_iconst (v := (nI 0)) dX11_constant_70 (by decide) ?_
              refine fx_istore (lv2 := [(0, .ref 0), (1, .int (nI u0)), (2, .int (nI v0)), (3, .int (nI w0)), (4, .int (nI 0))]) dX11_constant_71 (by decide) rfl ?_
              have L73 : ∀ (k2 : Nat) (e : Nat) (L2 : Nat → Nat → Int64), (e + k2 = 59049) → (∀ i, i ≠ 11 → L2 i = L67 i) → (∀ p, p < e → L2 11 p = mpo v0 (nex p)) → fv_At Y11_constant 3 0 0 Q 73 [(0, .ref 0), (1, .int (nI u0)), (2, .int (nI v0)), (3, .int (nI w0)), (4, .int (nI e))] [] (fw mT G67 L2) none 0 0 := by
                intro k2
                induction k2 with
                | zero =>
                  intro e L2 he2 hoL2 hA2
                  refine fx_iload dX11_constant_73 rfl ?_
                  refine fx_ldc dX11_constant_75 kc11_30 (fn_to (show _ = (nI 59049) by decide) ?_)
                  refine fn_icmp_ge (tgt := 100) dX11_constant_77 (by decide) (by omega) (by omega) (fun c77 => ?_) (fun c77 => ?_)
                  · skip
                    refine fx_aload_n dX11_constant_100 rfl (i := 0) rfl ?_
                    refine fx_callV dX11_constant_101 lk11_172 fv_c8 rfl (fw_at (show mT 0 = some (3, 8, 38, [some 1, none, some 2, some 3, some 4, some 5, some 6, some 7, some 8, some 9, some 10, some 11, some 12, some 13, some 14, some 15, some 16, some 17, some 18, some 19, none, none, none, some 20, some 21, some 22, some 23, none, some 24, some 25, some 26, some 27, some 28, some 29, some 30, some 31, none, some 32]) from rfl)) (C11_wipe G67 L2) rfl rfl (by decide) (Nat.le_of_ble_eq_true rfl) (by decide) (by decide) (fun r101 f101 al101 h101 => ?_)
                    obtain ⟨L101, rfl, rfl, rfl, hl101, hw101⟩ := h101
                    show fv_At Y11_constant 3 0 0 Q 104 [(0, .ref 0), (1, .int (nI u0)), (2, .int (nI v0)), (3, .int (nI w0)), (4, .int (nI e))] [] (fw mT G67 L101) none 0 0
                    obtain ⟨Z, hZZ⟩ : ∃ z, z = mO (mpo u0) (mpo v0) 59049 0 zS := ⟨_, rfl⟩
                    have hF1 : ∀ p, p < 59049 → L101 10 p = mpo u0 (nex p) := fun p hp => by rw [hl101 10 (by decide), hoL2 10 (by decide), hl67 10 (by decide) (by decide)]; exact hA1 p (by omega)
                    have hF2 : ∀ p, p < 59049 → L101 11 p = mpo v0 (nex p) := fun p hp => by rw [hl101 11 (by decide)]; exact hA2 p (by omega)
                    refine fx_iconst (v := (nI 0)) dX11_constant_104 (by decide) ?_
                    refine fx_istore (lv2 := [(0, .ref 0), (1, .int (nI u0)), (2, .int (nI v0)), (3, .int (nI w0)), (4, .int (nI 0))]) dX11_constant_105 (by decide) rfl ?_
                    have L107 : ∀ (k3 : Nat) (e : Nat) (R : Nat → Int64) (L3 : Nat → Nat → Int64), (e + k3 = 59049) → (∀ i, i ≠ 7 → L3 i = L101 i) → (wkd L3 R) → (mO (mpo u0) (mpo v0) k3 e R = Z) → fv_At Y11_constant 3 0 0 Q 107 [(0, .ref 0), (1, .int (nI u0)), (2, .int (nI v0)), (3, .int (nI w0)), (4, .int (nI e))] [] (fw mT G67 L3) none 0 0 := by
                      intro k3
                      induction k3 with
                      | zero =>
                        intro e R L3 he3 hoL3 hW3 hR
                        refine fx_iload dX11_constant_107 rfl ?_
                        refine fx_ldc dX11_constant_109 kc11_30 (fn_to (show _ = (nI 59049) by decide) ?_)
                        refine fn_icmp_ge (tgt := 192) dX11_constant_111 (by decide) (by omega) (by omega) (fun c111 => ?_) (fun c111 => ?_)
                        · skip
                          have hLx : ∀ i, i = 6 ∨ 12 ≤ i → L3 i = L i := fun i hi => (hoL3 i (by omega)).trans ((hl101 i (by omega)).trans ((hoL2 i (by omega)).trans ((hl67 i (by omega) (by omega)).trans ((hoL1 i (by omega)).trans (hl32 i (by omega) (by omega))))))
                          have eR : R = Z := hR
                          refine fx_aload_n dX11_constant_192 rfl (i := 0) rfl ?_
                          refine fx_iload_n dX11_constant_193 rfl (i := 3) rfl ?_
                          refine fx_iconst (v := (nI 0)) dX11_constant_194 (by decide) ?_
                          refine fn_to (show _ = (bI false) from rfl) ?_
                          refine fx_callV dX11_constant_195 lk11_206 fv_c8 rfl (fw_at (show mT 0 = some (3, 8, 38, [some 1, none, some 2, some 3, some 4, some 5, some 6, some 7, some 8, some 9, some 10, some 11, some 12, some 13, some 14, some 15, some 16, some 17, some 18, some 19, none, none, none, some 20, some 21, some 22, some 23, none, some 24, some 25, some 26, some 27, some 28, some 29, some 30, some 31, none, some 32]) from rfl)) (C11_parts G67 L3 w0 hin.2.2 false R hW3 (by rw [eR, hZZ]; exact sok_mO (sup_mpo hO1) (sup_mpo hO2) _ _ _ sok_z)) rfl rfl (by decide) (Nat.le_of_ble_eq_true rfl) (by decide) (by decide) (fun r195 f195 al195 h195 => ?_)
                          obtain ⟨G195, L195, rfl, rfl, rfl, hg195, hl195⟩ := h195
                          show fv_At Y11_constant 3 0 0 Q 198 [(0, .ref 0), (1, .int (nI u0)), (2, .int (nI v0)), (3, .int (nI w0)), (4, .int (nI e))] [.long (mfl false (cq true w0) R)] (fw mT G195 L195) none 0 0
                          exact fx_lret dX11_constant_198 rfl rfl rfl (by rw [hQ]; exact (by rw [show yCon (u0 : Int) (v0 : Int) (w0 : Int) = mfl false (cq true w0) R by unfold yCon; exact (if_pos hin).trans (by rw [eR, hZZ]; rfl)]; exact qml_of hM (fun i j a b c => (hg195 i j a c).trans ((hg67 i j a b c).trans ((hg32 i j a b c).trans (hoA i j a c)))) (fun i hi => (hl195 i (by omega) (by omega)).trans (hLx i hi)) _))
                        · exfalso; omega
                      | succ k3 ih107 =>
                        intro e R L3 he3 hoL3 hW3 hR
                        refine fx_iload dX11_constant_107 rfl ?_
                        refine fx_ldc dX11_constant_109 kc11_30 (fn_to (show _ = (nI 59049) by decide) ?_)
                        refine fn_icmp_ge (tgt := 192) dX11_constant_111 (by decide) (by omega) (by omega) (fun c111 => ?_) (fun c111 => ?_)
                        · exfalso; omega
                        · skip
                          refine fx_iconst (v := (nI 0)) dX11_constant_114 (by decide) ?_
                          refine fx_istore (lv2 := [(0, .ref 0), (1, .int (nI u0)), (2, .int (nI v0)), (3, .int (nI w0)), (4, .int (nI e)), (5, .int (nI 0))]) dX11_constant_115 (by decide) rfl ?_
                          have L117 : ∀ (k4 : Nat) (f : Nat) (R2 : Nat → Int64) (L4 : Nat → Nat → Int64), (f + k4 = 59049) → (∀ i, i ≠ 7 → L4 i = L101 i) → (wkd L4 R2) → (mpo u0 (nex e) = 0 → R2 = R) → (mI (mpo u0) (mpo v0) e k4 f R2 = mI (mpo u0) (mpo v0) e 59049 0 R) → fv_At Y11_constant 3 0 0 Q 117 [(0, .ref 0), (1, .int (nI u0)), (2, .int (nI v0)), (3, .int (nI w0)), (4, .int (nI e)), (5, .int (nI f))] [] (fw mT G67 L4) none 0 0 := by
                            intro k4
                            induction k4 with
                            | zero =>
                              intro f R2 L4 hf4 hoL4 hW4 hZ hR2
                              refine fx_iload dX11_constant_117 rfl ?_
                              refine fx_ldc dX11_constant_119 kc11_30 (fn_to (show _ = (nI 59049) by decide) ?_)
                              refine fn_icmp_ge (tgt := 186) dX11_constant_121 (by decide) (by omega) (by omega) (fun c121 => ?_) (fun c121 => ?_)
                              · skip
                                refine fn_iinc (c := 1) (lv2 := [(0, .ref 0), (1, .int (nI u0)), (2, .int (nI v0)), (3, .int (nI w0)), (4, .int (nI (e + 1))), (5, .int (nI f))]) dX11_constant_186 (by decide) rfl (by decide) rfl ?_
                                refine fx_goto (tgt := 107) dX11_constant_189 (by decide) ?_
                                exact fn_sub [0, 1, 2, 3, 4] rfl (ih107 (e + 1) R2 L4 (by omega) hoL4 hW4 (by rw [← hR, mO_s]; by_cases z : mpo u0 (nex e) = 0; (rw [if_pos z, hZ z]); rw [if_neg z, ← hR2]; first | rfl | exact absurd c133 z))
                              · exfalso; omega
                            | succ k4 ih117 =>
                              intro f R2 L4 hf4 hoL4 hW4 hZ hR2
                              refine fx_iload dX11_constant_117 rfl ?_
                              refine fx_ldc dX11_constant_119 kc11_30 (fn_to (show _ = (nI 59049) by decide) ?_)
                              refine fn_icmp_ge (tgt := 186) dX11_constant_121 (by decide) (by omega) (by omega) (fun c121 => ?_) (fun c121 => ?_)
                              · exfalso; omega
                              · skip
                                refine fx_aload_n dX11_constant_124 rfl (i := 0) rfl ?_
                                refine fw_getr dX11_constant_125 fd11_40 rfl rfl ?_
                                refine fx_iload dX11_constant_128 rfl ?_
                                refine fw_lald e dX11_constant_130 rfl rfl (by omega) (by decide) ?_
                                refine fn_toL (show _ = (mpo u0 (nex e)) from (by rw [hoL4 10 (by decide)]; exact hF1 e (by omega))) ?_
                                refine fx_lconst (v := 0) dX11_constant_131 (by decide) ?_
                                refine fx_lcmp dX11_constant_132 ?_
                                refine fn_if_eqC (tgt := 186) dX11_constant_133 (by decide) (fun c133 => ?_) (fun c133 => ?_)
                                · skip
                                  refine fn_iinc (c := 1) (lv2 := [(0, .ref 0), (1, .int (nI u0)), (2, .int (nI v0)), (3, .int (nI w0)), (4, .int (nI (e + 1))), (5, .int (nI f))]) dX11_constant_186 (by decide) rfl (by decide) rfl ?_
                                  refine fx_goto (tgt := 107) dX11_constant_189 (by decide) ?_
                                  exact fn_sub [0, 1, 2, 3, 4] rfl (ih107 (e + 1) R2 L4 (by omega) hoL4 hW4 (by rw [← hR, mO_s]; by_cases z : mpo u0 (nex e) = 0; (rw [if_pos z, hZ z]); rw [if_neg z, ← hR2]; first | rfl | exact absurd c133 z))
                                · skip
                                  refine fx_aload_n dX11_constant_136 rfl (i := 0) rfl ?_
                                  refine fw_getr dX11_constant_137 fd11_31 rfl rfl ?_
                                  refine fx_aload_n dX11_constant_140 rfl (i := 0) rfl ?_
                                  refine fw_getr dX11_constant_141 fd11_43 rfl rfl ?_
                                  refine fx_iload dX11_constant_144 rfl ?_
                                  refine fw_lald f dX11_constant_146 rfl rfl (by omega) (by decide) ?_
                                  refine fn_toL (show _ = (mpo v0 (nex f)) from (by rw [hoL4 11 (by decide)]; exact hF2 f (by omega))) ?_
                                  refine fx_lconst (v := 0) dX11_constant_147 (by decide) ?_
                                  refine fx_lcmp dX11_constant_148 ?_
                                  refine fn_if_eqC (tgt := 160) dX11_constant_149 (by decide) (fun c149 => ?_) (fun c149 => ?_)
                                  · skip
                                    refine fx_iconst (v := (nI 0)) dX11_constant_160 (by decide) ?_
                                    refine fx_dup2 dX11_constant_161 rfl rfl ?_
                                    refine fw_lald 0 dX11_constant_162 rfl rfl (by omega) (by decide) ?_
                                    refine fn_toL (show _ = (R2 0) from (hW4 0 (by decide))) ?_
                                    refine fx_aload_n dX11_constant_163 rfl (i := 0) rfl ?_
                                    refine fw_getr dX11_constant_164 fd11_40 rfl rfl ?_
                                    refine fx_iload dX11_constant_167 rfl ?_
                                    refine fw_lald e dX11_constant_169 rfl rfl (by omega) (by decide) ?_
                                    refine fn_toL (show _ = (mpo u0 (nex e)) from (by rw [hoL4 10 (by decide)]; exact hF1 e (by omega))) ?_
                                    refine fx_aload_n dX11_constant_170 rfl (i := 0) rfl ?_
                                    refine fw_getr dX11_constant_171 fd11_43 rfl rfl ?_
                                    refine fx_iload dX11_constant_174 rfl ?_
                                    refine fw_lald f dX11_constant_176 rfl rfl (by omega) (by decide) ?_
                                    refine fn_toL (show _ = (mpo v0 (nex f)) from (by rw [hoL4 11 (by decide)]; exact hF2 f (by omega))) ?_
                                    refine fx_lmul dX11_constant_177 ?_
                                    refine fx_ladd dX11_constant_178 ?_
                                    refine fw_last 0 dX11_constant_179 rfl rfl (by omega) (by decide) ?_
                                    refine fn_iinc (c := 1) (lv2 := [(0, .ref 0), (1, .int (nI u0)), (2, .int (nI v0)), (3, .int (nI w0)), (4, .int (nI e)), (5, .int (nI (f + 1)))]) dX11_constant_180 (by decide) rfl (by decide) rfl ?_
                                    refine fx_goto (tgt := 117) dX11_constant_183 (by decide) ?_
                                    exact (ih117 (f + 1) R2 (g2 L4 7 0 ((((R2 0)) + ((((mpo u0 (nex e))) * ((mpo v0 (nex f)))))))) (by omega) (fun i q => (g2_rowL q).trans (hoL4 i q)) (fun p q => by by_cases z : p = 0; (rw [z, g2_eq, c149, Int64.mul_zero, Int64.add_zero]; rfl); exact (g2_ne _ _ (fun y => z y.2)).trans (hW4 p q)) (fun z => absurd z c133) (by rw [← hR2, mI_s, if_pos c149]))
                                  · skip
                                    have hse := sup_mpo hO1 (nex e) c133
                                    have hsf := sup_mpo hO2 (nex f) c149
                                    have hef := stc_add hse hsf
                                    have h15 := nin_in hef
                                    refine fx_iload dX11_constant_152 rfl ?_
                                    refine fx_iload dX11_constant_154 rfl ?_
                                    refine fn_iadd dX11_constant_156 ?_
                                    refine fn_to (show _ = (nI (nin (nex e + nex f))) from (congrArg nI (nin_add (by omega) (by omega) hse hsf).symm)) ?_
                                    refine fx_goto (tgt := 161) dX11_constant_157 (by decide) ?_
                                    refine fx_dup2 dX11_constant_161 rfl rfl ?_
                                    refine fw_lald (nin (nex e + nex f)) dX11_constant_162 rfl rfl (by omega) (by decide) ?_
                                    refine fn_toL (show _ = (R2 (nex e + nex f)) from (by rw [hW4 _ (nin_in hef), nex_nin hef])) ?_
                                    refine fx_aload_n dX11_constant_163 rfl (i := 0) rfl ?_
                                    refine fw_getr dX11_constant_164 fd11_40 rfl rfl ?_
                                    refine fx_iload dX11_constant_167 rfl ?_
                                    refine fw_lald e dX11_constant_169 rfl rfl (by omega) (by decide) ?_
                                    refine fn_toL (show _ = (mpo u0 (nex e)) from (by rw [hoL4 10 (by decide)]; exact hF1 e (by omega))) ?_
                                    refine fx_aload_n dX11_constant_170 rfl (i := 0) rfl ?_
                                    refine fw_getr dX11_constant_171 fd11_43 rfl rfl ?_
                                    refine fx_iload dX11_constant_174 rfl ?_
                                    refine fw_lald f dX11_constant_176 rfl rfl (by omega) (by decide) ?_
                                    refine fn_toL (show _ = (mpo v0 (nex f)) from (by rw [hoL4 11 (by decide)]; exact hF2 f (by omega))) ?_
                                    refine fx_lmul dX11_constant_177 ?_
                                    refine fx_ladd dX11_constant_178 ?_
                                    refine fw_last (nin (nex e + nex f)) dX11_constant_179 rfl rfl (by omega) (by decide) ?_
                                    refine fn_iinc (c := 1) (lv2 := [(0, .ref 0), (1, .int (nI u0)), (2, .int (nI v0)), (3, .int (nI w0)), (4, .int (nI e)), (5, .int (nI (f + 1)))]) dX11_constant_180 (by decide) rfl (by decide) rfl ?_
                                    refine fx_goto (tgt := 117) dX11_constant_183 (by decide) ?_
                                    exact (ih117 (f + 1) (adS R2 (nex e + nex f) (mpo u0 (nex e) * mpo v0 (nex f))) (g2 L4 7 (nin (nex e + nex f)) ((((R2 (nex e + nex f))) + ((((mpo u0 (nex e))) * ((mpo v0 (nex f)))))))) (by omega) (fun i q => (g2_rowL q).trans (hoL4 i q)) (wkd_ad hW4 hef) (fun z => absurd z c133) (by rw [← hR2, mI_s, if_neg c149]))
                          exact (L117 59049 0 R L3 (by omega) hoL3 hW3 (fun _ => rfl) rfl)
                    exact (L107 59049 0 zS L101 (by omega) (fun _ _ => rfl) hw101 hZZ.symm)
                  · exfalso; omega
                | succ k2 ih73 =>
                  intro e L2 he2 hoL2 hA2
                  refine fx_iload dX11_constant_73 rfl ?_
                  refine fx_ldc dX11_constant_75 kc11_30 (fn_to (show _ = (nI 59049) by decide) ?_)
                  refine fn_icmp_ge (tgt := 100) dX11_constant_77 (by decide) (by omega) (by omega) (fun c77 => ?_) (fun c77 => ?_)
                  · exfalso; omega
                  · skip
                    refine fx_aload_n dX11_constant_80 rfl (i := 0) rfl ?_
                    refine fw_getr dX11_constant_81 fd11_43 rfl rfl ?_
                    refine fx_iload dX11_constant_84 rfl ?_
                    refine fx_aload_n dX11_constant_86 rfl (i := 0) rfl ?_
                    refine fw_getr dX11_constant_87 fd11_31 rfl rfl ?_
                    refine fx_iload dX11_constant_90 rfl ?_
                    refine fw_lald e dX11_constant_92 rfl rfl (by omega) (by decide) ?_
                    refine fn_toL (show _ = (mpo v0 (nex e)) from (by rw [hoL2 7 (by decide)]; exact hw67 e (by omega))) ?_
                    refine fw_last e dX11_constant_93 rfl rfl (by omega) (by decide) ?_
                    refine fn_iinc (c := 1) (lv2 := [(0, .ref 0), (1, .int (nI u0)), (2, .int (nI v0)), (3, .int (nI w0)), (4, .int (nI (e + 1)))]) dX11_constant_94 (by decide) rfl (by decide) rfl ?_
                    refine fx_goto (tgt := 73) dX11_constant_97 (by decide) ?_
                    exact (ih73 (e + 1) (g2 L2 11 e ((mpo v0 (nex e)))) (by omega) (fun i q => (g2_rowL q).trans (hoL2 i q)) (fun p q => by by_cases z : p = e; (rw [z]; exact g2_eq _ _ _ _); exact (g2_ne _ _ (fun y => z y.2)).trans (hA2 p (by omega))))
              exact (L73 59049 0 L67 (by omega) (fun _ _ => rfl) (fun p q => absurd q (Nat.not_lt_zero _)))
            · exfalso; omega
          | succ k1 ih38 =>
            intro e L1 he hoL1 hA1
            refine fx_iload dX11_constant_38 rfl ?_
            refine fx_ldc dX11_constant_40 kc11_30 (fn_to (show _ = (nI 59049) by decide) ?_)
            refine fn_icmp_ge (tgt := 65) dX11_constant_42 (by decide) (by omega) (by omega) (fun c42 => ?_) (fun c42 => ?_)
            · exfalso; omega
            · skip
              refine fx_aload_n dX11_constant_45 rfl (i := 0) rfl ?_
              refine fw_getr dX11_constant_46 fd11_40 rfl rfl ?_
              refine fx_iload dX11_constant_49 rfl ?_
              refine fx_aload_n dX11_constant_51 rfl (i := 0) rfl ?_
              refine fw_getr dX11_constant_52 fd11_31 rfl rfl ?_
              refine fx_iload dX11_constant_55 rfl ?_
              refine fw_lald e dX11_constant_57 rfl rfl (by omega) (by decide) ?_
              refine fn_toL (show _ = (mpo u0 (nex e)) from (by rw [hoL1 7 (by decide)]; exact hw32 e (by omega))) ?_
              refine fw_last e dX11_constant_58 rfl rfl (by omega) (by decide) ?_
              refine fn_iinc (c := 1) (lv2 := [(0, .ref 0), (1, .int (nI u0)), (2, .int (nI v0)), (3, .int (nI w0)), (4, .int (nI (e + 1)))]) dX11_constant_59 (by decide) rfl (by decide) rfl ?_
              refine fx_goto (tgt := 38) dX11_constant_62 (by decide) ?_
              exact (ih38 (e + 1) (g2 L1 10 e ((mpo u0 (nex e)))) (by omega) (fun i q => (g2_rowL q).trans (hoL1 i q)) (fun p q => by by_cases z : p = e; (rw [z]; exact g2_eq _ _ _ _); exact (g2_ne _ _ (fun y => z y.2)).trans (hA1 p (by omega))))
        exact (L38 59049 0 L32 (by omega) (fun _ _ => rfl) (fun p q => absurd q (Nat.not_lt_zero _)))
      · skip
        refine fx_bipush (v := (iI (-2))) dX11_constant_24 (by decide) ?_
        refine fn_cS dX11_constant_26 lk11_182 (C11_no (c := -2)  (f := (fw mT G18 L))) rfl rfl (by decide) (Nat.le_of_ble_eq_true rfl) ?_
        show fv_At Y11_constant 3 0 0 Q 29 [(0, .ref 0), (1, .int (iI u)), (2, .int (iI v)), (3, .int (iI w))] [.long (rfs (-2))] (fw mT G18 L) none 0 0
        exact fx_lret dX11_constant_29 rfl rfl rfl (by rw [hQ]; exact (by rw [show yCon u v w = rfs (-2) by unfold yCon; exact if_neg (fun q => by first | exact absurd q.1 (of_decide_eq_false c5) | exact absurd q.2.1 (of_decide_eq_false c13) | exact absurd q.2.2 (of_decide_eq_false c21))]; exact qml_of hM (fun i j a _ c => (ho18 i j a c).trans ((ho10 i j a c).trans (ho2 i j a c))) (fun _ _ => rfl) _))
