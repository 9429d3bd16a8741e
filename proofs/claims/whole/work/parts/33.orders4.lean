/-- an answer; of the cells the order at work and what is found may have changed -/
def qmo (G : Nat → Nat → Int32) (L : Nat → Nat → Int64) (v : Int) : Option Value → fv_F → Option Nat → Prop := fun r2 f2 al2 => ∃ G2 : Nat → Nat → Int32, r2 = some (.int (iI v)) ∧ f2 = fw mT G2 L ∧ al2 = none ∧ ∀ i j, i ≠ 1 → i ≠ 2 → ¬ (i = 0 ∧ j = 1) → G2 i j = G i j
def onI (h : Nat → Nat) (f : Nat) : Nat → Nat → Nat → Nat
  | 0, _, c => c
  | k + 1, i, c => onI h f k (i + 1) (if h i = f then 10 * c + i + 1 else c)
def onO (h : Nat → Nat) (n : Nat) : Nat → Nat → Nat → Nat
  | 0, _, c => c
  | k + 1, f, c => onO h n k (f + 1) (onI h f n 0 c)
theorem ord_inv : ∀ o, o ∈ ordL → onO (dgt o (figN o)) (figN o) (figN o) 1 0 = oinv (dgt o (figN o)) (figN o) (figN o) 0 0 := by
  have h : ordL.all (fun o => onO (dgt o (figN o)) (figN o) (figN o) 1 0 == oinv (dgt o (figN o)) (figN o) (figN o) 0 0) = true := by decide +kernel
  intro o ho
  exact of_decide_eq_true (List.all_eq_true.mp h o ho)
theorem figs_N {w : Nat} (h : figs (w : Int) ≠ 0) : figs (w : Int) = figN w ∧ w ∈ ordL := by
  have hb := figs_b h
  have hf : figs (w : Int) = figN w := by
    unfold figs
    rw [if_neg (by omega)]
    rfl
  exact ⟨hf, ord_in w (by omega) (by rw [← hf]; exact h)⟩
theorem mor_swh {G : Nat → Nat → Int32} {n a b : Nat} {h : Nat → Nat} (hm : mor G n h) (ha : a < n) (hb : b < n) : mor (g2 (g2 G 1 a (G 1 b)) 1 b (G 1 a)) n (swh h a b) := by
  refine ⟨hm.1, ?_, fun p hp => ?_⟩
  · rw [g2_ne _ _ (fun q => absurd q.1 (by decide)), g2_ne _ _ (fun q => absurd q.1 (by decide))]
    exact hm.2.1
  · unfold swh
    by_cases e : p = b
    · rw [if_pos e, e, g2_eq]
      exact hm.2.2 a ha
    · rw [if_neg e, g2_ne _ _ (fun q => e q.2)]
      by_cases e2 : p = a
      · rw [if_pos e2, e2, g2_eq]
        exact hm.2.2 b hb
      · rw [if_neg e2, g2_ne _ _ (fun q => e2 q.2)]
        exact hm.2.2 p hp

set_option maxRecDepth 4000 in
set_option maxHeartbeats 1000000 in
theorem C11_length  (G : Nat → Nat → Int32) (L : Nat → Nat → Int64) (o : Int) (o1 : -2147483648 ≤ o) (o2 : o < 2147483648) : fv_M Y11_length 2 0 0 [.ref 0, .int (iI o)] (fw mT G L) none (qmo G L (xLen o)) := by
  refine fv_enter rfl (Nat.le_of_ble_eq_true rfl) ?_
  obtain ⟨Q, hQ⟩ : ∃ Q : Option Value → fv_F → Option Nat → Prop, Q = (qmo G L (xLen o)) := ⟨_, rfl⟩
  rw [← hQ]
  show fv_At Y11_length 2 0 0 Q 0 [(0, .ref 0), (1, .int (iI o))] [] (fw mT G L) none 0 0
  refine fx_aload_n dX11_length_0 rfl (i := 0) rfl ?_
  refine fx_iload_n dX11_length_1 rfl (i := 1) rfl ?_
  refine fx_callV dX11_length_2 lk11_133 fv_c8 rfl (fw_at (show mT 0 = some (3, 8, 38, [some 1, none, some 2, some 3, some 4, some 5, some 6, some 7, some 8, some 9, some 10, some 11, some 12, some 13, some 14, some 15, some 16, some 17, some 18, some 19, none, none, none, some 20, some 21, some 22, some 23, none, some 24, some 25, some 26, some 27, some 28, some 29, some 30, some 31, none, some 32]) from rfl)) (C11_reads G L o (by omega) (by omega)) rfl rfl (by decide) (Nat.le_of_ble_eq_true rfl) (by decide) (by decide) (fun r2 f2 al2 h2 => ?_)
  obtain ⟨G2, rfl, rfl, rfl, ho2, hm2⟩ := h2
  show fv_At Y11_length 2 0 0 Q 5 [(0, .ref 0), (1, .int (iI o))] [.int (bI (decide (figs o ≠ 0)))] (fw mT G2 L) none 0 0
  refine fn_if_eqB (tgt := 15) dX11_length_5 (by decide) (fun c5 => ?_) (fun c5 => ?_)
  · skip
    refine fx_bipush (v := (iI (-2))) dX11_length_15 (by decide) ?_
    exact fx_iret dX11_length_17 rfl rfl rfl (by rw [hQ]; exact ⟨G2, by unfold xLen; rw [if_pos (by have := of_decide_eq_false c5; omega)], rfl, rfl, fun i j a _ c => ho2 i j a c⟩)
  · skip
    refine fx_aload_n dX11_length_8 rfl (i := 0) rfl ?_
    refine fn_cV dX11_length_9 lk11_137 fv_c8 rfl (fw_at (show mT 0 = some (3, 8, 38, [some 1, none, some 2, some 3, some 4, some 5, some 6, some 7, some 8, some 9, some 10, some 11, some 12, some 13, some 14, some 15, some 16, some 17, some 18, some 19, none, none, none, some 20, some 21, some 22, some 23, none, some 24, some 25, some 26, some 27, some 28, some 29, some 30, some 31, none, some 32]) from rfl)) (C11_lengthNow G2 L (figs o) (dgt o.toNat (figs o)) (hm2 (of_decide_eq_true c5)) (fun p _ => dgt_lt _ _ _)) rfl rfl (by decide) (Nat.le_of_ble_eq_true rfl) ?_
    show fv_At Y11_length 2 0 0 Q 12 [(0, .ref 0), (1, .int (iI o))] [.int (nI (ofal (dgt o.toNat (figs o)) (figs o)))] (fw mT G2 L) none 0 0
    refine fx_goto (tgt := 17) dX11_length_12 (by decide) ?_
    exact fx_iret dX11_length_17 rfl rfl rfl (by rw [hQ]; exact ⟨G2, by unfold xLen; rw [if_neg (of_decide_eq_true c5)]; rfl, rfl, rfl, fun i j a _ c => ho2 i j a c⟩)

set_option maxRecDepth 4000 in
set_option maxHeartbeats 1000000 in
theorem C11_exchange  (G : Nat → Nat → Int32) (L : Nat → Nat → Int64) (o i : Int) (o1 : -2147483648 ≤ o) (o2 : o < 2147483648) (i1 : -2147483648 ≤ i) (i2 : i < 2147483648) : fv_M Y11_exchange 2 0 0 [.ref 0, .int (iI o), .int (iI i)] (fw mT G L) none (qmo G L (xExc o i)) := by
  refine fv_enter rfl (Nat.le_of_ble_eq_true rfl) ?_
  obtain ⟨Q, hQ⟩ : ∃ Q : Option Value → fv_F → Option Nat → Prop, Q = (qmo G L (xExc o i)) := ⟨_, rfl⟩
  rw [← hQ]
  show fv_At Y11_exchange 2 0 0 Q 0 [(0, .ref 0), (1, .int (iI o)), (2, .int (iI i))] [] (fw mT G L) none 0 0
  have fo5 := figs_le o
  refine fx_aload_n dX11_exchange_0 rfl (i := 0) rfl ?_
  refine fx_iload_n dX11_exchange_1 rfl (i := 1) rfl ?_
  refine fx_callV dX11_exchange_2 lk11_133 fv_c8 rfl (fw_at (show mT 0 = some (3, 8, 38, [some 1, none, some 2, some 3, some 4, some 5, some 6, some 7, some 8, some 9, some 10, some 11, some 12, some 13, some 14, some 15, some 16, some 17, some 18, some 19, none, none, none, some 20, some 21, some 22, some 23, none, some 24, some 25, some 26, some 27, some 28, some 29, some 30, some 31, none, some 32]) from rfl)) (C11_reads G L o (by omega) (by omega)) rfl rfl (by decide) (Nat.le_of_ble_eq_true rfl) (by decide) (by decide) (fun r2 f2 al2 h2 => ?_)
  obtain ⟨G2, rfl, rfl, rfl, ho2, hm2⟩ := h2
  show fv_At Y11_exchange 2 0 0 Q 5 [(0, .ref 0), (1, .int (iI o)), (2, .int (iI i))] [.int (bI (decide (figs o ≠ 0)))] (fw mT G2 L) none 0 0
  refine fn_if_eqB (tgt := 24) dX11_exchange_5 (by decide) (fun c5 => ?_) (fun c5 => ?_)
  · skip
    refine fx_bipush (v := (iI (-2))) dX11_exchange_24 (by decide) ?_
    exact fx_iret dX11_exchange_26 rfl rfl rfl (by rw [hQ]; exact ⟨G2, by unfold xExc; rw [if_pos (by first | (have h5 := of_decide_eq_false c5; omega) | (have h21 := of_decide_eq_false c21; omega))], rfl, rfl, fun i j a _ c => ho2 i j a c⟩)
  · skip
    refine fx_iload_n dX11_exchange_8 rfl (i := 2) rfl ?_
    refine fx_i2l dX11_exchange_9 ?_
    refine fn_toL (show _ = lI i from lI_of (z := i) (by omega) (by omega)) ?_
    refine fx_lconst (v := 1) dX11_exchange_10 (by decide) ?_
    refine fn_toL (show _ = (lI 1) from (by decide)) ?_
    refine fx_aload_n dX11_exchange_11 rfl (i := 0) rfl ?_
    refine fw_geti dX11_exchange_12 fd11_130 rfl rfl ?_
    refine fn_to (show _ = (nI (figs o)) from (hm2 (of_decide_eq_true c5)).2.1) ?_
    refine fx_iconst (v := (nI 1)) dX11_exchange_15 (by decide) ?_
    refine fn_isubZ (a := ((figs o : Nat) : Int)) (b := ((1 : Nat) : Int)) dX11_exchange_16 ?_
    refine fx_i2l dX11_exchange_17 ?_
    refine fn_toL (show _ = lI ((((figs o : Nat) : Int)) - (((1 : Nat) : Int))) from lI_of (z := (((figs o : Nat) : Int)) - (((1 : Nat) : Int))) (by omega) (by omega)) ?_
    refine fn_cS dX11_exchange_18 lk11_126 (C11_in (v := i) (a := 1) (b := (((figs o : Nat) : Int)) - (((1 : Nat) : Int))) (by omega) (by omega) (by omega) (by omega) (by omega) (by omega) (f := (fw mT G2 L))) rfl rfl (by decide) (Nat.le_of_ble_eq_true rfl) ?_
    show fv_At Y11_exchange 2 0 0 Q 21 [(0, .ref 0), (1, .int (iI o)), (2, .int (iI i))] [.int (bI (decide (1 ≤ i ∧ i ≤ ((((figs o : Nat) : Int)) - (((1 : Nat) : Int))))))] (fw mT G2 L) none 0 0
    refine fn_if_neB (tgt := 27) dX11_exchange_21 (by decide) (fun c21 => ?_) (fun c21 => ?_)
    · skip
      have hne := of_decide_eq_true c5
      have hin := of_decide_eq_true c21
      have fob := figs_b (o := o) (by omega)
      obtain ⟨w, rfl⟩ : ∃ w : Nat, o = (w : Int) := ⟨o.toNat, by omega⟩
      obtain ⟨j, rfl⟩ : ∃ j : Nat, i = ((j + 1 : Nat) : Int) := ⟨i.toNat - 1, by omega⟩
      obtain ⟨hfN, hoL⟩ := figs_N hne
      have hm3 := mor_swh (a := j) (b := j + 1) (hm2 hne) (by omega) (by omega)
      show fv_At Y11_exchange 2 0 0 Q 27 [(0, .ref 0), (1, .int (nI w)), (2, .int (nI (j + 1)))] [] (fw mT G2 L) none 0 0
      refine fx_aload_n dX11_exchange_27 rfl (i := 0) rfl ?_
      refine fx_iload_n dX11_exchange_28 rfl (i := 2) rfl ?_
      refine fx_iconst (v := (nI 1)) dX11_exchange_29 (by decide) ?_
      refine fn_isub dX11_exchange_30 (by omega) ?_
      refine fn_to (show _ = (nI j) from congrArg nI (by omega)) ?_
      refine fx_iload_n dX11_exchange_31 rfl (i := 2) rfl ?_
      refine fn_cV dX11_exchange_32 lk11_141 fv_c8 rfl (fw_at (show mT 0 = some (3, 8, 38, [some 1, none, some 2, some 3, some 4, some 5, some 6, some 7, some 8, some 9, some 10, some 11, some 12, some 13, some 14, some 15, some 16, some 17, some 18, some 19, none, none, none, some 20, some 21, some 22, some 23, none, some 24, some 25, some 26, some 27, some 28, some 29, some 30, some 31, none, some 32]) from rfl)) (C11_change G2 L j (j + 1) (by omega) (by omega)) rfl rfl (by decide) (Nat.le_of_ble_eq_true rfl) ?_
      show fv_At Y11_exchange 2 0 0 Q 35 [(0, .ref 0), (1, .int (nI w)), (2, .int (nI (j + 1)))] [] (fw mT (g2 (g2 G2 1 j (G2 1 (j + 1))) 1 (j + 1) (G2 1 j)) L) none 0 0
      refine fx_aload_n dX11_exchange_35 rfl (i := 0) rfl ?_
      refine fn_cV dX11_exchange_36 lk11_145 fv_c8 rfl (fw_at (show mT 0 = some (3, 8, 38, [some 1, none, some 2, some 3, some 4, some 5, some 6, some 7, some 8, some 9, some 10, some 11, some 12, some 13, some 14, some 15, some 16, some 17, some 18, some 19, none, none, none, some 20, some 21, some 22, some 23, none, some 24, some 25, some 26, some 27, some 28, some 29, some 30, some 31, none, some 32]) from rfl)) (C11_told (g2 (g2 G2 1 j (G2 1 (j + 1))) 1 (j + 1) (G2 1 j)) L (figs (w : Int)) (swh (dgt w (figs (w : Int))) j (j + 1)) hm3) rfl rfl (by decide) (Nat.le_of_ble_eq_true rfl) ?_
      show fv_At Y11_exchange 2 0 0 Q 39 [(0, .ref 0), (1, .int (nI w)), (2, .int (nI (j + 1)))] [.int (nI (tld ((swh (dgt w (figs (w : Int))) j (j + 1))) ((figs (w : Int)))))] (fw mT (g2 (g2 G2 1 j (G2 1 (j + 1))) 1 (j + 1) (G2 1 j)) L) none 0 0
      exact fx_iret dX11_exchange_39 rfl rfl rfl (by rw [hQ]; exact ⟨_, by unfold xExc; rw [if_neg (by omega)]; have e := ord_swp w hoL j (by rw [← hfN]; omega); rw [← hfN] at e; exact congrArg (fun z => some (Value.int (nI z))) e, rfl, rfl, fun i p a _ c => by rw [g2_ne _ _ (fun q => a q.1), g2_ne _ _ (fun q => a q.1)]; exact ho2 i p a c⟩)
    · skip
      refine fx_bipush (v := (iI (-2))) dX11_exchange_24 (by decide) ?_
      exact fx_iret dX11_exchange_26 rfl rfl rfl (by rw [hQ]; exact ⟨G2, by unfold xExc; rw [if_pos (by first | (have h5 := of_decide_eq_false c5; omega) | (have h21 := of_decide_eq_false c21; omega))], rfl, rfl, fun i j a _ c => ho2 i j a c⟩)

set_option maxRecDepth 4000 in
set_option maxHeartbeats 1000000 in
theorem C11_inverse  (G : Nat → Nat → Int32) (L : Nat → Nat → Int64) (o : Int) (o1 : -2147483648 ≤ o) (o2 : o < 2147483648) : fv_M Y11_inverse 2 0 0 [.ref 0, .int (iI o)] (fw mT G L) none (qmo G L (xInv o)) := by
  refine fv_enter rfl (Nat.le_of_ble_eq_true rfl) ?_
  obtain ⟨Q, hQ⟩ : ∃ Q : Option Value → fv_F → Option Nat → Prop, Q = (qmo G L (xInv o)) := ⟨_, rfl⟩
  rw [← hQ]
  show fv_At Y11_inverse 2 0 0 Q 0 [(0, .ref 0), (1, .int (iI o))] [] (fw mT G L) none 0 0
  have fo5 := figs_le o
  refine fx_aload_n dX11_inverse_0 rfl (i := 0) rfl ?_
  refine fx_iload_n dX11_inverse_1 rfl (i := 1) rfl ?_
  refine fx_callV dX11_inverse_2 lk11_133 fv_c8 rfl (fw_at (show mT 0 = some (3, 8, 38, [some 1, none, some 2, some 3, some 4, some 5, some 6, some 7, some 8, some 9, some 10, some 11, some 12, some 13, some 14, some 15, some 16, some 17, some 18, some 19, none, none, none, some 20, some 21, some 22, some 23, none, some 24, some 25, some 26, some 27, some 28, some 29, some 30, some 31, none, some 32]) from rfl)) (C11_reads G L o (by omega) (by omega)) rfl rfl (by decide) (Nat.le_of_ble_eq_true rfl) (by decide) (by decide) (fun r2 f2 al2 h2 => ?_)
  obtain ⟨G2, rfl, rfl, rfl, ho2, hm2⟩ := h2
  show fv_At Y11_inverse 2 0 0 Q 5 [(0, .ref 0), (1, .int (iI o))] [.int (bI (decide (figs o ≠ 0)))] (fw mT G2 L) none 0 0
  refine fn_if_neB (tgt := 11) dX11_inverse_5 (by decide) (fun c5 => ?_) (fun c5 => ?_)
  · skip
    have hne := of_decide_eq_true c5
    have fob := figs_b (o := o) (by omega)
    obtain ⟨w, rfl⟩ : ∃ w : Nat, o = (w : Int) := ⟨o.toNat, by omega⟩
    obtain ⟨hfN, hoL⟩ := figs_N hne
    have hd9 := fun p => dgt_lt w (figs (w : Int)) p
    show fv_At Y11_inverse 2 0 0 Q 11 [(0, .ref 0), (1, .int (nI w))] [] (fw mT G2 L) none 0 0
    refine fx_iconst (v := (nI 0)) dX11_inverse_11 (by decide) ?_
    refine fx_istore_n (lv2 := [(0, .ref 0), (1, .int (nI w)), (2, .int (nI 0))]) dX11_inverse_12 (i := 2) rfl (by decide) rfl ?_
    refine fx_iconst (v := (nI 1)) dX11_inverse_13 (by decide) ?_
    refine fx_istore_n (lv2 := [(0, .ref 0), (1, .int (nI w)), (2, .int (nI 0)), (3, .int (nI 1))]) dX11_inverse_14 (i := 3) rfl (by decide) rfl ?_
    have L15 : ∀ (k : Nat) (c : Nat) (g : Nat), (g + k = figs (w : Int) + 1) → (onO (dgt w (figs (w : Int))) (figs (w : Int)) k g c = onO (dgt w (figs (w : Int))) (figs (w : Int)) (figs (w : Int)) 1 0) → fv_At Y11_inverse 2 0 0 Q 15 [(0, .ref 0), (1, .int (nI w)), (2, .int (nI c)), (3, .int (nI g))] [] (fw mT G2 L) none 0 0 := by
      intro k
      induction k with
      | zero =>
        intro c g hg hR
        refine fx_iload_n dX11_inverse_15 rfl (i := 3) rfl ?_
        refine fx_aload_n dX11_inverse_16 rfl (i := 0) rfl ?_
        refine fw_geti dX11_inverse_17 fd11_130 rfl rfl ?_
        refine fn_to (show _ = (nI (figs (w : Int))) from (hm2 hne).2.1) ?_
        refine fn_icmp_gt (tgt := 72) dX11_inverse_20 (by decide) (by omega) (by omega) (fun c20 => ?_) (fun c20 => ?_)
        · skip
          refine fx_iload_n dX11_inverse_72 rfl (i := 2) rfl ?_
          exact fx_iret dX11_inverse_73 rfl rfl rfl (by rw [hQ]; exact ⟨G2, by unfold xInv; rw [if_neg hne]; have e := ord_inv w hoL; rw [← hfN] at e; have e2 : c = onO (dgt w (figs (w : Int))) (figs (w : Int)) (figs (w : Int)) 1 0 := hR; rw [e2]; exact congrArg (fun z => some (Value.int (nI z))) e, rfl, rfl, fun i j a _ c => ho2 i j a c⟩)
        · exfalso; omega
      | succ k ih15 =>
        intro c g hg hR
        refine fx_iload_n dX11_inverse_15 rfl (i := 3) rfl ?_
        refine fx_aload_n dX11_inverse_16 rfl (i := 0) rfl ?_
        refine fw_geti dX11_inverse_17 fd11_130 rfl rfl ?_
        refine fn_to (show _ = (nI (figs (w : Int))) from (hm2 hne).2.1) ?_
        refine fn_icmp_gt (tgt := 72) dX11_inverse_20 (by decide) (by omega) (by omega) (fun c20 => ?_) (fun c20 => ?_)
        · exfalso; omega
        · skip
          refine fx_iconst (v := (nI 0)) dX11_inverse_23 (by decide) ?_
          refine fx_istore (lv2 := [(0, .ref 0), (1, .int (nI w)), (2, .int (nI c)), (3, .int (nI g)), (4, .int (nI 0))]) dX11_inverse_24 (by decide) rfl ?_
          have L26 : ∀ (k2 : Nat) (c2 : Nat) (i : Nat), (i + k2 = figs (w : Int)) → (onI (dgt w (figs (w : Int))) g k2 i c2 = onI (dgt w (figs (w : Int))) g (figs (w : Int)) 0 c) → fv_At Y11_inverse 2 0 0 Q 26 [(0, .ref 0), (1, .int (nI w)), (2, .int (nI c2)), (3, .int (nI g)), (4, .int (nI i))] [] (fw mT G2 L) none 0 0 := by
            intro k2
            induction k2 with
            | zero =>
              intro c2 i hi hR2
              refine fx_iload dX11_inverse_26 rfl ?_
              refine fx_aload_n dX11_inverse_28 rfl (i := 0) rfl ?_
              refine fw_geti dX11_inverse_29 fd11_130 rfl rfl ?_
              refine fn_to (show _ = (nI (figs (w : Int))) from (hm2 hne).2.1) ?_
              refine fn_icmp_ge (tgt := 66) dX11_inverse_32 (by decide) (by omega) (by omega) (fun c32 => ?_) (fun c32 => ?_)
              · skip
                refine fn_iinc (c := 1) (lv2 := [(0, .ref 0), (1, .int (nI w)), (2, .int (nI c2)), (3, .int (nI (g + 1))), (4, .int (nI i))]) dX11_inverse_66 (by decide) rfl (by decide) rfl ?_
                refine fx_goto (tgt := 15) dX11_inverse_69 (by decide) ?_
                exact fn_sub [0, 1, 2, 3] rfl (ih15 c2 (g + 1) (by omega) (by rw [← hR, onO]; exact congrArg _ hR2))
              · exfalso; omega
            | succ k2 ih26 =>
              intro c2 i hi hR2
              refine fx_iload dX11_inverse_26 rfl ?_
              refine fx_aload_n dX11_inverse_28 rfl (i := 0) rfl ?_
              refine fw_geti dX11_inverse_29 fd11_130 rfl rfl ?_
              refine fn_to (show _ = (nI (figs (w : Int))) from (hm2 hne).2.1) ?_
              refine fn_icmp_ge (tgt := 66) dX11_inverse_32 (by decide) (by omega) (by omega) (fun c32 => ?_) (fun c32 => ?_)
              · exfalso; omega
              · skip
                refine fx_aload_n dX11_inverse_35 rfl (i := 0) rfl ?_
                refine fw_getr dX11_inverse_36 fd11_7 rfl rfl ?_
                refine fx_iload dX11_inverse_39 rfl ?_
                refine fw_iald i dX11_inverse_41 rfl rfl (by omega) (by decide) ?_
                refine fn_to (show _ = (nI (dgt w (figs (w : Int)) i)) from ((hm2 hne).2.2 i (by omega))) ?_
                refine fx_iload_n dX11_inverse_42 rfl (i := 3) rfl ?_
                have hd1 := hd9 i
                refine fn_icmp_ne (tgt := 58) dX11_inverse_43 (by decide) (by omega) (by omega) (fun c43 => ?_) (fun c43 => ?_)
                · skip
                  refine fx_iload_n dX11_inverse_58 rfl (i := 2) rfl ?_
                  refine fx_istore_n (lv2 := [(0, .ref 0), (1, .int (nI w)), (2, .int (nI c2)), (3, .int (nI g)), (4, .int (nI i))]) dX11_inverse_59 (i := 2) rfl (by decide) rfl ?_
                  refine fn_iinc (c := 1) (lv2 := [(0, .ref 0), (1, .int (nI w)), (2, .int (nI c2)), (3, .int (nI g)), (4, .int (nI (i + 1)))]) dX11_inverse_60 (by decide) rfl (by decide) rfl ?_
                  refine fx_goto (tgt := 26) dX11_inverse_63 (by decide) ?_
                  exact (ih26 c2 (i + 1) (by omega) (by rw [← hR2, onI]; split <;> first | rfl | omega))
                · skip
                  refine fx_bipush (v := (nI 10)) dX11_inverse_46 (by decide) ?_
                  refine fx_iload_n dX11_inverse_48 rfl (i := 2) rfl ?_
                  refine fn_imul dX11_inverse_49 ?_
                  refine fx_iload dX11_inverse_50 rfl ?_
                  refine fn_iadd dX11_inverse_52 ?_
                  refine fx_iconst (v := (nI 1)) dX11_inverse_53 (by decide) ?_
                  refine fn_iadd dX11_inverse_54 ?_
                  refine fx_goto (tgt := 59) dX11_inverse_55 (by decide) ?_
                  refine fx_istore_n (lv2 := [(0, .ref 0), (1, .int (nI w)), (2, .int (nI (((10 * c2) + i) + 1))), (3, .int (nI g)), (4, .int (nI i))]) dX11_inverse_59 (i := 2) rfl (by decide) rfl ?_
                  refine fn_iinc (c := 1) (lv2 := [(0, .ref 0), (1, .int (nI w)), (2, .int (nI (((10 * c2) + i) + 1))), (3, .int (nI g)), (4, .int (nI (i + 1)))]) dX11_inverse_60 (by decide) rfl (by decide) rfl ?_
                  refine fx_goto (tgt := 26) dX11_inverse_63 (by decide) ?_
                  exact (ih26 (((10 * c2) + i) + 1) (i + 1) (by omega) (by rw [← hR2, onI]; split <;> first | rfl | omega))
          exact (L26 (figs (w : Int)) c 0 (by omega) rfl)
    exact (L15 (figs (w : Int)) 0 1 (by omega) rfl)
  · skip
    refine fx_bipush (v := (iI (-2))) dX11_inverse_8 (by decide) ?_
    exact fx_iret dX11_inverse_10 rfl rfl rfl (by rw [hQ]; exact ⟨G2, by unfold xInv; rw [if_pos (by have := of_decide_eq_false c5; omega)], rfl, rfl, fun i j a _ c => ho2 i j a c⟩)
