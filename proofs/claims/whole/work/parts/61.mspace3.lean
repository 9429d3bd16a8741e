/-- the model's rods -/
def mrd (G : Nat → Nat → Int32) (q : Nat) (th : Nat → Bool) (ra rb : Nat → Nat) : Prop := (∀ r, r < 8 → G 24 r = bI (th r)) ∧ ∀ r, r < 8 → th r = true → (G 25 r = nI (ra r) ∧ ra r < q ^ 4) ∧ G 26 r = nI (rb r) ∧ rb r < q ^ 4
theorem mrd_put {G : Nat → Nat → Int32} {q : Nat} {th : Nat → Bool} {ra rb : Nat → Nat} (h : mrd G q th ra rb) {r0 u v : Nat} (hr : r0 < 8) (hu : u < q ^ 4) (hv : v < q ^ 4) : mrd (g2 (g2 (g2 G 24 r0 (bI true)) 25 r0 (nI u)) 26 r0 (nI v)) q (fun z => if z = r0 then true else th z) (fun z => if z = r0 then u else ra z) (fun z => if z = r0 then v else rb z) := by
  refine ⟨fun z hz => ?_, fun z hz ht => ?_⟩
  · rw [g2_row _ _ (by decide), g2_row _ _ (by decide)]
    show _ = bI (if z = r0 then true else th z)
    by_cases w : z = r0
    · rw [if_pos w, w, g2_eq]
    · rw [if_neg w, g2_ne _ _ (fun y => w y.2)]
      exact h.1 z hz
  · have ht2 : (if z = r0 then true else th z) = true := ht
    show (_ = nI (if z = r0 then u else ra z) ∧ (if z = r0 then u else ra z) < q ^ 4) ∧ _ = nI (if z = r0 then v else rb z) ∧ (if z = r0 then v else rb z) < q ^ 4
    by_cases w : z = r0
    · rw [if_pos w, if_pos w, g2_row _ _ (by decide), w, g2_eq, g2_eq]
      exact ⟨⟨rfl, hu⟩, rfl, hv⟩
    · rw [if_neg w] at ht2
      rw [if_neg w, if_neg w, g2_row _ _ (by decide), g2_ne _ _ (fun y => w y.2), g2_row _ _ (by decide), g2_ne _ _ (fun y => w y.2), g2_row _ _ (by decide), g2_row _ _ (by decide)]
      exact h.2 z hz ht2
/-- a rod may be put -/
def rodp (q : Nat) (r a b : Int) : Bool := decide (0 ≤ r ∧ r ≤ 7 ∧ pqo q a ≠ -1 ∧ pqo q b ≠ -1 ∧ evq q (pqo q a).toNat ≠ evq q (pqo q b).toNat)

set_option maxRecDepth 4000 in
set_option maxHeartbeats 1000000 in
theorem C11_field  (G : Nat → Nat → Int32) (L : Nat → Nat → Int64) (q : Nat) (hq : G 0 27 = nI q) (v : Int) (v1 : -2147483648 ≤ v) (v2 : v < 2147483648) : fv_M Y11_field 2 0 0 [.ref 0, .int (iI v)] (fw mT G L) none (fun r2 f2 al2 => ∃ G2 : Nat → Nat → Int32, r2 = some (.int (iI (if (v = 2 ∨ v = 3 ∨ v = 5) then (q : Int) else -2))) ∧ f2 = fw mT G2 L ∧ al2 = none ∧ (∀ i j, i ≠ 24 → i ≠ 29 → i ≠ 30 → ¬ (i = 0 ∧ j = 27) → G2 i j = G i j) ∧ (¬ (v = 2 ∨ v = 3 ∨ v = 5) → G2 = G) ∧ ((v = 2 ∨ v = 3 ∨ v = 5) → msq G2 v.toNat ∧ ∀ r, r < 8 → G2 24 r = bI false)) := by
  refine fv_enter rfl (Nat.le_of_ble_eq_true rfl) ?_
  obtain ⟨Q, hQ⟩ : ∃ Q : Option Value → fv_F → Option Nat → Prop, Q = (fun r2 f2 al2 => ∃ G2 : Nat → Nat → Int32, r2 = some (.int (iI (if (v = 2 ∨ v = 3 ∨ v = 5) then (q : Int) else -2))) ∧ f2 = fw mT G2 L ∧ al2 = none ∧ (∀ i j, i ≠ 24 → i ≠ 29 → i ≠ 30 → ¬ (i = 0 ∧ j = 27) → G2 i j = G i j) ∧ (¬ (v = 2 ∨ v = 3 ∨ v = 5) → G2 = G) ∧ ((v = 2 ∨ v = 3 ∨ v = 5) → msq G2 v.toNat ∧ ∀ r, r < 8 → G2 24 r = bI false)) := ⟨_, rfl⟩
  rw [← hQ]
  show fv_At Y11_field 2 0 0 Q 0 [(0, .ref 0), (1, .int (iI v))] [] (fw mT G L) none 0 0
  refine fx_iload_n dX11_field_0 rfl (i := 1) rfl ?_
  refine fx_iconst (v := (nI 2)) dX11_field_1 (by decide) ?_
  refine fn_icmp_eqZ (a := v) (b := ((2 : Nat) : Int)) (tgt := 18) dX11_field_2 (by decide) (by omega) (by omega) (by omega) (by omega) (fun c2 => ?_) (fun c2 => ?_)
  · skip
    have hz : (v = 2 ∨ v = 3 ∨ v = 5) := by omega
    obtain ⟨v0, rfl⟩ : ∃ z : Nat, v = (z : Int) := ⟨v.toNat, by omega⟩
    show fv_At Y11_field 2 0 0 Q 18 [(0, .ref 0), (1, .int (nI v0))] [] (fw mT G L) none 0 0
    refine fx_aload_n dX11_field_18 rfl (i := 0) rfl ?_
    refine fw_geti dX11_field_19 fd11_116 rfl rfl ?_
    refine fn_to (show _ = (nI q) from hq) ?_
    refine fx_istore_n (lv2 := [(0, .ref 0), (1, .int (nI v0)), (2, .int (nI q))]) dX11_field_22 (i := 2) rfl (by decide) rfl ?_
    refine fx_aload_n dX11_field_23 rfl (i := 0) rfl ?_
    refine fx_iload_n dX11_field_24 rfl (i := 1) rfl ?_
    refine fw_puti dX11_field_25 fd11_116 rfl rfl ?_
    refine fx_aload_n dX11_field_28 rfl (i := 0) rfl ?_
    refine fx_callV dX11_field_29 lk11_119 fv_c8 rfl (fw_at (show mT 0 = some (3, 8, 38, [some 1, none, some 2, some 3, some 4, some 5, some 6, some 7, some 8, some 9, some 10, some 11, some 12, some 13, some 14, some 15, some 16, some 17, some 18, some 19, none, none, none, some 20, some 21, some 22, some 23, none, some 24, some 25, some 26, some 27, some 28, some 29, some 30, some 31, none, some 32]) from rfl)) (C11_lookAtPoints (g2 G 0 27 ((nI v0))) L v0 (g2_eq _ _ _ _) (by omega)) rfl rfl (by decide) (Nat.le_of_ble_eq_true rfl) (by decide) (by decide) (fun r29 f29 al29 h29 => ?_)
    obtain ⟨G29, rfl, rfl, rfl, ho29, hs29⟩ := h29
    show fv_At Y11_field 2 0 0 Q 32 [(0, .ref 0), (1, .int (nI v0)), (2, .int (nI q))] [] (fw mT G29 L) none 0 0
    refine fx_aload_n dX11_field_32 rfl (i := 0) rfl ?_
    refine fx_callV dX11_field_33 lk11_243 fv_c8 rfl (fw_at (show mT 0 = some (3, 8, 38, [some 1, none, some 2, some 3, some 4, some 5, some 6, some 7, some 8, some 9, some 10, some 11, some 12, some 13, some 14, some 15, some 16, some 17, some 18, some 19, none, none, none, some 20, some 21, some 22, some 23, none, some 24, some 25, some 26, some 27, some 28, some 29, some 30, some 31, none, some 32]) from rfl)) (C11_drops G29 L) rfl rfl (by decide) (Nat.le_of_ble_eq_true rfl) (by decide) (by decide) (fun r33 f33 al33 h33 => ?_)
    obtain ⟨G33, rfl, rfl, rfl, ho33, hd33⟩ := h33
    show fv_At Y11_field 2 0 0 Q 36 [(0, .ref 0), (1, .int (nI v0)), (2, .int (nI q))] [] (fw mT G33 L) none 0 0
    refine fx_iload_n dX11_field_36 rfl (i := 2) rfl ?_
    exact fx_iret dX11_field_37 rfl rfl rfl (by rw [hQ]; exact ⟨G33, by rw [if_pos hz]; rfl, rfl, rfl, fun i j a b c d => by rw [ho33 i a, ho29 i b c, g2_ne _ _ d], fun w => absurd hz w, fun _ => ⟨by rw [Int.toNat_natCast]; exact msq_k hs29 (by rw [ho33 0 (by decide)]) (ho33 29 (by decide)) (ho33 30 (by decide)), hd33⟩⟩)
  · skip
    refine fx_iload_n dX11_field_5 rfl (i := 1) rfl ?_
    refine fx_iconst (v := (nI 3)) dX11_field_6 (by decide) ?_
    refine fn_icmp_eqZ (a := v) (b := ((3 : Nat) : Int)) (tgt := 18) dX11_field_7 (by decide) (by omega) (by omega) (by omega) (by omega) (fun c7 => ?_) (fun c7 => ?_)
    · skip
      have hz : (v = 2 ∨ v = 3 ∨ v = 5) := by omega
      obtain ⟨v0, rfl⟩ : ∃ z : Nat, v = (z : Int) := ⟨v.toNat, by omega⟩
      show fv_At Y11_field 2 0 0 Q 18 [(0, .ref 0), (1, .int (nI v0))] [] (fw mT G L) none 0 0
      refine fx_aload_n dX11_field_18 rfl (i := 0) rfl ?_
      refine fw_geti dX11_field_19 fd11_116 rfl rfl ?_
      refine fn_to (show _ = (nI q) from hq) ?_
      refine fx_istore_n (lv2 := [(0, .ref 0), (1, .int (nI v0)), (2, .int (nI q))]) dX11_field_22 (i := 2) rfl (by decide) rfl ?_
      refine fx_aload_n dX11_field_23 rfl (i := 0) rfl ?_
      refine fx_iload_n dX11_field_24 rfl (i := 1) rfl ?_
      refine fw_puti dX11_field_25 fd11_116 rfl rfl ?_
      refine fx_aload_n dX11_field_28 rfl (i := 0) rfl ?_
      refine fx_callV dX11_field_29 lk11_119 fv_c8 rfl (fw_at (show mT 0 = some (3, 8, 38, [some 1, none, some 2, some 3, some 4, some 5, some 6, some 7, some 8, some 9, some 10, some 11, some 12, some 13, some 14, some 15, some 16, some 17, some 18, some 19, none, none, none, some 20, some 21, some 22, some 23, none, some 24, some 25, some 26, some 27, some 28, some 29, some 30, some 31, none, some 32]) from rfl)) (C11_lookAtPoints (g2 G 0 27 ((nI v0))) L v0 (g2_eq _ _ _ _) (by omega)) rfl rfl (by decide) (Nat.le_of_ble_eq_true rfl) (by decide) (by decide) (fun r29 f29 al29 h29 => ?_)
      obtain ⟨G29, rfl, rfl, rfl, ho29, hs29⟩ := h29
      show fv_At Y11_field 2 0 0 Q 32 [(0, .ref 0), (1, .int (nI v0)), (2, .int (nI q))] [] (fw mT G29 L) none 0 0
      refine fx_aload_n dX11_field_32 rfl (i := 0) rfl ?_
      refine fx_callV dX11_field_33 lk11_243 fv_c8 rfl (fw_at (show mT 0 = some (3, 8, 38, [some 1, none, some 2, some 3, some 4, some 5, some 6, some 7, some 8, some 9, some 10, some 11, some 12, some 13, some 14, some 15, some 16, some 17, some 18, some 19, none, none, none, some 20, some 21, some 22, some 23, none, some 24, some 25, some 26, some 27, some 28, some 29, some 30, some 31, none, some 32]) from rfl)) (C11_drops G29 L) rfl rfl (by decide) (Nat.le_of_ble_eq_true rfl) (by decide) (by decide) (fun r33 f33 al33 h33 => ?_)
      obtain ⟨G33, rfl, rfl, rfl, ho33, hd33⟩ := h33
      show fv_At Y11_field 2 0 0 Q 36 [(0, .ref 0), (1, .int (nI v0)), (2, .int (nI q))] [] (fw mT G33 L) none 0 0
      refine fx_iload_n dX11_field_36 rfl (i := 2) rfl ?_
      exact fx_iret dX11_field_37 rfl rfl rfl (by rw [hQ]; exact ⟨G33, by rw [if_pos hz]; rfl, rfl, rfl, fun i j a b c d => by rw [ho33 i a, ho29 i b c, g2_ne _ _ d], fun w => absurd hz w, fun _ => ⟨by rw [Int.toNat_natCast]; exact msq_k hs29 (by rw [ho33 0 (by decide)]) (ho33 29 (by decide)) (ho33 30 (by decide)), hd33⟩⟩)
    · skip
      refine fx_iload_n dX11_field_10 rfl (i := 1) rfl ?_
      refine fx_iconst (v := (nI 5)) dX11_field_11 (by decide) ?_
      refine fn_icmp_eqZ (a := v) (b := ((5 : Nat) : Int)) (tgt := 18) dX11_field_12 (by decide) (by omega) (by omega) (by omega) (by omega) (fun c12 => ?_) (fun c12 => ?_)
      · skip
        have hz : (v = 2 ∨ v = 3 ∨ v = 5) := by omega
        obtain ⟨v0, rfl⟩ : ∃ z : Nat, v = (z : Int) := ⟨v.toNat, by omega⟩
        show fv_At Y11_field 2 0 0 Q 18 [(0, .ref 0), (1, .int (nI v0))] [] (fw mT G L) none 0 0
        refine fx_aload_n dX11_field_18 rfl (i := 0) rfl ?_
        refine fw_geti dX11_field_19 fd11_116 rfl rfl ?_
        refine fn_to (show _ = (nI q) from hq) ?_
        refine fx_istore_n (lv2 := [(0, .ref 0), (1, .int (nI v0)), (2, .int (nI q))]) dX11_field_22 (i := 2) rfl (by decide) rfl ?_
        refine fx_aload_n dX11_field_23 rfl (i := 0) rfl ?_
        refine fx_iload_n dX11_field_24 rfl (i := 1) rfl ?_
        refine fw_puti dX11_field_25 fd11_116 rfl rfl ?_
        refine fx_aload_n dX11_field_28 rfl (i := 0) rfl ?_
        refine fx_callV dX11_field_29 lk11_119 fv_c8 rfl (fw_at (show mT 0 = some (3, 8, 38, [some 1, none, some 2, some 3, some 4, some 5, some 6, some 7, some 8, some 9, some 10, some 11, some 12, some 13, some 14, some 15, some 16, some 17, some 18, some 19, none, none, none, some 20, some 21, some 22, some 23, none, some 24, some 25, some 26, some 27, some 28, some 29, some 30, some 31, none, some 32]) from rfl)) (C11_lookAtPoints (g2 G 0 27 ((nI v0))) L v0 (g2_eq _ _ _ _) (by omega)) rfl rfl (by decide) (Nat.le_of_ble_eq_true rfl) (by decide) (by decide) (fun r29 f29 al29 h29 => ?_)
        obtain ⟨G29, rfl, rfl, rfl, ho29, hs29⟩ := h29
        show fv_At Y11_field 2 0 0 Q 32 [(0, .ref 0), (1, .int (nI v0)), (2, .int (nI q))] [] (fw mT G29 L) none 0 0
        refine fx_aload_n dX11_field_32 rfl (i := 0) rfl ?_
        refine fx_callV dX11_field_33 lk11_243 fv_c8 rfl (fw_at (show mT 0 = some (3, 8, 38, [some 1, none, some 2, some 3, some 4, some 5, some 6, some 7, some 8, some 9, some 10, some 11, some 12, some 13, some 14, some 15, some 16, some 17, some 18, some 19, none, none, none, some 20, some 21, some 22, some 23, none, some 24, some 25, some 26, some 27, some 28, some 29, some 30, some 31, none, some 32]) from rfl)) (C11_drops G29 L) rfl rfl (by decide) (Nat.le_of_ble_eq_true rfl) (by decide) (by decide) (fun r33 f33 al33 h33 => ?_)
        obtain ⟨G33, rfl, rfl, rfl, ho33, hd33⟩ := h33
        show fv_At Y11_field 2 0 0 Q 36 [(0, .ref 0), (1, .int (nI v0)), (2, .int (nI q))] [] (fw mT G33 L) none 0 0
        refine fx_iload_n dX11_field_36 rfl (i := 2) rfl ?_
        exact fx_iret dX11_field_37 rfl rfl rfl (by rw [hQ]; exact ⟨G33, by rw [if_pos hz]; rfl, rfl, rfl, fun i j a b c d => by rw [ho33 i a, ho29 i b c, g2_ne _ _ d], fun w => absurd hz w, fun _ => ⟨by rw [Int.toNat_natCast]; exact msq_k hs29 (by rw [ho33 0 (by decide)]) (ho33 29 (by decide)) (ho33 30 (by decide)), hd33⟩⟩)
      · skip
        refine fx_bipush (v := (iI (-2))) dX11_field_15 (by decide) ?_
        exact fx_iret dX11_field_17 rfl rfl rfl (by rw [hQ]; exact ⟨G, by rw [if_neg (by omega)], rfl, rfl, fun _ _ _ _ _ _ => rfl, fun _ => rfl, fun w => by omega⟩)

set_option maxRecDepth 4000 in
set_option maxHeartbeats 1000000 in
theorem C11_rod  (G : Nat → Nat → Int32) (L : Nat → Nat → Int64) (q : Nat) (hS : msq G q) (th : Nat → Bool) (ra rb : Nat → Nat) (hD : mrd G q th ra rb) (r a b : Int) (r1 : -2147483648 ≤ r) (r2 : r < 2147483648) (a1 : -2147483648 ≤ a) (a2 : a < 2147483648) (b1 : -2147483648 ≤ b) (b2 : b < 2147483648) : fv_M Y11_rod 2 0 0 [.ref 0, .int (iI r), .int (iI a), .int (iI b)] (fw mT G L) none (fun r2 f2 al2 => ∃ G2 : Nat → Nat → Int32, r2 = some (.int (iI (if rodp q r a b = true then 1 else -2))) ∧ f2 = fw mT G2 L ∧ al2 = none ∧ (∀ i, i ≠ 24 → i ≠ 25 → i ≠ 26 → G2 i = G i) ∧ mrd G2 q (fun z => if rodp q r a b = true ∧ z = r.toNat then true else th z) (fun z => if rodp q r a b = true ∧ z = r.toNat then evq q (pqo q a).toNat else ra z) (fun z => if rodp q r a b = true ∧ z = r.toNat then evq q (pqo q b).toNat else rb z)) := by
  refine fv_enter rfl (Nat.le_of_ble_eq_true rfl) ?_
  obtain ⟨Q, hQ⟩ : ∃ Q : Option Value → fv_F → Option Nat → Prop, Q = (fun r2 f2 al2 => ∃ G2 : Nat → Nat → Int32, r2 = some (.int (iI (if rodp q r a b = true then 1 else -2))) ∧ f2 = fw mT G2 L ∧ al2 = none ∧ (∀ i, i ≠ 24 → i ≠ 25 → i ≠ 26 → G2 i = G i) ∧ mrd G2 q (fun z => if rodp q r a b = true ∧ z = r.toNat then true else th z) (fun z => if rodp q r a b = true ∧ z = r.toNat then evq q (pqo q a).toNat else ra z) (fun z => if rodp q r a b = true ∧ z = r.toNat then evq q (pqo q b).toNat else rb z)) := ⟨_, rfl⟩
  rw [← hQ]
  show fv_At Y11_rod 2 0 0 Q 0 [(0, .ref 0), (1, .int (iI r)), (2, .int (iI a)), (3, .int (iI b))] [] (fw mT G L) none 0 0
  have h625 := q4_le hS.2.1
  have hq0 : 0 < q := by have := hS.2.1; omega
  have hba := pqo_b hq0 a
  have hbb := pqo_b hq0 b
  refine fx_iload_n dX11_rod_0 rfl (i := 1) rfl ?_
  refine fx_i2l dX11_rod_1 ?_
  refine fn_toL (show _ = lI r from lI_of (z := r) (by omega) (by omega)) ?_
  refine fx_lconst (v := 0) dX11_rod_2 (by decide) ?_
  refine fn_toL (show _ = (lI 0) from (by decide)) ?_
  refine fx_ldc2 dX11_rod_3 kc11_246 (fn_toL (show _ = lI (7) by decide) ?_)
  refine fn_cS dX11_rod_6 lk11_126 (C11_in (v := r) (a := 0) (b := 7) (by omega) (by omega) (by omega) (by omega) (by omega) (by omega) (f := (fw mT G L))) rfl rfl (by decide) (Nat.le_of_ble_eq_true rfl) ?_
  show fv_At Y11_rod 2 0 0 Q 9 [(0, .ref 0), (1, .int (iI r)), (2, .int (iI a)), (3, .int (iI b))] [.int (bI (decide (0 ≤ r ∧ r ≤ 7)))] (fw mT G L) none 0 0
  refine fn_if_eqB (tgt := 51) dX11_rod_9 (by decide) (fun c9 => ?_) (fun c9 => ?_)
  · skip
    refine fx_bipush (v := (iI (-2))) dX11_rod_51 (by decide) ?_
    exact fx_iret dX11_rod_53 rfl rfl rfl (by rw [hQ]; exact (by have hF : rodp q r a b = false := by {unfold rodp; exact decide_eq_false (fun w => by first | exact of_decide_eq_false c9 ⟨w.1, w.2.1⟩ | exact w.2.2.1 (by omega) | exact w.2.2.2.1 (by omega) | exact w.2.2.2.2 (by rw [hx, hy, Int.toNat_natCast, Int.toNat_natCast]; exact c48))}; exact ⟨G, by rw [hF]; rfl, rfl, rfl, fun _ _ _ _ => rfl, by simp only [hF, Bool.false_eq_true, false_and, if_false]; exact hD⟩))
  · skip
    refine fx_aload_n dX11_rod_12 rfl (i := 0) rfl ?_
    refine fx_iload_n dX11_rod_13 rfl (i := 2) rfl ?_
    refine fn_cV dX11_rod_14 lk11_248 fv_c8 rfl (fw_at (show mT 0 = some (3, 8, 38, [some 1, none, some 2, some 3, some 4, some 5, some 6, some 7, some 8, some 9, some 10, some 11, some 12, some 13, some 14, some 15, some 16, some 17, some 18, some 19, none, none, none, some 20, some 21, some 22, some 23, none, some 24, some 25, some 26, some 27, some 28, some 29, some 30, some 31, none, some 32]) from rfl)) (C11_pointOf G L q hS.1 hS.2.1 a (by omega) (by omega)) rfl rfl (by decide) (Nat.le_of_ble_eq_true rfl) ?_
    show fv_At Y11_rod 2 0 0 Q 17 [(0, .ref 0), (1, .int (iI r)), (2, .int (iI a)), (3, .int (iI b))] [.int (iI (pqo q a))] (fw mT G L) none 0 0
    refine fx_iconst (v := (iI (-1))) dX11_rod_17 (by decide) ?_
    refine fn_icmp_eqZ (a := pqo q a) (b := -1) (tgt := 51) dX11_rod_18 (by decide) (by omega) (by omega) (by omega) (by omega) (fun c18 => ?_) (fun c18 => ?_)
    · skip
      refine fx_bipush (v := (iI (-2))) dX11_rod_51 (by decide) ?_
      exact fx_iret dX11_rod_53 rfl rfl rfl (by rw [hQ]; exact (by have hF : rodp q r a b = false := by {unfold rodp; exact decide_eq_false (fun w => by first | exact of_decide_eq_false c9 ⟨w.1, w.2.1⟩ | exact w.2.2.1 (by omega) | exact w.2.2.2.1 (by omega) | exact w.2.2.2.2 (by rw [hx, hy, Int.toNat_natCast, Int.toNat_natCast]; exact c48))}; exact ⟨G, by rw [hF]; rfl, rfl, rfl, fun _ _ _ _ => rfl, by simp only [hF, Bool.false_eq_true, false_and, if_false]; exact hD⟩))
    · skip
      refine fx_aload_n dX11_rod_21 rfl (i := 0) rfl ?_
      refine fx_iload_n dX11_rod_22 rfl (i := 3) rfl ?_
      refine fn_cV dX11_rod_23 lk11_248 fv_c8 rfl (fw_at (show mT 0 = some (3, 8, 38, [some 1, none, some 2, some 3, some 4, some 5, some 6, some 7, some 8, some 9, some 10, some 11, some 12, some 13, some 14, some 15, some 16, some 17, some 18, some 19, none, none, none, some 20, some 21, some 22, some 23, none, some 24, some 25, some 26, some 27, some 28, some 29, some 30, some 31, none, some 32]) from rfl)) (C11_pointOf G L q hS.1 hS.2.1 b (by omega) (by omega)) rfl rfl (by decide) (Nat.le_of_ble_eq_true rfl) ?_
      show fv_At Y11_rod 2 0 0 Q 26 [(0, .ref 0), (1, .int (iI r)), (2, .int (iI a)), (3, .int (iI b))] [.int (iI (pqo q b))] (fw mT G L) none 0 0
      refine fx_iconst (v := (iI (-1))) dX11_rod_26 (by decide) ?_
      refine fn_icmp_eqZ (a := pqo q b) (b := -1) (tgt := 51) dX11_rod_27 (by decide) (by omega) (by omega) (by omega) (by omega) (fun c27 => ?_) (fun c27 => ?_)
      · skip
        refine fx_bipush (v := (iI (-2))) dX11_rod_51 (by decide) ?_
        exact fx_iret dX11_rod_53 rfl rfl rfl (by rw [hQ]; exact (by have hF : rodp q r a b = false := by {unfold rodp; exact decide_eq_false (fun w => by first | exact of_decide_eq_false c9 ⟨w.1, w.2.1⟩ | exact w.2.2.1 (by omega) | exact w.2.2.2.1 (by omega) | exact w.2.2.2.2 (by rw [hx, hy, Int.toNat_natCast, Int.toNat_natCast]; exact c48))}; exact ⟨G, by rw [hF]; rfl, rfl, rfl, fun _ _ _ _ => rfl, by simp only [hF, Bool.false_eq_true, false_and, if_false]; exact hD⟩))
      · skip
        obtain ⟨x, hx⟩ : ∃ x : Nat, pqo q a = (x : Int) := ⟨(pqo q a).toNat, by omega⟩
        obtain ⟨y, hy⟩ : ∃ y : Nat, pqo q b = (y : Int) := ⟨(pqo q b).toNat, by omega⟩
        have hxl : x < q ^ 4 := by omega
        have hyl : y < q ^ 4 := by omega
        have hex := evq_lt hq0 hxl
        have hey := evq_lt hq0 hyl
        refine fx_aload_n dX11_rod_30 rfl (i := 0) rfl ?_
        refine fx_aload_n dX11_rod_31 rfl (i := 0) rfl ?_
        refine fx_iload_n dX11_rod_32 rfl (i := 2) rfl ?_
        refine fn_cV dX11_rod_33 lk11_248 fv_c8 rfl (fw_at (show mT 0 = some (3, 8, 38, [some 1, none, some 2, some 3, some 4, some 5, some 6, some 7, some 8, some 9, some 10, some 11, some 12, some 13, some 14, some 15, some 16, some 17, some 18, some 19, none, none, none, some 20, some 21, some 22, some 23, none, some 24, some 25, some 26, some 27, some 28, some 29, some 30, some 31, none, some 32]) from rfl)) (C11_pointOf G L q hS.1 hS.2.1 a (by omega) (by omega)) rfl rfl (by decide) (Nat.le_of_ble_eq_true rfl) ?_
        show fv_At Y11_rod 2 0 0 Q 36 [(0, .ref 0), (1, .int (iI r)), (2, .int (iI a)), (3, .int (iI b))] [.int (iI (pqo q a)), .ref 0] (fw mT G L) none 0 0
        refine fn_to (show _ = (nI x) from (congrArg iI hx)) ?_
        refine fn_cV dX11_rod_36 lk11_251 fv_c8 rfl (fw_at (show mT 0 = some (3, 8, 38, [some 1, none, some 2, some 3, some 4, some 5, some 6, some 7, some 8, some 9, some 10, some 11, some 12, some 13, some 14, some 15, some 16, some 17, some 18, some 19, none, none, none, some 20, some 21, some 22, some 23, none, some 24, some 25, some 26, some 27, some 28, some 29, some 30, some 31, none, some 32]) from rfl)) (C11_evened G L q hS x (by omega)) rfl rfl (by decide) (Nat.le_of_ble_eq_true rfl) ?_
        show fv_At Y11_rod 2 0 0 Q 39 [(0, .ref 0), (1, .int (iI r)), (2, .int (iI a)), (3, .int (iI b))] [.int (nI (evq q x))] (fw mT G L) none 0 0
        refine fx_aload_n dX11_rod_39 rfl (i := 0) rfl ?_
        refine fx_aload_n dX11_rod_40 rfl (i := 0) rfl ?_
        refine fx_iload_n dX11_rod_41 rfl (i := 3) rfl ?_
        refine fn_cV dX11_rod_42 lk11_248 fv_c8 rfl (fw_at (show mT 0 = some (3, 8, 38, [some 1, none, some 2, some 3, some 4, some 5, some 6, some 7, some 8, some 9, some 10, some 11, some 12, some 13, some 14, some 15, some 16, some 17, some 18, some 19, none, none, none, some 20, some 21, some 22, some 23, none, some 24, some 25, some 26, some 27, some 28, some 29, some 30, some 31, none, some 32]) from rfl)) (C11_pointOf G L q hS.1 hS.2.1 b (by omega) (by omega)) rfl rfl (by decide) (Nat.le_of_ble_eq_true rfl) ?_
        show fv_At Y11_rod 2 0 0 Q 45 [(0, .ref 0), (1, .int (iI r)), (2, .int (iI a)), (3, .int (iI b))] [.int (iI (pqo q b)), .ref 0, .int (nI (evq q x))] (fw mT G L) none 0 0
        refine fn_to (show _ = (nI y) from (congrArg iI hy)) ?_
        refine fn_cV dX11_rod_45 lk11_251 fv_c8 rfl (fw_at (show mT 0 = some (3, 8, 38, [some 1, none, some 2, some 3, some 4, some 5, some 6, some 7, some 8, some 9, some 10, some 11, some 12, some 13, some 14, some 15, some 16, some 17, some 18, some 19, none, none, none, some 20, some 21, some 22, some 23, none, some 24, some 25, some 26, some 27, some 28, some 29, some 30, some 31, none, some 32]) from rfl)) (C11_evened G L q hS y (by omega)) rfl rfl (by decide) (Nat.le_of_ble_eq_true rfl) ?_
        show fv_At Y11_rod 2 0 0 Q 48 [(0, .ref 0), (1, .int (iI r)), (2, .int (iI a)), (3, .int (iI b))] [.int (nI (evq q y)), .int (nI (evq q x))] (fw mT G L) none 0 0
        have hxl2 : evq q x < 2147483648 := by omega
        have hyl2 : evq q y < 2147483648 := by omega
        refine fn_icmp_ne (tgt := 54) dX11_rod_48 (by decide) (by omega) (by omega) (fun c48 => ?_) (fun c48 => ?_)
        · skip
          have hin := of_decide_eq_true c9
          obtain ⟨r0, rfl⟩ : ∃ z : Nat, r = (z : Int) := ⟨r.toNat, by omega⟩
          have hTT : rodp q ((r0 : Nat) : Int) a b = true := by unfold rodp; exact decide_eq_true ⟨hin.1, hin.2, by omega, by omega, by rw [hx, hy, Int.toNat_natCast, Int.toNat_natCast]; exact c48⟩
          show fv_At Y11_rod 2 0 0 Q 54 [(0, .ref 0), (1, .int (nI r0)), (2, .int (iI a)), (3, .int (iI b))] [] (fw mT G L) none 0 0
          refine fx_aload_n dX11_rod_54 rfl (i := 0) rfl ?_
          refine fw_getr dX11_rod_55 fd11_82 rfl rfl ?_
          refine fx_iload_n dX11_rod_58 rfl (i := 1) rfl ?_
          refine fx_iconst (v := (nI 1)) dX11_rod_59 (by decide) ?_
          refine fn_to (show _ = (bI true) from rfl) ?_
          refine fw_zast r0 dX11_rod_60 (bI_01 _) rfl rfl (by omega) (by decide) ?_
          obtain ⟨G60, hG60⟩ : ∃ z, z = g2 G 24 r0 ((bI true)) := ⟨_, rfl⟩
          rw [← hG60]
          have hS60 : msq G60 q := msq_k hS (by rw [hG60, g2_row _ _ (by decide)]) (by rw [hG60, g2_row _ _ (by decide)]) (by rw [hG60, g2_row _ _ (by decide)])
          refine fx_aload_n dX11_rod_61 rfl (i := 0) rfl ?_
          refine fw_getr dX11_rod_62 fd11_85 rfl rfl ?_
          refine fx_iload_n dX11_rod_65 rfl (i := 1) rfl ?_
          refine fx_aload_n dX11_rod_66 rfl (i := 0) rfl ?_
          refine fx_aload_n dX11_rod_67 rfl (i := 0) rfl ?_
          refine fx_iload_n dX11_rod_68 rfl (i := 2) rfl ?_
          refine fn_cV dX11_rod_69 lk11_248 fv_c8 rfl (fw_at (show mT 0 = some (3, 8, 38, [some 1, none, some 2, some 3, some 4, some 5, some 6, some 7, some 8, some 9, some 10, some 11, some 12, some 13, some 14, some 15, some 16, some 17, some 18, some 19, none, none, none, some 20, some 21, some 22, some 23, none, some 24, some 25, some 26, some 27, some 28, some 29, some 30, some 31, none, some 32]) from rfl)) (C11_pointOf G60 L q hS60.1 hS60.2.1 a (by omega) (by omega)) rfl rfl (by decide) (Nat.le_of_ble_eq_true rfl) ?_
          show fv_At Y11_rod 2 0 0 Q 72 [(0, .ref 0), (1, .int (nI r0)), (2, .int (iI a)), (3, .int (iI b))] [.int (iI (pqo q a)), .ref 0, .int (nI r0), .ref 25] (fw mT G60 L) none 0 0
          refine fn_to (show _ = (nI x) from (congrArg iI hx)) ?_
          refine fn_cV dX11_rod_72 lk11_251 fv_c8 rfl (fw_at (show mT 0 = some (3, 8, 38, [some 1, none, some 2, some 3, some 4, some 5, some 6, some 7, some 8, some 9, some 10, some 11, some 12, some 13, some 14, some 15, some 16, some 17, some 18, some 19, none, none, none, some 20, some 21, some 22, some 23, none, some 24, some 25, some 26, some 27, some 28, some 29, some 30, some 31, none, some 32]) from rfl)) (C11_evened G60 L q hS60 x (by omega)) rfl rfl (by decide) (Nat.le_of_ble_eq_true rfl) ?_
          show fv_At Y11_rod 2 0 0 Q 75 [(0, .ref 0), (1, .int (nI r0)), (2, .int (iI a)), (3, .int (iI b))] [.int (nI (evq q x)), .int (nI r0), .ref 25] (fw mT G60 L) none 0 0
          refine fw_iast r0 dX11_rod_75 rfl rfl (by omega) (by decide) ?_
          obtain ⟨G75, hG75⟩ : ∃ z, z = g2 G60 25 r0 ((nI (evq q x))) := ⟨_, rfl⟩
          rw [← hG75]
          have hS75 : msq G75 q := msq_k hS60 (by rw [hG75, g2_row _ _ (by decide)]) (by rw [hG75, g2_row _ _ (by decide)]) (by rw [hG75, g2_row _ _ (by decide)])
          refine fx_aload_n dX11_rod_76 rfl (i := 0) rfl ?_
          refine fw_getr dX11_rod_77 fd11_88 rfl rfl ?_
          refine fx_iload_n dX11_rod_80 rfl (i := 1) rfl ?_
          refine fx_aload_n dX11_rod_81 rfl (i := 0) rfl ?_
          refine fx_aload_n dX11_rod_82 rfl (i := 0) rfl ?_
          refine fx_iload_n dX11_rod_83 rfl (i := 3) rfl ?_
          refine fn_cV dX11_rod_84 lk11_248 fv_c8 rfl (fw_at (show mT 0 = some (3, 8, 38, [some 1, none, some 2, some 3, some 4, some 5, some 6, some 7, some 8, some 9, some 10, some 11, some 12, some 13, some 14, some 15, some 16, some 17, some 18, some 19, none, none, none, some 20, some 21, some 22, some 23, none, some 24, some 25, some 26, some 27, some 28, some 29, some 30, some 31, none, some 32]) from rfl)) (C11_pointOf G75 L q hS75.1 hS75.2.1 b (by omega) (by omega)) rfl rfl (by decide) (Nat.le_of_ble_eq_true rfl) ?_
          show fv_At Y11_rod 2 0 0 Q 87 [(0, .ref 0), (1, .int (nI r0)), (2, .int (iI a)), (3, .int (iI b))] [.int (iI (pqo q b)), .ref 0, .int (nI r0), .ref 26] (fw mT G75 L) none 0 0
          refine fn_to (show _ = (nI y) from (congrArg iI hy)) ?_
          refine fn_cV dX11_rod_87 lk11_251 fv_c8 rfl (fw_at (show mT 0 = some (3, 8, 38, [some 1, none, some 2, some 3, some 4, some 5, some 6, some 7, some 8, some 9, some 10, some 11, some 12, some 13, some 14, some 15, some 16, some 17, some 18, some 19, none, none, none, some 20, some 21, some 22, some 23, none, some 24, some 25, some 26, some 27, some 28, some 29, some 30, some 31, none, some 32]) from rfl)) (C11_evened G75 L q hS75 y (by omega)) rfl rfl (by decide) (Nat.le_of_ble_eq_true rfl) ?_
          show fv_At Y11_rod 2 0 0 Q 90 [(0, .ref 0), (1, .int (nI r0)), (2, .int (iI a)), (3, .int (iI b))] [.int (nI (evq q y)), .int (nI r0), .ref 26] (fw mT G75 L) none 0 0
          refine fw_iast r0 dX11_rod_90 rfl rfl (by omega) (by decide) ?_
          refine fx_iconst (v := (nI 1)) dX11_rod_91 (by decide) ?_
          exact fx_iret dX11_rod_92 rfl rfl rfl (by rw [hQ]; exact ⟨g2 G75 26 r0 ((nI (evq q y))), by rw [hTT]; rfl, rfl, rfl, fun i e1 e2 e3 => by rw [g2_row _ _ e3, hG75, g2_row _ _ e2, hG60, g2_row _ _ e1], by simp only [hTT, true_and, Int.toNat_natCast, hx, hy]; rw [hG75, hG60]; exact mrd_put hD (by omega) hex hey⟩)
        · skip
          refine fx_bipush (v := (iI (-2))) dX11_rod_51 (by decide) ?_
          exact fx_iret dX11_rod_53 rfl rfl rfl (by rw [hQ]; exact (by have hF : rodp q r a b = false := by {unfold rodp; exact decide_eq_false (fun w => by first | exact of_decide_eq_false c9 ⟨w.1, w.2.1⟩ | exact w.2.2.1 (by omega) | exact w.2.2.2.1 (by omega) | exact w.2.2.2.2 (by rw [hx, hy, Int.toNat_natCast, Int.toNat_natCast]; exact c48))}; exact ⟨G, by rw [hF]; rfl, rfl, rfl, fun _ _ _ _ => rfl, by simp only [hF, Bool.false_eq_true, false_and, if_false]; exact hD⟩))

def cnb (S1 S2 : Nat → Bool) : Nat → Nat → Nat → Nat
  | 0, _, c => c
  | n + 1, x, c => cnb S1 S2 n (x + 1) (c + if (S1 x && S2 x) = true then 1 else 0)
theorem cnb_s (S1 S2 : Nat → Bool) (n x c : Nat) : cnb S1 S2 (n + 1) x c = cnb S1 S2 n (x + 1) (c + if (S1 x && S2 x) = true then 1 else 0) := rfl
theorem mkn_b (q a b : Nat) : ∀ n i (S : Nat → Bool) c, mkn q a b n i S c ≤ c + n
  | 0, _, _, _ => Nat.le_refl _
  | n + 1, i, S, c => by
    rw [mkn_s]
    have := mkn_b q a b n (i + 1) (fun x => decide (x = onl q a b i) || S x) (c + if S (onl q a b i) = true then 0 else 1)
    have h2 : (if S (onl q a b i) = true then 0 else 1) ≤ 1 := by split <;> decide
    omega
/-- how two rods meet in the model -/
def mtv (q a b c d : Nat) : Nat := if cnb (mkS q a b (q + 1) 0 noS) (mkS q c d (q + 1) 0 noS) 625 0 0 = mkn q c d (q + 1) 0 noS 0 then 2 else if 0 < cnb (mkS q a b (q + 1) 0 noS) (mkS q c d (q + 1) 0 noS) 625 0 0 then 1 else 0
def mtw (q : Nat) (th : Nat → Bool) (ra rb : Nat → Nat) (r s : Int) : Int := if (0 ≤ r ∧ r ≤ 7) ∧ 0 ≤ s ∧ s ≤ 7 then (if th r.toNat = true ∧ th s.toNat = true then (mtv q (ra r.toNat) (rb r.toNat) (ra s.toNat) (rb s.toNat) : Int) else -3) else -2

set_option maxRecDepth 4000 in
set_option maxHeartbeats 1000000 in
theorem C11_meet  (G : Nat → Nat → Int32) (L : Nat → Nat → Int64) (q : Nat) (hS : msq G q) (th : Nat → Bool) (ra rb : Nat → Nat) (hD : mrd G q th ra rb) (r s : Int) (r1 : -2147483648 ≤ r) (r2 : r < 2147483648) (s1 : -2147483648 ≤ s) (s2 : s < 2147483648) : fv_M Y11_meet 4 0 0 [.ref 0, .int (iI r), .int (iI s)] (fw mT G L) none (fun r2 f2 al2 => ∃ G2 : Nat → Nat → Int32, r2 = some (.int (iI (mtw q th ra rb r s))) ∧ f2 = fw mT G2 L ∧ al2 = none ∧ ∀ i, i ≠ 27 → i ≠ 28 → G2 i = G i) := by
  refine fv_enter rfl (Nat.le_of_ble_eq_true rfl) ?_
  obtain ⟨Q, hQ⟩ : ∃ Q : Option Value → fv_F → Option Nat → Prop, Q = (fun r2 f2 al2 => ∃ G2 : Nat → Nat → Int32, r2 = some (.int (iI (mtw q th ra rb r s))) ∧ f2 = fw mT G2 L ∧ al2 = none ∧ ∀ i, i ≠ 27 → i ≠ 28 → G2 i = G i) := ⟨_, rfl⟩
  rw [← hQ]
  show fv_At Y11_meet 4 0 0 Q 0 [(0, .ref 0), (1, .int (iI r)), (2, .int (iI s))] [] (fw mT G L) none 0 0
  have h625 := q4_le hS.2.1
  have hq0 : 0 < q ∧ q ≤ 5 := by have := hS.2.1; omega
  refine fx_iload_n dX11_meet_0 rfl (i := 1) rfl ?_
  refine fx_i2l dX11_meet_1 ?_
  refine fn_toL (show _ = lI r from lI_of (z := r) (by omega) (by omega)) ?_
  refine fx_lconst (v := 0) dX11_meet_2 (by decide) ?_
  refine fn_toL (show _ = (lI 0) from (by decide)) ?_
  refine fx_ldc2 dX11_meet_3 kc11_246 (fn_toL (show _ = lI (7) by decide) ?_)
  refine fn_cS dX11_meet_6 lk11_126 (C11_in (v := r) (a := 0) (b := 7) (by omega) (by omega) (by omega) (by omega) (by omega) (by omega) (f := (fw mT G L))) rfl rfl (by decide) (Nat.le_of_ble_eq_true rfl) ?_
  show fv_At Y11_meet 4 0 0 Q 9 [(0, .ref 0), (1, .int (iI r)), (2, .int (iI s))] [.int (bI (decide (0 ≤ r ∧ r ≤ 7)))] (fw mT G L) none 0 0
  refine fn_if_eqB (tgt := 24) dX11_meet_9 (by decide) (fun c9 => ?_) (fun c9 => ?_)
  · skip
    refine fx_bipush (v := (iI (-2))) dX11_meet_24 (by decide) ?_
    exact fx_iret dX11_meet_26 rfl rfl rfl (by rw [hQ]; exact ⟨G, by unfold mtw; rw [if_neg (fun w => by first | exact of_decide_eq_false c9 w.1 | exact of_decide_eq_false c21 w.2)], rfl, rfl, fun _ _ _ => rfl⟩)
  · skip
    refine fx_iload_n dX11_meet_12 rfl (i := 2) rfl ?_
    refine fx_i2l dX11_meet_13 ?_
    refine fn_toL (show _ = lI s from lI_of (z := s) (by omega) (by omega)) ?_
    refine fx_lconst (v := 0) dX11_meet_14 (by decide) ?_
    refine fn_toL (show _ = (lI 0) from (by decide)) ?_
    refine fx_ldc2 dX11_meet_15 kc11_246 (fn_toL (show _ = lI (7) by decide) ?_)
    refine fn_cS dX11_meet_18 lk11_126 (C11_in (v := s) (a := 0) (b := 7) (by omega) (by omega) (by omega) (by omega) (by omega) (by omega) (f := (fw mT G L))) rfl rfl (by decide) (Nat.le_of_ble_eq_true rfl) ?_
    show fv_At Y11_meet 4 0 0 Q 21 [(0, .ref 0), (1, .int (iI r)), (2, .int (iI s))] [.int (bI (decide (0 ≤ s ∧ s ≤ 7)))] (fw mT G L) none 0 0
    refine fn_if_neB (tgt := 27) dX11_meet_21 (by decide) (fun c21 => ?_) (fun c21 => ?_)
    · skip
      have hin := of_decide_eq_true c9
      have hin2 := of_decide_eq_true c21
      obtain ⟨r0, rfl⟩ : ∃ z : Nat, r = (z : Int) := ⟨r.toNat, by omega⟩
      obtain ⟨s0, rfl⟩ : ∃ z : Nat, s = (z : Int) := ⟨s.toNat, by omega⟩
      show fv_At Y11_meet 4 0 0 Q 27 [(0, .ref 0), (1, .int (nI r0)), (2, .int (nI s0))] [] (fw mT G L) none 0 0
      refine fx_aload_n dX11_meet_27 rfl (i := 0) rfl ?_
      refine fw_getr dX11_meet_28 fd11_82 rfl rfl ?_
      refine fx_iload_n dX11_meet_31 rfl (i := 1) rfl ?_
      refine fw_zald r0 dX11_meet_32 rfl rfl (by omega) (by decide) ?_
      refine fn_to (show _ = (bI (th r0)) from (hD.1 r0 (by omega))) ?_
      refine fn_if_eqB (tgt := 45) dX11_meet_33 (by decide) (fun c33 => ?_) (fun c33 => ?_)
      · skip
        refine fx_bipush (v := (iI (-3))) dX11_meet_45 (by decide) ?_
        exact fx_iret dX11_meet_47 rfl rfl rfl (by rw [hQ]; exact ⟨G, by unfold mtw; rw [if_pos ⟨hin, hin2⟩, if_neg (fun w => by rw [Int.toNat_natCast, Int.toNat_natCast] at w; first | exact absurd (c33.symm.trans w.1) (by decide) | exact absurd (c42.symm.trans w.2) (by decide))], rfl, rfl, fun _ _ _ => rfl⟩)
      · skip
        refine fx_aload_n dX11_meet_36 rfl (i := 0) rfl ?_
        refine fw_getr dX11_meet_37 fd11_82 rfl rfl ?_
        refine fx_iload_n dX11_meet_40 rfl (i := 2) rfl ?_
        refine fw_zald s0 dX11_meet_41 rfl rfl (by omega) (by decide) ?_
        refine fn_to (show _ = (bI (th s0)) from (hD.1 s0 (by omega))) ?_
        refine fn_if_neB (tgt := 48) dX11_meet_42 (by decide) (fun c42 => ?_) (fun c42 => ?_)
        · skip
          have hr0 := hD.2 r0 (by omega) c33
          have hs0 := hD.2 s0 (by omega) c42
          refine fx_aload_n dX11_meet_48 rfl (i := 0) rfl ?_
          refine fx_aload_n dX11_meet_49 rfl (i := 0) rfl ?_
          refine fw_getr dX11_meet_50 fd11_91 rfl rfl ?_
          refine fx_callV dX11_meet_53 lk11_258 fv_c8 rfl (fw_at (show mT 0 = some (3, 8, 38, [some 1, none, some 2, some 3, some 4, some 5, some 6, some 7, some 8, some 9, some 10, some 11, some 12, some 13, some 14, some 15, some 16, some 17, some 18, some 19, none, none, none, some 20, some 21, some 22, some 23, none, some 24, some 25, some 26, some 27, some 28, some 29, some 30, some 31, none, some 32]) from rfl)) (C11_wipeMarks G L 27 rfl) rfl rfl (by decide) (Nat.le_of_ble_eq_true rfl) (by decide) (by decide) (fun r53 f53 al53 h53 => ?_)
          obtain ⟨G53, rfl, rfl, rfl, ho53, hw53⟩ := h53
          show fv_At Y11_meet 4 0 0 Q 56 [(0, .ref 0), (1, .int (nI r0)), (2, .int (nI s0))] [] (fw mT G53 L) none 0 0
          have hS53 : msq G53 q := msq_k hS (by rw [ho53 0 (by decide)]) (ho53 29 (by decide)) (ho53 30 (by decide))
          refine fx_aload_n dX11_meet_56 rfl (i := 0) rfl ?_
          refine fx_aload_n dX11_meet_57 rfl (i := 0) rfl ?_
          refine fw_getr dX11_meet_58 fd11_91 rfl rfl ?_
          refine fx_aload_n dX11_meet_61 rfl (i := 0) rfl ?_
          refine fw_getr dX11_meet_62 fd11_85 rfl rfl ?_
          refine fx_iload_n dX11_meet_65 rfl (i := 1) rfl ?_
          refine fw_iald r0 dX11_meet_66 rfl rfl (by omega) (by decide) ?_
          refine fn_to (show _ = (nI (ra r0)) from ((congrFun (ho53 25 (by decide)) r0).trans hr0.1.1)) ?_
          refine fx_aload_n dX11_meet_67 rfl (i := 0) rfl ?_
          refine fw_getr dX11_meet_68 fd11_88 rfl rfl ?_
          refine fx_iload_n dX11_meet_71 rfl (i := 1) rfl ?_
          refine fw_iald r0 dX11_meet_72 rfl rfl (by omega) (by decide) ?_
          refine fn_to (show _ = (nI (rb r0)) from ((congrFun (ho53 26 (by decide)) r0).trans hr0.2.1)) ?_
          refine fx_callV dX11_meet_73 lk11_262 fv_c8 rfl (fw_at (show mT 0 = some (3, 8, 38, [some 1, none, some 2, some 3, some 4, some 5, some 6, some 7, some 8, some 9, some 10, some 11, some 12, some 13, some 14, some 15, some 16, some 17, some 18, some 19, none, none, none, some 20, some 21, some 22, some 23, none, some 24, some 25, some 26, some 27, some 28, some 29, some 30, some 31, none, some 32]) from rfl)) (C11_marks G53 L q hS53 27 rfl (by decide) noS (fun x h => hw53 x h) (ra r0) (rb r0) hr0.1.2 hr0.2.2) rfl rfl (by decide) (Nat.le_of_ble_eq_true rfl) (by decide) (by decide) (fun r73 f73 al73 h73 => ?_)
          obtain ⟨G73, rfl, rfl, rfl, ho73, hm73⟩ := h73
          show fv_At Y11_meet 4 0 0 Q 76 [(0, .ref 0), (1, .int (nI r0)), (2, .int (nI s0))] [.int (nI (mkn q (ra r0) (rb r0) (q + 1) 0 noS 0))] (fw mT G73 L) none 0 0
          refine fx_istore_n (lv2 := [(0, .ref 0), (1, .int (nI r0)), (2, .int (nI s0)), (3, .int (nI (mkn q (ra r0) (rb r0) (q + 1) 0 noS 0)))]) dX11_meet_76 (i := 3) rfl (by decide) rfl ?_
          refine fx_aload_n dX11_meet_77 rfl (i := 0) rfl ?_
          refine fx_aload_n dX11_meet_78 rfl (i := 0) rfl ?_
          refine fw_getr dX11_meet_79 fd11_94 rfl rfl ?_
          refine fx_callV dX11_meet_82 lk11_258 fv_c8 rfl (fw_at (show mT 0 = some (3, 8, 38, [some 1, none, some 2, some 3, some 4, some 5, some 6, some 7, some 8, some 9, some 10, some 11, some 12, some 13, some 14, some 15, some 16, some 17, some 18, some 19, none, none, none, some 20, some 21, some 22, some 23, none, some 24, some 25, some 26, some 27, some 28, some 29, some 30, some 31, none, some 32]) from rfl)) (C11_wipeMarks G73 L 28 rfl) rfl rfl (by decide) (Nat.le_of_ble_eq_true rfl) (by decide) (by decide) (fun r82 f82 al82 h82 => ?_)
          obtain ⟨G82, rfl, rfl, rfl, ho82, hw82⟩ := h82
          show fv_At Y11_meet 4 0 0 Q 85 [(0, .ref 0), (1, .int (nI r0)), (2, .int (nI s0)), (3, .int (nI (mkn q (ra r0) (rb r0) (q + 1) 0 noS 0)))] [] (fw mT G82 L) none 0 0
          have hS82 : msq G82 q := msq_k hS53 (by rw [ho82 0 (by decide), ho73 0 (by decide)]) ((ho82 29 (by decide)).trans (ho73 29 (by decide))) ((ho82 30 (by decide)).trans (ho73 30 (by decide)))
          refine fx_aload_n dX11_meet_85 rfl (i := 0) rfl ?_
          refine fx_aload_n dX11_meet_86 rfl (i := 0) rfl ?_
          refine fw_getr dX11_meet_87 fd11_94 rfl rfl ?_
          refine fx_aload_n dX11_meet_90 rfl (i := 0) rfl ?_
          refine fw_getr dX11_meet_91 fd11_85 rfl rfl ?_
          refine fx_iload_n dX11_meet_94 rfl (i := 2) rfl ?_
          refine fw_iald s0 dX11_meet_95 rfl rfl (by omega) (by decide) ?_
          refine fn_to (show _ = (nI (ra s0)) from ((congrFun ((ho82 25 (by decide)).trans ((ho73 25 (by decide)).trans (ho53 25 (by decide)))) s0).trans hs0.1.1)) ?_
          refine fx_aload_n dX11_meet_96 rfl (i := 0) rfl ?_
          refine fw_getr dX11_meet_97 fd11_88 rfl rfl ?_
          refine fx_iload_n dX11_meet_100 rfl (i := 2) rfl ?_
          refine fw_iald s0 dX11_meet_101 rfl rfl (by omega) (by decide) ?_
          refine fn_to (show _ = (nI (rb s0)) from ((congrFun ((ho82 26 (by decide)).trans ((ho73 26 (by decide)).trans (ho53 26 (by decide)))) s0).trans hs0.2.1)) ?_
          refine fx_callV dX11_meet_102 lk11_262 fv_c8 rfl (fw_at (show mT 0 = some (3, 8, 38, [some 1, none, some 2, some 3, some 4, some 5, some 6, some 7, some 8, some 9, some 10, some 11, some 12, some 13, some 14, some 15, some 16, some 17, some 18, some 19, none, none, none, some 20, some 21, some 22, some 23, none, some 24, some 25, some 26, some 27, some 28, some 29, some 30, some 31, none, some 32]) from rfl)) (C11_marks G82 L q hS82 28 rfl (by decide) noS (fun x h => hw82 x h) (ra s0) (rb s0) hs0.1.2 hs0.2.2) rfl rfl (by decide) (Nat.le_of_ble_eq_true rfl) (by decide) (by decide) (fun r102 f102 al102 h102 => ?_)
          obtain ⟨G102, rfl, rfl, rfl, ho102, hm102⟩ := h102
          show fv_At Y11_meet 4 0 0 Q 105 [(0, .ref 0), (1, .int (nI r0)), (2, .int (nI s0)), (3, .int (nI (mkn q (ra r0) (rb r0) (q + 1) 0 noS 0)))] [.int (nI (mkn q (ra s0) (rb s0) (q + 1) 0 noS 0))] (fw mT G102 L) none 0 0
          refine fx_istore (lv2 := [(0, .ref 0), (1, .int (nI r0)), (2, .int (nI s0)), (3, .int (nI (mkn q (ra r0) (rb r0) (q + 1) 0 noS 0))), (4, .int (nI (mkn q (ra s0) (rb s0) (q + 1) 0 noS 0)))]) dX11_meet_105 (by decide) rfl ?_
          have hm1a : ∀ x, x < 625 → G102 27 x = bI (mkS q (ra r0) (rb r0) (q + 1) 0 noS x) := fun x h => by rw [ho102 27 (by decide), ho82 27 (by decide)]; exact hm73 x h
          obtain ⟨S1, hS1⟩ : ∃ z, z = mkS q (ra r0) (rb r0) (q + 1) 0 noS := ⟨_, rfl⟩
          obtain ⟨S2, hS2⟩ : ∃ z, z = mkS q (ra s0) (rb s0) (q + 1) 0 noS := ⟨_, rfl⟩
          have hm1 := hm1a
          rw [← hS1] at hm1
          rw [← hS2] at hm102
          have hmb := mkn_b q (ra s0) (rb s0) (q + 1) 0 noS 0
          have hv : mtw q th ra rb ((r0 : Nat) : Int) ((s0 : Nat) : Int) = ((if cnb S1 S2 625 0 0 = mkn q (ra s0) (rb s0) (q + 1) 0 noS 0 then 2 else if 0 < cnb S1 S2 625 0 0 then 1 else 0 : Nat) : Int) := by unfold mtw; rw [if_pos ⟨hin, hin2⟩, Int.toNat_natCast, Int.toNat_natCast, if_pos ⟨c33, c42⟩, hS1, hS2]; rfl
          refine fx_iconst (v := (nI 0)) dX11_meet_107 (by decide) ?_
          refine fx_istore (lv2 := [(0, .ref 0), (1, .int (nI r0)), (2, .int (nI s0)), (3, .int (nI (mkn q (ra r0) (rb r0) (q + 1) 0 noS 0))), (4, .int (nI (mkn q (ra s0) (rb s0) (q + 1) 0 noS 0))), (5, .int (nI 0))]) dX11_meet_108 (by decide) rfl ?_
          refine fx_iconst (v := (nI 0)) dX11_meet_110 (by decide) ?_
          refine fx_istore (lv2 := [(0, .ref 0), (1, .int (nI r0)), (2, .int (nI s0)), (3, .int (nI (mkn q (ra r0) (rb r0) (q + 1) 0 noS 0))), (4, .int (nI (mkn q (ra s0) (rb s0) (q + 1) 0 noS 0))), (5, .int (nI 0)), (6, .int (nI 0))]) dX11_meet_111 (by decide) rfl ?_
          have L113 : ∀ (n : Nat) (c : Nat) (x : Nat), (x + n = 625 ∧ c ≤ x) → (cnb S1 S2 n x c = cnb S1 S2 625 0 0) → fv_At Y11_meet 4 0 0 Q 113 [(0, .ref 0), (1, .int (nI r0)), (2, .int (nI s0)), (3, .int (nI (mkn q (ra r0) (rb r0) (q + 1) 0 noS 0))), (4, .int (nI (mkn q (ra s0) (rb s0) (q + 1) 0 noS 0))), (5, .int (nI c)), (6, .int (nI x))] [] (fw mT G102 L) none 0 0 := by
            intro n
            induction n with
            | zero =>
              intro c x hx hR
              refine fx_iload dX11_meet_113 rfl ?_
              refine fx_sipush (v := (nI 625)) dX11_meet_115 (by decide) ?_
              refine fn_icmp_ge (tgt := 157) dX11_meet_118 (by decide) (by omega) (by omega) (fun c118 => ?_) (fun c118 => ?_)
              · skip
                refine fx_iload dX11_meet_157 rfl ?_
                refine fx_iload dX11_meet_159 rfl ?_
                refine fn_icmp_ne (tgt := 168) dX11_meet_161 (by decide) (by omega) (by omega) (fun c161 => ?_) (fun c161 => ?_)
                · skip
                  refine fx_iload dX11_meet_168 rfl ?_
                  refine fn_if_le (tgt := 177) dX11_meet_170 (by decide) (by omega) (fun c170 => ?_) (fun c170 => ?_)
                  · skip
                    refine fx_iconst (v := (nI 0)) dX11_meet_177 (by decide) ?_
                    exact fx_iret dX11_meet_178 rfl rfl rfl (by rw [hQ]; exact ⟨G102, by have hc : c = cnb S1 S2 625 0 0 := hR; rw [hv, ← hc]; first | (rw [if_pos c161]; rfl) | (rw [if_neg c161, if_pos (by omega)]; rfl) | (rw [if_neg c161, if_neg (by omega)]; rfl), rfl, rfl, fun i e1 e2 => (ho102 i e2).trans ((ho82 i e2).trans ((ho73 i e1).trans (ho53 i e1)))⟩)
                  · skip
                    refine fx_iconst (v := (nI 1)) dX11_meet_173 (by decide) ?_
                    refine fx_goto (tgt := 178) dX11_meet_174 (by decide) ?_
                    exact fx_iret dX11_meet_178 rfl rfl rfl (by rw [hQ]; exact ⟨G102, by have hc : c = cnb S1 S2 625 0 0 := hR; rw [hv, ← hc]; first | (rw [if_pos c161]; rfl) | (rw [if_neg c161, if_pos (by omega)]; rfl) | (rw [if_neg c161, if_neg (by omega)]; rfl), rfl, rfl, fun i e1 e2 => (ho102 i e2).trans ((ho82 i e2).trans ((ho73 i e1).trans (ho53 i e1)))⟩)
                · skip
                  refine fx_iconst (v := (nI 2)) dX11_meet_164 (by decide) ?_
                  refine fx_goto (tgt := 178) dX11_meet_165 (by decide) ?_
                  exact fx_iret dX11_meet_178 rfl rfl rfl (by rw [hQ]; exact ⟨G102, by have hc : c = cnb S1 S2 625 0 0 := hR; rw [hv, ← hc]; first | (rw [if_pos c161]; rfl) | (rw [if_neg c161, if_pos (by omega)]; rfl) | (rw [if_neg c161, if_neg (by omega)]; rfl), rfl, rfl, fun i e1 e2 => (ho102 i e2).trans ((ho82 i e2).trans ((ho73 i e1).trans (ho53 i e1)))⟩)
              · exfalso; omega
            | succ n ih113 =>
              intro c x hx hR
              refine fx_iload dX11_meet_113 rfl ?_
              refine fx_sipush (v := (nI 625)) dX11_meet_115 (by decide) ?_
              refine fn_icmp_ge (tgt := 157) dX11_meet_118 (by decide) (by omega) (by omega) (fun c118 => ?_) (fun c118 => ?_)
              · exfalso; omega
              · skip
                refine fx_iload dX11_meet_121 rfl ?_
                refine fx_aload_n dX11_meet_123 rfl (i := 0) rfl ?_
                refine fw_getr dX11_meet_124 fd11_91 rfl rfl ?_
                refine fx_iload dX11_meet_127 rfl ?_
                refine fw_zald x dX11_meet_129 rfl rfl (by omega) (by decide) ?_
                refine fn_to (show _ = (bI (S1 x)) from (hm1 x (by omega))) ?_
                refine fn_if_eqB (tgt := 147) dX11_meet_130 (by decide) (fun c130 => ?_) (fun c130 => ?_)
                · skip
                  refine fx_iconst (v := (nI 0)) dX11_meet_147 (by decide) ?_
                  refine fn_iadd dX11_meet_148 ?_
                  refine fn_to (show _ = (nI (c + if (S1 x && S2 x) = true then 1 else 0)) from (by first | (rw [c130, Bool.false_and]; rfl) | (rw [c130, c140]; rfl))) ?_
                  refine fx_istore (lv2 := [(0, .ref 0), (1, .int (nI r0)), (2, .int (nI s0)), (3, .int (nI (mkn q (ra r0) (rb r0) (q + 1) 0 noS 0))), (4, .int (nI (mkn q (ra s0) (rb s0) (q + 1) 0 noS 0))), (5, .int (nI (c + if (S1 x && S2 x) = true then 1 else 0))), (6, .int (nI x))]) dX11_meet_149 (by decide) rfl ?_
                  refine fn_iinc (c := 1) (lv2 := [(0, .ref 0), (1, .int (nI r0)), (2, .int (nI s0)), (3, .int (nI (mkn q (ra r0) (rb r0) (q + 1) 0 noS 0))), (4, .int (nI (mkn q (ra s0) (rb s0) (q + 1) 0 noS 0))), (5, .int (nI (c + if (S1 x && S2 x) = true then 1 else 0))), (6, .int (nI (x + 1)))]) dX11_meet_151 (by decide) rfl (by decide) rfl ?_
                  refine fx_goto (tgt := 113) dX11_meet_154 (by decide) ?_
                  exact (ih113 (c + if (S1 x && S2 x) = true then 1 else 0) (x + 1) (by have h2 : (if (S1 x && S2 x) = true then 1 else 0) ≤ 1 := by {split <;> decide}; omega) (by rw [← hR, cnb_s]))
                · skip
                  refine fx_aload_n dX11_meet_133 rfl (i := 0) rfl ?_
                  refine fw_getr dX11_meet_134 fd11_94 rfl rfl ?_
                  refine fx_iload dX11_meet_137 rfl ?_
                  refine fw_zald x dX11_meet_139 rfl rfl (by omega) (by decide) ?_
                  refine fn_to (show _ = (bI (S2 x)) from (hm102 x (by omega))) ?_
                  refine fn_if_eqB (tgt := 147) dX11_meet_140 (by decide) (fun c140 => ?_) (fun c140 => ?_)
                  · skip
                    refine fx_iconst (v := (nI 0)) dX11_meet_147 (by decide) ?_
                    refine fn_iadd dX11_meet_148 ?_
                    refine fn_to (show _ = (nI (c + if (S1 x && S2 x) = true then 1 else 0)) from (by first | (rw [c130, Bool.false_and]; rfl) | (rw [c130, c140]; rfl))) ?_
                    refine fx_istore (lv2 := [(0, .ref 0), (1, .int (nI r0)), (2, .int (nI s0)), (3, .int (nI (mkn q (ra r0) (rb r0) (q + 1) 0 noS 0))), (4, .int (nI (mkn q (ra s0) (rb s0) (q + 1) 0 noS 0))), (5, .int (nI (c + if (S1 x && S2 x) = true then 1 else 0))), (6, .int (nI x))]) dX11_meet_149 (by decide) rfl ?_
                    refine fn_iinc (c := 1) (lv2 := [(0, .ref 0), (1, .int (nI r0)), (2, .int (nI s0)), (3, .int (nI (mkn q (ra r0) (rb r0) (q + 1) 0 noS 0))), (4, .int (nI (mkn q (ra s0) (rb s0) (q + 1) 0 noS 0))), (5, .int (nI (c + if (S1 x && S2 x) = true then 1 else 0))), (6, .int (nI (x + 1)))]) dX11_meet_151 (by decide) rfl (by decide) rfl ?_
                    refine fx_goto (tgt := 113) dX11_meet_154 (by decide) ?_
                    exact (ih113 (c + if (S1 x && S2 x) = true then 1 else 0) (x + 1) (by have h2 : (if (S1 x && S2 x) = true then 1 else 0) ≤ 1 := by {split <;> decide}; omega) (by rw [← hR, cnb_s]))
                  · skip
                    refine fx_iconst (v := (nI 1)) dX11_meet_143 (by decide) ?_
                    refine fx_goto (tgt := 148) dX11_meet_144 (by decide) ?_
                    refine fn_iadd dX11_meet_148 ?_
                    refine fn_to (show _ = (nI (c + if (S1 x && S2 x) = true then 1 else 0)) from (by first | (rw [c130, Bool.false_and]; rfl) | (rw [c130, c140]; rfl))) ?_
                    refine fx_istore (lv2 := [(0, .ref 0), (1, .int (nI r0)), (2, .int (nI s0)), (3, .int (nI (mkn q (ra r0) (rb r0) (q + 1) 0 noS 0))), (4, .int (nI (mkn q (ra s0) (rb s0) (q + 1) 0 noS 0))), (5, .int (nI (c + if (S1 x && S2 x) = true then 1 else 0))), (6, .int (nI x))]) dX11_meet_149 (by decide) rfl ?_
                    refine fn_iinc (c := 1) (lv2 := [(0, .ref 0), (1, .int (nI r0)), (2, .int (nI s0)), (3, .int (nI (mkn q (ra r0) (rb r0) (q + 1) 0 noS 0))), (4, .int (nI (mkn q (ra s0) (rb s0) (q + 1) 0 noS 0))), (5, .int (nI (c + if (S1 x && S2 x) = true then 1 else 0))), (6, .int (nI (x + 1)))]) dX11_meet_151 (by decide) rfl (by decide) rfl ?_
                    refine fx_goto (tgt := 113) dX11_meet_154 (by decide) ?_
                    exact (ih113 (c + if (S1 x && S2 x) = true then 1 else 0) (x + 1) (by have h2 : (if (S1 x && S2 x) = true then 1 else 0) ≤ 1 := by {split <;> decide}; omega) (by rw [← hR, cnb_s]))
          exact (L113 625 0 0 (by omega) rfl)
        · skip
          refine fx_bipush (v := (iI (-3))) dX11_meet_45 (by decide) ?_
          exact fx_iret dX11_meet_47 rfl rfl rfl (by rw [hQ]; exact ⟨G, by unfold mtw; rw [if_pos ⟨hin, hin2⟩, if_neg (fun w => by rw [Int.toNat_natCast, Int.toNat_natCast] at w; first | exact absurd (c33.symm.trans w.1) (by decide) | exact absurd (c42.symm.trans w.2) (by decide))], rfl, rfl, fun _ _ _ => rfl⟩)
    · skip
      refine fx_bipush (v := (iI (-2))) dX11_meet_24 (by decide) ?_
      exact fx_iret dX11_meet_26 rfl rfl rfl (by rw [hQ]; exact ⟨G, by unfold mtw; rw [if_neg (fun w => by first | exact of_decide_eq_false c9 w.1 | exact of_decide_eq_false c21 w.2)], rfl, rfl, fun _ _ _ => rfl⟩)
