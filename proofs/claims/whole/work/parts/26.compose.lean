section FMZ
variable {y : fv_Y} {d : Nat} {Q : Option Value → fv_F → Option Nat → Prop} {pc : Nat} {lv : fv_L} {st : List Value} {f : fv_F} {al : Option Nat}
theorem fx_mmaxZ {idx n : Nat} {a b : Int} (hd : decode y.2.1 pc = .ok (.invokestatic idx, 3)) (hp : fv_mS y.1.cls idx YJ9_max n) (a1 : -2147483648 ≤ a) (a2 : a < 2147483648) (b1 : -2147483648 ≤ b) (b2 : b < 2147483648) (hdep : 0 < d) (hcat : (st.map fun v => v.category).sum ≤ 8) (kk : fv_At y d 0 0 Q (pc + 3) lv (.int (iI (max a b)) :: st) f al 0 0) : fv_At y d 0 0 Q pc lv (.int (iI b) :: .int (iI a) :: st) f al 0 0 := by
  intro p l e_ s m args below meth c D dA N A G H locs ls hR hS hO hl
  obtain ⟨hx, hbb, hr, hlk, hml, hown, hts, ⟨hK, hNq⟩, hnm⟩ := id G
  obtain ⟨⟨h1, h2, h3, h4, h5⟩, h6⟩ := hp
  refine va_mmax (R := fv_rm d 0 0) hx hbb (hml.trans hl.1.symm) hown (hts _ h1) (hts _ h6) (hts _ h2) (hts _ h3) hdep (by rw [fv_catS]; show _ ≤ 64 * d; omega) (Nat.le_refl _) (Nat.le_refl _) hd ?_
  have e : (if iI a < iI b then iI b else iI a) = iI (max a b) := by
    by_cases h : a < b
    · rw [if_pos ((iI_lt a1 a2 b1 b2).mpr h), Int.max_eq_right (by omega)]
    · rw [if_neg (fun q => h ((iI_lt a1 a2 b1 b2).mp q)), Int.max_eq_left (by omega)]
  rw [e]
  exact kk p l e_ s m args below meth c D dA N A G H locs ls hR hS hO hl
end FMZ

set_option maxRecDepth 4000 in
set_option maxHeartbeats 1000000 in
theorem C0_staircase (n : Nat) (hn : n ≤ 5) (f : fv_F) : fv_M Y0_staircase 1 0 0 [.int (nI n)] f none (fv_eq (some (.int (nI (str n)))) f) := by
  refine fv_enter rfl (Nat.le_of_ble_eq_true rfl) ?_
  obtain ⟨Q, hQ⟩ : ∃ Q : Option Value → fv_F → Option Nat → Prop, Q = (fv_eq (some (.int (nI (str n)))) f) := ⟨_, rfl⟩
  rw [← hQ]
  show fv_At Y0_staircase 1 0 0 Q 0 [(0, .int (nI n))] [] f none 0 0
  refine fx_iconst (v := (nI 0)) dX0_staircase_0 (by decide) ?_
  refine fx_istore_n (lv2 := [(0, .int (nI n)), (1, .int (nI 0))]) dX0_staircase_1 (i := 1) rfl (by decide) rfl ?_
  refine fx_iconst (v := (nI 1)) dX0_staircase_2 (by decide) ?_
  refine fx_istore_n (lv2 := [(0, .int (nI n)), (1, .int (nI 0)), (2, .int (nI 1))]) dX0_staircase_3 (i := 2) rfl (by decide) rfl ?_
  refine fx_iload_n dX0_staircase_4 rfl (i := 2) rfl ?_
  refine fx_iconst (v := (nI 5)) dX0_staircase_5 (by decide) ?_
  refine fn_icmp_gt (tgt := 28) dX0_staircase_6 (by decide) (by omega) (by omega) (fun c6 => ?_) (fun c6 => ?_)
  · exfalso; omega
  · skip
    refine fx_iload_n dX0_staircase_9 rfl (i := 1) rfl ?_
    refine fx_bipush (v := (nI 10)) dX0_staircase_10 (by decide) ?_
    refine fn_imul dX0_staircase_12 ?_
    refine fx_iload_n dX0_staircase_13 rfl (i := 0) rfl ?_
    refine fx_iload_n dX0_staircase_14 rfl (i := 2) rfl ?_
    refine fn_isubZ (a := ((n : Nat) : Int)) (b := ((1 : Nat) : Int)) dX0_staircase_15 ?_
    refine fx_iconst (v := (nI 0)) dX0_staircase_16 (by decide) ?_
    refine fx_mmaxZ (a := (((n : Nat) : Int)) - (((1 : Nat) : Int))) (b := ((0 : Nat) : Int)) dX0_staircase_17 lk0_82 (by omega) (by omega) (by omega) (by omega) (by decide) (Nat.le_of_ble_eq_true rfl) ?_
    refine fn_to (show _ = (nI (n - 1)) from (show iI _ = iI ((n - 1 : Nat) : Int) by congr 1; omega)) ?_
    refine fn_iadd dX0_staircase_20 ?_
    refine fx_istore_n (lv2 := [(0, .int (nI n)), (1, .int (nI (0 + (n - 1)))), (2, .int (nI 1))]) dX0_staircase_21 (i := 1) rfl (by decide) rfl ?_
    refine fn_iinc (c := 1) (lv2 := [(0, .int (nI n)), (1, .int (nI (0 + (n - 1)))), (2, .int (nI 2))]) dX0_staircase_22 (by decide) rfl (by decide) rfl ?_
    refine fx_goto (tgt := 4) dX0_staircase_25 (by decide) ?_
    refine fx_iload_n dX0_staircase_4 rfl (i := 2) rfl ?_
    refine fx_iconst (v := (nI 5)) dX0_staircase_5 (by decide) ?_
    refine fn_icmp_gt (tgt := 28) dX0_staircase_6 (by decide) (by omega) (by omega) (fun c6 => ?_) (fun c6 => ?_)
    · exfalso; omega
    · skip
      refine fx_iload_n dX0_staircase_9 rfl (i := 1) rfl ?_
      refine fx_bipush (v := (nI 10)) dX0_staircase_10 (by decide) ?_
      refine fn_imul dX0_staircase_12 ?_
      refine fx_iload_n dX0_staircase_13 rfl (i := 0) rfl ?_
      refine fx_iload_n dX0_staircase_14 rfl (i := 2) rfl ?_
      refine fn_isubZ (a := ((n : Nat) : Int)) (b := ((2 : Nat) : Int)) dX0_staircase_15 ?_
      refine fx_iconst (v := (nI 0)) dX0_staircase_16 (by decide) ?_
      refine fx_mmaxZ (a := (((n : Nat) : Int)) - (((2 : Nat) : Int))) (b := ((0 : Nat) : Int)) dX0_staircase_17 lk0_82 (by omega) (by omega) (by omega) (by omega) (by decide) (Nat.le_of_ble_eq_true rfl) ?_
      refine fn_to (show _ = (nI (n - 2)) from (show iI _ = iI ((n - 2 : Nat) : Int) by congr 1; omega)) ?_
      refine fn_iadd dX0_staircase_20 ?_
      refine fx_istore_n (lv2 := [(0, .int (nI n)), (1, .int (nI (((0 + (n - 1)) * 10) + (n - 2)))), (2, .int (nI 2))]) dX0_staircase_21 (i := 1) rfl (by decide) rfl ?_
      refine fn_iinc (c := 1) (lv2 := [(0, .int (nI n)), (1, .int (nI (((0 + (n - 1)) * 10) + (n - 2)))), (2, .int (nI 3))]) dX0_staircase_22 (by decide) rfl (by decide) rfl ?_
      refine fx_goto (tgt := 4) dX0_staircase_25 (by decide) ?_
      refine fx_iload_n dX0_staircase_4 rfl (i := 2) rfl ?_
      refine fx_iconst (v := (nI 5)) dX0_staircase_5 (by decide) ?_
      refine fn_icmp_gt (tgt := 28) dX0_staircase_6 (by decide) (by omega) (by omega) (fun c6 => ?_) (fun c6 => ?_)
      · exfalso; omega
      · skip
        refine fx_iload_n dX0_staircase_9 rfl (i := 1) rfl ?_
        refine fx_bipush (v := (nI 10)) dX0_staircase_10 (by decide) ?_
        refine fn_imul dX0_staircase_12 ?_
        refine fx_iload_n dX0_staircase_13 rfl (i := 0) rfl ?_
        refine fx_iload_n dX0_staircase_14 rfl (i := 2) rfl ?_
        refine fn_isubZ (a := ((n : Nat) : Int)) (b := ((3 : Nat) : Int)) dX0_staircase_15 ?_
        refine fx_iconst (v := (nI 0)) dX0_staircase_16 (by decide) ?_
        refine fx_mmaxZ (a := (((n : Nat) : Int)) - (((3 : Nat) : Int))) (b := ((0 : Nat) : Int)) dX0_staircase_17 lk0_82 (by omega) (by omega) (by omega) (by omega) (by decide) (Nat.le_of_ble_eq_true rfl) ?_
        refine fn_to (show _ = (nI (n - 3)) from (show iI _ = iI ((n - 3 : Nat) : Int) by congr 1; omega)) ?_
        refine fn_iadd dX0_staircase_20 ?_
        refine fx_istore_n (lv2 := [(0, .int (nI n)), (1, .int (nI (((((0 + (n - 1)) * 10) + (n - 2)) * 10) + (n - 3)))), (2, .int (nI 3))]) dX0_staircase_21 (i := 1) rfl (by decide) rfl ?_
        refine fn_iinc (c := 1) (lv2 := [(0, .int (nI n)), (1, .int (nI (((((0 + (n - 1)) * 10) + (n - 2)) * 10) + (n - 3)))), (2, .int (nI 4))]) dX0_staircase_22 (by decide) rfl (by decide) rfl ?_
        refine fx_goto (tgt := 4) dX0_staircase_25 (by decide) ?_
        refine fx_iload_n dX0_staircase_4 rfl (i := 2) rfl ?_
        refine fx_iconst (v := (nI 5)) dX0_staircase_5 (by decide) ?_
        refine fn_icmp_gt (tgt := 28) dX0_staircase_6 (by decide) (by omega) (by omega) (fun c6 => ?_) (fun c6 => ?_)
        · exfalso; omega
        · skip
          refine fx_iload_n dX0_staircase_9 rfl (i := 1) rfl ?_
          refine fx_bipush (v := (nI 10)) dX0_staircase_10 (by decide) ?_
          refine fn_imul dX0_staircase_12 ?_
          refine fx_iload_n dX0_staircase_13 rfl (i := 0) rfl ?_
          refine fx_iload_n dX0_staircase_14 rfl (i := 2) rfl ?_
          refine fn_isubZ (a := ((n : Nat) : Int)) (b := ((4 : Nat) : Int)) dX0_staircase_15 ?_
          refine fx_iconst (v := (nI 0)) dX0_staircase_16 (by decide) ?_
          refine fx_mmaxZ (a := (((n : Nat) : Int)) - (((4 : Nat) : Int))) (b := ((0 : Nat) : Int)) dX0_staircase_17 lk0_82 (by omega) (by omega) (by omega) (by omega) (by decide) (Nat.le_of_ble_eq_true rfl) ?_
          refine fn_to (show _ = (nI (n - 4)) from (show iI _ = iI ((n - 4 : Nat) : Int) by congr 1; omega)) ?_
          refine fn_iadd dX0_staircase_20 ?_
          refine fx_istore_n (lv2 := [(0, .int (nI n)), (1, .int (nI (((((((0 + (n - 1)) * 10) + (n - 2)) * 10) + (n - 3)) * 10) + (n - 4)))), (2, .int (nI 4))]) dX0_staircase_21 (i := 1) rfl (by decide) rfl ?_
          refine fn_iinc (c := 1) (lv2 := [(0, .int (nI n)), (1, .int (nI (((((((0 + (n - 1)) * 10) + (n - 2)) * 10) + (n - 3)) * 10) + (n - 4)))), (2, .int (nI 5))]) dX0_staircase_22 (by decide) rfl (by decide) rfl ?_
          refine fx_goto (tgt := 4) dX0_staircase_25 (by decide) ?_
          refine fx_iload_n dX0_staircase_4 rfl (i := 2) rfl ?_
          refine fx_iconst (v := (nI 5)) dX0_staircase_5 (by decide) ?_
          refine fn_icmp_gt (tgt := 28) dX0_staircase_6 (by decide) (by omega) (by omega) (fun c6 => ?_) (fun c6 => ?_)
          · exfalso; omega
          · skip
            refine fx_iload_n dX0_staircase_9 rfl (i := 1) rfl ?_
            refine fx_bipush (v := (nI 10)) dX0_staircase_10 (by decide) ?_
            refine fn_imul dX0_staircase_12 ?_
            refine fx_iload_n dX0_staircase_13 rfl (i := 0) rfl ?_
            refine fx_iload_n dX0_staircase_14 rfl (i := 2) rfl ?_
            refine fn_isubZ (a := ((n : Nat) : Int)) (b := ((5 : Nat) : Int)) dX0_staircase_15 ?_
            refine fx_iconst (v := (nI 0)) dX0_staircase_16 (by decide) ?_
            refine fx_mmaxZ (a := (((n : Nat) : Int)) - (((5 : Nat) : Int))) (b := ((0 : Nat) : Int)) dX0_staircase_17 lk0_82 (by omega) (by omega) (by omega) (by omega) (by decide) (Nat.le_of_ble_eq_true rfl) ?_
            refine fn_to (show _ = (nI (n - 5)) from (show iI _ = iI ((n - 5 : Nat) : Int) by congr 1; omega)) ?_
            refine fn_iadd dX0_staircase_20 ?_
            refine fx_istore_n (lv2 := [(0, .int (nI n)), (1, .int (nI (((((((((0 + (n - 1)) * 10) + (n - 2)) * 10) + (n - 3)) * 10) + (n - 4)) * 10) + (n - 5)))), (2, .int (nI 5))]) dX0_staircase_21 (i := 1) rfl (by decide) rfl ?_
            refine fn_iinc (c := 1) (lv2 := [(0, .int (nI n)), (1, .int (nI (((((((((0 + (n - 1)) * 10) + (n - 2)) * 10) + (n - 3)) * 10) + (n - 4)) * 10) + (n - 5)))), (2, .int (nI 6))]) dX0_staircase_22 (by decide) rfl (by decide) rfl ?_
            refine fx_goto (tgt := 4) dX0_staircase_25 (by decide) ?_
            refine fx_iload_n dX0_staircase_4 rfl (i := 2) rfl ?_
            refine fx_iconst (v := (nI 5)) dX0_staircase_5 (by decide) ?_
            refine fn_icmp_gt (tgt := 28) dX0_staircase_6 (by decide) (by omega) (by omega) (fun c6 => ?_) (fun c6 => ?_)
            · skip
              refine fx_iload_n dX0_staircase_28 rfl (i := 1) rfl ?_
              exact fx_iret dX0_staircase_29 rfl rfl rfl (by rw [hQ]; exact ⟨by unfold str; congr 3; omega, rfl, rfl⟩)
            · exfalso; omega

set_option maxRecDepth 4000 in
set_option maxHeartbeats 1000000 in
theorem C0_compose  (G : Nat → Nat → Int32) (L : Nat → Nat → Int64) (hem : emp G L) (p : Nat) (hp : cT p = some (3, 4, 4, [some (p + 1), some (p + 2), none, none])) (hp1 : cT (p + 1) = some (0, 0, 600, [])) (hp2 : cT (p + 2) = some (0, 0, 600, [])) (hne : p + 3 ≤ 6 ∨ 9 ≤ p) (o n : Nat) (ho : o < 100000) (hn1 : 1 ≤ n) (hn : n ≤ 5) : fv_M Y0_compose 5 0 0 [.ref 2, .ref p, .int (nI o), .int (nI n)] (fw cT G L) none (qcp G L p (cpo n o)) := by
  refine fv_enter rfl (Nat.le_of_ble_eq_true rfl) ?_
  obtain ⟨Q, hQ⟩ : ∃ Q : Option Value → fv_F → Option Nat → Prop, Q = (qcp G L p (cpo n o)) := ⟨_, rfl⟩
  rw [← hQ]
  show fv_At Y0_compose 5 0 0 Q 0 [(0, .ref 2), (1, .ref p), (2, .int (nI o)), (3, .int (nI n))] [] (fw cT G L) none 0 0
  refine fx_lconst (v := 0) dX0_compose_0 (by decide) ?_
  refine fn_toL (show _ = (lN 0) from (by decide)) ?_
  refine fx_lstore (lv2 := [(0, .ref 2), (1, .ref p), (2, .int (nI o)), (3, .int (nI n)), (4, .long (lN 0))]) dX0_compose_1 (by decide) rfl ?_
  refine fx_iload_n dX0_compose_3 rfl (i := 2) rfl ?_
  refine fx_istore (lv2 := [(0, .ref 2), (1, .ref p), (2, .int (nI o)), (3, .int (nI n)), (4, .long (lN 0)), (6, .int (nI o))]) dX0_compose_4 (by decide) rfl ?_
  refine fx_iconst (v := (nI 0)) dX0_compose_6 (by decide) ?_
  refine fx_istore (lv2 := [(0, .ref 2), (1, .ref p), (2, .int (nI o)), (3, .int (nI n)), (4, .long (lN 0)), (6, .int (nI o)), (7, .int (nI 0))]) dX0_compose_7 (by decide) rfl ?_
  refine fx_iload dX0_compose_9 rfl ?_
  refine fx_iload_n dX0_compose_11 rfl (i := 3) rfl ?_
  refine fx_iconst (v := (nI 0)) dX0_compose_12 (by decide) ?_
  refine fn_to (show _ = (bI false) from rfl) ?_
  refine fn_cS dX0_compose_13 lk0_85 (C6_firstStep (a := o) (n := n) (b := false) (by omega) (by omega) (f := (fw cT G L))) rfl rfl (by decide) (Nat.le_of_ble_eq_true rfl) ?_
  show fv_At Y0_compose 5 0 0 Q 16 [(0, .ref 2), (1, .ref p), (2, .int (nI o)), (3, .int (nI n)), (4, .long (lN 0)), (6, .int (nI o)), (7, .int (nI 0))] [.int (nI (ofst (dgt o n) false (n - 1) 0))] (fw cT G L) none 0 0
  have hb0 := ofst_b (dgt o n) false (n - 1) 0
  refine fx_istore (lv2 := [(0, .ref 2), (1, .ref p), (2, .int (nI o)), (3, .int (nI n)), (4, .long (lN 0)), (6, .int (nI o)), (7, .int (nI 0)), (8, .int (nI (ofst (dgt o n) false (n - 1) 0)))]) dX0_compose_16 (by decide) rfl ?_
  have L18 : ∀ (k : Nat) (W : Nat) (w : Nat) (st : Nat) (i : Nat) (pre : List Nat), (st + k = 10) → (i = ofst (dgt w n) false (n - 1) 0) → (i ≤ n - 1) → (w < 100000 + 200000 * st) → (wr pre = W) → (pre.length = st) → (∀ d, d ∈ pre → d < 10) → (∀ d, d ∈ pre → 1 ≤ d ∧ d ≤ 4) → (pre.reverse ++ cps n k w = cps n 10 o) → fv_At Y0_compose 5 0 0 Q 18 [(0, .ref 2), (1, .ref p), (2, .int (nI o)), (3, .int (nI n)), (4, .long (lN W)), (6, .int (nI w)), (7, .int (nI st)), (8, .int (nI i))] [] (fw cT G L) none 0 0 := by
    intro k
    induction k with
    | zero =>
      intro W w st i pre hst hi hib hw hW hlen hdg hdg1 hfull
      refine fx_iload dX0_compose_18 rfl ?_
      refine fn_if_le (tgt := 71) dX0_compose_20 (by decide) (by omega) (fun c20 => ?_) (fun c20 => ?_)
      · skip
        have hfull2 : cps n 10 o = pre.reverse := by rw [← hfull]; exact List.append_nil _
        have hWb := wr_b pre hdg
        rw [hW, hlen] at hWb
        have hWc : 10 ^ st ≤ 10 ^ 10 := Nat.pow_le_pow_right (by decide) (by omega)
        refine fx_aload_n dX0_compose_71 rfl (i := 1) rfl ?_
        refine fn_cV dX0_compose_72 lk0_91 fv_c4 rfl (fw_at hp) (C7_clear cT p hp hp1 hp2 G L) rfl rfl (by decide) (Nat.le_of_ble_eq_true rfl) ?_
        show fv_At Y0_compose 5 0 0 Q 75 [(0, .ref 2), (1, .ref p), (2, .int (nI o)), (3, .int (nI n)), (4, .long (lN W)), (6, .int (nI w)), (7, .int (nI st)), (8, .int (nI i))] [] (fw cT (pL G p [] true) L) none 0 0
        refine fx_aload_n dX0_compose_75 rfl (i := 1) rfl ?_
        refine fx_iload_n dX0_compose_76 rfl (i := 3) rfl ?_
        refine fn_cS dX0_compose_77 lk0_94 (C0_staircase (n := n) (by omega) (f := (fw cT (pL G p [] true) L))) rfl rfl (by decide) (Nat.le_of_ble_eq_true rfl) ?_
        show fv_At Y0_compose 5 0 0 Q 80 [(0, .ref 2), (1, .ref p), (2, .int (nI o)), (3, .int (nI n)), (4, .long (lN W)), (6, .int (nI w)), (7, .int (nI st)), (8, .int (nI i))] [.int (nI (str n)), .ref p] (fw cT (pL G p [] true) L) none 0 0
        refine fx_iconst (v := (nI 1)) dX0_compose_80 (by decide) ?_
        refine fn_cV dX0_compose_81 lk0_97 fv_c4 rfl (fw_at hp) (C7_appendX cT p hp hp1 hp2 (pL G p [] true) L 0 (str n) (nI 1) (by unfold pL; rw [if_pos ⟨rfl, rfl⟩]; rfl) (by decide)) rfl rfl (by decide) (Nat.le_of_ble_eq_true rfl) ?_
        show fv_At Y0_compose 5 0 0 Q 84 [(0, .ref 2), (1, .ref p), (2, .int (nI o)), (3, .int (nI n)), (4, .long (lN W)), (6, .int (nI w)), (7, .int (nI st)), (8, .int (nI i))] [] (fw cT (apd (pL G p [] true) p 0 (str n) (nI 1)) L) none 0 0
        obtain ⟨G0, hG0⟩ : ∃ z, z = apd (pL G p [] true) p 0 (str n) (nI 1) := ⟨_, rfl⟩
        rw [← hG0]
        have z1 : pat G0 p [(str n, 1)] true := by rw [hG0]; exact apd_pat (ts := []) (pat_pL (by decide) (fun j hj => absurd hj (Nat.not_lt_zero _))) (by have := str_ok n hn; unfold okc at this; omega)
        have z2 : ∀ i, i ≠ p → i ≠ p + 1 → i ≠ p + 2 → G0 i = G i := fun i a1 a2 a3 => by rw [hG0, apd_row a1 a2 a3, pL_row a1 a2 a3]
        have hly := lay_ne hp hp1 hp2
        have z3 : emp G0 L := ⟨hem.1, fun b hb => by rw [z2 5 (Ne.symm hly.2.1) (Ne.symm hly.2.2.2.1) (Ne.symm hly.2.2.2.2.2)]; exact hem.2 b hb⟩
        have z4 : pvd [(str n, (1 : Int32))] := fun j hj => by
          have : j = 0 := by simp at hj; exact hj
          rw [this]; exact str_ok n hn
        refine fx_iconst (v := (nI 0)) dX0_compose_84 (by decide) ?_
        refine fx_istore (lv2 := [(0, .ref 2), (1, .ref p), (2, .int (nI o)), (3, .int (nI n)), (4, .long (lN W)), (6, .int (nI w)), (7, .int (nI st)), (8, .int (nI 0))]) dX0_compose_85 (by decide) rfl ?_
        have L87 : ∀ (k2 : Nat) (V : Nat) (b : Nat) (rl : List Nat) (ts : tms) (G1 : Nat → Nat → Int32) (L1 : Nat → Nat → Int64), (b + k2 = st ∧ st ≤ 10) → (V = wr rl) → (rl.length = k2) → (∀ d, d ∈ rl → 1 ≤ d ∧ d ≤ 4) → (pat G1 p ts true) → (pvd ts) → (emp G1 L1) → (∀ i, i ≠ 3 → i ≠ 5 → i ≠ 6 → i ≠ 7 → i ≠ 8 → i ≠ p → i ≠ p + 1 → i ≠ p + 2 → G1 i = G i) → (∀ i, i ≠ 4 → L1 i = L i) → (cpd rl ts = cpo n o) → fv_At Y0_compose 5 0 0 Q 87 [(0, .ref 2), (1, .ref p), (2, .int (nI o)), (3, .int (nI n)), (4, .long (lN V)), (6, .int (nI w)), (7, .int (nI st)), (8, .int (nI b))] [] (fw cT G1 L1) none 0 0 := by
          intro k2
          induction k2 with
          | zero =>
            intro V b rl ts G1 L1 hb hV hrl hdg2 hP1 hv1 he1 hG1 hL1 hF
            refine fx_iload dX0_compose_87 rfl ?_
            refine fx_iload dX0_compose_89 rfl ?_
            refine fn_icmp_ge (tgt := 122) dX0_compose_91 (by decide) (by omega) (by omega) (fun c91 => ?_) (fun c91 => ?_)
            · skip
              refine fx_aload_n dX0_compose_122 rfl (i := 1) rfl ?_
              refine fn_cV dX0_compose_123 lk0_44 fv_c4 rfl (fw_at hp) (C7_size cT p hp hp1 hp2 G1 L1 ts true hP1  ) rfl rfl (by decide) (Nat.le_of_ble_eq_true rfl) ?_
              show fv_At Y0_compose 5 0 0 Q 126 [(0, .ref 2), (1, .ref p), (2, .int (nI o)), (3, .int (nI n)), (4, .long (lN V)), (6, .int (nI w)), (7, .int (nI st)), (8, .int (nI b))] [.int (nI ts.length)] (fw cT G1 L1) none 0 0
              exact fx_iret dX0_compose_126 rfl rfl rfl (by rw [hQ]; exact (by have e : ts = cpo n o := (by rw [← hF, List.eq_nil_of_length_eq_zero (show rl.length = 0 by omega)]; rfl); rw [← e]; exact ⟨G1, L1, rfl, rfl, rfl, he1, hL1, hG1, hP1, hv1⟩))
            · exfalso; omega
          | succ k2 ih87 =>
            intro V b rl ts G1 L1 hb hV hrl hdg2 hP1 hv1 he1 hG1 hL1 hF
            refine fx_iload dX0_compose_87 rfl ?_
            refine fx_iload dX0_compose_89 rfl ?_
            refine fn_icmp_ge (tgt := 122) dX0_compose_91 (by decide) (by omega) (by omega) (fun c91 => ?_) (fun c91 => ?_)
            · exfalso; omega
            · skip
              obtain ⟨d, r2, rfl⟩ : ∃ d r2, rl = d :: r2 := by
                cases rl with
                | nil => simp at hrl
                | cons d r2 => exact ⟨d, r2, rfl⟩
              have hd1 := hdg2 d List.mem_cons_self
              obtain ⟨i0, rfl⟩ : ∃ m, d = m + 1 := ⟨d - 1, by omega⟩
              have eV : V = wr r2 * 10 + (i0 + 1) := hV
              have hVb := wr_b ((i0 + 1) :: r2) (fun x hx => by have := hdg2 x hx; omega)
              rw [← hV] at hVb
              have hlr : ((i0 + 1) :: r2).length ≤ 10 := by omega
              have hVc : 10 ^ ((i0 + 1) :: r2).length ≤ 10 ^ 10 := Nat.pow_le_pow_right (by decide) hlr
              have eVm : V % 10 = i0 + 1 := by omega
              refine fx_aload_n dX0_compose_94 rfl (i := 0) rfl ?_
              refine fx_aload_n dX0_compose_95 rfl (i := 1) rfl ?_
              refine fx_aload_n dX0_compose_96 rfl (i := 1) rfl ?_
              refine fx_lload dX0_compose_97 rfl ?_
              refine fx_ldc2 (v := 10) dX0_compose_99 kc0_89 ?_
              refine fn_toL (show _ = (lN 10) from (by decide)) ?_
              refine fx_lrem dX0_compose_102 (by decide) ?_
              refine fn_toL (show _ = (lN (V % 10)) from (pk_lRem (by omega) (by decide) (by decide))) ?_
              refine fx_l2i dX0_compose_103 ?_
              refine fn_to (show _ = (nI (i0 + 1)) from (by rw [eVm]; exact lN_i _)) ?_
              refine fx_callV dX0_compose_104 lk0_101 fv_c0 rfl (fw_at (show cT 2 = some (3, 0, 3, [some 3, some 9, some 12]) from rfl)) (C0_differ G1 L1 he1 p hp hp1 hp2 hne p hp hp1 hp2 ts true hP1 i0 (by omega) (fun j hj => okc_okd (hv1 j hj) (by omega))) rfl rfl (by decide) (Nat.le_of_ble_eq_true rfl) (by decide) (by decide) (fun r104 f104 al104 h104 => ?_)
              obtain ⟨G2, L2, rfl, rfl, rfl, he2, hl2, hg2, hg3, hg4⟩ := h104
              show fv_At Y0_compose 5 0 0 Q 107 [(0, .ref 2), (1, .ref p), (2, .int (nI o)), (3, .int (nI n)), (4, .long (lN V)), (6, .int (nI w)), (7, .int (nI st)), (8, .int (nI b))] [.int (iI (stl (pdf i0 ts zS)))] (fw cT G2 L2) none 0 0
              have hn2 : pat G2 p (nxt i0 ts) true := by
                unfold nxt
                split
                · rename_i q; exact pat_row hP1 (hg3 q p hly.1 hly.2.1 (by omega) (by omega) (by omega)) (hg3 q (p + 1) hly.2.2.1 hly.2.2.2.1 (by omega) (by omega) (by omega)) (hg3 q (p + 2) hly.2.2.2.2.1 hly.2.2.2.2.2 (by omega) (by omega) (by omega))
                · rename_i q; exact hg4 (by omega)
              refine fx_pop dX0_compose_107 rfl ?_
              refine fx_lload dX0_compose_108 rfl ?_
              refine fx_ldc2 (v := 10) dX0_compose_110 kc0_89 ?_
              refine fn_toL (show _ = (lN 10) from (by decide)) ?_
              refine fx_ldiv dX0_compose_113 (by decide) ?_
              refine fn_toL (show _ = (lN (V / 10)) from (pk_lDiv (by omega) (by decide) (by decide))) ?_
              refine fx_lstore (lv2 := [(0, .ref 2), (1, .ref p), (2, .int (nI o)), (3, .int (nI n)), (4, .long (lN (V / 10))), (6, .int (nI w)), (7, .int (nI st)), (8, .int (nI b))]) dX0_compose_114 (by decide) rfl ?_
              refine fn_iinc (c := 1) (lv2 := [(0, .ref 2), (1, .ref p), (2, .int (nI o)), (3, .int (nI n)), (4, .long (lN (V / 10))), (6, .int (nI w)), (7, .int (nI st)), (8, .int (nI (b + 1)))]) dX0_compose_116 (by decide) rfl (by decide) rfl ?_
              refine fx_goto (tgt := 87) dX0_compose_119 (by decide) ?_
              exact (ih87 (V / 10) (b + 1) r2 (nxt i0 ts) G2 L2 (by omega) (by omega) (by simpa using hrl) (fun d h => hdg2 d (List.mem_cons_of_mem _ h)) hn2 (nxt_pvd (by omega) hv1) he2 (fun i a1 a2 a3 a4 a5 a6 a7 a8 => (hg2 i a1 a2 a3 a4 a5 a6 a7 a8).trans (hG1 i a1 a2 a3 a4 a5 a6 a7 a8)) (fun i h => (hl2 i h).trans (hL1 i h)) hF)
        exact (L87 st W 0 pre ([(str n, 1)]) G0 L (by omega) hW.symm hlen hdg1 z1 z4 z3 (fun i _ _ _ _ _ a1 a2 a3 => z2 i a1 a2 a3) (fun _ _ => rfl) (by unfold cpo; rw [hfull2, List.reverse_reverse]))
      · skip
        have hbi := ofst_b (dgt w n) false (n - 1) 0
        rw [← hi] at hbi
        refine fx_iload dX0_compose_23 rfl ?_
        refine fx_bipush (v := (nI 10)) dX0_compose_25 (by decide) ?_
        refine fn_icmp_ge (tgt := 71) dX0_compose_27 (by decide) (by omega) (by omega) (fun c27 => ?_) (fun c27 => ?_)
        · skip
          have hfull2 : cps n 10 o = pre.reverse := by rw [← hfull]; exact List.append_nil _
          have hWb := wr_b pre hdg
          rw [hW, hlen] at hWb
          have hWc : 10 ^ st ≤ 10 ^ 10 := Nat.pow_le_pow_right (by decide) (by omega)
          refine fx_aload_n dX0_compose_71 rfl (i := 1) rfl ?_
          refine fn_cV dX0_compose_72 lk0_91 fv_c4 rfl (fw_at hp) (C7_clear cT p hp hp1 hp2 G L) rfl rfl (by decide) (Nat.le_of_ble_eq_true rfl) ?_
          show fv_At Y0_compose 5 0 0 Q 75 [(0, .ref 2), (1, .ref p), (2, .int (nI o)), (3, .int (nI n)), (4, .long (lN W)), (6, .int (nI w)), (7, .int (nI st)), (8, .int (nI i))] [] (fw cT (pL G p [] true) L) none 0 0
          refine fx_aload_n dX0_compose_75 rfl (i := 1) rfl ?_
          refine fx_iload_n dX0_compose_76 rfl (i := 3) rfl ?_
          refine fn_cS dX0_compose_77 lk0_94 (C0_staircase (n := n) (by omega) (f := (fw cT (pL G p [] true) L))) rfl rfl (by decide) (Nat.le_of_ble_eq_true rfl) ?_
          show fv_At Y0_compose 5 0 0 Q 80 [(0, .ref 2), (1, .ref p), (2, .int (nI o)), (3, .int (nI n)), (4, .long (lN W)), (6, .int (nI w)), (7, .int (nI st)), (8, .int (nI i))] [.int (nI (str n)), .ref p] (fw cT (pL G p [] true) L) none 0 0
          refine fx_iconst (v := (nI 1)) dX0_compose_80 (by decide) ?_
          refine fn_cV dX0_compose_81 lk0_97 fv_c4 rfl (fw_at hp) (C7_appendX cT p hp hp1 hp2 (pL G p [] true) L 0 (str n) (nI 1) (by unfold pL; rw [if_pos ⟨rfl, rfl⟩]; rfl) (by decide)) rfl rfl (by decide) (Nat.le_of_ble_eq_true rfl) ?_
          show fv_At Y0_compose 5 0 0 Q 84 [(0, .ref 2), (1, .ref p), (2, .int (nI o)), (3, .int (nI n)), (4, .long (lN W)), (6, .int (nI w)), (7, .int (nI st)), (8, .int (nI i))] [] (fw cT (apd (pL G p [] true) p 0 (str n) (nI 1)) L) none 0 0
          obtain ⟨G0, hG0⟩ : ∃ z, z = apd (pL G p [] true) p 0 (str n) (nI 1) := ⟨_, rfl⟩
          rw [← hG0]
          have z1 : pat G0 p [(str n, 1)] true := by rw [hG0]; exact apd_pat (ts := []) (pat_pL (by decide) (fun j hj => absurd hj (Nat.not_lt_zero _))) (by have := str_ok n hn; unfold okc at this; omega)
          have z2 : ∀ i, i ≠ p → i ≠ p + 1 → i ≠ p + 2 → G0 i = G i := fun i a1 a2 a3 => by rw [hG0, apd_row a1 a2 a3, pL_row a1 a2 a3]
          have hly := lay_ne hp hp1 hp2
          have z3 : emp G0 L := ⟨hem.1, fun b hb => by rw [z2 5 (Ne.symm hly.2.1) (Ne.symm hly.2.2.2.1) (Ne.symm hly.2.2.2.2.2)]; exact hem.2 b hb⟩
          have z4 : pvd [(str n, (1 : Int32))] := fun j hj => by
            have : j = 0 := by simp at hj; exact hj
            rw [this]; exact str_ok n hn
          refine fx_iconst (v := (nI 0)) dX0_compose_84 (by decide) ?_
          refine fx_istore (lv2 := [(0, .ref 2), (1, .ref p), (2, .int (nI o)), (3, .int (nI n)), (4, .long (lN W)), (6, .int (nI w)), (7, .int (nI st)), (8, .int (nI 0))]) dX0_compose_85 (by decide) rfl ?_
          have L87 : ∀ (k2 : Nat) (V : Nat) (b : Nat) (rl : List Nat) (ts : tms) (G1 : Nat → Nat → Int32) (L1 : Nat → Nat → Int64), (b + k2 = st ∧ st ≤ 10) → (V = wr rl) → (rl.length = k2) → (∀ d, d ∈ rl → 1 ≤ d ∧ d ≤ 4) → (pat G1 p ts true) → (pvd ts) → (emp G1 L1) → (∀ i, i ≠ 3 → i ≠ 5 → i ≠ 6 → i ≠ 7 → i ≠ 8 → i ≠ p → i ≠ p + 1 → i ≠ p + 2 → G1 i = G i) → (∀ i, i ≠ 4 → L1 i = L i) → (cpd rl ts = cpo n o) → fv_At Y0_compose 5 0 0 Q 87 [(0, .ref 2), (1, .ref p), (2, .int (nI o)), (3, .int (nI n)), (4, .long (lN V)), (6, .int (nI w)), (7, .int (nI st)), (8, .int (nI b))] [] (fw cT G1 L1) none 0 0 := by
            intro k2
            induction k2 with
            | zero =>
              intro V b rl ts G1 L1 hb hV hrl hdg2 hP1 hv1 he1 hG1 hL1 hF
              refine fx_iload dX0_compose_87 rfl ?_
              refine fx_iload dX0_compose_89 rfl ?_
              refine fn_icmp_ge (tgt := 122) dX0_compose_91 (by decide) (by omega) (by omega) (fun c91 => ?_) (fun c91 => ?_)
              · skip
                refine fx_aload_n dX0_compose_122 rfl (i := 1) rfl ?_
                refine fn_cV dX0_compose_123 lk0_44 fv_c4 rfl (fw_at hp) (C7_size cT p hp hp1 hp2 G1 L1 ts true hP1  ) rfl rfl (by decide) (Nat.le_of_ble_eq_true rfl) ?_
                show fv_At Y0_compose 5 0 0 Q 126 [(0, .ref 2), (1, .ref p), (2, .int (nI o)), (3, .int (nI n)), (4, .long (lN V)), (6, .int (nI w)), (7, .int (nI st)), (8, .int (nI b))] [.int (nI ts.length)] (fw cT G1 L1) none 0 0
                exact fx_iret dX0_compose_126 rfl rfl rfl (by rw [hQ]; exact (by have e : ts = cpo n o := (by rw [← hF, List.eq_nil_of_length_eq_zero (show rl.length = 0 by omega)]; rfl); rw [← e]; exact ⟨G1, L1, rfl, rfl, rfl, he1, hL1, hG1, hP1, hv1⟩))
              · exfalso; omega
            | succ k2 ih87 =>
              intro V b rl ts G1 L1 hb hV hrl hdg2 hP1 hv1 he1 hG1 hL1 hF
              refine fx_iload dX0_compose_87 rfl ?_
              refine fx_iload dX0_compose_89 rfl ?_
              refine fn_icmp_ge (tgt := 122) dX0_compose_91 (by decide) (by omega) (by omega) (fun c91 => ?_) (fun c91 => ?_)
              · exfalso; omega
              · skip
                obtain ⟨d, r2, rfl⟩ : ∃ d r2, rl = d :: r2 := by
                  cases rl with
                  | nil => simp at hrl
                  | cons d r2 => exact ⟨d, r2, rfl⟩
                have hd1 := hdg2 d List.mem_cons_self
                obtain ⟨i0, rfl⟩ : ∃ m, d = m + 1 := ⟨d - 1, by omega⟩
                have eV : V = wr r2 * 10 + (i0 + 1) := hV
                have hVb := wr_b ((i0 + 1) :: r2) (fun x hx => by have := hdg2 x hx; omega)
                rw [← hV] at hVb
                have hlr : ((i0 + 1) :: r2).length ≤ 10 := by omega
                have hVc : 10 ^ ((i0 + 1) :: r2).length ≤ 10 ^ 10 := Nat.pow_le_pow_right (by decide) hlr
                have eVm : V % 10 = i0 + 1 := by omega
                refine fx_aload_n dX0_compose_94 rfl (i := 0) rfl ?_
                refine fx_aload_n dX0_compose_95 rfl (i := 1) rfl ?_
                refine fx_aload_n dX0_compose_96 rfl (i := 1) rfl ?_
                refine fx_lload dX0_compose_97 rfl ?_
                refine fx_ldc2 (v := 10) dX0_compose_99 kc0_89 ?_
                refine fn_toL (show _ = (lN 10) from (by decide)) ?_
                refine fx_lrem dX0_compose_102 (by decide) ?_
                refine fn_toL (show _ = (lN (V % 10)) from (pk_lRem (by omega) (by decide) (by decide))) ?_
                refine fx_l2i dX0_compose_103 ?_
                refine fn_to (show _ = (nI (i0 + 1)) from (by rw [eVm]; exact lN_i _)) ?_
                refine fx_callV dX0_compose_104 lk0_101 fv_c0 rfl (fw_at (show cT 2 = some (3, 0, 3, [some 3, some 9, some 12]) from rfl)) (C0_differ G1 L1 he1 p hp hp1 hp2 hne p hp hp1 hp2 ts true hP1 i0 (by omega) (fun j hj => okc_okd (hv1 j hj) (by omega))) rfl rfl (by decide) (Nat.le_of_ble_eq_true rfl) (by decide) (by decide) (fun r104 f104 al104 h104 => ?_)
                obtain ⟨G2, L2, rfl, rfl, rfl, he2, hl2, hg2, hg3, hg4⟩ := h104
                show fv_At Y0_compose 5 0 0 Q 107 [(0, .ref 2), (1, .ref p), (2, .int (nI o)), (3, .int (nI n)), (4, .long (lN V)), (6, .int (nI w)), (7, .int (nI st)), (8, .int (nI b))] [.int (iI (stl (pdf i0 ts zS)))] (fw cT G2 L2) none 0 0
                have hn2 : pat G2 p (nxt i0 ts) true := by
                  unfold nxt
                  split
                  · rename_i q; exact pat_row hP1 (hg3 q p hly.1 hly.2.1 (by omega) (by omega) (by omega)) (hg3 q (p + 1) hly.2.2.1 hly.2.2.2.1 (by omega) (by omega) (by omega)) (hg3 q (p + 2) hly.2.2.2.2.1 hly.2.2.2.2.2 (by omega) (by omega) (by omega))
                  · rename_i q; exact hg4 (by omega)
                refine fx_pop dX0_compose_107 rfl ?_
                refine fx_lload dX0_compose_108 rfl ?_
                refine fx_ldc2 (v := 10) dX0_compose_110 kc0_89 ?_
                refine fn_toL (show _ = (lN 10) from (by decide)) ?_
                refine fx_ldiv dX0_compose_113 (by decide) ?_
                refine fn_toL (show _ = (lN (V / 10)) from (pk_lDiv (by omega) (by decide) (by decide))) ?_
                refine fx_lstore (lv2 := [(0, .ref 2), (1, .ref p), (2, .int (nI o)), (3, .int (nI n)), (4, .long (lN (V / 10))), (6, .int (nI w)), (7, .int (nI st)), (8, .int (nI b))]) dX0_compose_114 (by decide) rfl ?_
                refine fn_iinc (c := 1) (lv2 := [(0, .ref 2), (1, .ref p), (2, .int (nI o)), (3, .int (nI n)), (4, .long (lN (V / 10))), (6, .int (nI w)), (7, .int (nI st)), (8, .int (nI (b + 1)))]) dX0_compose_116 (by decide) rfl (by decide) rfl ?_
                refine fx_goto (tgt := 87) dX0_compose_119 (by decide) ?_
                exact (ih87 (V / 10) (b + 1) r2 (nxt i0 ts) G2 L2 (by omega) (by omega) (by simpa using hrl) (fun d h => hdg2 d (List.mem_cons_of_mem _ h)) hn2 (nxt_pvd (by omega) hv1) he2 (fun i a1 a2 a3 a4 a5 a6 a7 a8 => (hg2 i a1 a2 a3 a4 a5 a6 a7 a8).trans (hG1 i a1 a2 a3 a4 a5 a6 a7 a8)) (fun i h => (hl2 i h).trans (hL1 i h)) hF)
          exact (L87 st W 0 pre ([(str n, 1)]) G0 L (by omega) hW.symm hlen hdg1 z1 z4 z3 (fun i _ _ _ _ _ a1 a2 a3 => z2 i a1 a2 a3) (fun _ _ => rfl) (by unfold cpo; rw [hfull2, List.reverse_reverse]))
        · exfalso; omega
    | succ k ih18 =>
      intro W w st i pre hst hi hib hw hW hlen hdg hdg1 hfull
      refine fx_iload dX0_compose_18 rfl ?_
      refine fn_if_le (tgt := 71) dX0_compose_20 (by decide) (by omega) (fun c20 => ?_) (fun c20 => ?_)
      · skip
        have hc0 : cps n (k + 1) w = [] := by unfold cps; rw [if_pos (by rw [← hi]; omega)]
        have hfull2 : cps n 10 o = pre.reverse := by rw [← hfull, hc0]; exact List.append_nil _
        have hWb := wr_b pre hdg
        rw [hW, hlen] at hWb
        have hWc : 10 ^ st ≤ 10 ^ 10 := Nat.pow_le_pow_right (by decide) (by omega)
        refine fx_aload_n dX0_compose_71 rfl (i := 1) rfl ?_
        refine fn_cV dX0_compose_72 lk0_91 fv_c4 rfl (fw_at hp) (C7_clear cT p hp hp1 hp2 G L) rfl rfl (by decide) (Nat.le_of_ble_eq_true rfl) ?_
        show fv_At Y0_compose 5 0 0 Q 75 [(0, .ref 2), (1, .ref p), (2, .int (nI o)), (3, .int (nI n)), (4, .long (lN W)), (6, .int (nI w)), (7, .int (nI st)), (8, .int (nI i))] [] (fw cT (pL G p [] true) L) none 0 0
        refine fx_aload_n dX0_compose_75 rfl (i := 1) rfl ?_
        refine fx_iload_n dX0_compose_76 rfl (i := 3) rfl ?_
        refine fn_cS dX0_compose_77 lk0_94 (C0_staircase (n := n) (by omega) (f := (fw cT (pL G p [] true) L))) rfl rfl (by decide) (Nat.le_of_ble_eq_true rfl) ?_
        show fv_At Y0_compose 5 0 0 Q 80 [(0, .ref 2), (1, .ref p), (2, .int (nI o)), (3, .int (nI n)), (4, .long (lN W)), (6, .int (nI w)), (7, .int (nI st)), (8, .int (nI i))] [.int (nI (str n)), .ref p] (fw cT (pL G p [] true) L) none 0 0
        refine fx_iconst (v := (nI 1)) dX0_compose_80 (by decide) ?_
        refine fn_cV dX0_compose_81 lk0_97 fv_c4 rfl (fw_at hp) (C7_appendX cT p hp hp1 hp2 (pL G p [] true) L 0 (str n) (nI 1) (by unfold pL; rw [if_pos ⟨rfl, rfl⟩]; rfl) (by decide)) rfl rfl (by decide) (Nat.le_of_ble_eq_true rfl) ?_
        show fv_At Y0_compose 5 0 0 Q 84 [(0, .ref 2), (1, .ref p), (2, .int (nI o)), (3, .int (nI n)), (4, .long (lN W)), (6, .int (nI w)), (7, .int (nI st)), (8, .int (nI i))] [] (fw cT (apd (pL G p [] true) p 0 (str n) (nI 1)) L) none 0 0
        obtain ⟨G0, hG0⟩ : ∃ z, z = apd (pL G p [] true) p 0 (str n) (nI 1) := ⟨_, rfl⟩
        rw [← hG0]
        have z1 : pat G0 p [(str n, 1)] true := by rw [hG0]; exact apd_pat (ts := []) (pat_pL (by decide) (fun j hj => absurd hj (Nat.not_lt_zero _))) (by have := str_ok n hn; unfold okc at this; omega)
        have z2 : ∀ i, i ≠ p → i ≠ p + 1 → i ≠ p + 2 → G0 i = G i := fun i a1 a2 a3 => by rw [hG0, apd_row a1 a2 a3, pL_row a1 a2 a3]
        have hly := lay_ne hp hp1 hp2
        have z3 : emp G0 L := ⟨hem.1, fun b hb => by rw [z2 5 (Ne.symm hly.2.1) (Ne.symm hly.2.2.2.1) (Ne.symm hly.2.2.2.2.2)]; exact hem.2 b hb⟩
        have z4 : pvd [(str n, (1 : Int32))] := fun j hj => by
          have : j = 0 := by simp at hj; exact hj
          rw [this]; exact str_ok n hn
        refine fx_iconst (v := (nI 0)) dX0_compose_84 (by decide) ?_
        refine fx_istore (lv2 := [(0, .ref 2), (1, .ref p), (2, .int (nI o)), (3, .int (nI n)), (4, .long (lN W)), (6, .int (nI w)), (7, .int (nI st)), (8, .int (nI 0))]) dX0_compose_85 (by decide) rfl ?_
        have L87 : ∀ (k2 : Nat) (V : Nat) (b : Nat) (rl : List Nat) (ts : tms) (G1 : Nat → Nat → Int32) (L1 : Nat → Nat → Int64), (b + k2 = st ∧ st ≤ 10) → (V = wr rl) → (rl.length = k2) → (∀ d, d ∈ rl → 1 ≤ d ∧ d ≤ 4) → (pat G1 p ts true) → (pvd ts) → (emp G1 L1) → (∀ i, i ≠ 3 → i ≠ 5 → i ≠ 6 → i ≠ 7 → i ≠ 8 → i ≠ p → i ≠ p + 1 → i ≠ p + 2 → G1 i = G i) → (∀ i, i ≠ 4 → L1 i = L i) → (cpd rl ts = cpo n o) → fv_At Y0_compose 5 0 0 Q 87 [(0, .ref 2), (1, .ref p), (2, .int (nI o)), (3, .int (nI n)), (4, .long (lN V)), (6, .int (nI w)), (7, .int (nI st)), (8, .int (nI b))] [] (fw cT G1 L1) none 0 0 := by
          intro k2
          induction k2 with
          | zero =>
            intro V b rl ts G1 L1 hb hV hrl hdg2 hP1 hv1 he1 hG1 hL1 hF
            refine fx_iload dX0_compose_87 rfl ?_
            refine fx_iload dX0_compose_89 rfl ?_
            refine fn_icmp_ge (tgt := 122) dX0_compose_91 (by decide) (by omega) (by omega) (fun c91 => ?_) (fun c91 => ?_)
            · skip
              refine fx_aload_n dX0_compose_122 rfl (i := 1) rfl ?_
              refine fn_cV dX0_compose_123 lk0_44 fv_c4 rfl (fw_at hp) (C7_size cT p hp hp1 hp2 G1 L1 ts true hP1  ) rfl rfl (by decide) (Nat.le_of_ble_eq_true rfl) ?_
              show fv_At Y0_compose 5 0 0 Q 126 [(0, .ref 2), (1, .ref p), (2, .int (nI o)), (3, .int (nI n)), (4, .long (lN V)), (6, .int (nI w)), (7, .int (nI st)), (8, .int (nI b))] [.int (nI ts.length)] (fw cT G1 L1) none 0 0
              exact fx_iret dX0_compose_126 rfl rfl rfl (by rw [hQ]; exact (by have e : ts = cpo n o := (by rw [← hF, List.eq_nil_of_length_eq_zero (show rl.length = 0 by omega)]; rfl); rw [← e]; exact ⟨G1, L1, rfl, rfl, rfl, he1, hL1, hG1, hP1, hv1⟩))
            · exfalso; omega
          | succ k2 ih87 =>
            intro V b rl ts G1 L1 hb hV hrl hdg2 hP1 hv1 he1 hG1 hL1 hF
            refine fx_iload dX0_compose_87 rfl ?_
            refine fx_iload dX0_compose_89 rfl ?_
            refine fn_icmp_ge (tgt := 122) dX0_compose_91 (by decide) (by omega) (by omega) (fun c91 => ?_) (fun c91 => ?_)
            · exfalso; omega
            · skip
              obtain ⟨d, r2, rfl⟩ : ∃ d r2, rl = d :: r2 := by
                cases rl with
                | nil => simp at hrl
                | cons d r2 => exact ⟨d, r2, rfl⟩
              have hd1 := hdg2 d List.mem_cons_self
              obtain ⟨i0, rfl⟩ : ∃ m, d = m + 1 := ⟨d - 1, by omega⟩
              have eV : V = wr r2 * 10 + (i0 + 1) := hV
              have hVb := wr_b ((i0 + 1) :: r2) (fun x hx => by have := hdg2 x hx; omega)
              rw [← hV] at hVb
              have hlr : ((i0 + 1) :: r2).length ≤ 10 := by omega
              have hVc : 10 ^ ((i0 + 1) :: r2).length ≤ 10 ^ 10 := Nat.pow_le_pow_right (by decide) hlr
              have eVm : V % 10 = i0 + 1 := by omega
              refine fx_aload_n dX0_compose_94 rfl (i := 0) rfl ?_
              refine fx_aload_n dX0_compose_95 rfl (i := 1) rfl ?_
              refine fx_aload_n dX0_compose_96 rfl (i := 1) rfl ?_
              refine fx_lload dX0_compose_97 rfl ?_
              refine fx_ldc2 (v := 10) dX0_compose_99 kc0_89 ?_
              refine fn_toL (show _ = (lN 10) from (by decide)) ?_
              refine fx_lrem dX0_compose_102 (by decide) ?_
              refine fn_toL (show _ = (lN (V % 10)) from (pk_lRem (by omega) (by decide) (by decide))) ?_
              refine fx_l2i dX0_compose_103 ?_
              refine fn_to (show _ = (nI (i0 + 1)) from (by rw [eVm]; exact lN_i _)) ?_
              refine fx_callV dX0_compose_104 lk0_101 fv_c0 rfl (fw_at (show cT 2 = some (3, 0, 3, [some 3, some 9, some 12]) from rfl)) (C0_differ G1 L1 he1 p hp hp1 hp2 hne p hp hp1 hp2 ts true hP1 i0 (by omega) (fun j hj => okc_okd (hv1 j hj) (by omega))) rfl rfl (by decide) (Nat.le_of_ble_eq_true rfl) (by decide) (by decide) (fun r104 f104 al104 h104 => ?_)
              obtain ⟨G2, L2, rfl, rfl, rfl, he2, hl2, hg2, hg3, hg4⟩ := h104
              show fv_At Y0_compose 5 0 0 Q 107 [(0, .ref 2), (1, .ref p), (2, .int (nI o)), (3, .int (nI n)), (4, .long (lN V)), (6, .int (nI w)), (7, .int (nI st)), (8, .int (nI b))] [.int (iI (stl (pdf i0 ts zS)))] (fw cT G2 L2) none 0 0
              have hn2 : pat G2 p (nxt i0 ts) true := by
                unfold nxt
                split
                · rename_i q; exact pat_row hP1 (hg3 q p hly.1 hly.2.1 (by omega) (by omega) (by omega)) (hg3 q (p + 1) hly.2.2.1 hly.2.2.2.1 (by omega) (by omega) (by omega)) (hg3 q (p + 2) hly.2.2.2.2.1 hly.2.2.2.2.2 (by omega) (by omega) (by omega))
                · rename_i q; exact hg4 (by omega)
              refine fx_pop dX0_compose_107 rfl ?_
              refine fx_lload dX0_compose_108 rfl ?_
              refine fx_ldc2 (v := 10) dX0_compose_110 kc0_89 ?_
              refine fn_toL (show _ = (lN 10) from (by decide)) ?_
              refine fx_ldiv dX0_compose_113 (by decide) ?_
              refine fn_toL (show _ = (lN (V / 10)) from (pk_lDiv (by omega) (by decide) (by decide))) ?_
              refine fx_lstore (lv2 := [(0, .ref 2), (1, .ref p), (2, .int (nI o)), (3, .int (nI n)), (4, .long (lN (V / 10))), (6, .int (nI w)), (7, .int (nI st)), (8, .int (nI b))]) dX0_compose_114 (by decide) rfl ?_
              refine fn_iinc (c := 1) (lv2 := [(0, .ref 2), (1, .ref p), (2, .int (nI o)), (3, .int (nI n)), (4, .long (lN (V / 10))), (6, .int (nI w)), (7, .int (nI st)), (8, .int (nI (b + 1)))]) dX0_compose_116 (by decide) rfl (by decide) rfl ?_
              refine fx_goto (tgt := 87) dX0_compose_119 (by decide) ?_
              exact (ih87 (V / 10) (b + 1) r2 (nxt i0 ts) G2 L2 (by omega) (by omega) (by simpa using hrl) (fun d h => hdg2 d (List.mem_cons_of_mem _ h)) hn2 (nxt_pvd (by omega) hv1) he2 (fun i a1 a2 a3 a4 a5 a6 a7 a8 => (hg2 i a1 a2 a3 a4 a5 a6 a7 a8).trans (hG1 i a1 a2 a3 a4 a5 a6 a7 a8)) (fun i h => (hl2 i h).trans (hL1 i h)) hF)
        exact (L87 st W 0 pre ([(str n, 1)]) G0 L (by omega) hW.symm hlen hdg1 z1 z4 z3 (fun i _ _ _ _ _ a1 a2 a3 => z2 i a1 a2 a3) (fun _ _ => rfl) (by unfold cpo; rw [hfull2, List.reverse_reverse]))
      · skip
        have hbi := ofst_b (dgt w n) false (n - 1) 0
        rw [← hi] at hbi
        refine fx_iload dX0_compose_23 rfl ?_
        refine fx_bipush (v := (nI 10)) dX0_compose_25 (by decide) ?_
        refine fn_icmp_ge (tgt := 71) dX0_compose_27 (by decide) (by omega) (by omega) (fun c27 => ?_) (fun c27 => ?_)
        · exfalso; omega
        · skip
          obtain ⟨m, rfl⟩ : ∃ m, i = m + 1 := ⟨i - 1, by omega⟩
          have hw2 := swp_lt (o := w) (show m < m + 1 by omega) (show m + 1 < n by omega)
          have hpa : 10 ^ (n - 1 - m) ≤ 10 ^ 4 := Nat.pow_le_pow_right (by decide) (by omega)
          have hpb : 10 ^ (n - 1 - (m + 1)) ≤ 10 ^ 4 := Nat.pow_le_pow_right (by decide) (by omega)
          show fv_At Y0_compose 5 0 0 Q 30 [(0, .ref 2), (1, .ref p), (2, .int (nI o)), (3, .int (nI n)), (4, .long (lN W)), (6, .int (nI w)), (7, .int (nI st)), (8, .int (nI (m + 1)))] [] (fw cT G L) none 0 0
          refine fx_lload dX0_compose_30 rfl ?_
          refine fx_ldc2 (v := 10) dX0_compose_32 kc0_89 ?_
          refine fn_toL (show _ = (lN 10) from (by decide)) ?_
          refine fx_lmul dX0_compose_35 ?_
          refine fn_toL (show _ = (lN (W * 10)) from (lN_mul _ _)) ?_
          refine fx_iload dX0_compose_36 rfl ?_
          refine fx_i2l dX0_compose_38 ?_
          refine fn_toL (show _ = (lN (m + 1)) from (nI_l (by omega))) ?_
          refine fx_ladd dX0_compose_39 ?_
          refine fn_toL (show _ = (lN (W * 10 + (m + 1))) from (lN_add _ _)) ?_
          refine fx_lstore (lv2 := [(0, .ref 2), (1, .ref p), (2, .int (nI o)), (3, .int (nI n)), (4, .long (lN (W * 10 + (m + 1)))), (6, .int (nI w)), (7, .int (nI st)), (8, .int (nI (m + 1)))]) dX0_compose_40 (by decide) rfl ?_
          refine fx_iload dX0_compose_42 rfl ?_
          refine fx_iload_n dX0_compose_44 rfl (i := 3) rfl ?_
          refine fx_iload dX0_compose_45 rfl ?_
          refine fx_iload dX0_compose_47 rfl ?_
          refine fx_iconst (v := (nI 1)) dX0_compose_49 (by decide) ?_
          refine fn_iadd dX0_compose_50 ?_
          refine fn_cS dX0_compose_51 lk0_58 (C6_swapped (o := w) (n := n) (a := m) (b := m + 1) (by omega) (by omega) (by omega) (by omega) (f := (fw cT G L))) rfl rfl (by decide) (Nat.le_of_ble_eq_true rfl) ?_
          show fv_At Y0_compose 5 0 0 Q 54 [(0, .ref 2), (1, .ref p), (2, .int (nI o)), (3, .int (nI n)), (4, .long (lN (W * 10 + (m + 1)))), (6, .int (nI w)), (7, .int (nI st)), (8, .int (nI (m + 1)))] [.int (nI (swp w n m (m + 1)))] (fw cT G L) none 0 0
          refine fx_istore (lv2 := [(0, .ref 2), (1, .ref p), (2, .int (nI o)), (3, .int (nI n)), (4, .long (lN (W * 10 + (m + 1)))), (6, .int (nI (swp w n m (m + 1)))), (7, .int (nI st)), (8, .int (nI (m + 1)))]) dX0_compose_54 (by decide) rfl ?_
          refine fx_iload dX0_compose_56 rfl ?_
          refine fx_iload_n dX0_compose_58 rfl (i := 3) rfl ?_
          refine fx_iconst (v := (nI 0)) dX0_compose_59 (by decide) ?_
          refine fn_to (show _ = (bI false) from rfl) ?_
          refine fn_cS dX0_compose_60 lk0_85 (C6_firstStep (a := swp w n m (m + 1)) (n := n) (b := false) (by omega) (by omega) (f := (fw cT G L))) rfl rfl (by decide) (Nat.le_of_ble_eq_true rfl) ?_
          show fv_At Y0_compose 5 0 0 Q 63 [(0, .ref 2), (1, .ref p), (2, .int (nI o)), (3, .int (nI n)), (4, .long (lN (W * 10 + (m + 1)))), (6, .int (nI (swp w n m (m + 1)))), (7, .int (nI st)), (8, .int (nI (m + 1)))] [.int (nI (ofst (dgt (swp w n m (m + 1)) n) false (n - 1) 0))] (fw cT G L) none 0 0
          refine fx_istore (lv2 := [(0, .ref 2), (1, .ref p), (2, .int (nI o)), (3, .int (nI n)), (4, .long (lN (W * 10 + (m + 1)))), (6, .int (nI (swp w n m (m + 1)))), (7, .int (nI st)), (8, .int (nI (ofst (dgt (swp w n m (m + 1)) n) false (n - 1) 0)))]) dX0_compose_63 (by decide) rfl ?_
          refine fn_iinc (c := 1) (lv2 := [(0, .ref 2), (1, .ref p), (2, .int (nI o)), (3, .int (nI n)), (4, .long (lN (W * 10 + (m + 1)))), (6, .int (nI (swp w n m (m + 1)))), (7, .int (nI (st + 1))), (8, .int (nI (ofst (dgt (swp w n m (m + 1)) n) false (n - 1) 0)))]) dX0_compose_65 (by decide) rfl (by decide) rfl ?_
          refine fx_goto (tgt := 18) dX0_compose_68 (by decide) ?_
          exact (ih18 (W * 10 + (m + 1)) (swp w n m (m + 1)) (st + 1) (ofst (dgt (swp w n m (m + 1)) n) false (n - 1) 0) ((m + 1) :: pre) (by omega) rfl (by have := ofst_b (dgt (swp w n m (m + 1)) n) false (n - 1) 0; omega) (by omega) (by show wr pre * 10 + (m + 1) = _; rw [hW]) (by rw [List.length_cons, hlen]) (fun d h => by rcases List.mem_cons.mp h with e | h; (rw [e]; omega); exact hdg d h) (fun d h => by rcases List.mem_cons.mp h with e | h; (rw [e]; omega); exact hdg1 d h) (by rw [← hfull, List.reverse_cons, List.append_assoc]; congr 1; rw [cps, ← hi, if_neg (by omega)]; rfl))
  exact (L18 10 0 o 0 (ofst (dgt o n) false (n - 1) 0) ([]) (by omega) rfl (by omega) (by omega) rfl rfl (fun d h => absurd h List.not_mem_nil) (fun d h => absurd h List.not_mem_nil) rfl)
