theorem tx_take {ts : tms} {j k : Nat} (h : k < j) : tx (ts.take j) k = tx ts k := by
  unfold tx
  rw [List.getD_eq_getElem?_getD, List.getD_eq_getElem?_getD, List.getElem?_take_of_lt h]

set_option maxRecDepth 4000 in
set_option maxHeartbeats 1000000 in
theorem C11_turned  (G : Nat → Nat → Int32) (L : Nat → Nat → Int64) (T : Nat → tms) (t : Nat → Bool) (hM : msh G L T t) (hV : pvs T t) (hD : dvs T t) (c a i : Int) (c1 : -2147483648 ≤ c) (c2 : c < 2147483648) (a1 : -2147483648 ≤ a) (a2 : a < 2147483648) (i1 : -2147483648 ≤ i) (i2 : i < 2147483648) : fv_M Y11_turned 3 0 0 [.ref 0, .int (iI c), .int (iI a), .int (iI i)] (fw mT G L) none (qms G L T t (xTur T t c a i) c.toNat (trm (uTur T a i))) := by
  refine fv_enter rfl (Nat.le_of_ble_eq_true rfl) ?_
  obtain ⟨Q, hQ⟩ : ∃ Q : Option Value → fv_F → Option Nat → Prop, Q = (qms G L T t (xTur T t c a i) c.toNat (trm (uTur T a i))) := ⟨_, rfl⟩
  rw [← hQ]
  show fv_At Y11_turned 3 0 0 Q 0 [(0, .ref 0), (1, .int (iI c)), (2, .int (iI a)), (3, .int (iI i))] [] (fw mT G L) none 0 0
  refine fx_iload_n dX11_turned_0 rfl (i := 1) rfl ?_
  refine fn_cS dX11_turned_1 lk11_169 (C11_isSheet (s := c) (by omega) (by omega) (f := (fw mT G L))) rfl rfl (by decide) (Nat.le_of_ble_eq_true rfl) ?_
  show fv_At Y11_turned 3 0 0 Q 4 [(0, .ref 0), (1, .int (iI c)), (2, .int (iI a)), (3, .int (iI i))] [.int (bI (isSt c))] (fw mT G L) none 0 0
  refine fn_if_eqB (tgt := 26) dX11_turned_4 (by decide) (fun c4 => ?_) (fun c4 => ?_)
  · skip
    refine fx_bipush (v := (iI (-2))) dX11_turned_26 (by decide) ?_
    exact fx_iret dX11_turned_28 rfl rfl rfl (by rw [hQ]; exact (by rw [show xTur T t c a i = -2 by unfold xTur; exact if_neg (fun q => by first | (have h3 := of_decide_eq_false c23; omega) | simp_all)]; exact qms_n hM moff_r (by decide) _ _))
  · skip
    refine fx_iload_n dX11_turned_7 rfl (i := 2) rfl ?_
    refine fn_cS dX11_turned_8 lk11_169 (C11_isSheet (s := a) (by omega) (by omega) (f := (fw mT G L))) rfl rfl (by decide) (Nat.le_of_ble_eq_true rfl) ?_
    show fv_At Y11_turned 3 0 0 Q 11 [(0, .ref 0), (1, .int (iI c)), (2, .int (iI a)), (3, .int (iI i))] [.int (bI (isSt a))] (fw mT G L) none 0 0
    refine fn_if_eqB (tgt := 26) dX11_turned_11 (by decide) (fun c11 => ?_) (fun c11 => ?_)
    · skip
      refine fx_bipush (v := (iI (-2))) dX11_turned_26 (by decide) ?_
      exact fx_iret dX11_turned_28 rfl rfl rfl (by rw [hQ]; exact (by rw [show xTur T t c a i = -2 by unfold xTur; exact if_neg (fun q => by first | (have h3 := of_decide_eq_false c23; omega) | simp_all)]; exact qms_n hM moff_r (by decide) _ _))
    · skip
      refine fx_iload_n dX11_turned_14 rfl (i := 3) rfl ?_
      refine fx_i2l dX11_turned_15 ?_
      refine fn_toL (show _ = lI i from lI_of (z := i) (by omega) (by omega)) ?_
      refine fx_lconst (v := 1) dX11_turned_16 (by decide) ?_
      refine fn_toL (show _ = (lI 1) from (by decide)) ?_
      refine fx_ldc2 dX11_turned_17 kc11_194 (fn_toL (show _ = lI (4) by decide) ?_)
      refine fn_cS dX11_turned_20 lk11_126 (C11_in (v := i) (a := 1) (b := 4) (by omega) (by omega) (by omega) (by omega) (by omega) (by omega) (f := (fw mT G L))) rfl rfl (by decide) (Nat.le_of_ble_eq_true rfl) ?_
      show fv_At Y11_turned 3 0 0 Q 23 [(0, .ref 0), (1, .int (iI c)), (2, .int (iI a)), (3, .int (iI i))] [.int (bI (decide (1 ≤ i ∧ i ≤ 4)))] (fw mT G L) none 0 0
      refine fn_if_neB (tgt := 29) dX11_turned_23 (by decide) (fun c23 => ?_) (fun c23 => ?_)
      · skip
        have him := of_decide_eq_true c23
        have hin : isSt c = true ∧ isSt a = true ∧ 1 ≤ i ∧ i < 5 := ⟨c4, c11, by omega, by omega⟩
        have hs1 := isSt_1 c4
        have hs2 := isSt_1 c11
        obtain ⟨c0, rfl⟩ : ∃ z : Nat, c = (z : Int) := ⟨c.toNat, by omega⟩
        obtain ⟨a0, rfl⟩ : ∃ z : Nat, a = (z : Int) := ⟨a.toNat, by omega⟩
        obtain ⟨i0, rfl⟩ : ∃ w : Nat, i = ((w + 1 : Nat) : Int) := ⟨i.toNat - 1, by omega⟩
        show fv_At Y11_turned 3 0 0 Q 29 [(0, .ref 0), (1, .int (nI c0)), (2, .int (nI a0)), (3, .int (nI (i0 + 1)))] [] (fw mT G L) none 0 0
        refine fx_aload_n dX11_turned_29 rfl (i := 0) rfl ?_
        refine fw_getr dX11_turned_30 fd11_16 rfl rfl ?_
        refine fx_iload_n dX11_turned_33 rfl (i := 2) rfl ?_
        refine fw_zald a0 dX11_turned_34 rfl rfl (by omega) (by decide) ?_
        refine fn_to (show _ = (bI (t a0)) from (hM a0 (by omega)).1) ?_
        refine fn_if_neB (tgt := 41) dX11_turned_35 (by decide) (fun c35 => ?_) (fun c35 => ?_)
        · skip
          have hta0 : t a0 = true := by simpa using c35
          have h6 := ((hM a0 (by omega)).2 hta0).1
          have h7 := (hV a0 (by omega) hta0).1
          refine fx_aload_n dX11_turned_41 rfl (i := 0) rfl ?_
          refine fx_callV dX11_turned_42 lk11_172 fv_c8 rfl (fw_at (show mT 0 = some (3, 8, 38, [some 1, none, some 2, some 3, some 4, some 5, some 6, some 7, some 8, some 9, some 10, some 11, some 12, some 13, some 14, some 15, some 16, some 17, some 18, some 19, none, none, none, some 20, some 21, some 22, some 23, none, some 24, some 25, some 26, some 27, some 28, some 29, some 30, some 31, none, some 32]) from rfl)) (C11_wipe G L) rfl rfl (by decide) (Nat.le_of_ble_eq_true rfl) (by decide) (by decide) (fun r42 f42 al42 h42 => ?_)
          obtain ⟨L42, rfl, rfl, rfl, hl42, hw42⟩ := h42
          show fv_At Y11_turned 3 0 0 Q 45 [(0, .ref 0), (1, .int (nI c0)), (2, .int (nI a0)), (3, .int (nI (i0 + 1)))] [] (fw mT G L42) none 0 0
          refine fx_iconst (v := (nI 5)) dX11_turned_45 (by decide) ?_
          refine fx_iload_n dX11_turned_46 rfl (i := 3) rfl ?_
          refine fn_isub dX11_turned_47 (by omega) ?_
          refine fn_to (show _ = (nI (4 - i0)) from (congrArg nI (by omega))) ?_
          refine fn_cS dX11_turned_48 lk11_196 (C11_nines (n := 4 - i0) (by omega) (f := (fw mT G L42))) rfl rfl (by decide) (Nat.le_of_ble_eq_true rfl) ?_
          show fv_At Y11_turned 3 0 0 Q 51 [(0, .ref 0), (1, .int (nI c0)), (2, .int (nI a0)), (3, .int (nI (i0 + 1)))] [.int (nI (9 ^ (4 - i0)))] (fw mT G L42) none 0 0
          refine fx_istore (lv2 := [(0, .ref 0), (1, .int (nI c0)), (2, .int (nI a0)), (3, .int (nI (i0 + 1))), (4, .int (nI (9 ^ (4 - i0))))]) dX11_turned_51 (by decide) rfl ?_
          refine fx_iconst (v := (nI 4)) dX11_turned_53 (by decide) ?_
          refine fx_iload_n dX11_turned_54 rfl (i := 3) rfl ?_
          refine fn_isub dX11_turned_55 (by omega) ?_
          refine fn_to (show _ = (nI (3 - i0)) from (congrArg nI (by omega))) ?_
          refine fn_cS dX11_turned_56 lk11_196 (C11_nines (n := 3 - i0) (by omega) (f := (fw mT G L42))) rfl rfl (by decide) (Nat.le_of_ble_eq_true rfl) ?_
          show fv_At Y11_turned 3 0 0 Q 59 [(0, .ref 0), (1, .int (nI c0)), (2, .int (nI a0)), (3, .int (nI (i0 + 1))), (4, .int (nI (9 ^ (4 - i0))))] [.int (nI (9 ^ (3 - i0)))] (fw mT G L42) none 0 0
          refine fx_istore (lv2 := [(0, .ref 0), (1, .int (nI c0)), (2, .int (nI a0)), (3, .int (nI (i0 + 1))), (4, .int (nI (9 ^ (4 - i0)))), (5, .int (nI (9 ^ (3 - i0))))]) dX11_turned_59 (by decide) rfl ?_
          have hp1 : 9 ^ (4 - i0) ≤ 9 ^ 4 := Nat.pow_le_pow_right (by decide) (by omega)
          have hp2 : 9 ^ (3 - i0) ≤ 9 ^ 4 := Nat.pow_le_pow_right (by decide) (by omega)
          have hp3 : 0 < 9 ^ (4 - i0) := Nat.pow_pos (by decide)
          have hp4 : 0 < 9 ^ (3 - i0) := Nat.pow_pos (by decide)
          refine fx_iconst (v := (nI 0)) dX11_turned_61 (by decide) ?_
          refine fx_istore (lv2 := [(0, .ref 0), (1, .int (nI c0)), (2, .int (nI a0)), (3, .int (nI (i0 + 1))), (4, .int (nI (9 ^ (4 - i0)))), (5, .int (nI (9 ^ (3 - i0)))), (6, .int (nI 0))]) dX11_turned_62 (by decide) rfl ?_
          have L64 : ∀ (k : Nat) (j : Nat) (S1 : Nat → Int64) (L1 : Nat → Nat → Int64), (j + k = (T a0).length) → (∀ i, i ≠ 7 → L1 i = L i) → (wkd L1 S1) → (S1 = psw i0 ((T a0).take j) zS) → fv_At Y11_turned 3 0 0 Q 64 [(0, .ref 0), (1, .int (nI c0)), (2, .int (nI a0)), (3, .int (nI (i0 + 1))), (4, .int (nI (9 ^ (4 - i0)))), (5, .int (nI (9 ^ (3 - i0)))), (6, .int (nI j))] [] (fw mT G L1) none 0 0 := by
            intro k
            induction k with
            | zero =>
              intro j S1 L1 hj hoL hW hR
              refine fx_iload dX11_turned_64 rfl ?_
              refine fx_aload_n dX11_turned_66 rfl (i := 0) rfl ?_
              refine fw_getr dX11_turned_67 fd11_20 rfl rfl ?_
              refine fx_iload_n dX11_turned_70 rfl (i := 2) rfl ?_
              refine fw_iald a0 dX11_turned_71 rfl rfl (by omega) (by decide) ?_
              refine fn_to (show _ = (nI ((T a0).length)) from ((hM a0 (by omega)).2 hta0).2.1) ?_
              refine fn_icmp_ge (tgt := 157) dX11_turned_72 (by decide) (by omega) (by omega) (fun c72 => ?_) (fun c72 => ?_)
              · skip
                have e : S1 = psw i0 (T a0) zS := by rw [hR, List.take_of_length_le (by omega)]
                subst e
                refine fx_aload_n dX11_turned_157 rfl (i := 0) rfl ?_
                refine fx_iload_n dX11_turned_158 rfl (i := 1) rfl ?_
                refine fx_callV dX11_turned_159 lk11_179 fv_c8 rfl (fw_at (show mT 0 = some (3, 8, 38, [some 1, none, some 2, some 3, some 4, some 5, some 6, some 7, some 8, some 9, some 10, some 11, some 12, some 13, some 14, some 15, some 16, some 17, some 18, some 19, none, none, none, some 20, some 21, some 22, some 23, none, some 24, some 25, some 26, some 27, some 28, some 29, some 30, some 31, none, some 32]) from rfl)) (C11_lays G L1 T t (msh_L hM (hoL 6 (by decide))) c0 (by omega) (psw i0 (T a0) zS) hW (sok_psw (by omega) sok_z h7)) rfl rfl (by decide) (Nat.le_of_ble_eq_true rfl) (by decide) (by decide) (fun r159 f159 al159 h159 => ?_)
                have hq := h159
                obtain ⟨G2, L2, rfl, rfl, rfl, -, -⟩ := h159
                show fv_At Y11_turned 3 0 0 Q 162 [(0, .ref 0), (1, .int (nI c0)), (2, .int (nI a0)), (3, .int (nI (i0 + 1))), (4, .int (nI (9 ^ (4 - i0)))), (5, .int (nI (9 ^ (3 - i0)))), (6, .int (nI j))] [.int (iI (stl (psw i0 (T a0) zS)))] (fw mT G2 L2) none 0 0
                exact fx_iret dX11_turned_162 rfl rfl rfl (by rw [hQ]; exact (by rw [show xTur T t (c0 : Int) (a0 : Int) ((i0 + 1 : Nat) : Int) = stl (psw i0 (T a0) zS) by unfold xTur; rw [if_pos hin]; exact if_pos hta0]; exact qms_L hq (fun i hi => hoL i (by omega))))
              · exfalso; omega
            | succ k ih64 =>
              intro j S1 L1 hj hoL hW hR
              refine fx_iload dX11_turned_64 rfl ?_
              refine fx_aload_n dX11_turned_66 rfl (i := 0) rfl ?_
              refine fw_getr dX11_turned_67 fd11_20 rfl rfl ?_
              refine fx_iload_n dX11_turned_70 rfl (i := 2) rfl ?_
              refine fw_iald a0 dX11_turned_71 rfl rfl (by omega) (by decide) ?_
              refine fn_to (show _ = (nI ((T a0).length)) from ((hM a0 (by omega)).2 hta0).2.1) ?_
              refine fn_icmp_ge (tgt := 157) dX11_turned_72 (by decide) (by omega) (by omega) (fun c72 => ?_) (fun c72 => ?_)
              · exfalso; omega
              · skip
                have h8 := h7 j (by omega)
                have h9 := nin_in h8
                have h10 := okc_le h8
                have h11 : nin (tx (T a0) j) / 9 ^ (4 - i0) < 2147483648 := Nat.lt_of_le_of_lt (Nat.div_le_self _ _) (by omega)
                have h12 : nin (tx (T a0) j) / 9 ^ (3 - i0) < 2147483648 := Nat.lt_of_le_of_lt (Nat.div_le_self _ _) (by omega)
                have h13 := okc_swp h8 (show i0 < 4 by omega)
                have h14 := nin_in h13
                have hz0 : S1 (swp (tx (T a0) j) 5 i0 (i0 + 1)) = 0 := by
                  rw [hR]
                  refine psw_0 (by omega) rfl (fun k2 hk2 e => ?_)
                  rw [List.length_take] at hk2
                  rw [tx_take (by omega)] at e
                  have h15 := swp_inj (h7 k2 (by omega)) h8 (by omega) e
                  have h16 := hD a0 (by omega) hta0 k2 j (by omega) (by omega)
                  omega
                refine fx_aload_n dX11_turned_75 rfl (i := 0) rfl ?_
                refine fw_getr dX11_turned_76 fd11_23 rfl rfl ?_
                refine fx_sipush (v := (nI 600)) dX11_turned_79 (by decide) ?_
                refine fx_iload_n dX11_turned_82 rfl (i := 2) rfl ?_
                refine fn_imul dX11_turned_83 ?_
                refine fx_iload dX11_turned_84 rfl ?_
                refine fn_iadd dX11_turned_86 ?_
                refine fw_iald ((600 * a0) + j) dX11_turned_87 rfl rfl (by omega) (by decide) ?_
                refine fn_to (show _ = (nI (tx (T a0) j)) from (((hM a0 (by omega)).2 hta0).2.2 j (by omega)).1) ?_
                refine fn_cS dX11_turned_88 lk11_154 (C11_placeN (tx (T a0) j) h8 (fw mT G L1)) rfl rfl (by decide) (Nat.le_of_ble_eq_true rfl) ?_
                show fv_At Y11_turned 3 0 0 Q 91 [(0, .ref 0), (1, .int (nI c0)), (2, .int (nI a0)), (3, .int (nI (i0 + 1))), (4, .int (nI (9 ^ (4 - i0)))), (5, .int (nI (9 ^ (3 - i0)))), (6, .int (nI j))] [.int (nI (nin (tx (T a0) j)))] (fw mT G L1) none 0 0
                refine fx_istore (lv2 := [(0, .ref 0), (1, .int (nI c0)), (2, .int (nI a0)), (3, .int (nI (i0 + 1))), (4, .int (nI (9 ^ (4 - i0)))), (5, .int (nI (9 ^ (3 - i0)))), (6, .int (nI j)), (7, .int (nI (nin (tx (T a0) j))))]) dX11_turned_91 (by decide) rfl ?_
                refine fx_iload dX11_turned_93 rfl ?_
                refine fx_iload dX11_turned_95 rfl ?_
                refine fn_idiv dX11_turned_97 (by omega) (by omega) (by omega) ?_
                refine fx_bipush (v := (nI 9)) dX11_turned_98 (by decide) ?_
                refine fn_irem dX11_turned_100 (by omega) (by omega) (by omega) ?_
                refine fx_istore (lv2 := [(0, .ref 0), (1, .int (nI c0)), (2, .int (nI a0)), (3, .int (nI (i0 + 1))), (4, .int (nI (9 ^ (4 - i0)))), (5, .int (nI (9 ^ (3 - i0)))), (6, .int (nI j)), (7, .int (nI (nin (tx (T a0) j)))), (8, .int (nI (((nin (tx (T a0) j)) / (9 ^ (4 - i0))) % 9)))]) dX11_turned_101 (by decide) rfl ?_
                refine fx_iload dX11_turned_103 rfl ?_
                refine fx_iload dX11_turned_105 rfl ?_
                refine fn_idiv dX11_turned_107 (by omega) (by omega) (by omega) ?_
                refine fx_bipush (v := (nI 9)) dX11_turned_108 (by decide) ?_
                refine fn_irem dX11_turned_110 (by omega) (by omega) (by omega) ?_
                refine fx_istore (lv2 := [(0, .ref 0), (1, .int (nI c0)), (2, .int (nI a0)), (3, .int (nI (i0 + 1))), (4, .int (nI (9 ^ (4 - i0)))), (5, .int (nI (9 ^ (3 - i0)))), (6, .int (nI j)), (7, .int (nI (nin (tx (T a0) j)))), (8, .int (nI (((nin (tx (T a0) j)) / (9 ^ (4 - i0))) % 9))), (9, .int (nI (((nin (tx (T a0) j)) / (9 ^ (3 - i0))) % 9)))]) dX11_turned_111 (by decide) rfl ?_
                refine fx_aload_n dX11_turned_113 rfl (i := 0) rfl ?_
                refine fw_getr dX11_turned_114 fd11_31 rfl rfl ?_
                refine fx_iload dX11_turned_117 rfl ?_
                refine fx_iload dX11_turned_119 rfl ?_
                refine fx_iload dX11_turned_121 rfl ?_
                refine fn_isubZ (a := ((((nin (tx (T a0) j)) / (9 ^ (3 - i0))) % 9 : Nat) : Int)) (b := ((((nin (tx (T a0) j)) / (9 ^ (4 - i0))) % 9 : Nat) : Int)) dX11_turned_123 ?_
                refine fx_iload dX11_turned_124 rfl ?_
                refine fn_imulZ (a := (((((nin (tx (T a0) j)) / (9 ^ (3 - i0))) % 9 : Nat) : Int)) - (((((nin (tx (T a0) j)) / (9 ^ (4 - i0))) % 9 : Nat) : Int))) (b := ((9 ^ (4 - i0) : Nat) : Int)) dX11_turned_126 ?_
                refine fn_iaddZ (a := ((nin (tx (T a0) j) : Nat) : Int)) (b := ((((((nin (tx (T a0) j)) / (9 ^ (3 - i0))) % 9 : Nat) : Int)) - (((((nin (tx (T a0) j)) / (9 ^ (4 - i0))) % 9 : Nat) : Int))) * (((9 ^ (4 - i0) : Nat) : Int))) dX11_turned_127 ?_
                refine fx_iload dX11_turned_128 rfl ?_
                refine fx_iload dX11_turned_130 rfl ?_
                refine fn_isubZ (a := ((((nin (tx (T a0) j)) / (9 ^ (4 - i0))) % 9 : Nat) : Int)) (b := ((((nin (tx (T a0) j)) / (9 ^ (3 - i0))) % 9 : Nat) : Int)) dX11_turned_132 ?_
                refine fx_iload dX11_turned_133 rfl ?_
                refine fn_imulZ (a := (((((nin (tx (T a0) j)) / (9 ^ (4 - i0))) % 9 : Nat) : Int)) - (((((nin (tx (T a0) j)) / (9 ^ (3 - i0))) % 9 : Nat) : Int))) (b := ((9 ^ (3 - i0) : Nat) : Int)) dX11_turned_135 ?_
                refine fn_iaddZ (a := (((nin (tx (T a0) j) : Nat) : Int)) + (((((((nin (tx (T a0) j)) / (9 ^ (3 - i0))) % 9 : Nat) : Int)) - (((((nin (tx (T a0) j)) / (9 ^ (4 - i0))) % 9 : Nat) : Int))) * (((9 ^ (4 - i0) : Nat) : Int)))) (b := ((((((nin (tx (T a0) j)) / (9 ^ (4 - i0))) % 9 : Nat) : Int)) - (((((nin (tx (T a0) j)) / (9 ^ (3 - i0))) % 9 : Nat) : Int))) * (((9 ^ (3 - i0) : Nat) : Int))) dX11_turned_136 ?_
                refine fn_to (show _ = (nI (nin (swp (tx (T a0) j) 5 i0 (i0 + 1)))) from (congrArg iI (nin_swp h8 (by omega)).symm)) ?_
                refine fx_aload_n dX11_turned_137 rfl (i := 0) rfl ?_
                refine fw_getr dX11_turned_138 fd11_26 rfl rfl ?_
                refine fx_sipush (v := (nI 600)) dX11_turned_141 (by decide) ?_
                refine fx_iload_n dX11_turned_144 rfl (i := 2) rfl ?_
                refine fn_imul dX11_turned_145 ?_
                refine fx_iload dX11_turned_146 rfl ?_
                refine fn_iadd dX11_turned_148 ?_
                refine fw_lald ((600 * a0) + j) dX11_turned_149 rfl rfl (by omega) (by decide) ?_
                refine fn_toL (show _ = ((tn (T a0) j).toInt64) from (by rw [hoL 6 (by decide)]; exact (((hM a0 (by omega)).2 hta0).2.2 j (by omega)).2)) ?_
                refine fw_last (nin (swp (tx (T a0) j) 5 i0 (i0 + 1))) dX11_turned_150 rfl rfl (by omega) (by decide) ?_
                refine fn_iinc (c := 1) (lv2 := [(0, .ref 0), (1, .int (nI c0)), (2, .int (nI a0)), (3, .int (nI (i0 + 1))), (4, .int (nI (9 ^ (4 - i0)))), (5, .int (nI (9 ^ (3 - i0)))), (6, .int (nI (j + 1))), (7, .int (nI (nin (tx (T a0) j)))), (8, .int (nI (((nin (tx (T a0) j)) / (9 ^ (4 - i0))) % 9))), (9, .int (nI (((nin (tx (T a0) j)) / (9 ^ (3 - i0))) % 9)))]) dX11_turned_151 (by decide) rfl (by decide) rfl ?_
                refine fx_goto (tgt := 64) dX11_turned_154 (by decide) ?_
                exact fn_sub [0, 1, 2, 3, 4, 5, 6] rfl (ih64 (j + 1) (adS S1 (swp (tx (T a0) j) 5 i0 (i0 + 1)) (tn (T a0) j).toInt64) (g2 L1 7 (nin (swp (tx (T a0) j) 5 i0 (i0 + 1))) (((tn (T a0) j).toInt64))) (by omega) (fun i q => (g2_rowL q).trans (hoL i q)) (by have q := wkd_ad hW h13 (y := (tn (T a0) j).toInt64); rw [hz0, Int64.zero_add] at q; exact q) (by rw [hR, tkD (show j < (T a0).length by omega), psw_app]; rfl))
          exact (L64 ((T a0).length) 0 zS L42 (by omega) hl42 hw42 rfl)
        · skip
          refine fx_bipush (v := (iI (-3))) dX11_turned_38 (by decide) ?_
          exact fx_iret dX11_turned_40 rfl rfl rfl (by rw [hQ]; exact (by rw [show xTur T t (c0 : Int) (a0 : Int) ((i0 + 1 : Nat) : Int) = -3 by unfold xTur; rw [if_pos hin]; exact if_neg (by simpa using c35)]; exact qms_n hM moff_r (by decide) _ _))
      · skip
        refine fx_bipush (v := (iI (-2))) dX11_turned_26 (by decide) ?_
        exact fx_iret dX11_turned_28 rfl rfl rfl (by rw [hQ]; exact (by rw [show xTur T t c a i = -2 by unfold xTur; exact if_neg (fun q => by first | (have h3 := of_decide_eq_false c23; omega) | simp_all)]; exact qms_n hM moff_r (by decide) _ _))

set_option maxRecDepth 4000 in
set_option maxHeartbeats 1000000 in
theorem C11_product  (G : Nat → Nat → Int32) (L : Nat → Nat → Int64) (T : Nat → tms) (t : Nat → Bool) (hM : msh G L T t) (hV : pvs T t) (c a b : Int) (c1 : -2147483648 ≤ c) (c2 : c < 2147483648) (a1 : -2147483648 ≤ a) (a2 : a < 2147483648) (b1 : -2147483648 ≤ b) (b2 : b < 2147483648) : fv_M Y11_product 3 0 0 [.ref 0, .int (iI c), .int (iI a), .int (iI b)] (fw mT G L) none (qms G L T t (xPro T t c a b) c.toNat (trm (uPro T a b))) := by
  refine fv_enter rfl (Nat.le_of_ble_eq_true rfl) ?_
  obtain ⟨Q, hQ⟩ : ∃ Q : Option Value → fv_F → Option Nat → Prop, Q = (qms G L T t (xPro T t c a b) c.toNat (trm (uPro T a b))) := ⟨_, rfl⟩
  rw [← hQ]
  show fv_At Y11_product 3 0 0 Q 0 [(0, .ref 0), (1, .int (iI c)), (2, .int (iI a)), (3, .int (iI b))] [] (fw mT G L) none 0 0
  refine fx_iload_n dX11_product_0 rfl (i := 1) rfl ?_
  refine fn_cS dX11_product_1 lk11_169 (C11_isSheet (s := c) (by omega) (by omega) (f := (fw mT G L))) rfl rfl (by decide) (Nat.le_of_ble_eq_true rfl) ?_
  show fv_At Y11_product 3 0 0 Q 4 [(0, .ref 0), (1, .int (iI c)), (2, .int (iI a)), (3, .int (iI b))] [.int (bI (isSt c))] (fw mT G L) none 0 0
  refine fn_if_eqB (tgt := 21) dX11_product_4 (by decide) (fun c4 => ?_) (fun c4 => ?_)
  · skip
    refine fx_bipush (v := (iI (-2))) dX11_product_21 (by decide) ?_
    exact fx_iret dX11_product_23 rfl rfl rfl (by rw [hQ]; exact (by rw [show xPro T t c a b = -2 by unfold xPro; exact if_neg (fun q => by simp_all)]; exact qms_n hM moff_r (by decide) _ _))
  · skip
    refine fx_iload_n dX11_product_7 rfl (i := 2) rfl ?_
    refine fn_cS dX11_product_8 lk11_169 (C11_isSheet (s := a) (by omega) (by omega) (f := (fw mT G L))) rfl rfl (by decide) (Nat.le_of_ble_eq_true rfl) ?_
    show fv_At Y11_product 3 0 0 Q 11 [(0, .ref 0), (1, .int (iI c)), (2, .int (iI a)), (3, .int (iI b))] [.int (bI (isSt a))] (fw mT G L) none 0 0
    refine fn_if_eqB (tgt := 21) dX11_product_11 (by decide) (fun c11 => ?_) (fun c11 => ?_)
    · skip
      refine fx_bipush (v := (iI (-2))) dX11_product_21 (by decide) ?_
      exact fx_iret dX11_product_23 rfl rfl rfl (by rw [hQ]; exact (by rw [show xPro T t c a b = -2 by unfold xPro; exact if_neg (fun q => by simp_all)]; exact qms_n hM moff_r (by decide) _ _))
    · skip
      refine fx_iload_n dX11_product_14 rfl (i := 3) rfl ?_
      refine fn_cS dX11_product_15 lk11_169 (C11_isSheet (s := b) (by omega) (by omega) (f := (fw mT G L))) rfl rfl (by decide) (Nat.le_of_ble_eq_true rfl) ?_
      show fv_At Y11_product 3 0 0 Q 18 [(0, .ref 0), (1, .int (iI c)), (2, .int (iI a)), (3, .int (iI b))] [.int (bI (isSt b))] (fw mT G L) none 0 0
      refine fn_if_neB (tgt := 24) dX11_product_18 (by decide) (fun c18 => ?_) (fun c18 => ?_)
      · skip
        have hin : isSt c = true ∧ isSt a = true ∧ isSt b = true := ⟨c4, c11, c18⟩
        have hs1 := isSt_1 c4
        have hs2 := isSt_1 c11
        have hs3 := isSt_1 c18
        obtain ⟨c0, rfl⟩ : ∃ z : Nat, c = (z : Int) := ⟨c.toNat, by omega⟩
        obtain ⟨a0, rfl⟩ : ∃ z : Nat, a = (z : Int) := ⟨a.toNat, by omega⟩
        obtain ⟨b0, rfl⟩ : ∃ z : Nat, b = (z : Int) := ⟨b.toNat, by omega⟩
        show fv_At Y11_product 3 0 0 Q 24 [(0, .ref 0), (1, .int (nI c0)), (2, .int (nI a0)), (3, .int (nI b0))] [] (fw mT G L) none 0 0
        refine fx_aload_n dX11_product_24 rfl (i := 0) rfl ?_
        refine fw_getr dX11_product_25 fd11_16 rfl rfl ?_
        refine fx_iload_n dX11_product_28 rfl (i := 2) rfl ?_
        refine fw_zald a0 dX11_product_29 rfl rfl (by omega) (by decide) ?_
        refine fn_to (show _ = (bI (t a0)) from (hM a0 (by omega)).1) ?_
        refine fn_if_eqB (tgt := 42) dX11_product_30 (by decide) (fun c30 => ?_) (fun c30 => ?_)
        · skip
          refine fx_bipush (v := (iI (-3))) dX11_product_42 (by decide) ?_
          exact fx_iret dX11_product_44 rfl rfl rfl (by rw [hQ]; exact (by rw [show xPro T t (c0 : Int) (a0 : Int) (b0 : Int) = -3 by unfold xPro; rw [if_pos hin]; exact if_neg (fun q => by simp_all)]; exact qms_n hM moff_r (by decide) _ _))
        · skip
          refine fx_aload_n dX11_product_33 rfl (i := 0) rfl ?_
          refine fw_getr dX11_product_34 fd11_16 rfl rfl ?_
          refine fx_iload_n dX11_product_37 rfl (i := 3) rfl ?_
          refine fw_zald b0 dX11_product_38 rfl rfl (by omega) (by decide) ?_
          refine fn_to (show _ = (bI (t b0)) from (hM b0 (by omega)).1) ?_
          refine fn_if_neB (tgt := 45) dX11_product_39 (by decide) (fun c39 => ?_) (fun c39 => ?_)
          · skip
            have hta0 : t a0 = true := by simpa using c30
            have htb0 : t b0 = true := by simpa using c39
            have h6 := ((hM a0 (by omega)).2 hta0).1
            have h7 := ((hM b0 (by omega)).2 htb0).1
            have hva := (hV a0 (by omega) hta0).1
            have hvb := (hV b0 (by omega) htb0).1
            have hxp0 : xPro T t (c0 : Int) (a0 : Int) (b0 : Int) = if thi (T a0) (T b0) = true then -4 else stl (pml (T b0) (T a0) zS) := by unfold xPro; rw [if_pos hin]; exact if_pos ⟨hta0, htb0⟩
            refine fx_iconst (v := (nI 0)) dX11_product_45 (by decide) ?_
            refine fx_istore (lv2 := [(0, .ref 0), (1, .int (nI c0)), (2, .int (nI a0)), (3, .int (nI b0)), (4, .int (nI 0))]) dX11_product_46 (by decide) rfl ?_
            have L48 : ∀ (k0 : Nat) (l : Nat), (l + k0 = 5) → (∀ q, q < l → tpl (5 - q) (T a0) 0 + tpl (5 - q) (T b0) 0 ≤ 8) → fv_At Y11_product 3 0 0 Q 48 [(0, .ref 0), (1, .int (nI c0)), (2, .int (nI a0)), (3, .int (nI b0)), (4, .int (nI l))] [] (fw mT G L) none 0 0 := by
              intro k0
              induction k0 with
              | zero =>
                intro l hl hS
                refine fx_iload dX11_product_48 rfl ?_
                refine fx_iconst (v := (nI 5)) dX11_product_50 (by decide) ?_
                refine fn_icmp_ge (tgt := 101) dX11_product_51 (by decide) (by omega) (by omega) (fun c51 => ?_) (fun c51 => ?_)
                · skip
                  have L101 : (thi (T a0) (T b0) = false) → fv_At Y11_product 3 0 0 Q 101 [(0, .ref 0), (1, .int (nI c0)), (2, .int (nI a0)), (3, .int (nI b0))] [] (fw mT G L) none 0 0 := by
                    intro hth
                    refine fx_aload_n dX11_product_101 rfl (i := 0) rfl ?_
                    refine fx_callV dX11_product_102 lk11_172 fv_c8 rfl (fw_at (show mT 0 = some (3, 8, 38, [some 1, none, some 2, some 3, some 4, some 5, some 6, some 7, some 8, some 9, some 10, some 11, some 12, some 13, some 14, some 15, some 16, some 17, some 18, some 19, none, none, none, some 20, some 21, some 22, some 23, none, some 24, some 25, some 26, some 27, some 28, some 29, some 30, some 31, none, some 32]) from rfl)) (C11_wipe G L) rfl rfl (by decide) (Nat.le_of_ble_eq_true rfl) (by decide) (by decide) (fun r102 f102 al102 h102 => ?_)
                    obtain ⟨L102, rfl, rfl, rfl, hl102, hw102⟩ := h102
                    show fv_At Y11_product 3 0 0 Q 105 [(0, .ref 0), (1, .int (nI c0)), (2, .int (nI a0)), (3, .int (nI b0))] [] (fw mT G L102) none 0 0
                    refine fx_iconst (v := (nI 0)) dX11_product_105 (by decide) ?_
                    refine fx_istore (lv2 := [(0, .ref 0), (1, .int (nI c0)), (2, .int (nI a0)), (3, .int (nI b0)), (4, .int (nI 0))]) dX11_product_106 (by decide) rfl ?_
                    have L108 : ∀ (k : Nat) (i : Nat) (S1 : Nat → Int64) (L1 : Nat → Nat → Int64), (i + k = (T a0).length) → (∀ i, i ≠ 7 → L1 i = L i) → (wkd L1 S1) → (pml (T b0) ((T a0).drop i) S1 = pml (T b0) (T a0) zS) → fv_At Y11_product 3 0 0 Q 108 [(0, .ref 0), (1, .int (nI c0)), (2, .int (nI a0)), (3, .int (nI b0)), (4, .int (nI i))] [] (fw mT G L1) none 0 0 := by
                      intro k
                      induction k with
                      | zero =>
                        intro i S1 L1 hi hoL hW hR
                        refine fx_iload dX11_product_108 rfl ?_
                        refine fx_aload_n dX11_product_110 rfl (i := 0) rfl ?_
                        refine fw_getr dX11_product_111 fd11_20 rfl rfl ?_
                        refine fx_iload_n dX11_product_114 rfl (i := 2) rfl ?_
                        refine fw_iald a0 dX11_product_115 rfl rfl (by omega) (by decide) ?_
                        refine fn_to (show _ = (nI ((T a0).length)) from ((hM a0 (by omega)).2 hta0).2.1) ?_
                        refine fn_icmp_ge (tgt := 210) dX11_product_116 (by decide) (by omega) (by omega) (fun c116 => ?_) (fun c116 => ?_)
                        · skip
                          have e : S1 = pml (T b0) (T a0) zS := by rw [← hR, List.drop_eq_nil_of_le (by omega)]; rfl
                          subst e
                          refine fx_aload_n dX11_product_210 rfl (i := 0) rfl ?_
                          refine fx_iload_n dX11_product_211 rfl (i := 1) rfl ?_
                          refine fx_callV dX11_product_212 lk11_179 fv_c8 rfl (fw_at (show mT 0 = some (3, 8, 38, [some 1, none, some 2, some 3, some 4, some 5, some 6, some 7, some 8, some 9, some 10, some 11, some 12, some 13, some 14, some 15, some 16, some 17, some 18, some 19, none, none, none, some 20, some 21, some 22, some 23, none, some 24, some 25, some 26, some 27, some 28, some 29, some 30, some 31, none, some 32]) from rfl)) (C11_lays G L1 T t (msh_L hM (hoL 6 (by decide))) c0 (by omega) (pml (T b0) (T a0) zS) hW (sok_pml sok_z (thi_ok hva hvb hth))) rfl rfl (by decide) (Nat.le_of_ble_eq_true rfl) (by decide) (by decide) (fun r212 f212 al212 h212 => ?_)
                          have hq := h212
                          obtain ⟨G2, L2, rfl, rfl, rfl, -, -⟩ := h212
                          show fv_At Y11_product 3 0 0 Q 215 [(0, .ref 0), (1, .int (nI c0)), (2, .int (nI a0)), (3, .int (nI b0)), (4, .int (nI i))] [.int (iI (stl (pml (T b0) (T a0) zS)))] (fw mT G2 L2) none 0 0
                          exact fx_iret dX11_product_215 rfl rfl rfl (by rw [hQ]; exact (by rw [hxp0, if_neg (by rw [hth]; decide)]; exact qms_L hq (fun i hi => hoL i (by omega))))
                        · exfalso; omega
                      | succ k ih108 =>
                        intro i S1 L1 hi hoL hW hR
                        refine fx_iload dX11_product_108 rfl ?_
                        refine fx_aload_n dX11_product_110 rfl (i := 0) rfl ?_
                        refine fw_getr dX11_product_111 fd11_20 rfl rfl ?_
                        refine fx_iload_n dX11_product_114 rfl (i := 2) rfl ?_
                        refine fw_iald a0 dX11_product_115 rfl rfl (by omega) (by decide) ?_
                        refine fn_to (show _ = (nI ((T a0).length)) from ((hM a0 (by omega)).2 hta0).2.1) ?_
                        refine fn_icmp_ge (tgt := 210) dX11_product_116 (by decide) (by omega) (by omega) (fun c116 => ?_) (fun c116 => ?_)
                        · exfalso; omega
                        · skip
                          refine fx_iconst (v := (nI 0)) dX11_product_119 (by decide) ?_
                          refine fx_istore (lv2 := [(0, .ref 0), (1, .int (nI c0)), (2, .int (nI a0)), (3, .int (nI b0)), (4, .int (nI i)), (5, .int (nI 0))]) dX11_product_120 (by decide) rfl ?_
                          have L122 : ∀ (k2 : Nat) (j : Nat) (S2 : Nat → Int64) (L2 : Nat → Nat → Int64), (j + k2 = (T b0).length) → (∀ i, i ≠ 7 → L2 i = L i) → (wkd L2 S2) → (pm2 (tx (T a0) i) (tn (T a0) i).toInt64 ((T b0).drop j) S2 = pm2 (tx (T a0) i) (tn (T a0) i).toInt64 (T b0) S1) → fv_At Y11_product 3 0 0 Q 122 [(0, .ref 0), (1, .int (nI c0)), (2, .int (nI a0)), (3, .int (nI b0)), (4, .int (nI i)), (5, .int (nI j))] [] (fw mT G L2) none 0 0 := by
                            intro k2
                            induction k2 with
                            | zero =>
                              intro j S2 L2 hj hoL2 hW2 hR2
                              refine fx_iload dX11_product_122 rfl ?_
                              refine fx_aload_n dX11_product_124 rfl (i := 0) rfl ?_
                              refine fw_getr dX11_product_125 fd11_20 rfl rfl ?_
                              refine fx_iload_n dX11_product_128 rfl (i := 3) rfl ?_
                              refine fw_iald b0 dX11_product_129 rfl rfl (by omega) (by decide) ?_
                              refine fn_to (show _ = (nI ((T b0).length)) from ((hM b0 (by omega)).2 htb0).2.1) ?_
                              refine fn_icmp_ge (tgt := 204) dX11_product_130 (by decide) (by omega) (by omega) (fun c130 => ?_) (fun c130 => ?_)
                              · skip
                                refine fn_iinc (c := 1) (lv2 := [(0, .ref 0), (1, .int (nI c0)), (2, .int (nI a0)), (3, .int (nI b0)), (4, .int (nI (i + 1))), (5, .int (nI j))]) dX11_product_204 (by decide) rfl (by decide) rfl ?_
                                refine fx_goto (tgt := 108) dX11_product_207 (by decide) ?_
                                exact fn_sub [0, 1, 2, 3, 4] rfl (ih108 (i + 1) S2 L2 (by omega) hoL2 hW2 (by rw [← hR, drD (show i < (T a0).length by omega), pml]; rw [List.drop_eq_nil_of_le (show (T b0).length ≤ j by omega)] at hR2; exact congrArg (pml (T b0) ((T a0).drop (i + 1))) hR2))
                              · exfalso; omega
                            | succ k2 ih122 =>
                              intro j S2 L2 hj hoL2 hW2 hR2
                              refine fx_iload dX11_product_122 rfl ?_
                              refine fx_aload_n dX11_product_124 rfl (i := 0) rfl ?_
                              refine fw_getr dX11_product_125 fd11_20 rfl rfl ?_
                              refine fx_iload_n dX11_product_128 rfl (i := 3) rfl ?_
                              refine fw_iald b0 dX11_product_129 rfl rfl (by omega) (by decide) ?_
                              refine fn_to (show _ = (nI ((T b0).length)) from ((hM b0 (by omega)).2 htb0).2.1) ?_
                              refine fn_icmp_ge (tgt := 204) dX11_product_130 (by decide) (by omega) (by omega) (fun c130 => ?_) (fun c130 => ?_)
                              · exfalso; omega
                              · skip
                                have h8 := thi_ok hva hvb hth i (by omega) j (by omega)
                                have h9 := nin_in h8
                                have h10 := okc_le h8
                                refine fx_aload_n dX11_product_133 rfl (i := 0) rfl ?_
                                refine fw_getr dX11_product_134 fd11_31 rfl rfl ?_
                                refine fx_aload_n dX11_product_137 rfl (i := 0) rfl ?_
                                refine fw_getr dX11_product_138 fd11_23 rfl rfl ?_
                                refine fx_sipush (v := (nI 600)) dX11_product_141 (by decide) ?_
                                refine fx_iload_n dX11_product_144 rfl (i := 2) rfl ?_
                                refine fn_imul dX11_product_145 ?_
                                refine fx_iload dX11_product_146 rfl ?_
                                refine fn_iadd dX11_product_148 ?_
                                refine fw_iald ((600 * a0) + i) dX11_product_149 rfl rfl (by omega) (by decide) ?_
                                refine fn_to (show _ = (nI (tx (T a0) i)) from (((hM a0 (by omega)).2 hta0).2.2 i (by omega)).1) ?_
                                refine fx_aload_n dX11_product_150 rfl (i := 0) rfl ?_
                                refine fw_getr dX11_product_151 fd11_23 rfl rfl ?_
                                refine fx_sipush (v := (nI 600)) dX11_product_154 (by decide) ?_
                                refine fx_iload_n dX11_product_157 rfl (i := 3) rfl ?_
                                refine fn_imul dX11_product_158 ?_
                                refine fx_iload dX11_product_159 rfl ?_
                                refine fn_iadd dX11_product_161 ?_
                                refine fw_iald ((600 * b0) + j) dX11_product_162 rfl rfl (by omega) (by decide) ?_
                                refine fn_to (show _ = (nI (tx (T b0) j)) from (((hM b0 (by omega)).2 htb0).2.2 j (by omega)).1) ?_
                                refine fn_iadd dX11_product_163 ?_
                                refine fn_cS dX11_product_164 lk11_154 (C11_placeN ((tx (T a0) i) + (tx (T b0) j)) h8 (fw mT G L2)) rfl rfl (by decide) (Nat.le_of_ble_eq_true rfl) ?_
                                show fv_At Y11_product 3 0 0 Q 167 [(0, .ref 0), (1, .int (nI c0)), (2, .int (nI a0)), (3, .int (nI b0)), (4, .int (nI i)), (5, .int (nI j))] [.int (nI (nin ((tx (T a0) i) + (tx (T b0) j)))), .ref 7] (fw mT G L2) none 0 0
                                refine fx_dup2 dX11_product_167 rfl rfl ?_
                                refine fw_lald (nin ((tx (T a0) i) + (tx (T b0) j))) dX11_product_168 rfl rfl (by omega) (by decide) ?_
                                refine fn_toL (show _ = (S2 (tx (T a0) i + tx (T b0) j)) from (by rw [hW2 _ h9, nex_nin h8])) ?_
                                refine fx_aload_n dX11_product_169 rfl (i := 0) rfl ?_
                                refine fw_getr dX11_product_170 fd11_26 rfl rfl ?_
                                refine fx_sipush (v := (nI 600)) dX11_product_173 (by decide) ?_
                                refine fx_iload_n dX11_product_176 rfl (i := 2) rfl ?_
                                refine fn_imul dX11_product_177 ?_
                                refine fx_iload dX11_product_178 rfl ?_
                                refine fn_iadd dX11_product_180 ?_
                                refine fw_lald ((600 * a0) + i) dX11_product_181 rfl rfl (by omega) (by decide) ?_
                                refine fn_toL (show _ = ((tn (T a0) i).toInt64) from (by rw [hoL2 6 (by decide)]; exact (((hM a0 (by omega)).2 hta0).2.2 i (by omega)).2)) ?_
                                refine fx_aload_n dX11_product_182 rfl (i := 0) rfl ?_
                                refine fw_getr dX11_product_183 fd11_26 rfl rfl ?_
                                refine fx_sipush (v := (nI 600)) dX11_product_186 (by decide) ?_
                                refine fx_iload_n dX11_product_189 rfl (i := 3) rfl ?_
                                refine fn_imul dX11_product_190 ?_
                                refine fx_iload dX11_product_191 rfl ?_
                                refine fn_iadd dX11_product_193 ?_
                                refine fw_lald ((600 * b0) + j) dX11_product_194 rfl rfl (by omega) (by decide) ?_
                                refine fn_toL (show _ = ((tn (T b0) j).toInt64) from (by rw [hoL2 6 (by decide)]; exact (((hM b0 (by omega)).2 htb0).2.2 j (by omega)).2)) ?_
                                refine fx_lmul dX11_product_195 ?_
                                refine fx_ladd dX11_product_196 ?_
                                refine fw_last (nin ((tx (T a0) i) + (tx (T b0) j))) dX11_product_197 rfl rfl (by omega) (by decide) ?_
                                refine fn_iinc (c := 1) (lv2 := [(0, .ref 0), (1, .int (nI c0)), (2, .int (nI a0)), (3, .int (nI b0)), (4, .int (nI i)), (5, .int (nI (j + 1)))]) dX11_product_198 (by decide) rfl (by decide) rfl ?_
                                refine fx_goto (tgt := 122) dX11_product_201 (by decide) ?_
                                exact (ih122 (j + 1) (adS S2 (tx (T a0) i + tx (T b0) j) ((tn (T a0) i).toInt64 * (tn (T b0) j).toInt64)) (g2 L2 7 (nin ((tx (T a0) i) + (tx (T b0) j))) ((((S2 (tx (T a0) i + tx (T b0) j))) + (((((tn (T a0) i).toInt64)) * (((tn (T b0) j).toInt64))))))) (by omega) (fun i q => (g2_rowL q).trans (hoL2 i q)) (wkd_ad hW2 h8) (by rw [← hR2, drD (show j < (T b0).length by omega), pm2]))
                          exact (L122 ((T b0).length) 0 S1 L1 (by omega) hoL hW rfl)
                    exact (L108 ((T a0).length) 0 zS L102 (by omega) hl102 hw102 rfl)
                  exact fn_sub [0, 1, 2, 3] rfl (L101 (by unfold thi; refine thl_n _ _ _ _ (fun q w1 w2 => ?_); have e5 : q = 5 - (5 - q) := (by omega); first | (rw [e5]; exact hS (5 - q) (by omega)) | (have e0 : T a0 = [] := List.length_eq_zero_iff.mp (by omega); rw [e0]; have w3 := tpl_8 (l := q) hvb (show 0 ≤ 8 by decide); show 0 + _ ≤ 8; omega) | (have e0 : T b0 = [] := List.length_eq_zero_iff.mp (by omega); rw [e0]; have w3 := tpl_8 (l := q) hva (show 0 ≤ 8 by decide); show _ + 0 ≤ 8; omega)))
                · exfalso; omega
              | succ k0 ih48 =>
                intro l hl hS
                refine fx_iload dX11_product_48 rfl ?_
                refine fx_iconst (v := (nI 5)) dX11_product_50 (by decide) ?_
                refine fn_icmp_ge (tgt := 101) dX11_product_51 (by decide) (by omega) (by omega) (fun c51 => ?_) (fun c51 => ?_)
                · exfalso; omega
                · skip
                  refine fx_aload_n dX11_product_54 rfl (i := 0) rfl ?_
                  refine fw_getr dX11_product_55 fd11_20 rfl rfl ?_
                  refine fx_iload_n dX11_product_58 rfl (i := 2) rfl ?_
                  refine fw_iald a0 dX11_product_59 rfl rfl (by omega) (by decide) ?_
                  refine fn_to (show _ = (nI ((T a0).length)) from ((hM a0 (by omega)).2 hta0).2.1) ?_
                  refine fn_if_le (tgt := 101) dX11_product_60 (by decide) (by omega) (fun c60 => ?_) (fun c60 => ?_)
                  · skip
                    have L101 : (thi (T a0) (T b0) = false) → fv_At Y11_product 3 0 0 Q 101 [(0, .ref 0), (1, .int (nI c0)), (2, .int (nI a0)), (3, .int (nI b0))] [] (fw mT G L) none 0 0 := by
                      intro hth
                      refine fx_aload_n dX11_product_101 rfl (i := 0) rfl ?_
                      refine fx_callV dX11_product_102 lk11_172 fv_c8 rfl (fw_at (show mT 0 = some (3, 8, 38, [some 1, none, some 2, some 3, some 4, some 5, some 6, some 7, some 8, some 9, some 10, some 11, some 12, some 13, some 14, some 15, some 16, some 17, some 18, some 19, none, none, none, some 20, some 21, some 22, some 23, none, some 24, some 25, some 26, some 27, some 28, some 29, some 30, some 31, none, some 32]) from rfl)) (C11_wipe G L) rfl rfl (by decide) (Nat.le_of_ble_eq_true rfl) (by decide) (by decide) (fun r102 f102 al102 h102 => ?_)
                      obtain ⟨L102, rfl, rfl, rfl, hl102, hw102⟩ := h102
                      show fv_At Y11_product 3 0 0 Q 105 [(0, .ref 0), (1, .int (nI c0)), (2, .int (nI a0)), (3, .int (nI b0))] [] (fw mT G L102) none 0 0
                      refine fx_iconst (v := (nI 0)) dX11_product_105 (by decide) ?_
                      refine fx_istore (lv2 := [(0, .ref 0), (1, .int (nI c0)), (2, .int (nI a0)), (3, .int (nI b0)), (4, .int (nI 0))]) dX11_product_106 (by decide) rfl ?_
                      have L108 : ∀ (k : Nat) (i : Nat) (S1 : Nat → Int64) (L1 : Nat → Nat → Int64), (i + k = (T a0).length) → (∀ i, i ≠ 7 → L1 i = L i) → (wkd L1 S1) → (pml (T b0) ((T a0).drop i) S1 = pml (T b0) (T a0) zS) → fv_At Y11_product 3 0 0 Q 108 [(0, .ref 0), (1, .int (nI c0)), (2, .int (nI a0)), (3, .int (nI b0)), (4, .int (nI i))] [] (fw mT G L1) none 0 0 := by
                        intro k
                        induction k with
                        | zero =>
                          intro i S1 L1 hi hoL hW hR
                          refine fx_iload dX11_product_108 rfl ?_
                          refine fx_aload_n dX11_product_110 rfl (i := 0) rfl ?_
                          refine fw_getr dX11_product_111 fd11_20 rfl rfl ?_
                          refine fx_iload_n dX11_product_114 rfl (i := 2) rfl ?_
                          refine fw_iald a0 dX11_product_115 rfl rfl (by omega) (by decide) ?_
                          refine fn_to (show _ = (nI ((T a0).length)) from ((hM a0 (by omega)).2 hta0).2.1) ?_
                          refine fn_icmp_ge (tgt := 210) dX11_product_116 (by decide) (by omega) (by omega) (fun c116 => ?_) (fun c116 => ?_)
                          · skip
                            have e : S1 = pml (T b0) (T a0) zS := by rw [← hR, List.drop_eq_nil_of_le (by omega)]; rfl
                            subst e
                            refine fx_aload_n dX11_product_210 rfl (i := 0) rfl ?_
                            refine fx_iload_n dX11_product_211 rfl (i := 1) rfl ?_
                            refine fx_callV dX11_product_212 lk11_179 fv_c8 rfl (fw_at (show mT 0 = some (3, 8, 38, [some 1, none, some 2, some 3, some 4, some 5, some 6, some 7, some 8, some 9, some 10, some 11, some 12, some 13, some 14, some 15, some 16, some 17, some 18, some 19, none, none, none, some 20, some 21, some 22, some 23, none, some 24, some 25, some 26, some 27, some 28, some 29, some 30, some 31, none, some 32]) from rfl)) (C11_lays G L1 T t (msh_L hM (hoL 6 (by decide))) c0 (by omega) (pml (T b0) (T a0) zS) hW (sok_pml sok_z (thi_ok hva hvb hth))) rfl rfl (by decide) (Nat.le_of_ble_eq_true rfl) (by decide) (by decide) (fun r212 f212 al212 h212 => ?_)
                            have hq := h212
                            obtain ⟨G2, L2, rfl, rfl, rfl, -, -⟩ := h212
                            show fv_At Y11_product 3 0 0 Q 215 [(0, .ref 0), (1, .int (nI c0)), (2, .int (nI a0)), (3, .int (nI b0)), (4, .int (nI i))] [.int (iI (stl (pml (T b0) (T a0) zS)))] (fw mT G2 L2) none 0 0
                            exact fx_iret dX11_product_215 rfl rfl rfl (by rw [hQ]; exact (by rw [hxp0, if_neg (by rw [hth]; decide)]; exact qms_L hq (fun i hi => hoL i (by omega))))
                          · exfalso; omega
                        | succ k ih108 =>
                          intro i S1 L1 hi hoL hW hR
                          refine fx_iload dX11_product_108 rfl ?_
                          refine fx_aload_n dX11_product_110 rfl (i := 0) rfl ?_
                          refine fw_getr dX11_product_111 fd11_20 rfl rfl ?_
                          refine fx_iload_n dX11_product_114 rfl (i := 2) rfl ?_
                          refine fw_iald a0 dX11_product_115 rfl rfl (by omega) (by decide) ?_
                          refine fn_to (show _ = (nI ((T a0).length)) from ((hM a0 (by omega)).2 hta0).2.1) ?_
                          refine fn_icmp_ge (tgt := 210) dX11_product_116 (by decide) (by omega) (by omega) (fun c116 => ?_) (fun c116 => ?_)
                          · exfalso; omega
                          · skip
                            refine fx_iconst (v := (nI 0)) dX11_product_119 (by decide) ?_
                            refine fx_istore (lv2 := [(0, .ref 0), (1, .int (nI c0)), (2, .int (nI a0)), (3, .int (nI b0)), (4, .int (nI i)), (5, .int (nI 0))]) dX11_product_120 (by decide) rfl ?_
                            have L122 : ∀ (k2 : Nat) (j : Nat) (S2 : Nat → Int64) (L2 : Nat → Nat → Int64), (j + k2 = (T b0).length) → (∀ i, i ≠ 7 → L2 i = L i) → (wkd L2 S2) → (pm2 (tx (T a0) i) (tn (T a0) i).toInt64 ((T b0).drop j) S2 = pm2 (tx (T a0) i) (tn (T a0) i).toInt64 (T b0) S1) → fv_At Y11_product 3 0 0 Q 122 [(0, .ref 0), (1, .int (nI c0)), (2, .int (nI a0)), (3, .int (nI b0)), (4, .int (nI i)), (5, .int (nI j))] [] (fw mT G L2) none 0 0 := by
                              intro k2
                              induction k2 with
                              | zero =>
                                intro j S2 L2 hj hoL2 hW2 hR2
                                refine fx_iload dX11_product_122 rfl ?_
                                refine fx_aload_n dX11_product_124 rfl (i := 0) rfl ?_
                                refine fw_getr dX11_product_125 fd11_20 rfl rfl ?_
                                refine fx_iload_n dX11_product_128 rfl (i := 3) rfl ?_
                                refine fw_iald b0 dX11_product_129 rfl rfl (by omega) (by decide) ?_
                                refine fn_to (show _ = (nI ((T b0).length)) from ((hM b0 (by omega)).2 htb0).2.1) ?_
                                refine fn_icmp_ge (tgt := 204) dX11_product_130 (by decide) (by omega) (by omega) (fun c130 => ?_) (fun c130 => ?_)
                                · skip
                                  refine fn_iinc (c := 1) (lv2 := [(0, .ref 0), (1, .int (nI c0)), (2, .int (nI a0)), (3, .int (nI b0)), (4, .int (nI (i + 1))), (5, .int (nI j))]) dX11_product_204 (by decide) rfl (by decide) rfl ?_
                                  refine fx_goto (tgt := 108) dX11_product_207 (by decide) ?_
                                  exact fn_sub [0, 1, 2, 3, 4] rfl (ih108 (i + 1) S2 L2 (by omega) hoL2 hW2 (by rw [← hR, drD (show i < (T a0).length by omega), pml]; rw [List.drop_eq_nil_of_le (show (T b0).length ≤ j by omega)] at hR2; exact congrArg (pml (T b0) ((T a0).drop (i + 1))) hR2))
                                · exfalso; omega
                              | succ k2 ih122 =>
                                intro j S2 L2 hj hoL2 hW2 hR2
                                refine fx_iload dX11_product_122 rfl ?_
                                refine fx_aload_n dX11_product_124 rfl (i := 0) rfl ?_
                                refine fw_getr dX11_product_125 fd11_20 rfl rfl ?_
                                refine fx_iload_n dX11_product_128 rfl (i := 3) rfl ?_
                                refine fw_iald b0 dX11_product_129 rfl rfl (by omega) (by decide) ?_
                                refine fn_to (show _ = (nI ((T b0).length)) from ((hM b0 (by omega)).2 htb0).2.1) ?_
                                refine fn_icmp_ge (tgt := 204) dX11_product_130 (by decide) (by omega) (by omega) (fun c130 => ?_) (fun c130 => ?_)
                                · exfalso; omega
                                · skip
                                  have h8 := thi_ok hva hvb hth i (by omega) j (by omega)
                                  have h9 := nin_in h8
                                  have h10 := okc_le h8
                                  refine fx_aload_n dX11_product_133 rfl (i := 0) rfl ?_
                                  refine fw_getr dX11_product_134 fd11_31 rfl rfl ?_
                                  refine fx_aload_n dX11_product_137 rfl (i := 0) rfl ?_
                                  refine fw_getr dX11_product_138 fd11_23 rfl rfl ?_
                                  refine fx_sipush (v := (nI 600)) dX11_product_141 (by decide) ?_
                                  refine fx_iload_n dX11_product_144 rfl (i := 2) rfl ?_
                                  refine fn_imul dX11_product_145 ?_
                                  refine fx_iload dX11_product_146 rfl ?_
                                  refine fn_iadd dX11_product_148 ?_
                                  refine fw_iald ((600 * a0) + i) dX11_product_149 rfl rfl (by omega) (by decide) ?_
                                  refine fn_to (show _ = (nI (tx (T a0) i)) from (((hM a0 (by omega)).2 hta0).2.2 i (by omega)).1) ?_
                                  refine fx_aload_n dX11_product_150 rfl (i := 0) rfl ?_
                                  refine fw_getr dX11_product_151 fd11_23 rfl rfl ?_
                                  refine fx_sipush (v := (nI 600)) dX11_product_154 (by decide) ?_
                                  refine fx_iload_n dX11_product_157 rfl (i := 3) rfl ?_
                                  refine fn_imul dX11_product_158 ?_
                                  refine fx_iload dX11_product_159 rfl ?_
                                  refine fn_iadd dX11_product_161 ?_
                                  refine fw_iald ((600 * b0) + j) dX11_product_162 rfl rfl (by omega) (by decide) ?_
                                  refine fn_to (show _ = (nI (tx (T b0) j)) from (((hM b0 (by omega)).2 htb0).2.2 j (by omega)).1) ?_
                                  refine fn_iadd dX11_product_163 ?_
                                  refine fn_cS dX11_product_164 lk11_154 (C11_placeN ((tx (T a0) i) + (tx (T b0) j)) h8 (fw mT G L2)) rfl rfl (by decide) (Nat.le_of_ble_eq_true rfl) ?_
                                  show fv_At Y11_product 3 0 0 Q 167 [(0, .ref 0), (1, .int (nI c0)), (2, .int (nI a0)), (3, .int (nI b0)), (4, .int (nI i)), (5, .int (nI j))] [.int (nI (nin ((tx (T a0) i) + (tx (T b0) j)))), .ref 7] (fw mT G L2) none 0 0
                                  refine fx_dup2 dX11_product_167 rfl rfl ?_
                                  refine fw_lald (nin ((tx (T a0) i) + (tx (T b0) j))) dX11_product_168 rfl rfl (by omega) (by decide) ?_
                                  refine fn_toL (show _ = (S2 (tx (T a0) i + tx (T b0) j)) from (by rw [hW2 _ h9, nex_nin h8])) ?_
                                  refine fx_aload_n dX11_product_169 rfl (i := 0) rfl ?_
                                  refine fw_getr dX11_product_170 fd11_26 rfl rfl ?_
                                  refine fx_sipush (v := (nI 600)) dX11_product_173 (by decide) ?_
                                  refine fx_iload_n dX11_product_176 rfl (i := 2) rfl ?_
                                  refine fn_imul dX11_product_177 ?_
                                  refine fx_iload dX11_product_178 rfl ?_
                                  refine fn_iadd dX11_product_180 ?_
                                  refine fw_lald ((600 * a0) + i) dX11_product_181 rfl rfl (by omega) (by decide) ?_
                                  refine fn_toL (show _ = ((tn (T a0) i).toInt64) from (by rw [hoL2 6 (by decide)]; exact (((hM a0 (by omega)).2 hta0).2.2 i (by omega)).2)) ?_
                                  refine fx_aload_n dX11_product_182 rfl (i := 0) rfl ?_
                                  refine fw_getr dX11_product_183 fd11_26 rfl rfl ?_
                                  refine fx_sipush (v := (nI 600)) dX11_product_186 (by decide) ?_
                                  refine fx_iload_n dX11_product_189 rfl (i := 3) rfl ?_
                                  refine fn_imul dX11_product_190 ?_
                                  refine fx_iload dX11_product_191 rfl ?_
                                  refine fn_iadd dX11_product_193 ?_
                                  refine fw_lald ((600 * b0) + j) dX11_product_194 rfl rfl (by omega) (by decide) ?_
                                  refine fn_toL (show _ = ((tn (T b0) j).toInt64) from (by rw [hoL2 6 (by decide)]; exact (((hM b0 (by omega)).2 htb0).2.2 j (by omega)).2)) ?_
                                  refine fx_lmul dX11_product_195 ?_
                                  refine fx_ladd dX11_product_196 ?_
                                  refine fw_last (nin ((tx (T a0) i) + (tx (T b0) j))) dX11_product_197 rfl rfl (by omega) (by decide) ?_
                                  refine fn_iinc (c := 1) (lv2 := [(0, .ref 0), (1, .int (nI c0)), (2, .int (nI a0)), (3, .int (nI b0)), (4, .int (nI i)), (5, .int (nI (j + 1)))]) dX11_product_198 (by decide) rfl (by decide) rfl ?_
                                  refine fx_goto (tgt := 122) dX11_product_201 (by decide) ?_
                                  exact (ih122 (j + 1) (adS S2 (tx (T a0) i + tx (T b0) j) ((tn (T a0) i).toInt64 * (tn (T b0) j).toInt64)) (g2 L2 7 (nin ((tx (T a0) i) + (tx (T b0) j))) ((((S2 (tx (T a0) i + tx (T b0) j))) + (((((tn (T a0) i).toInt64)) * (((tn (T b0) j).toInt64))))))) (by omega) (fun i q => (g2_rowL q).trans (hoL2 i q)) (wkd_ad hW2 h8) (by rw [← hR2, drD (show j < (T b0).length by omega), pm2]))
                            exact (L122 ((T b0).length) 0 S1 L1 (by omega) hoL hW rfl)
                      exact (L108 ((T a0).length) 0 zS L102 (by omega) hl102 hw102 rfl)
                    exact fn_sub [0, 1, 2, 3] rfl (L101 (by unfold thi; refine thl_n _ _ _ _ (fun q w1 w2 => ?_); have e5 : q = 5 - (5 - q) := (by omega); first | (rw [e5]; exact hS (5 - q) (by omega)) | (have e0 : T a0 = [] := List.length_eq_zero_iff.mp (by omega); rw [e0]; have w3 := tpl_8 (l := q) hvb (show 0 ≤ 8 by decide); show 0 + _ ≤ 8; omega) | (have e0 : T b0 = [] := List.length_eq_zero_iff.mp (by omega); rw [e0]; have w3 := tpl_8 (l := q) hva (show 0 ≤ 8 by decide); show _ + 0 ≤ 8; omega)))
                  · skip
                    refine fx_aload_n dX11_product_63 rfl (i := 0) rfl ?_
                    refine fw_getr dX11_product_64 fd11_20 rfl rfl ?_
                    refine fx_iload_n dX11_product_67 rfl (i := 3) rfl ?_
                    refine fw_iald b0 dX11_product_68 rfl rfl (by omega) (by decide) ?_
                    refine fn_to (show _ = (nI ((T b0).length)) from ((hM b0 (by omega)).2 htb0).2.1) ?_
                    refine fn_if_le (tgt := 101) dX11_product_69 (by decide) (by omega) (fun c69 => ?_) (fun c69 => ?_)
                    · skip
                      have L101 : (thi (T a0) (T b0) = false) → fv_At Y11_product 3 0 0 Q 101 [(0, .ref 0), (1, .int (nI c0)), (2, .int (nI a0)), (3, .int (nI b0))] [] (fw mT G L) none 0 0 := by
                        intro hth
                        refine fx_aload_n dX11_product_101 rfl (i := 0) rfl ?_
                        refine fx_callV dX11_product_102 lk11_172 fv_c8 rfl (fw_at (show mT 0 = some (3, 8, 38, [some 1, none, some 2, some 3, some 4, some 5, some 6, some 7, some 8, some 9, some 10, some 11, some 12, some 13, some 14, some 15, some 16, some 17, some 18, some 19, none, none, none, some 20, some 21, some 22, some 23, none, some 24, some 25, some 26, some 27, some 28, some 29, some 30, some 31, none, some 32]) from rfl)) (C11_wipe G L) rfl rfl (by decide) (Nat.le_of_ble_eq_true rfl) (by decide) (by decide) (fun r102 f102 al102 h102 => ?_)
                        obtain ⟨L102, rfl, rfl, rfl, hl102, hw102⟩ := h102
                        show fv_At Y11_product 3 0 0 Q 105 [(0, .ref 0), (1, .int (nI c0)), (2, .int (nI a0)), (3, .int (nI b0))] [] (fw mT G L102) none 0 0
                        refine fx_iconst (v := (nI 0)) dX11_product_105 (by decide) ?_
                        refine fx_istore (lv2 := [(0, .ref 0), (1, .int (nI c0)), (2, .int (nI a0)), (3, .int (nI b0)), (4, .int (nI 0))]) dX11_product_106 (by decide) rfl ?_
                        have L108 : ∀ (k : Nat) (i : Nat) (S1 : Nat → Int64) (L1 : Nat → Nat → Int64), (i + k = (T a0).length) → (∀ i, i ≠ 7 → L1 i = L i) → (wkd L1 S1) → (pml (T b0) ((T a0).drop i) S1 = pml (T b0) (T a0) zS) → fv_At Y11_product 3 0 0 Q 108 [(0, .ref 0), (1, .int (nI c0)), (2, .int (nI a0)), (3, .int (nI b0)), (4, .int (nI i))] [] (fw mT G L1) none 0 0 := by
                          intro k
                          induction k with
                          | zero =>
                            intro i S1 L1 hi hoL hW hR
                            refine fx_iload dX11_product_108 rfl ?_
                            refine fx_aload_n dX11_product_110 rfl (i := 0) rfl ?_
                            refine fw_getr dX11_product_111 fd11_20 rfl rfl ?_
                            refine fx_iload_n dX11_product_114 rfl (i := 2) rfl ?_
                            refine fw_iald a0 dX11_product_115 rfl rfl (by omega) (by decide) ?_
                            refine fn_to (show _ = (nI ((T a0).length)) from ((hM a0 (by omega)).2 hta0).2.1) ?_
                            refine fn_icmp_ge (tgt := 210) dX11_product_116 (by decide) (by omega) (by omega) (fun c116 => ?_) (fun c116 => ?_)
                            · skip
                              have e : S1 = pml (T b0) (T a0) zS := by rw [← hR, List.drop_eq_nil_of_le (by omega)]; rfl
                              subst e
                              refine fx_aload_n dX11_product_210 rfl (i := 0) rfl ?_
                              refine fx_iload_n dX11_product_211 rfl (i := 1) rfl ?_
                              refine fx_callV dX11_product_212 lk11_179 fv_c8 rfl (fw_at (show mT 0 = some (3, 8, 38, [some 1, none, some 2, some 3, some 4, some 5, some 6, some 7, some 8, some 9, some 10, some 11, some 12, some 13, some 14, some 15, some 16, some 17, some 18, some 19, none, none, none, some 20, some 21, some 22, some 23, none, some 24, some 25, some 26, some 27, some 28, some 29, some 30, some 31, none, some 32]) from rfl)) (C11_lays G L1 T t (msh_L hM (hoL 6 (by decide))) c0 (by omega) (pml (T b0) (T a0) zS) hW (sok_pml sok_z (thi_ok hva hvb hth))) rfl rfl (by decide) (Nat.le_of_ble_eq_true rfl) (by decide) (by decide) (fun r212 f212 al212 h212 => ?_)
                              have hq := h212
                              obtain ⟨G2, L2, rfl, rfl, rfl, -, -⟩ := h212
                              show fv_At Y11_product 3 0 0 Q 215 [(0, .ref 0), (1, .int (nI c0)), (2, .int (nI a0)), (3, .int (nI b0)), (4, .int (nI i))] [.int (iI (stl (pml (T b0) (T a0) zS)))] (fw mT G2 L2) none 0 0
                              exact fx_iret dX11_product_215 rfl rfl rfl (by rw [hQ]; exact (by rw [hxp0, if_neg (by rw [hth]; decide)]; exact qms_L hq (fun i hi => hoL i (by omega))))
                            · exfalso; omega
                          | succ k ih108 =>
                            intro i S1 L1 hi hoL hW hR
                            refine fx_iload dX11_product_108 rfl ?_
                            refine fx_aload_n dX11_product_110 rfl (i := 0) rfl ?_
                            refine fw_getr dX11_product_111 fd11_20 rfl rfl ?_
                            refine fx_iload_n dX11_product_114 rfl (i := 2) rfl ?_
                            refine fw_iald a0 dX11_product_115 rfl rfl (by omega) (by decide) ?_
                            refine fn_to (show _ = (nI ((T a0).length)) from ((hM a0 (by omega)).2 hta0).2.1) ?_
                            refine fn_icmp_ge (tgt := 210) dX11_product_116 (by decide) (by omega) (by omega) (fun c116 => ?_) (fun c116 => ?_)
                            · exfalso; omega
                            · skip
                              refine fx_iconst (v := (nI 0)) dX11_product_119 (by decide) ?_
                              refine fx_istore (lv2 := [(0, .ref 0), (1, .int (nI c0)), (2, .int (nI a0)), (3, .int (nI b0)), (4, .int (nI i)), (5, .int (nI 0))]) dX11_product_120 (by decide) rfl ?_
                              have L122 : ∀ (k2 : Nat) (j : Nat) (S2 : Nat → Int64) (L2 : Nat → Nat → Int64), (j + k2 = (T b0).length) → (∀ i, i ≠ 7 → L2 i = L i) → (wkd L2 S2) → (pm2 (tx (T a0) i) (tn (T a0) i).toInt64 ((T b0).drop j) S2 = pm2 (tx (T a0) i) (tn (T a0) i).toInt64 (T b0) S1) → fv_At Y11_product 3 0 0 Q 122 [(0, .ref 0), (1, .int (nI c0)), (2, .int (nI a0)), (3, .int (nI b0)), (4, .int (nI i)), (5, .int (nI j))] [] (fw mT G L2) none 0 0 := by
                                intro k2
                                induction k2 with
                                | zero =>
                                  intro j S2 L2 hj hoL2 hW2 hR2
                                  refine fx_iload dX11_product_122 rfl ?_
                                  refine fx_aload_n dX11_product_124 rfl (i := 0) rfl ?_
                                  refine fw_getr dX11_product_125 fd11_20 rfl rfl ?_
                                  refine fx_iload_n dX11_product_128 rfl (i := 3) rfl ?_
                                  refine fw_iald b0 dX11_product_129 rfl rfl (by omega) (by decide) ?_
                                  refine fn_to (show _ = (nI ((T b0).length)) from ((hM b0 (by omega)).2 htb0).2.1) ?_
                                  refine fn_icmp_ge (tgt := 204) dX11_product_130 (by decide) (by omega) (by omega) (fun c130 => ?_) (fun c130 => ?_)
                                  · skip
                                    refine fn_iinc (c := 1) (lv2 := [(0, .ref 0), (1, .int (nI c0)), (2, .int (nI a0)), (3, .int (nI b0)), (4, .int (nI (i + 1))), (5, .int (nI j))]) dX11_product_204 (by decide) rfl (by decide) rfl ?_
                                    refine fx_goto (tgt := 108) dX11_product_207 (by decide) ?_
                                    exact fn_sub [0, 1, 2, 3, 4] rfl (ih108 (i + 1) S2 L2 (by omega) hoL2 hW2 (by rw [← hR, drD (show i < (T a0).length by omega), pml]; rw [List.drop_eq_nil_of_le (show (T b0).length ≤ j by omega)] at hR2; exact congrArg (pml (T b0) ((T a0).drop (i + 1))) hR2))
                                  · exfalso; omega
                                | succ k2 ih122 =>
                                  intro j S2 L2 hj hoL2 hW2 hR2
                                  refine fx_iload dX11_product_122 rfl ?_
                                  refine fx_aload_n dX11_product_124 rfl (i := 0) rfl ?_
                                  refine fw_getr dX11_product_125 fd11_20 rfl rfl ?_
                                  refine fx_iload_n dX11_product_128 rfl (i := 3) rfl ?_
                                  refine fw_iald b0 dX11_product_129 rfl rfl (by omega) (by decide) ?_
                                  refine fn_to (show _ = (nI ((T b0).length)) from ((hM b0 (by omega)).2 htb0).2.1) ?_
                                  refine fn_icmp_ge (tgt := 204) dX11_product_130 (by decide) (by omega) (by omega) (fun c130 => ?_) (fun c130 => ?_)
                                  · exfalso; omega
                                  · skip
                                    have h8 := thi_ok hva hvb hth i (by omega) j (by omega)
                                    have h9 := nin_in h8
                                    have h10 := okc_le h8
                                    refine fx_aload_n dX11_product_133 rfl (i := 0) rfl ?_
                                    refine fw_getr dX11_product_134 fd11_31 rfl rfl ?_
                                    refine fx_aload_n dX11_product_137 rfl (i := 0) rfl ?_
                                    refine fw_getr dX11_product_138 fd11_23 rfl rfl ?_
                                    refine fx_sipush (v := (nI 600)) dX11_product_141 (by decide) ?_
                                    refine fx_iload_n dX11_product_144 rfl (i := 2) rfl ?_
                                    refine fn_imul dX11_product_145 ?_
                                    refine fx_iload dX11_product_146 rfl ?_
                                    refine fn_iadd dX11_product_148 ?_
                                    refine fw_iald ((600 * a0) + i) dX11_product_149 rfl rfl (by omega) (by decide) ?_
                                    refine fn_to (show _ = (nI (tx (T a0) i)) from (((hM a0 (by omega)).2 hta0).2.2 i (by omega)).1) ?_
                                    refine fx_aload_n dX11_product_150 rfl (i := 0) rfl ?_
                                    refine fw_getr dX11_product_151 fd11_23 rfl rfl ?_
                                    refine fx_sipush (v := (nI 600)) dX11_product_154 (by decide) ?_
                                    refine fx_iload_n dX11_product_157 rfl (i := 3) rfl ?_
                                    refine fn_imul dX11_product_158 ?_
                                    refine fx_iload dX11_product_159 rfl ?_
                                    refine fn_iadd dX11_product_161 ?_
                                    refine fw_iald ((600 * b0) + j) dX11_product_162 rfl rfl (by omega) (by decide) ?_
                                    refine fn_to (show _ = (nI (tx (T b0) j)) from (((hM b0 (by omega)).2 htb0).2.2 j (by omega)).1) ?_
                                    refine fn_iadd dX11_product_163 ?_
                                    refine fn_cS dX11_product_164 lk11_154 (C11_placeN ((tx (T a0) i) + (tx (T b0) j)) h8 (fw mT G L2)) rfl rfl (by decide) (Nat.le_of_ble_eq_true rfl) ?_
                                    show fv_At Y11_product 3 0 0 Q 167 [(0, .ref 0), (1, .int (nI c0)), (2, .int (nI a0)), (3, .int (nI b0)), (4, .int (nI i)), (5, .int (nI j))] [.int (nI (nin ((tx (T a0) i) + (tx (T b0) j)))), .ref 7] (fw mT G L2) none 0 0
                                    refine fx_dup2 dX11_product_167 rfl rfl ?_
                                    refine fw_lald (nin ((tx (T a0) i) + (tx (T b0) j))) dX11_product_168 rfl rfl (by omega) (by decide) ?_
                                    refine fn_toL (show _ = (S2 (tx (T a0) i + tx (T b0) j)) from (by rw [hW2 _ h9, nex_nin h8])) ?_
                                    refine fx_aload_n dX11_product_169 rfl (i := 0) rfl ?_
                                    refine fw_getr dX11_product_170 fd11_26 rfl rfl ?_
                                    refine fx_sipush (v := (nI 600)) dX11_product_173 (by decide) ?_
                                    refine fx_iload_n dX11_product_176 rfl (i := 2) rfl ?_
                                    refine fn_imul dX11_product_177 ?_
                                    refine fx_iload dX11_product_178 rfl ?_
                                    refine fn_iadd dX11_product_180 ?_
                                    refine fw_lald ((600 * a0) + i) dX11_product_181 rfl rfl (by omega) (by decide) ?_
                                    refine fn_toL (show _ = ((tn (T a0) i).toInt64) from (by rw [hoL2 6 (by decide)]; exact (((hM a0 (by omega)).2 hta0).2.2 i (by omega)).2)) ?_
                                    refine fx_aload_n dX11_product_182 rfl (i := 0) rfl ?_
                                    refine fw_getr dX11_product_183 fd11_26 rfl rfl ?_
                                    refine fx_sipush (v := (nI 600)) dX11_product_186 (by decide) ?_
                                    refine fx_iload_n dX11_product_189 rfl (i := 3) rfl ?_
                                    refine fn_imul dX11_product_190 ?_
                                    refine fx_iload dX11_product_191 rfl ?_
                                    refine fn_iadd dX11_product_193 ?_
                                    refine fw_lald ((600 * b0) + j) dX11_product_194 rfl rfl (by omega) (by decide) ?_
                                    refine fn_toL (show _ = ((tn (T b0) j).toInt64) from (by rw [hoL2 6 (by decide)]; exact (((hM b0 (by omega)).2 htb0).2.2 j (by omega)).2)) ?_
                                    refine fx_lmul dX11_product_195 ?_
                                    refine fx_ladd dX11_product_196 ?_
                                    refine fw_last (nin ((tx (T a0) i) + (tx (T b0) j))) dX11_product_197 rfl rfl (by omega) (by decide) ?_
                                    refine fn_iinc (c := 1) (lv2 := [(0, .ref 0), (1, .int (nI c0)), (2, .int (nI a0)), (3, .int (nI b0)), (4, .int (nI i)), (5, .int (nI (j + 1)))]) dX11_product_198 (by decide) rfl (by decide) rfl ?_
                                    refine fx_goto (tgt := 122) dX11_product_201 (by decide) ?_
                                    exact (ih122 (j + 1) (adS S2 (tx (T a0) i + tx (T b0) j) ((tn (T a0) i).toInt64 * (tn (T b0) j).toInt64)) (g2 L2 7 (nin ((tx (T a0) i) + (tx (T b0) j))) ((((S2 (tx (T a0) i + tx (T b0) j))) + (((((tn (T a0) i).toInt64)) * (((tn (T b0) j).toInt64))))))) (by omega) (fun i q => (g2_rowL q).trans (hoL2 i q)) (wkd_ad hW2 h8) (by rw [← hR2, drD (show j < (T b0).length by omega), pm2]))
                              exact (L122 ((T b0).length) 0 S1 L1 (by omega) hoL hW rfl)
                        exact (L108 ((T a0).length) 0 zS L102 (by omega) hl102 hw102 rfl)
                      exact fn_sub [0, 1, 2, 3] rfl (L101 (by unfold thi; refine thl_n _ _ _ _ (fun q w1 w2 => ?_); have e5 : q = 5 - (5 - q) := (by omega); first | (rw [e5]; exact hS (5 - q) (by omega)) | (have e0 : T a0 = [] := List.length_eq_zero_iff.mp (by omega); rw [e0]; have w3 := tpl_8 (l := q) hvb (show 0 ≤ 8 by decide); show 0 + _ ≤ 8; omega) | (have e0 : T b0 = [] := List.length_eq_zero_iff.mp (by omega); rw [e0]; have w3 := tpl_8 (l := q) hva (show 0 ≤ 8 by decide); show _ + 0 ≤ 8; omega)))
                    · skip
                      have h8a := tpl_8 (l := 5 - l) hva (show 0 ≤ 8 by decide)
                      have h8b := tpl_8 (l := 5 - l) hvb (show 0 ≤ 8 by decide)
                      refine fx_aload_n dX11_product_72 rfl (i := 0) rfl ?_
                      refine fx_iload_n dX11_product_73 rfl (i := 2) rfl ?_
                      refine fx_iload dX11_product_74 rfl ?_
                      refine fn_cV dX11_product_76 lk11_190 fv_c8 rfl (fw_at (show mT 0 = some (3, 8, 38, [some 1, none, some 2, some 3, some 4, some 5, some 6, some 7, some 8, some 9, some 10, some 11, some 12, some 13, some 14, some 15, some 16, some 17, some 18, some 19, none, none, none, some 20, some 21, some 22, some 23, none, some 24, some 25, some 26, some 27, some 28, some 29, some 30, some 31, none, some 32]) from rfl)) (C11_highest G L T t hM hV a0 (by omega) hta0 l (by omega)) rfl rfl (by decide) (Nat.le_of_ble_eq_true rfl) ?_
                      show fv_At Y11_product 3 0 0 Q 79 [(0, .ref 0), (1, .int (nI c0)), (2, .int (nI a0)), (3, .int (nI b0)), (4, .int (nI l))] [.int (nI (tpl (5 - l) (T a0) 0))] (fw mT G L) none 0 0
                      refine fx_aload_n dX11_product_79 rfl (i := 0) rfl ?_
                      refine fx_iload_n dX11_product_80 rfl (i := 3) rfl ?_
                      refine fx_iload dX11_product_81 rfl ?_
                      refine fn_cV dX11_product_83 lk11_190 fv_c8 rfl (fw_at (show mT 0 = some (3, 8, 38, [some 1, none, some 2, some 3, some 4, some 5, some 6, some 7, some 8, some 9, some 10, some 11, some 12, some 13, some 14, some 15, some 16, some 17, some 18, some 19, none, none, none, some 20, some 21, some 22, some 23, none, some 24, some 25, some 26, some 27, some 28, some 29, some 30, some 31, none, some 32]) from rfl)) (C11_highest G L T t hM hV b0 (by omega) htb0 l (by omega)) rfl rfl (by decide) (Nat.le_of_ble_eq_true rfl) ?_
                      show fv_At Y11_product 3 0 0 Q 86 [(0, .ref 0), (1, .int (nI c0)), (2, .int (nI a0)), (3, .int (nI b0)), (4, .int (nI l))] [.int (nI (tpl (5 - l) (T b0) 0)), .int (nI (tpl (5 - l) (T a0) 0))] (fw mT G L) none 0 0
                      refine fn_iadd dX11_product_86 ?_
                      refine fx_bipush (v := (nI 8)) dX11_product_87 (by decide) ?_
                      refine fn_icmp_le (tgt := 95) dX11_product_89 (by decide) (by omega) (by omega) (fun c89 => ?_) (fun c89 => ?_)
                      · skip
                        refine fn_iinc (c := 1) (lv2 := [(0, .ref 0), (1, .int (nI c0)), (2, .int (nI a0)), (3, .int (nI b0)), (4, .int (nI (l + 1)))]) dX11_product_95 (by decide) rfl (by decide) rfl ?_
                        refine fx_goto (tgt := 48) dX11_product_98 (by decide) ?_
                        exact (ih48 (l + 1) (by omega) (fun q w => by by_cases e : q = l; (rw [e]; omega); exact hS q (by omega)))
                      · skip
                        refine fx_bipush (v := (iI (-4))) dX11_product_92 (by decide) ?_
                        exact fx_iret dX11_product_94 rfl rfl rfl (by rw [hQ]; exact (by rw [show xPro T t (c0 : Int) (a0 : Int) (b0 : Int) = -4 by rw [hxp0]; exact if_pos (thi_t (l := 5 - l) (by omega) (by omega) (by omega))]; exact qms_n hM moff_r (by decide) _ _))
            exact (L48 5 0 (by omega) (fun q w => absurd w (Nat.not_lt_zero _)))
          · skip
            refine fx_bipush (v := (iI (-3))) dX11_product_42 (by decide) ?_
            exact fx_iret dX11_product_44 rfl rfl rfl (by rw [hQ]; exact (by rw [show xPro T t (c0 : Int) (a0 : Int) (b0 : Int) = -3 by unfold xPro; rw [if_pos hin]; exact if_neg (fun q => by simp_all)]; exact qms_n hM moff_r (by decide) _ _))
      · skip
        refine fx_bipush (v := (iI (-2))) dX11_product_21 (by decide) ?_
        exact fx_iret dX11_product_23 rfl rfl rfl (by rw [hQ]; exact (by rw [show xPro T t c a b = -2 by unfold xPro; exact if_neg (fun q => by simp_all)]; exact qms_n hM moff_r (by decide) _ _))
