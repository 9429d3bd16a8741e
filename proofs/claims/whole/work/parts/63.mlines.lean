/-- the points that are told with a first figure 1 -/
def esq (q : Nat) : List Nat := (List.range' 1 (q ^ 4 - 1)).filter (fun p : Nat => decide (evq q p = p))
theorem esq_k : (esq 2).length ≤ 156 ∧ (esq 3).length ≤ 156 ∧ (esq 5).length ≤ 156 := by decide +kernel
theorem esq_l {q : Nat} (h : q = 2 ∨ q = 3 ∨ q = 5) : (esq q).length ≤ 156 := by
  have := esq_k
  rcases h with rfl | rfl | rfl
  · exact this.1
  · exact this.2.1
  · exact this.2.2
theorem esq_m {q j : Nat} (hj : j < (esq q).length) : 1 ≤ (esq q).getD j 0 ∧ (esq q).getD j 0 < q ^ 4 ∧ evq q ((esq q).getD j 0) = (esq q).getD j 0 := by
  have w : (esq q).getD j 0 ∈ esq q := by
    rw [List.getD_eq_getElem?_getD, List.getElem?_eq_getElem hj]
    exact List.getElem_mem hj
  have w2 := List.mem_filter.mp w
  have w3 := List.mem_range'_1.mp w2.1
  exact ⟨w3.1, by omega, of_decide_eq_true w2.2⟩
/-- a line is counted -/
def lcd (q : Nat) (R : Nat → Nat) (b a x : Nat) : Bool := alq q a x (q + 1) 0 && decide (mtq q a x R (q + 1) 0 0 &&& b = b)
def lnI (q : Nat) (R : Nat → Nat) (b : Nat) (E : List Nat) (a : Nat) : Nat → Nat → Nat → Nat
  | 0, _, c => c
  | n + 1, j, c => lnI q R b E a n (j + 1) (c + if lcd q R b a (E.getD j 0) = true then 1 else 0)
theorem lnI_s (q : Nat) (R : Nat → Nat) (b : Nat) (E : List Nat) (a n j c : Nat) : lnI q R b E a (n + 1) j c = lnI q R b E a n (j + 1) (c + if lcd q R b a (E.getD j 0) = true then 1 else 0) := rfl
def lnO (q : Nat) (R : Nat → Nat) (b : Nat) (E : List Nat) : Nat → Nat → Nat → Nat
  | 0, _, c => c
  | n + 1, i, c => lnO q R b E n (i + 1) (lnI q R b E (E.getD i 0) (E.length - (i + 1)) (i + 1) c)
theorem lnO_s (q : Nat) (R : Nat → Nat) (b : Nat) (E : List Nat) (n i c : Nat) : lnO q R b E (n + 1) i c = lnO q R b E n (i + 1) (lnI q R b E (E.getD i 0) (E.length - (i + 1)) (i + 1) c) := rfl
/-- how many lines meet the told rods in the model -/
def lnv (q : Nat) (R : Nat → Nat) (b : Nat) : Nat := lnO q R b (esq q) (esq q).length 0 0

set_option maxRecDepth 4000 in
set_option maxHeartbeats 1000000 in
theorem C11_lines  (G : Nat → Nat → Int32) (L : Nat → Nat → Int64) (q : Nat) (hS : msq G q) (th : Nat → Bool) (ra rb : Nat → Nat) (hD : mrd G q th ra rb) (b : Int) (b1 : -2147483648 ≤ b) (b2 : b < 2147483648) : fv_M Y11_lines 3 0 0 [.ref 0, .int (iI b)] (fw mT G L) none (fun r2 f2 al2 => ∃ G2 : Nat → Nat → Int32, r2 = some (.int (iI (bqv th b (lnv q (rdq q ra rb b.toNat) b.toNat)))) ∧ f2 = fw mT G2 L ∧ al2 = none ∧ ∀ j p, j ≠ 31 → j ≠ 32 → ¬ (j = 0 ∧ p = 36) → G2 j p = G j p) := by
  refine fv_enter rfl (Nat.le_of_ble_eq_true rfl) ?_
  obtain ⟨Q, hQ⟩ : ∃ Q : Option Value → fv_F → Option Nat → Prop, Q = (fun r2 f2 al2 => ∃ G2 : Nat → Nat → Int32, r2 = some (.int (iI (bqv th b (lnv q (rdq q ra rb b.toNat) b.toNat)))) ∧ f2 = fw mT G2 L ∧ al2 = none ∧ ∀ j p, j ≠ 31 → j ≠ 32 → ¬ (j = 0 ∧ p = 36) → G2 j p = G j p) := ⟨_, rfl⟩
  rw [← hQ]
  show fv_At Y11_lines 3 0 0 Q 0 [(0, .ref 0), (1, .int (iI b))] [] (fw mT G L) none 0 0
  have h625 := q4_le hS.2.1
  have hq0 : 0 < q ∧ q ≤ 5 := by have := hS.2.1; omega
  have hel := esq_l hS.2.1
  refine fx_iload_n dX11_lines_0 rfl (i := 1) rfl ?_
  refine fx_i2l dX11_lines_1 ?_
  refine fn_toL (show _ = lI b from lI_of (z := b) (by omega) (by omega)) ?_
  refine fx_lconst (v := 0) dX11_lines_2 (by decide) ?_
  refine fn_toL (show _ = (lI 0) from (by decide)) ?_
  refine fx_ldc2 dX11_lines_3 kc11_269 (fn_toL (show _ = lI (255) by decide) ?_)
  refine fn_cS dX11_lines_6 lk11_126 (C11_in (v := b) (a := 0) (b := 255) (by omega) (by omega) (by omega) (by omega) (by omega) (by omega) (f := (fw mT G L))) rfl rfl (by decide) (Nat.le_of_ble_eq_true rfl) ?_
  show fv_At Y11_lines 3 0 0 Q 9 [(0, .ref 0), (1, .int (iI b))] [.int (bI (decide (0 ≤ b ∧ b ≤ 255)))] (fw mT G L) none 0 0
  refine fn_if_neB (tgt := 15) dX11_lines_9 (by decide) (fun c9 => ?_) (fun c9 => ?_)
  · skip
    have hin := of_decide_eq_true c9
    obtain ⟨b0, rfl⟩ : ∃ z : Nat, b = (z : Int) := ⟨b.toNat, by omega⟩
    show fv_At Y11_lines 3 0 0 Q 15 [(0, .ref 0), (1, .int (nI b0))] [] (fw mT G L) none 0 0
    refine fx_aload_n dX11_lines_15 rfl (i := 0) rfl ?_
    refine fx_iload_n dX11_lines_16 rfl (i := 1) rfl ?_
    refine fn_cV dX11_lines_17 lk11_271 fv_c8 rfl (fw_at (show mT 0 = some (3, 8, 38, [some 1, none, some 2, some 3, some 4, some 5, some 6, some 7, some 8, some 9, some 10, some 11, some 12, some 13, some 14, some 15, some 16, some 17, some 18, some 19, none, none, none, some 20, some 21, some 22, some 23, none, some 24, some 25, some 26, some 27, some 28, some 29, some 30, some 31, none, some 32]) from rfl)) (C11_areThere G L th hD.1 b0 (by omega)) rfl rfl (by decide) (Nat.le_of_ble_eq_true rfl) ?_
    show fv_At Y11_lines 3 0 0 Q 20 [(0, .ref 0), (1, .int (nI b0))] [.int (bI (atq th b0))] (fw mT G L) none 0 0
    refine fn_if_neB (tgt := 26) dX11_lines_20 (by decide) (fun c20 => ?_) (fun c20 => ?_)
    · skip
      refine fx_aload_n dX11_lines_26 rfl (i := 0) rfl ?_
      refine fx_iload_n dX11_lines_27 rfl (i := 1) rfl ?_
      refine fx_callV dX11_lines_28 lk11_274 fv_c8 rfl (fw_at (show mT 0 = some (3, 8, 38, [some 1, none, some 2, some 3, some 4, some 5, some 6, some 7, some 8, some 9, some 10, some 11, some 12, some 13, some 14, some 15, some 16, some 17, some 18, some 19, none, none, none, some 20, some 21, some 22, some 23, none, some 24, some 25, some 26, some 27, some 28, some 29, some 30, some 31, none, some 32]) from rfl)) (C11_lookAtRods G L q hS th ra rb hD b0 (by omega) (atq_h c20)) rfl rfl (by decide) (Nat.le_of_ble_eq_true rfl) (by decide) (by decide) (fun r28 f28 al28 h28 => ?_)
      obtain ⟨G28, rfl, rfl, rfl, ho28, hr28⟩ := h28
      show fv_At Y11_lines 3 0 0 Q 31 [(0, .ref 0), (1, .int (nI b0))] [] (fw mT G28 L) none 0 0
      have hS28 : msq G28 q := msq_k hS (by rw [ho28 0 (by decide)]) (ho28 29 (by decide)) (ho28 30 (by decide))
      have hbv : ((b0 : Nat) : Int).toNat = b0 := Int.toNat_natCast b0
      obtain ⟨R, hRe⟩ : ∃ z, z = rdq q ra rb b0 := ⟨_, rfl⟩
      rw [← hRe] at hr28
      have hq4 := Nat.pow_pos (n := 4) hq0.1
      obtain ⟨E, hE⟩ : ∃ z, z = esq q := ⟨_, rfl⟩
      rw [← hE] at hel
      have hEm : ∀ j, j < E.length → E.getD j 0 < q ^ 4 := fun j h => by rw [hE] at h ⊢; exact (esq_m h).2.1
      refine fx_iconst (v := (nI 0)) dX11_lines_31 (by decide) ?_
      refine fx_istore_n (lv2 := [(0, .ref 0), (1, .int (nI b0)), (2, .int (nI 0))]) dX11_lines_32 (i := 2) rfl (by decide) rfl ?_
      refine fx_iconst (v := (nI 1)) dX11_lines_33 (by decide) ?_
      refine fx_istore_n (lv2 := [(0, .ref 0), (1, .int (nI b0)), (2, .int (nI 0)), (3, .int (nI 1))]) dX11_lines_34 (i := 3) rfl (by decide) rfl ?_
      have L35 : ∀ (j1 : Nat) (P : Nat) (p : Nat) (pl : List Nat) (G1 : Nat → Nat → Int32), (p + j1 = q ^ 4 ∧ 1 ≤ p) → (pl ++ (List.range' p j1).filter (fun p : Nat => decide (evq q p = p)) = E) → (P = pl.length) → (∀ x, x < P → G1 32 x = nI (pl.getD x 0)) → (∀ i, i ≠ 32 → G1 i = G28 i) → fv_At Y11_lines 3 0 0 Q 35 [(0, .ref 0), (1, .int (nI b0)), (2, .int (nI P)), (3, .int (nI p))] [] (fw mT G1 L) none 0 0 := by
        intro j1
        induction j1 with
        | zero =>
          intro P p pl G1 hp hpl hn hbx hoG1
          have hS1 : msq G1 q := msq_k hS28 (by rw [hoG1 0 (by decide)]) (hoG1 29 (by decide)) (hoG1 30 (by decide))
          refine fx_iload_n dX11_lines_35 rfl (i := 3) rfl ?_
          refine fx_aload_n dX11_lines_36 rfl (i := 0) rfl ?_
          refine fw_geti dX11_lines_37 fd11_116 rfl rfl ?_
          refine fn_to (show _ = (nI q) from hS1.1) ?_
          refine fx_aload_n dX11_lines_40 rfl (i := 0) rfl ?_
          refine fw_geti dX11_lines_41 fd11_116 rfl rfl ?_
          refine fn_to (show _ = (nI q) from hS1.1) ?_
          refine fn_imul dX11_lines_44 ?_
          refine fx_aload_n dX11_lines_45 rfl (i := 0) rfl ?_
          refine fw_geti dX11_lines_46 fd11_116 rfl rfl ?_
          refine fn_to (show _ = (nI q) from hS1.1) ?_
          refine fn_imul dX11_lines_49 ?_
          refine fx_aload_n dX11_lines_50 rfl (i := 0) rfl ?_
          refine fw_geti dX11_lines_51 fd11_116 rfl rfl ?_
          refine fn_to (show _ = (nI q) from hS1.1) ?_
          refine fn_imul dX11_lines_54 ?_
          refine fn_to (show _ = (nI (q ^ 4)) from (congrArg nI (q4_e q))) ?_
          refine fn_icmp_ge (tgt := 83) dX11_lines_55 (by decide) (by omega) (by omega) (fun c55 => ?_) (fun c55 => ?_)
          · skip
            have hplE : pl = E := by rw [← hpl]; exact (List.append_nil _).symm
            have hPl : P = E.length := by rw [← hplE]; exact hn
            have hbx2 : ∀ x, x < E.length → G1 32 x = nI (E.getD x 0) := by rw [← hplE]; intro x h; exact hbx x (by omega)
            refine fx_iconst (v := (nI 0)) dX11_lines_83 (by decide) ?_
            refine fx_istore_n (lv2 := [(0, .ref 0), (1, .int (nI b0)), (2, .int (nI P)), (3, .int (nI 0))]) dX11_lines_84 (i := 3) rfl (by decide) rfl ?_
            refine fx_iconst (v := (nI 0)) dX11_lines_85 (by decide) ?_
            refine fx_istore (lv2 := [(0, .ref 0), (1, .int (nI b0)), (2, .int (nI P)), (3, .int (nI 0)), (4, .int (nI 0))]) dX11_lines_86 (by decide) rfl ?_
            have L88 : ∀ (j2 : Nat) (c : Nat) (i : Nat) (G2 : Nat → Nat → Int32), (i + j2 = P) → (∀ j p, ¬ (j = 0 ∧ p = 36) → G2 j p = G1 j p) → (lnO q R b0 E j2 i c = lnO q R b0 E E.length 0 0) → fv_At Y11_lines 3 0 0 Q 88 [(0, .ref 0), (1, .int (nI b0)), (2, .int (nI P)), (3, .int (nI c)), (4, .int (nI i))] [] (fw mT G2 L) none 0 0 := by
              intro j2
              induction j2 with
              | zero =>
                intro c i G2 hi ho1 hR
                refine fx_iload dX11_lines_88 rfl ?_
                refine fx_iload_n dX11_lines_90 rfl (i := 2) rfl ?_
                refine fn_icmp_ge (tgt := 157) dX11_lines_91 (by decide) (by omega) (by omega) (fun c91 => ?_) (fun c91 => ?_)
                · skip
                  refine fx_iload_n dX11_lines_157 rfl (i := 3) rfl ?_
                  exact fx_iret dX11_lines_158 rfl rfl rfl (by rw [hQ]; exact ⟨G2, by unfold bqv lnv; rw [if_pos hin, hbv, if_pos c20, ← hRe, ← hE, ← hR]; rfl, rfl, rfl, fun j p a b c => by rw [ho1 j p c, hoG1 j b, ho28 j a]⟩)
                · exfalso; omega
              | succ j2 ih88 =>
                intro c i G2 hi ho1 hR
                refine fx_iload dX11_lines_88 rfl ?_
                refine fx_iload_n dX11_lines_90 rfl (i := 2) rfl ?_
                refine fn_icmp_ge (tgt := 157) dX11_lines_91 (by decide) (by omega) (by omega) (fun c91 => ?_) (fun c91 => ?_)
                · exfalso; omega
                · skip
                  refine fx_iload dX11_lines_94 rfl ?_
                  refine fx_iconst (v := (nI 1)) dX11_lines_96 (by decide) ?_
                  refine fn_iadd dX11_lines_97 ?_
                  refine fx_istore (lv2 := [(0, .ref 0), (1, .int (nI b0)), (2, .int (nI P)), (3, .int (nI c)), (4, .int (nI i)), (5, .int (nI (i + 1)))]) dX11_lines_98 (by decide) rfl ?_
                  have L100 : ∀ (j3 : Nat) (d : Nat) (j : Nat) (G3 : Nat → Nat → Int32), (j + j3 = P ∧ i < j) → (∀ j p, ¬ (j = 0 ∧ p = 36) → G3 j p = G1 j p) → (lnI q R b0 E (E.getD i 0) j3 j d = lnI q R b0 E (E.getD i 0) j2 (i + 1) c) → fv_At Y11_lines 3 0 0 Q 100 [(0, .ref 0), (1, .int (nI b0)), (2, .int (nI P)), (3, .int (nI d)), (4, .int (nI i)), (5, .int (nI j))] [] (fw mT G3 L) none 0 0 := by
                    intro j3
                    induction j3 with
                    | zero =>
                      intro d j G3 hj ho2 hR2
                      refine fx_iload dX11_lines_100 rfl ?_
                      refine fx_iload_n dX11_lines_102 rfl (i := 2) rfl ?_
                      refine fn_icmp_ge (tgt := 151) dX11_lines_103 (by decide) (by omega) (by omega) (fun c103 => ?_) (fun c103 => ?_)
                      · skip
                        refine fn_iinc (c := 1) (lv2 := [(0, .ref 0), (1, .int (nI b0)), (2, .int (nI P)), (3, .int (nI d)), (4, .int (nI (i + 1))), (5, .int (nI j))]) dX11_lines_151 (by decide) rfl (by decide) rfl ?_
                        refine fx_goto (tgt := 88) dX11_lines_154 (by decide) ?_
                        exact fn_sub [0, 1, 2, 3, 4] rfl (ih88 d (i + 1) G3 (by omega) ho2 (by rw [← hR, lnO_s, show E.length - (i + 1) = j2 by omega, ← hR2]; rfl))
                      · exfalso; omega
                    | succ j3 ih100 =>
                      intro d j G3 hj ho2 hR2
                      refine fx_iload dX11_lines_100 rfl ?_
                      refine fx_iload_n dX11_lines_102 rfl (i := 2) rfl ?_
                      refine fn_icmp_ge (tgt := 151) dX11_lines_103 (by decide) (by omega) (by omega) (fun c103 => ?_) (fun c103 => ?_)
                      · exfalso; omega
                      · skip
                        have hS2 : msq G3 q := msq_k hS1 (ho2 0 27 (by decide)) (funext (fun p => ho2 29 p (by omega))) (funext (fun p => ho2 30 p (by omega)))
                        have hN2 : ∀ x, x < 625 → G3 31 x = nI (R x) := fun x h => (ho2 31 x (by omega)).trans ((congrFun (hoG1 31 (by decide)) x).trans (hr28 x h))
                        have hei := hEm i (by omega)
                        have hej := hEm j (by omega)
                        refine fx_iload_n dX11_lines_106 rfl (i := 3) rfl ?_
                        refine fx_aload_n dX11_lines_107 rfl (i := 0) rfl ?_
                        refine fx_aload_n dX11_lines_108 rfl (i := 0) rfl ?_
                        refine fw_getr dX11_lines_109 fd11_106 rfl rfl ?_
                        refine fx_iload dX11_lines_112 rfl ?_
                        refine fw_iald i dX11_lines_114 rfl rfl (by omega) (by decide) ?_
                        refine fn_to (show _ = (nI (E.getD i 0)) from ((ho2 32 i (by omega)).trans (hbx2 i (by omega)))) ?_
                        refine fx_aload_n dX11_lines_115 rfl (i := 0) rfl ?_
                        refine fw_getr dX11_lines_116 fd11_106 rfl rfl ?_
                        refine fx_iload dX11_lines_119 rfl ?_
                        refine fw_iald j dX11_lines_121 rfl rfl (by omega) (by decide) ?_
                        refine fn_to (show _ = (nI (E.getD j 0)) from ((ho2 32 j (by omega)).trans (hbx2 j (by omega)))) ?_
                        refine fx_callV dX11_lines_122 lk11_277 fv_c8 rfl (fw_at (show mT 0 = some (3, 8, 38, [some 1, none, some 2, some 3, some 4, some 5, some 6, some 7, some 8, some 9, some 10, some 11, some 12, some 13, some 14, some 15, some 16, some 17, some 18, some 19, none, none, none, some 20, some 21, some 22, some 23, none, some 24, some 25, some 26, some 27, some 28, some 29, some 30, some 31, none, some 32]) from rfl)) (C11_areLeast G3 L q hS2 R hN2 (E.getD i 0) (E.getD j 0) (by omega) (by omega)) rfl rfl (by decide) (Nat.le_of_ble_eq_true rfl) (by decide) (by decide) (fun r122 f122 al122 h122 => ?_)
                        obtain ⟨G122, rfl, rfl, rfl, ho122, hq122⟩ := h122
                        show fv_At Y11_lines 3 0 0 Q 125 [(0, .ref 0), (1, .int (nI b0)), (2, .int (nI P)), (3, .int (nI d)), (4, .int (nI i)), (5, .int (nI j))] [.int (bI (alq q (E.getD i 0) (E.getD j 0) (q + 1) 0)), .int (nI d)] (fw mT G122 L) none 0 0
                        refine fn_if_eqB (tgt := 142) dX11_lines_125 (by decide) (fun c125 => ?_) (fun c125 => ?_)
                        · skip
                          refine fx_iconst (v := (nI 0)) dX11_lines_142 (by decide) ?_
                          refine fn_iadd dX11_lines_143 ?_
                          refine fn_to (show _ = (nI (d + if lcd q R b0 (E.getD i 0) (E.getD j 0) = true then 1 else 0)) from (by unfold lcd; first | (rw [c125, Bool.false_and]; rfl) | (rw [c125, Bool.true_and, decide_eq_true c135]; rfl) | (rw [c125, Bool.true_and, decide_eq_false c135]; rfl))) ?_
                          refine fx_istore_n (lv2 := [(0, .ref 0), (1, .int (nI b0)), (2, .int (nI P)), (3, .int (nI (d + if lcd q R b0 (E.getD i 0) (E.getD j 0) = true then 1 else 0))), (4, .int (nI i)), (5, .int (nI j))]) dX11_lines_144 (i := 3) rfl (by decide) rfl ?_
                          refine fn_iinc (c := 1) (lv2 := [(0, .ref 0), (1, .int (nI b0)), (2, .int (nI P)), (3, .int (nI (d + if lcd q R b0 (E.getD i 0) (E.getD j 0) = true then 1 else 0))), (4, .int (nI i)), (5, .int (nI (j + 1)))]) dX11_lines_145 (by decide) rfl (by decide) rfl ?_
                          refine fx_goto (tgt := 100) dX11_lines_148 (by decide) ?_
                          exact (ih100 (d + if lcd q R b0 (E.getD i 0) (E.getD j 0) = true then 1 else 0) (j + 1) G122 (by omega) (fun x y h => (ho122 x y h).trans (ho2 x y h)) (by rw [← hR2, lnI_s]))
                        · skip
                          refine fx_aload_n dX11_lines_128 rfl (i := 0) rfl ?_
                          refine fw_geti dX11_lines_129 fd11_266 rfl rfl ?_
                          refine fn_to (show _ = (nI (mtq q (E.getD i 0) (E.getD j 0) R (q + 1) 0 0)) from (hq122 c125)) ?_
                          refine fx_iload_n dX11_lines_132 rfl (i := 1) rfl ?_
                          refine fx_iand dX11_lines_133 ?_
                          refine fn_to (show _ = (nI (mtq q (E.getD i 0) (E.getD j 0) R (q + 1) 0 0 &&& b0)) from (nI_and _ _)) ?_
                          have hal := Nat.and_le_right (n := mtq q (E.getD i 0) (E.getD j 0) R (q + 1) 0 0) (m := b0)
                          refine fx_iload_n dX11_lines_134 rfl (i := 1) rfl ?_
                          refine fn_icmp_ne (tgt := 142) dX11_lines_135 (by decide) (by omega) (by omega) (fun c135 => ?_) (fun c135 => ?_)
                          · skip
                            refine fx_iconst (v := (nI 0)) dX11_lines_142 (by decide) ?_
                            refine fn_iadd dX11_lines_143 ?_
                            refine fn_to (show _ = (nI (d + if lcd q R b0 (E.getD i 0) (E.getD j 0) = true then 1 else 0)) from (by unfold lcd; first | (rw [c125, Bool.false_and]; rfl) | (rw [c125, Bool.true_and, decide_eq_true c135]; rfl) | (rw [c125, Bool.true_and, decide_eq_false c135]; rfl))) ?_
                            refine fx_istore_n (lv2 := [(0, .ref 0), (1, .int (nI b0)), (2, .int (nI P)), (3, .int (nI (d + if lcd q R b0 (E.getD i 0) (E.getD j 0) = true then 1 else 0))), (4, .int (nI i)), (5, .int (nI j))]) dX11_lines_144 (i := 3) rfl (by decide) rfl ?_
                            refine fn_iinc (c := 1) (lv2 := [(0, .ref 0), (1, .int (nI b0)), (2, .int (nI P)), (3, .int (nI (d + if lcd q R b0 (E.getD i 0) (E.getD j 0) = true then 1 else 0))), (4, .int (nI i)), (5, .int (nI (j + 1)))]) dX11_lines_145 (by decide) rfl (by decide) rfl ?_
                            refine fx_goto (tgt := 100) dX11_lines_148 (by decide) ?_
                            exact (ih100 (d + if lcd q R b0 (E.getD i 0) (E.getD j 0) = true then 1 else 0) (j + 1) G122 (by omega) (fun x y h => (ho122 x y h).trans (ho2 x y h)) (by rw [← hR2, lnI_s]))
                          · skip
                            refine fx_iconst (v := (nI 1)) dX11_lines_138 (by decide) ?_
                            refine fx_goto (tgt := 143) dX11_lines_139 (by decide) ?_
                            refine fn_iadd dX11_lines_143 ?_
                            refine fn_to (show _ = (nI (d + if lcd q R b0 (E.getD i 0) (E.getD j 0) = true then 1 else 0)) from (by unfold lcd; first | (rw [c125, Bool.false_and]; rfl) | (rw [c125, Bool.true_and, decide_eq_true c135]; rfl) | (rw [c125, Bool.true_and, decide_eq_false c135]; rfl))) ?_
                            refine fx_istore_n (lv2 := [(0, .ref 0), (1, .int (nI b0)), (2, .int (nI P)), (3, .int (nI (d + if lcd q R b0 (E.getD i 0) (E.getD j 0) = true then 1 else 0))), (4, .int (nI i)), (5, .int (nI j))]) dX11_lines_144 (i := 3) rfl (by decide) rfl ?_
                            refine fn_iinc (c := 1) (lv2 := [(0, .ref 0), (1, .int (nI b0)), (2, .int (nI P)), (3, .int (nI (d + if lcd q R b0 (E.getD i 0) (E.getD j 0) = true then 1 else 0))), (4, .int (nI i)), (5, .int (nI (j + 1)))]) dX11_lines_145 (by decide) rfl (by decide) rfl ?_
                            refine fx_goto (tgt := 100) dX11_lines_148 (by decide) ?_
                            exact (ih100 (d + if lcd q R b0 (E.getD i 0) (E.getD j 0) = true then 1 else 0) (j + 1) G122 (by omega) (fun x y h => (ho122 x y h).trans (ho2 x y h)) (by rw [← hR2, lnI_s]))
                  exact (L100 (P - (i + 1)) c (i + 1) G2 (by omega) ho1 (by rw [show P - (i + 1) = j2 by omega]))
            exact (L88 P 0 0 G1 (by omega) (fun _ _ _ => rfl) (by rw [hPl]))
          · exfalso; omega
        | succ j1 ih35 =>
          intro P p pl G1 hp hpl hn hbx hoG1
          have hS1 : msq G1 q := msq_k hS28 (by rw [hoG1 0 (by decide)]) (hoG1 29 (by decide)) (hoG1 30 (by decide))
          refine fx_iload_n dX11_lines_35 rfl (i := 3) rfl ?_
          refine fx_aload_n dX11_lines_36 rfl (i := 0) rfl ?_
          refine fw_geti dX11_lines_37 fd11_116 rfl rfl ?_
          refine fn_to (show _ = (nI q) from hS1.1) ?_
          refine fx_aload_n dX11_lines_40 rfl (i := 0) rfl ?_
          refine fw_geti dX11_lines_41 fd11_116 rfl rfl ?_
          refine fn_to (show _ = (nI q) from hS1.1) ?_
          refine fn_imul dX11_lines_44 ?_
          refine fx_aload_n dX11_lines_45 rfl (i := 0) rfl ?_
          refine fw_geti dX11_lines_46 fd11_116 rfl rfl ?_
          refine fn_to (show _ = (nI q) from hS1.1) ?_
          refine fn_imul dX11_lines_49 ?_
          refine fx_aload_n dX11_lines_50 rfl (i := 0) rfl ?_
          refine fw_geti dX11_lines_51 fd11_116 rfl rfl ?_
          refine fn_to (show _ = (nI q) from hS1.1) ?_
          refine fn_imul dX11_lines_54 ?_
          refine fn_to (show _ = (nI (q ^ 4)) from (congrArg nI (q4_e q))) ?_
          refine fn_icmp_ge (tgt := 83) dX11_lines_55 (by decide) (by omega) (by omega) (fun c55 => ?_) (fun c55 => ?_)
          · exfalso; omega
          · skip
            have hev := evq_lt (q := q) hq0.1 (p := p) (by omega)
            refine fx_aload_n dX11_lines_58 rfl (i := 0) rfl ?_
            refine fx_iload_n dX11_lines_59 rfl (i := 3) rfl ?_
            refine fn_cV dX11_lines_60 lk11_251 fv_c8 rfl (fw_at (show mT 0 = some (3, 8, 38, [some 1, none, some 2, some 3, some 4, some 5, some 6, some 7, some 8, some 9, some 10, some 11, some 12, some 13, some 14, some 15, some 16, some 17, some 18, some 19, none, none, none, some 20, some 21, some 22, some 23, none, some 24, some 25, some 26, some 27, some 28, some 29, some 30, some 31, none, some 32]) from rfl)) (C11_evened G1 L q hS1 p (by omega)) rfl rfl (by decide) (Nat.le_of_ble_eq_true rfl) ?_
            show fv_At Y11_lines 3 0 0 Q 63 [(0, .ref 0), (1, .int (nI b0)), (2, .int (nI P)), (3, .int (nI p))] [.int (nI (evq q p))] (fw mT G1 L) none 0 0
            refine fx_iload_n dX11_lines_63 rfl (i := 3) rfl ?_
            refine fn_icmp_ne (tgt := 77) dX11_lines_64 (by decide) (by omega) (by omega) (fun c64 => ?_) (fun c64 => ?_)
            · skip
              refine fn_iinc (c := 1) (lv2 := [(0, .ref 0), (1, .int (nI b0)), (2, .int (nI P)), (3, .int (nI (p + 1)))]) dX11_lines_77 (by decide) rfl (by decide) rfl ?_
              refine fx_goto (tgt := 35) dX11_lines_80 (by decide) ?_
              exact (ih35 P (p + 1) pl G1 (by omega) (by rw [← hpl, r1_s, List.filter_cons, if_neg (fun w => c64 (of_decide_eq_true w))]) hn hbx hoG1)
            · skip
              have hfs : (List.range' p (j1 + 1)).filter (fun p : Nat => decide (evq q p = p)) = p :: (List.range' (p + 1) j1).filter (fun p : Nat => decide (evq q p = p)) := by rw [r1_s, List.filter_cons, if_pos (decide_eq_true c64)]
              have hln : pl.length + ((List.range' (p + 1) j1).filter (fun p : Nat => decide (evq q p = p))).length + 1 = E.length := by rw [← hpl, List.length_append, hfs, List.length_cons]; omega
              refine fx_aload_n dX11_lines_67 rfl (i := 0) rfl ?_
              refine fw_getr dX11_lines_68 fd11_106 rfl rfl ?_
              refine fx_iload_n dX11_lines_71 rfl (i := 2) rfl ?_
              refine fx_iload_n dX11_lines_72 rfl (i := 3) rfl ?_
              refine fw_iast P dX11_lines_73 rfl rfl (by omega) (by decide) ?_
              refine fn_iinc (c := 1) (lv2 := [(0, .ref 0), (1, .int (nI b0)), (2, .int (nI (P + 1))), (3, .int (nI p))]) dX11_lines_74 (by decide) rfl (by decide) rfl ?_
              refine fn_iinc (c := 1) (lv2 := [(0, .ref 0), (1, .int (nI b0)), (2, .int (nI (P + 1))), (3, .int (nI (p + 1)))]) dX11_lines_77 (by decide) rfl (by decide) rfl ?_
              refine fx_goto (tgt := 35) dX11_lines_80 (by decide) ?_
              exact (ih35 (P + 1) (p + 1) (pl ++ [p]) (g2 G1 32 P ((nI p))) (by omega) (by rw [← hpl, hfs, List.append_assoc]; rfl) (by rw [List.length_append, hn]; rfl) (fun x h => by by_cases z : x = P; (rw [z, g2_eq, hn, gdN_e]); rw [g2_ne _ _ (by omega), gdN_l _ _ (by omega)]; exact hbx x (by omega)) (fun i h => (g2_row _ _ h).trans (hoG1 i h)))
      exact (L35 (q ^ 4 - 1) 0 1 ([]) G28 (by omega) (by rw [List.nil_append, hE]; rfl) rfl (fun x h => absurd h (Nat.not_lt_zero _)) (fun _ _ => rfl))
    · skip
      refine fx_bipush (v := (iI (-3))) dX11_lines_23 (by decide) ?_
      exact fx_iret dX11_lines_25 rfl rfl rfl (by rw [hQ]; exact ⟨G, by unfold bqv; rw [if_pos hin, Int.toNat_natCast, if_neg (by rw [c20]; decide)], rfl, rfl, fun _ _ _ _ _ => rfl⟩)
  · skip
    refine fx_bipush (v := (iI (-2))) dX11_lines_12 (by decide) ?_
    exact fx_iret dX11_lines_14 rfl rfl rfl (by rw [hQ]; exact ⟨G, by unfold bqv; rw [if_neg (of_decide_eq_false c9)], rfl, rfl, fun _ _ _ _ _ => rfl⟩)
