theorem q4_e (q : Nat) : q * q * q * q = q ^ 4 := by
  rw [show q ^ 4 = q ^ 1 * q * q * q from rfl, Nat.pow_one]
theorem fgq_z {q p : Nat} (h : q = 2 ∨ q = 3 ∨ q = 5) (hp : p < q ^ 4) (hz : ∀ k, k < 4 → fgq q p k = 0) : p = 0 := by
  have h0 := hz 0 (by decide)
  have h1 := hz 1 (by decide)
  have h2 := hz 2 (by decide)
  have h3 := hz 3 (by decide)
  rcases h with rfl | rfl | rfl
  · have a0 : p / 8 % 2 = 0 := h0
    have a1 : p / 4 % 2 = 0 := h1
    have a2 : p / 2 % 2 = 0 := h2
    have a3 : p / 1 % 2 = 0 := h3
    have hp2 : p < 16 := hp
    omega
  · have a0 : p / 27 % 3 = 0 := h0
    have a1 : p / 9 % 3 = 0 := h1
    have a2 : p / 3 % 3 = 0 := h2
    have a3 : p / 1 % 3 = 0 := h3
    have hp2 : p < 81 := hp
    omega
  · have a0 : p / 125 % 5 = 0 := h0
    have a1 : p / 25 % 5 = 0 := h1
    have a2 : p / 5 % 5 = 0 := h2
    have a3 : p / 1 % 5 = 0 := h3
    have hp2 : p < 625 := hp
    omega
theorem fkl_s (q p n k : Nat) : fkl q p (n + 1) k = if fgq q p k = 0 then fkl q p n (k + 1) else k := rfl

set_option maxRecDepth 4000 in
set_option maxHeartbeats 1000000 in
theorem C11_lookAtPoints  (G : Nat → Nat → Int32) (L : Nat → Nat → Int64) (q : Nat) (hq : G 0 27 = nI q) (hq2 : q = 2 ∨ q = 3 ∨ q = 5) : fv_M Y11_lookAtPoints 1 0 0 [.ref 0] (fw mT G L) none (fun r2 f2 al2 => ∃ G2 : Nat → Nat → Int32, r2 = none ∧ f2 = fw mT G2 L ∧ al2 = none ∧ (∀ i, i ≠ 29 → i ≠ 30 → G2 i = G i) ∧ msq G2 q) := by
  refine fv_enter rfl (Nat.le_of_ble_eq_true rfl) ?_
  obtain ⟨Q, hQ⟩ : ∃ Q : Option Value → fv_F → Option Nat → Prop, Q = (fun r2 f2 al2 => ∃ G2 : Nat → Nat → Int32, r2 = none ∧ f2 = fw mT G2 L ∧ al2 = none ∧ (∀ i, i ≠ 29 → i ≠ 30 → G2 i = G i) ∧ msq G2 q) := ⟨_, rfl⟩
  rw [← hQ]
  show fv_At Y11_lookAtPoints 1 0 0 Q 0 [(0, .ref 0)] [] (fw mT G L) none 0 0
  have h625 := q4_le hq2
  refine fx_aload_n dX11_lookAtPoints_0 rfl (i := 0) rfl ?_
  refine fw_geti dX11_lookAtPoints_1 fd11_116 rfl rfl ?_
  refine fn_to (show _ = (nI q) from hq) ?_
  refine fx_aload_n dX11_lookAtPoints_4 rfl (i := 0) rfl ?_
  refine fw_geti dX11_lookAtPoints_5 fd11_116 rfl rfl ?_
  refine fn_to (show _ = (nI q) from hq) ?_
  refine fn_imul dX11_lookAtPoints_8 ?_
  refine fx_aload_n dX11_lookAtPoints_9 rfl (i := 0) rfl ?_
  refine fw_geti dX11_lookAtPoints_10 fd11_116 rfl rfl ?_
  refine fn_to (show _ = (nI q) from hq) ?_
  refine fn_imul dX11_lookAtPoints_13 ?_
  refine fx_aload_n dX11_lookAtPoints_14 rfl (i := 0) rfl ?_
  refine fw_geti dX11_lookAtPoints_15 fd11_116 rfl rfl ?_
  refine fn_to (show _ = (nI q) from hq) ?_
  refine fn_imul dX11_lookAtPoints_18 ?_
  refine fn_to (show _ = (nI (q ^ 4)) from (congrArg nI (q4_e q))) ?_
  refine fx_istore_n (lv2 := [(0, .ref 0), (1, .int (nI (q ^ 4)))]) dX11_lookAtPoints_19 (i := 1) rfl (by decide) rfl ?_
  refine fx_iconst (v := (nI 0)) dX11_lookAtPoints_20 (by decide) ?_
  refine fx_istore_n (lv2 := [(0, .ref 0), (1, .int (nI (q ^ 4))), (2, .int (nI 0))]) dX11_lookAtPoints_21 (i := 2) rfl (by decide) rfl ?_
  have L22 : ∀ (j1 : Nat) (p : Nat) (G1 : Nat → Nat → Int32), (p + j1 = q ^ 4) → (∀ i, i ≠ 29 → i ≠ 30 → G1 i = G i) → (∀ p2, p2 < p → ∀ k, k < 4 → G1 29 (4 * p2 + k) = nI (fgq q p2 k)) → (∀ p2, p2 < p → G1 30 p2 = nI p2) → fv_At Y11_lookAtPoints 1 0 0 Q 22 [(0, .ref 0), (1, .int (nI (q ^ 4))), (2, .int (nI p))] [] (fw mT G1 L) none 0 0 := by
    intro j1
    induction j1 with
    | zero =>
      intro p G1 hp hoG1 hF1 hE1
      refine fx_iload_n dX11_lookAtPoints_22 rfl (i := 2) rfl ?_
      refine fx_iload_n dX11_lookAtPoints_23 rfl (i := 1) rfl ?_
      refine fn_icmp_ge (tgt := 80) dX11_lookAtPoints_24 (by decide) (by omega) (by omega) (fun c24 => ?_) (fun c24 => ?_)
      · skip
        refine fx_iconst (v := (nI 1)) dX11_lookAtPoints_80 (by decide) ?_
        refine fx_istore_n (lv2 := [(0, .ref 0), (1, .int (nI (q ^ 4))), (2, .int (nI 1))]) dX11_lookAtPoints_81 (i := 2) rfl (by decide) rfl ?_
        have L82 : ∀ (j3 : Nat) (p : Nat) (G3 : Nat → Nat → Int32), (p + j3 = q ^ 4 ∧ 1 ≤ p) → (∀ i, i ≠ 29 → i ≠ 30 → G3 i = G i) → (mfg G3 q) → (∀ p2, p2 < q ^ 4 → G3 30 p2 = nI (if p2 < p then evq q p2 else p2)) → fv_At Y11_lookAtPoints 1 0 0 Q 82 [(0, .ref 0), (1, .int (nI (q ^ 4))), (2, .int (nI p))] [] (fw mT G3 L) none 0 0 := by
          intro j3
          induction j3 with
          | zero =>
            intro p G3 hp3 hoG3 hF3 hE3
            refine fx_iload_n dX11_lookAtPoints_82 rfl (i := 2) rfl ?_
            refine fx_iload_n dX11_lookAtPoints_83 rfl (i := 1) rfl ?_
            refine fn_icmp_ge (tgt := 178) dX11_lookAtPoints_84 (by decide) (by omega) (by omega) (fun c84 => ?_) (fun c84 => ?_)
            · skip
              exact fx_vret dX11_lookAtPoints_178 rfl rfl rfl (by rw [hQ]; exact ⟨G3, rfl, rfl, rfl, hoG3, ((congrFun (hoG3 0 (by decide) (by decide)) 27).trans hq), hq2, hF3, fun p2 a => by rw [hE3 p2 a, if_pos (by omega)]⟩)
            · exfalso; omega
          | succ j3 ih82 =>
            intro p G3 hp3 hoG3 hF3 hE3
            refine fx_iload_n dX11_lookAtPoints_82 rfl (i := 2) rfl ?_
            refine fx_iload_n dX11_lookAtPoints_83 rfl (i := 1) rfl ?_
            refine fn_icmp_ge (tgt := 178) dX11_lookAtPoints_84 (by decide) (by omega) (by omega) (fun c84 => ?_) (fun c84 => ?_)
            · exfalso; omega
            · skip
              refine fx_iconst (v := (nI 0)) dX11_lookAtPoints_87 (by decide) ?_
              refine fx_istore_n (lv2 := [(0, .ref 0), (1, .int (nI (q ^ 4))), (2, .int (nI p)), (3, .int (nI 0))]) dX11_lookAtPoints_88 (i := 3) rfl (by decide) rfl ?_
              have L89 : ∀ (j4 : Nat) (k : Nat), (k + j4 = 4) → (fkl q p j4 k = fkl q p 4 0) → (∀ k2, k2 < k → fgq q p k2 = 0) → fv_At Y11_lookAtPoints 1 0 0 Q 89 [(0, .ref 0), (1, .int (nI (q ^ 4))), (2, .int (nI p)), (3, .int (nI k))] [] (fw mT G3 L) none 0 0 := by
                intro j4
                induction j4 with
                | zero =>
                  intro k hk hR hz
                  (exfalso; have := fgq_z hq2 (p := p) (by omega) (fun k2 h => hz k2 (by omega)); omega)
                | succ j4 ih89 =>
                  intro k hk hR hz
                  refine fx_aload_n dX11_lookAtPoints_89 rfl (i := 0) rfl ?_
                  refine fw_getr dX11_lookAtPoints_90 fd11_97 rfl rfl ?_
                  refine fx_iconst (v := (nI 4)) dX11_lookAtPoints_93 (by decide) ?_
                  refine fx_iload_n dX11_lookAtPoints_94 rfl (i := 2) rfl ?_
                  refine fn_imul dX11_lookAtPoints_95 ?_
                  refine fx_iload_n dX11_lookAtPoints_96 rfl (i := 3) rfl ?_
                  have hfl := fgq_lt (q := q) (by omega) p k
                  refine fn_iadd dX11_lookAtPoints_97 ?_
                  refine fw_iald ((4 * p) + k) dX11_lookAtPoints_98 rfl rfl (by omega) (by decide) ?_
                  refine fn_to (show _ = (nI (fgq q p k)) from (hF3 p (by omega) k (by omega))) ?_
                  refine fn_if_ne (tgt := 108) dX11_lookAtPoints_99 (by decide) (by omega) (fun c99 => ?_) (fun c99 => ?_)
                  · skip
                    have hkk : fkl q p 4 0 = k := by rw [← hR, fkl_s, if_neg c99]
                    refine fx_iconst (v := (nI 1)) dX11_lookAtPoints_108 (by decide) ?_
                    refine fx_istore (lv2 := [(0, .ref 0), (1, .int (nI (q ^ 4))), (2, .int (nI p)), (3, .int (nI k)), (4, .int (nI 1))]) dX11_lookAtPoints_109 (by decide) rfl ?_
                    have L111 : ∀ (j5 : Nat) (i : Nat) (x : Nat) (G4 : Nat → Nat → Int32), (i + j5 = q) → (∀ i, i ≠ 29 → i ≠ 30 → G4 i = G i) → (mfg G4 q) → (∀ p2, p2 < q ^ 4 → p2 ≠ p → G4 30 p2 = nI (if p2 < p then evq q p2 else p2)) → (G4 30 p = nI x) → (evl q p k j5 i x = evl q p k (q - 1) 1 p) → fv_At Y11_lookAtPoints 1 0 0 Q 111 [(0, .ref 0), (1, .int (nI (q ^ 4))), (2, .int (nI p)), (3, .int (nI k)), (4, .int (nI i))] [] (fw mT G4 L) none 0 0 := by
                      intro j5
                      induction j5 with
                      | zero =>
                        intro i x G4 hi hoG4 hF4 hE4 hx hRx
                        refine fx_iload dX11_lookAtPoints_111 rfl ?_
                        refine fx_aload_n dX11_lookAtPoints_113 rfl (i := 0) rfl ?_
                        refine fw_geti dX11_lookAtPoints_114 fd11_116 rfl rfl ?_
                        refine fn_to (show _ = (nI q) from ((congrFun (hoG4 0 (by decide) (by decide)) 27).trans hq)) ?_
                        refine fn_icmp_ge (tgt := 172) dX11_lookAtPoints_117 (by decide) (by omega) (by omega) (fun c117 => ?_) (fun c117 => ?_)
                        · skip
                          refine fn_iinc (c := 1) (lv2 := [(0, .ref 0), (1, .int (nI (q ^ 4))), (2, .int (nI (p + 1))), (3, .int (nI k)), (4, .int (nI i))]) dX11_lookAtPoints_172 (by decide) rfl (by decide) rfl ?_
                          refine fx_goto (tgt := 82) dX11_lookAtPoints_175 (by decide) ?_
                          exact fn_sub [0, 1, 2] rfl (ih82 (p + 1) G4 (by omega) hoG4 hF4 (fun p2 a => by by_cases z : p2 = p; (rw [z, hx, if_pos (by omega)]; exact congrArg nI (by unfold evq; rw [if_neg (by omega), hkk]; exact hRx)); rw [hE4 p2 a z]; by_cases w : p2 < p; (rw [if_pos w, if_pos (by omega)]); rw [if_neg w, if_neg (by omega)]))
                        · exfalso; omega
                      | succ j5 ih111 =>
                        intro i x G4 hi hoG4 hF4 hE4 hx hRx
                        refine fx_iload dX11_lookAtPoints_111 rfl ?_
                        refine fx_aload_n dX11_lookAtPoints_113 rfl (i := 0) rfl ?_
                        refine fw_geti dX11_lookAtPoints_114 fd11_116 rfl rfl ?_
                        refine fn_to (show _ = (nI q) from ((congrFun (hoG4 0 (by decide) (by decide)) 27).trans hq)) ?_
                        refine fn_icmp_ge (tgt := 172) dX11_lookAtPoints_117 (by decide) (by omega) (by omega) (fun c117 => ?_) (fun c117 => ?_)
                        · exfalso; omega
                        · skip
                          refine fx_aload_n dX11_lookAtPoints_120 rfl (i := 0) rfl ?_
                          refine fw_getr dX11_lookAtPoints_121 fd11_100 rfl rfl ?_
                          refine fx_iload_n dX11_lookAtPoints_124 rfl (i := 2) rfl ?_
                          refine fx_iload dX11_lookAtPoints_125 rfl ?_
                          refine fx_aload_n dX11_lookAtPoints_127 rfl (i := 0) rfl ?_
                          refine fw_getr dX11_lookAtPoints_128 fd11_97 rfl rfl ?_
                          refine fx_iconst (v := (nI 4)) dX11_lookAtPoints_131 (by decide) ?_
                          refine fx_iload_n dX11_lookAtPoints_132 rfl (i := 2) rfl ?_
                          refine fn_imul dX11_lookAtPoints_133 ?_
                          refine fx_iload_n dX11_lookAtPoints_134 rfl (i := 3) rfl ?_
                          refine fn_iadd dX11_lookAtPoints_135 ?_
                          refine fw_iald ((4 * p) + k) dX11_lookAtPoints_136 rfl rfl (by omega) (by decide) ?_
                          refine fn_to (show _ = (nI (fgq q p k)) from (hF4 p (by omega) k (by omega))) ?_
                          refine fn_imul dX11_lookAtPoints_137 ?_
                          have hb25 := mx_b hq2 (show i ≤ 5 by omega) p k
                          have hml := Nat.mod_lt (i * fgq q p k) (show q > 0 by omega)
                          refine fx_aload_n dX11_lookAtPoints_138 rfl (i := 0) rfl ?_
                          refine fw_geti dX11_lookAtPoints_139 fd11_116 rfl rfl ?_
                          refine fn_to (show _ = (nI q) from ((congrFun (hoG4 0 (by decide) (by decide)) 27).trans hq)) ?_
                          refine fn_irem dX11_lookAtPoints_142 (by omega) (by omega) (by omega) ?_
                          refine fx_iconst (v := (nI 1)) dX11_lookAtPoints_143 (by decide) ?_
                          refine fn_icmp_ne (tgt := 159) dX11_lookAtPoints_144 (by decide) (by omega) (by omega) (fun c144 => ?_) (fun c144 => ?_)
                          · skip
                            refine fx_aload_n dX11_lookAtPoints_159 rfl (i := 0) rfl ?_
                            refine fw_getr dX11_lookAtPoints_160 fd11_100 rfl rfl ?_
                            refine fx_iload_n dX11_lookAtPoints_163 rfl (i := 2) rfl ?_
                            refine fw_iald p dX11_lookAtPoints_164 rfl rfl (by omega) (by decide) ?_
                            refine fn_to (show _ = (nI x) from hx) ?_
                            refine fw_iast p dX11_lookAtPoints_165 rfl rfl (by omega) (by decide) ?_
                            refine fn_iinc (c := 1) (lv2 := [(0, .ref 0), (1, .int (nI (q ^ 4))), (2, .int (nI p)), (3, .int (nI k)), (4, .int (nI (i + 1)))]) dX11_lookAtPoints_166 (by decide) rfl (by decide) rfl ?_
                            refine fx_goto (tgt := 111) dX11_lookAtPoints_169 (by decide) ?_
                            exact (ih111 (i + 1) x (g2 G4 30 p ((nI x))) (by omega) (fun i2 a b => (g2_row _ _ b).trans (hoG4 i2 a b)) (fun p2 a k2 b => by rw [g2_row _ _ (by decide)]; exact hF4 p2 a k2 b) (fun p2 a b => by rw [g2_ne _ _ (by omega)]; exact hE4 p2 a b) (g2_eq _ _ _ _) (by rw [← hRx, evl_s]; first | rw [if_pos c144] | rw [if_neg c144]))
                          · skip
                            refine fx_aload_n dX11_lookAtPoints_147 rfl (i := 0) rfl ?_
                            refine fx_iload_n dX11_lookAtPoints_148 rfl (i := 2) rfl ?_
                            refine fx_iload dX11_lookAtPoints_149 rfl ?_
                            refine fx_iconst (v := (nI 0)) dX11_lookAtPoints_151 (by decide) ?_
                            refine fx_iconst (v := (nI 0)) dX11_lookAtPoints_152 (by decide) ?_
                            refine fn_cV dX11_lookAtPoints_153 lk11_237 fv_c8 rfl (fw_at (show mT 0 = some (3, 8, 38, [some 1, none, some 2, some 3, some 4, some 5, some 6, some 7, some 8, some 9, some 10, some 11, some 12, some 13, some 14, some 15, some 16, some 17, some 18, some 19, none, none, none, some 20, some 21, some 22, some 23, none, some 24, some 25, some 26, some 27, some 28, some 29, some 30, some 31, none, some 32]) from rfl)) (C11_mixed G4 L q ((congrFun (hoG4 0 (by decide) (by decide)) 27).trans hq) hq2 hF4 p i 0 0 (by omega) (by omega) (by omega) (by omega)) rfl rfl (by decide) (Nat.le_of_ble_eq_true rfl) ?_
                            show fv_At Y11_lookAtPoints 1 0 0 Q 156 [(0, .ref 0), (1, .int (nI (q ^ 4))), (2, .int (nI p)), (3, .int (nI k)), (4, .int (nI i))] [.int (nI (mxq q p i 0 0)), .int (nI p), .ref 30] (fw mT G4 L) none 0 0
                            refine fx_goto (tgt := 165) dX11_lookAtPoints_156 (by decide) ?_
                            refine fw_iast p dX11_lookAtPoints_165 rfl rfl (by omega) (by decide) ?_
                            refine fn_iinc (c := 1) (lv2 := [(0, .ref 0), (1, .int (nI (q ^ 4))), (2, .int (nI p)), (3, .int (nI k)), (4, .int (nI (i + 1)))]) dX11_lookAtPoints_166 (by decide) rfl (by decide) rfl ?_
                            refine fx_goto (tgt := 111) dX11_lookAtPoints_169 (by decide) ?_
                            exact (ih111 (i + 1) (mxq q p i 0 0) (g2 G4 30 p ((nI (mxq q p i 0 0)))) (by omega) (fun i2 a b => (g2_row _ _ b).trans (hoG4 i2 a b)) (fun p2 a k2 b => by rw [g2_row _ _ (by decide)]; exact hF4 p2 a k2 b) (fun p2 a b => by rw [g2_ne _ _ (by omega)]; exact hE4 p2 a b) (g2_eq _ _ _ _) (by rw [← hRx, evl_s]; first | rw [if_pos c144] | rw [if_neg c144]))
                    exact (L111 (q - 1) 1 p G3 (by omega) hoG3 hF3 (fun p2 a _ => hE3 p2 a) (by rw [hE3 p (by omega), if_neg (Nat.lt_irrefl p)]) rfl)
                  · skip
                    refine fn_iinc (c := 1) (lv2 := [(0, .ref 0), (1, .int (nI (q ^ 4))), (2, .int (nI p)), (3, .int (nI (k + 1)))]) dX11_lookAtPoints_102 (by decide) rfl (by decide) rfl ?_
                    refine fx_goto (tgt := 89) dX11_lookAtPoints_105 (by decide) ?_
                    exact (ih89 (k + 1) (by omega) (by rw [← hR, fkl_s, if_pos c99]) (fun k2 a => by by_cases z : k2 = k; (rw [z]; exact c99); exact hz k2 (by omega)))
              exact (L89 4 0 (by omega) rfl (fun k2 a => absurd a (Nat.not_lt_zero _)))
        exact (L82 (q ^ 4 - 1) 1 G1 (by have := Nat.pow_pos (n := 4) (show 0 < q by omega); omega) hoG1 (fun p2 a k b => hF1 p2 (by omega) k b) (fun p2 a => by rw [hE1 p2 (by omega)]; by_cases z : p2 < 1; (rw [if_pos z, show p2 = 0 by omega]; rfl); rw [if_neg z]))
      · exfalso; omega
    | succ j1 ih22 =>
      intro p G1 hp hoG1 hF1 hE1
      refine fx_iload_n dX11_lookAtPoints_22 rfl (i := 2) rfl ?_
      refine fx_iload_n dX11_lookAtPoints_23 rfl (i := 1) rfl ?_
      refine fn_icmp_ge (tgt := 80) dX11_lookAtPoints_24 (by decide) (by omega) (by omega) (fun c24 => ?_) (fun c24 => ?_)
      · exfalso; omega
      · skip
        refine fx_iload_n dX11_lookAtPoints_27 rfl (i := 2) rfl ?_
        refine fx_istore_n (lv2 := [(0, .ref 0), (1, .int (nI (q ^ 4))), (2, .int (nI p)), (3, .int (nI p))]) dX11_lookAtPoints_28 (i := 3) rfl (by decide) rfl ?_
        refine fx_iconst (v := (nI 3)) dX11_lookAtPoints_29 (by decide) ?_
        refine fx_istore (lv2 := [(0, .ref 0), (1, .int (nI (q ^ 4))), (2, .int (nI p)), (3, .int (nI p)), (4, .int (nI 3))]) dX11_lookAtPoints_30 (by decide) rfl ?_
        have L32 : ∀ (j2 : Nat) (y : Nat) (x : Int) (G2 : Nat → Nat → Int32), (x = (j2 : Int) - 1 ∧ j2 ≤ 4) → (y = p / q ^ (4 - j2)) → (∀ i, i ≠ 29 → i ≠ 30 → G2 i = G i) → (∀ p2, p2 < p → ∀ k, k < 4 → G2 29 (4 * p2 + k) = nI (fgq q p2 k)) → (∀ p2, p2 < p → G2 30 p2 = nI p2) → (∀ k, j2 ≤ k → k < 4 → G2 29 (4 * p + k) = nI (fgq q p k)) → fv_At Y11_lookAtPoints 1 0 0 Q 32 [(0, .ref 0), (1, .int (nI (q ^ 4))), (2, .int (nI p)), (3, .int (nI y)), (4, .int (iI x))] [] (fw mT G2 L) none 0 0 := by
          intro j2
          induction j2 with
          | zero =>
            intro y x G2 hx hy hoG2 hF2 hE2 hNp
            refine fx_iload dX11_lookAtPoints_32 rfl ?_
            refine fn_if_ltZ (tgt := 67) dX11_lookAtPoints_34 (by decide) (by omega) (by omega) (fun c34 => ?_) (fun c34 => ?_)
            · skip
              refine fx_aload_n dX11_lookAtPoints_67 rfl (i := 0) rfl ?_
              refine fw_getr dX11_lookAtPoints_68 fd11_100 rfl rfl ?_
              refine fx_iload_n dX11_lookAtPoints_71 rfl (i := 2) rfl ?_
              refine fx_iload_n dX11_lookAtPoints_72 rfl (i := 2) rfl ?_
              refine fw_iast p dX11_lookAtPoints_73 rfl rfl (by omega) (by decide) ?_
              refine fn_iinc (c := 1) (lv2 := [(0, .ref 0), (1, .int (nI (q ^ 4))), (2, .int (nI (p + 1))), (3, .int (nI y)), (4, .int (iI x))]) dX11_lookAtPoints_74 (by decide) rfl (by decide) rfl ?_
              refine fx_goto (tgt := 22) dX11_lookAtPoints_77 (by decide) ?_
              exact fn_sub [0, 1, 2] rfl (ih22 (p + 1) (g2 G2 30 p ((nI p))) (by omega) (fun i a b => (g2_row _ _ b).trans (hoG2 i a b)) (fun p2 a k b => by rw [g2_row _ _ (by decide)]; by_cases z : p2 = p; (rw [z]; exact hNp k (Nat.zero_le _) b); exact hF2 p2 (by omega) k b) (fun p2 a => by by_cases z : p2 = p; (rw [z]; exact g2_eq _ _ _ _); rw [g2_ne _ _ (by omega)]; exact hE2 p2 (by omega)))
            · exfalso; omega
          | succ j2 ih32 =>
            intro y x G2 hx hy hoG2 hF2 hE2 hNp
            refine fx_iload dX11_lookAtPoints_32 rfl ?_
            refine fn_if_ltZ (tgt := 67) dX11_lookAtPoints_34 (by decide) (by omega) (by omega) (fun c34 => ?_) (fun c34 => ?_)
            · exfalso; omega
            · skip
              obtain rfl : x = ((j2 : Nat) : Int) := by omega
              have hyl : y ≤ p := by rw [hy]; exact Nat.div_le_self _ _
              show fv_At Y11_lookAtPoints 1 0 0 Q 37 [(0, .ref 0), (1, .int (nI (q ^ 4))), (2, .int (nI p)), (3, .int (nI y)), (4, .int (nI j2))] [] (fw mT G2 L) none 0 0
              refine fx_aload_n dX11_lookAtPoints_37 rfl (i := 0) rfl ?_
              refine fw_getr dX11_lookAtPoints_38 fd11_97 rfl rfl ?_
              refine fx_iconst (v := (nI 4)) dX11_lookAtPoints_41 (by decide) ?_
              refine fx_iload_n dX11_lookAtPoints_42 rfl (i := 2) rfl ?_
              refine fn_imul dX11_lookAtPoints_43 ?_
              refine fx_iload dX11_lookAtPoints_44 rfl ?_
              refine fn_iadd dX11_lookAtPoints_46 ?_
              refine fx_iload_n dX11_lookAtPoints_47 rfl (i := 3) rfl ?_
              refine fx_aload_n dX11_lookAtPoints_48 rfl (i := 0) rfl ?_
              refine fw_geti dX11_lookAtPoints_49 fd11_116 rfl rfl ?_
              refine fn_to (show _ = (nI q) from ((congrFun (hoG2 0 (by decide) (by decide)) 27).trans hq)) ?_
              refine fn_irem dX11_lookAtPoints_52 (by omega) (by omega) (by omega) ?_
              refine fw_iast ((4 * p) + j2) dX11_lookAtPoints_53 rfl rfl (by omega) (by decide) ?_
              refine fx_iload_n dX11_lookAtPoints_54 rfl (i := 3) rfl ?_
              refine fx_aload_n dX11_lookAtPoints_55 rfl (i := 0) rfl ?_
              refine fw_geti dX11_lookAtPoints_56 fd11_116 rfl rfl ?_
              refine fn_to (show _ = (nI q) from ((congrFun ((g2_row _ _ (by decide)).trans (hoG2 0 (by decide) (by decide))) 27).trans hq)) ?_
              refine fn_idiv dX11_lookAtPoints_59 (by omega) (by omega) (by omega) ?_
              refine fx_istore_n (lv2 := [(0, .ref 0), (1, .int (nI (q ^ 4))), (2, .int (nI p)), (3, .int (nI (y / q))), (4, .int (nI j2))]) dX11_lookAtPoints_60 (i := 3) rfl (by decide) rfl ?_
              show fv_At Y11_lookAtPoints 1 0 0 Q 61 [(0, .ref 0), (1, .int (nI (q ^ 4))), (2, .int (nI p)), (3, .int (nI (y / q))), (4, .int (iI (((j2 : Nat) : Int))))] [] (fw mT (g2 G2 29 ((4 * p) + j2) ((nI (y % q)))) L) none 0 0
              refine fn_iincZ (lv2 := [(0, .ref 0), (1, .int (nI (q ^ 4))), (2, .int (nI p)), (3, .int (nI (y / q))), (4, .int (iI (((j2 : Nat) : Int) + (-1))))]) dX11_lookAtPoints_61  rfl (by decide) rfl ?_
              refine fx_goto (tgt := 32) dX11_lookAtPoints_64 (by decide) ?_
              exact (ih32 (y / q) (((j2 : Nat) : Int) + (-1)) (g2 G2 29 ((4 * p) + j2) ((nI (y % q)))) (by omega) (by rw [hy, Nat.div_div_eq_div_mul, show 4 - j2 = (4 - (j2 + 1)) + 1 by omega, Nat.pow_succ]) (fun i a b => (g2_row _ _ a).trans (hoG2 i a b)) (fun p2 a k b => by rw [g2_ne _ _ (by omega)]; exact hF2 p2 a k b) (fun p2 a => by rw [g2_row _ _ (by decide)]; exact hE2 p2 a) (fun k a b => by by_cases z : k = j2; (rw [z, g2_eq]; exact congrArg nI (by unfold fgq; rw [hy, show 4 - (j2 + 1) = 3 - j2 by omega])); rw [g2_ne _ _ (by omega)]; exact hNp k (by omega) b))
        exact (L32 4 p (((3 : Nat) : Int)) G1 (by omega) (by rw [Nat.sub_self, Nat.pow_zero, Nat.div_one]) hoG1 hF1 hE1 (fun k a b => by omega))
  exact (L22 (q ^ 4) 0 G (by omega) (fun _ _ _ => rfl) (fun p2 a => absurd a (Nat.not_lt_zero _)) (fun p2 a => absurd a (Nat.not_lt_zero _)))

def atl (th : Nat → Bool) (b : Nat) : Nat → Nat → Bool → Bool
  | 0, _, x => x
  | n + 1, r, x => atl th b n (r + 1) (x && (decide (b / 2 ^ r % 2 = 0) || th r))
theorem atl_s (th : Nat → Bool) (b n r : Nat) (x : Bool) : atl th b (n + 1) r x = atl th b n (r + 1) (x && (decide (b / 2 ^ r % 2 = 0) || th r)) := rfl
/-- the told rods are there -/
def atq (th : Nat → Bool) (b : Nat) : Bool := atl th b 8 0 true

set_option maxRecDepth 4000 in
set_option maxHeartbeats 1000000 in
theorem C11_areThere  (G : Nat → Nat → Int32) (L : Nat → Nat → Int64) (th : Nat → Bool) (hT : ∀ r, r < 8 → G 24 r = bI (th r)) (b : Nat) (hb : b < 256) : fv_M Y11_areThere 0 0 0 [.ref 0, .int (nI b)] (fw mT G L) none (fv_eq (some (.int (bI (atq th b)))) (fw mT G L)) := by
  refine fv_enter rfl (Nat.le_of_ble_eq_true rfl) ?_
  obtain ⟨Q, hQ⟩ : ∃ Q : Option Value → fv_F → Option Nat → Prop, Q = (fv_eq (some (.int (bI (atq th b)))) (fw mT G L)) := ⟨_, rfl⟩
  rw [← hQ]
  show fv_At Y11_areThere 0 0 0 Q 0 [(0, .ref 0), (1, .int (nI b))] [] (fw mT G L) none 0 0
  refine fx_iconst (v := (nI 1)) dX11_areThere_0 (by decide) ?_
  refine fn_to (show _ = (bI true) from rfl) ?_
  refine fx_istore_n (lv2 := [(0, .ref 0), (1, .int (nI b)), (2, .int (bI true))]) dX11_areThere_1 (i := 2) rfl (by decide) rfl ?_
  refine fx_iconst (v := (nI 0)) dX11_areThere_2 (by decide) ?_
  refine fx_istore_n (lv2 := [(0, .ref 0), (1, .int (nI b)), (2, .int (bI true)), (3, .int (nI 0))]) dX11_areThere_3 (i := 3) rfl (by decide) rfl ?_
  have L4 : ∀ (n : Nat) (x : Bool) (r : Nat), (r + n = 8) → (atl th b n r x = atq th b) → fv_At Y11_areThere 0 0 0 Q 4 [(0, .ref 0), (1, .int (nI b)), (2, .int (bI x)), (3, .int (nI r))] [] (fw mT G L) none 0 0 := by
    intro n
    induction n with
    | zero =>
      intro x r hr hR
      refine fx_iload_n dX11_areThere_4 rfl (i := 3) rfl ?_
      refine fx_bipush (v := (nI 8)) dX11_areThere_5 (by decide) ?_
      refine fn_icmp_ge (tgt := 41) dX11_areThere_7 (by decide) (by omega) (by omega) (fun c7 => ?_) (fun c7 => ?_)
      · skip
        refine fx_iload_n dX11_areThere_41 rfl (i := 2) rfl ?_
        exact fx_zret dX11_areThere_42 rfl (bI_01 _) rfl rfl (by rw [hQ]; exact ⟨by rw [show x = atq th b from hR], rfl, rfl⟩)
      · exfalso; omega
    | succ n ih4 =>
      intro x r hr hR
      refine fx_iload_n dX11_areThere_4 rfl (i := 3) rfl ?_
      refine fx_bipush (v := (nI 8)) dX11_areThere_5 (by decide) ?_
      refine fn_icmp_ge (tgt := 41) dX11_areThere_7 (by decide) (by omega) (by omega) (fun c7 => ?_) (fun c7 => ?_)
      · exfalso; omega
      · skip
        refine fx_iload_n dX11_areThere_10 rfl (i := 2) rfl ?_
        refine fx_iload_n dX11_areThere_11 rfl (i := 1) rfl ?_
        refine fx_iload_n dX11_areThere_12 rfl (i := 3) rfl ?_
        refine fx_ishr dX11_areThere_13 ?_
        refine fn_to (show _ = (nI (b / 2 ^ r)) from (nI_shr (by omega) (by omega))) ?_
        refine fx_iconst (v := (nI 1)) dX11_areThere_14 (by decide) ?_
        refine fx_iand dX11_areThere_15 ?_
        refine fn_to (show _ = (nI (b / 2 ^ r % 2)) from ((nI_and _ _).trans (congrArg nI (Nat.and_one_is_mod _)))) ?_
        refine fn_if_eq (tgt := 28) dX11_areThere_16 (by decide) (by omega) (fun c16 => ?_) (fun c16 => ?_)
        · skip
          refine fx_iconst (v := (nI 1)) dX11_areThere_28 (by decide) ?_
          refine fn_to (show _ = (bI true) from rfl) ?_
          refine fx_goto (tgt := 33) dX11_areThere_29 (by decide) ?_
          refine fx_iand dX11_areThere_33 ?_
          refine fn_to (show _ = (bI (x && true)) from (bI_and _ _)) ?_
          refine fx_istore_n (lv2 := [(0, .ref 0), (1, .int (nI b)), (2, .int (bI (x && true))), (3, .int (nI r))]) dX11_areThere_34 (i := 2) rfl (by decide) rfl ?_
          refine fn_iinc (c := 1) (lv2 := [(0, .ref 0), (1, .int (nI b)), (2, .int (bI (x && true))), (3, .int (nI (r + 1)))]) dX11_areThere_35 (by decide) rfl (by decide) rfl ?_
          refine fx_goto (tgt := 4) dX11_areThere_38 (by decide) ?_
          exact (ih4 (x && true) (r + 1) (by omega) (by rw [← hR, atl_s]; first | rw [decide_eq_true c16, Bool.true_or] | rw [decide_eq_false c16, Bool.false_or, c25]))
        · skip
          refine fx_aload_n dX11_areThere_19 rfl (i := 0) rfl ?_
          refine fw_getr dX11_areThere_20 fd11_82 rfl rfl ?_
          refine fx_iload_n dX11_areThere_23 rfl (i := 3) rfl ?_
          refine fw_zald r dX11_areThere_24 rfl rfl (by omega) (by decide) ?_
          refine fn_to (show _ = (bI (th r)) from (hT r (by omega))) ?_
          refine fn_if_eqB (tgt := 32) dX11_areThere_25 (by decide) (fun c25 => ?_) (fun c25 => ?_)
          · skip
            refine fx_iconst (v := (nI 0)) dX11_areThere_32 (by decide) ?_
            refine fn_to (show _ = (bI false) from rfl) ?_
            refine fx_iand dX11_areThere_33 ?_
            refine fn_to (show _ = (bI (x && false)) from (bI_and _ _)) ?_
            refine fx_istore_n (lv2 := [(0, .ref 0), (1, .int (nI b)), (2, .int (bI (x && false))), (3, .int (nI r))]) dX11_areThere_34 (i := 2) rfl (by decide) rfl ?_
            refine fn_iinc (c := 1) (lv2 := [(0, .ref 0), (1, .int (nI b)), (2, .int (bI (x && false))), (3, .int (nI (r + 1)))]) dX11_areThere_35 (by decide) rfl (by decide) rfl ?_
            refine fx_goto (tgt := 4) dX11_areThere_38 (by decide) ?_
            exact (ih4 (x && false) (r + 1) (by omega) (by rw [← hR, atl_s]; first | rw [decide_eq_true c16, Bool.true_or] | rw [decide_eq_false c16, Bool.false_or, c25]))
          · skip
            refine fx_iconst (v := (nI 1)) dX11_areThere_28 (by decide) ?_
            refine fn_to (show _ = (bI true) from rfl) ?_
            refine fx_goto (tgt := 33) dX11_areThere_29 (by decide) ?_
            refine fx_iand dX11_areThere_33 ?_
            refine fn_to (show _ = (bI (x && true)) from (bI_and _ _)) ?_
            refine fx_istore_n (lv2 := [(0, .ref 0), (1, .int (nI b)), (2, .int (bI (x && true))), (3, .int (nI r))]) dX11_areThere_34 (i := 2) rfl (by decide) rfl ?_
            refine fn_iinc (c := 1) (lv2 := [(0, .ref 0), (1, .int (nI b)), (2, .int (bI (x && true))), (3, .int (nI (r + 1)))]) dX11_areThere_35 (by decide) rfl (by decide) rfl ?_
            refine fx_goto (tgt := 4) dX11_areThere_38 (by decide) ?_
            exact (ih4 (x && true) (r + 1) (by omega) (by rw [← hR, atl_s]; first | rw [decide_eq_true c16, Bool.true_or] | rw [decide_eq_false c16, Bool.false_or, c25]))
  exact (L4 8 true 0 (by omega) rfl)
