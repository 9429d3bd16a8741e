theorem plR_s (A C : Nat → Nat) (j r : Nat) : plR A C (j + 1) r = rowP r (C r) (C r - A r) ++ plR A C j (r + 1) := rfl
theorem rowP_s (r c n : Nat) : rowP r c (n + 1) = (r, c) :: rowP r (c - 1) n := rfl
theorem plR_1 {k : Nat} (hk : 1 ≤ k) (hA hC : Nat → Nat) : plR (sh1 hA) (sh1 hC) k 1 = rsP k (sh1 hA) (sh1 hC) 1 (hC 0) := by
  obtain ⟨j, rfl⟩ : ∃ j, k = j + 1 := ⟨k - 1, by omega⟩
  rfl
theorem plR_sum {hA hC : Nat → Nat} : ∀ j r, (∀ p, r ≤ p → p < r + j → hA p ≤ hC p) → (plR (sh1 hA) (sh1 hC) j (r + 1)).length + plc hA j r 0 = plc hC j r 0
  | 0, _, _ => rfl
  | j + 1, r, h => by
    have h1 := h r (Nat.le_refl _) (by omega)
    have ih := plR_sum (hA := hA) (hC := hC) j (r + 1) (fun p a b => h p (by omega) (by omega))
    have e1 : plc hA (j + 1) r 0 = plc hA j (r + 1) 0 + hA r := by
      show plc hA j (r + 1) (0 + hA r) = _
      rw [plc_a, Nat.zero_add]
    have e2 : plc hC (j + 1) r 0 = plc hC j (r + 1) 0 + hC r := by
      show plc hC j (r + 1) (0 + hC r) = _
      rw [plc_a, Nat.zero_add]
    rw [plR_s, List.length_append, rowP_len, e1, e2]
    show hC r - hA r + _ + _ = _
    omega
theorem gdP_l (l r : List (Nat × Nat)) {j : Nat} (h : j < l.length) : (l ++ r).getD j (0, 0) = l.getD j (0, 0) := by
  rw [List.getD_eq_getElem?_getD, List.getD_eq_getElem?_getD, List.getElem?_append_left h]
theorem gdP_e (l : List (Nat × Nat)) (q : Nat × Nat) : (l ++ [q]).getD l.length (0, 0) = q := by
  rw [List.getD_eq_getElem?_getD, List.getElem?_append_right (Nat.le_refl _), Nat.sub_self]
  rfl
theorem mcl_k {G G2 : Nat → Nat → Int32} {k : Nat} {A C : Nat → Nat} {ce : Nat → Nat → Nat} {row col : Nat} (h : mcl G k A C ce row col) (h2 : ∀ x y, x ≤ k → gon A C row col x y → G2 18 (4 * (x - 1) + (y - 1)) = G 18 (4 * (x - 1) + (y - 1))) : mcl G2 k A C ce row col := fun r c a b => by rw [h2 r c a b]; exact h r c a b
theorem mbr_k {G G2 : Nat → Nat → Int32} {k : Nat} {A B C : Nat → Nat} (h : mbr G k A B C) (h12 : G2 12 = G 12) (h13 : G2 13 = G 13) (h14 : G2 14 = G 14) : mbr G2 k A B C := fun r a b => by rw [h12, h13, h14]; exact h r a b
theorem idx_ne {x y row col k : Nat} {A C : Nat → Nat} (hk : k ≤ 4) (hC : ∀ r, 1 ≤ r → r ≤ k → C r ≤ 4) (h1 : 1 ≤ row) (h2 : row ≤ k) (h3 : 1 ≤ col) (h4 : col ≤ C row) (hx : x ≤ k) (hg : gon A C row col x y) : 4 * (x - 1) + (y - 1) ≠ 4 * (row - 1) + (col - 1) := by
  unfold gon at hg
  have q1 := hC x hg.1 hx
  have q2 := hC row h1 h2
  by_cases e : x = row
  · subst e; omega
  · omega

set_option maxRecDepth 4000 in
set_option maxHeartbeats 1000000 in
theorem C11_fills  (G : Nat → Nat → Int32) (L : Nat → Nat → Int64) (k m : Nat) (hk1 : 1 ≤ k) (hk4 : k ≤ 4) (hm : m ≤ 4) (hA hB hC : Nat → Nat) (vC : bxv hC k m) (h9 : ∀ p, hA p < 10 ∧ hB p < 10) (hg : ∀ p, p < k → G 12 p = nI (hA p) ∧ G 13 p = nI (hB p) ∧ G 14 p = nI (hC p)) : fv_M Y11_fills 1 0 0 [.ref 0, .int (nI k)] (fw mT G L) none (qmf G L (xFil k hA hB hC)) := by
  refine fv_enter rfl (Nat.le_of_ble_eq_true rfl) ?_
  obtain ⟨Q, hQ⟩ : ∃ Q : Option Value → fv_F → Option Nat → Prop, Q = (qmf G L (xFil k hA hB hC)) := ⟨_, rfl⟩
  rw [← hQ]
  show fv_At Y11_fills 1 0 0 Q 0 [(0, .ref 0), (1, .int (nI k))] [] (fw mT G L) none 0 0
  refine fx_iconst (v := (nI 0)) dX11_fills_0 (by decide) ?_
  refine fx_istore_n (lv2 := [(0, .ref 0), (1, .int (nI k)), (2, .int (nI 0))]) dX11_fills_1 (i := 2) rfl (by decide) rfl ?_
  refine fx_iconst (v := (nI 0)) dX11_fills_2 (by decide) ?_
  refine fx_istore_n (lv2 := [(0, .ref 0), (1, .int (nI k)), (2, .int (nI 0)), (3, .int (nI 0))]) dX11_fills_3 (i := 3) rfl (by decide) rfl ?_
  have L4 : ∀ (j : Nat) (pd : List (Nat × Nat)) (P : Nat) (r : Nat) (G1 : Nat → Nat → Int32), (r + j = k) → (pd ++ plR (sh1 hA) (sh1 hC) j (r + 1) = plR (sh1 hA) (sh1 hC) k 1) → (P = pd.length) → (∀ q, q < P → G1 15 q = nI ((pd.getD q (0, 0)).1 - 1) ∧ G1 16 q = nI ((pd.getD q (0, 0)).2 - 1)) → (∀ i, i ≠ 15 → i ≠ 16 → G1 i = G i) → (∀ q, q < r → hA q ≤ hC q) → (pd.length ≤ 4 * r) → fv_At Y11_fills 1 0 0 Q 4 [(0, .ref 0), (1, .int (nI k)), (2, .int (nI P)), (3, .int (nI r))] [] (fw mT G1 L) none 0 0 := by
    intro j
    induction j with
    | zero =>
      intro pd P r G1 hr hpd hP htb hoG hAC hln
      refine fx_iload_n dX11_fills_4 rfl (i := 3) rfl ?_
      refine fx_iload_n dX11_fills_5 rfl (i := 1) rfl ?_
      refine fn_icmp_ge (tgt := 77) dX11_fills_6 (by decide) (by omega) (by omega) (fun c6 => ?_) (fun c6 => ?_)
      · skip
        have hpl : pd = rsP k (sh1 hA) (sh1 hC) 1 (hC 0) := by rw [← plR_1 hk1, ← hpd]; exact (List.append_nil _).symm
        have hsum := plR_sum (hA := hA) (hC := hC) k 0 (fun p _ hp => hAC p (by omega))
        rw [plR_1 hk1, ← hpl] at hsum
        have hp9 := plc_9 (fun p => (h9 p).2) k 0
        refine fx_iload_n dX11_fills_77 rfl (i := 2) rfl ?_
        refine fx_iload_n dX11_fills_78 rfl (i := 1) rfl ?_
        refine fx_aload_n dX11_fills_79 rfl (i := 0) rfl ?_
        refine fw_getr dX11_fills_80 fd11_49 rfl rfl ?_
        refine fn_cS dX11_fills_83 lk11_223 (C11_sizeOf G1 L 13 rfl k (by omega) hB (fun p hp => by rw [hoG 13 (by decide) (by decide)]; exact (hg p hp).2.1)) rfl rfl (by decide) (Nat.le_of_ble_eq_true rfl) ?_
        show fv_At Y11_fills 1 0 0 Q 86 [(0, .ref 0), (1, .int (nI k)), (2, .int (nI P)), (3, .int (nI r))] [.int (nI (plc hB k 0 0)), .int (nI P)] (fw mT G1 L) none 0 0
        refine fn_icmp_eq (tgt := 91) dX11_fills_86 (by decide) (by omega) (by omega) (fun c86 => ?_) (fun c86 => ?_)
        · skip
          have hxf : xFil k hA hB hC = fiL k (sh1 hA) (sh1 hB) (sh1 hC) pd ce0 us0 := by unfold xFil; rw [if_pos ⟨by omega, fun p hp => hAC p (by omega)⟩, ← hpl]
          refine fx_iconst (v := (nI 0)) dX11_fills_91 (by decide) ?_
          refine fx_istore_n (lv2 := [(0, .ref 0), (1, .int (nI k)), (2, .int (nI P)), (3, .int (nI 0))]) dX11_fills_92 (i := 3) rfl (by decide) rfl ?_
          have L93 : ∀ (k6 : Nat) (x : Nat) (G3 : Nat → Nat → Int32), (x + k6 = 6) → (∀ i, i ≠ 19 → G3 i = G1 i) → (∀ q, q < x → G3 19 q = nI 0) → fv_At Y11_fills 1 0 0 Q 93 [(0, .ref 0), (1, .int (nI k)), (2, .int (nI P)), (3, .int (nI x))] [] (fw mT G3 L) none 0 0 := by
            intro k6
            induction k6 with
            | zero =>
              intro x G3 hx hoG3 hN3
              refine fx_iload_n dX11_fills_93 rfl (i := 3) rfl ?_
              refine fx_bipush (v := (nI 6)) dX11_fills_94 (by decide) ?_
              refine fn_icmp_ge (tgt := 112) dX11_fills_96 (by decide) (by omega) (by omega) (fun c96 => ?_) (fun c96 => ?_)
              · skip
                refine fx_iload_n dX11_fills_112 rfl (i := 2) rfl ?_
                refine fn_if_ne (tgt := 118) dX11_fills_113 (by decide) (by omega) (fun c113 => ?_) (fun c113 => ?_)
                · skip
                  obtain ⟨A, hAe⟩ : ∃ z, z = sh1 hA := ⟨_, rfl⟩
                  obtain ⟨B, hBe⟩ : ∃ z, z = sh1 hB := ⟨_, rfl⟩
                  obtain ⟨C, hCe⟩ : ∃ z, z = sh1 hC := ⟨_, rfl⟩
                  have hb : fbx k A B C := by rw [hAe, hBe, hCe]; exact fbx_of hk4 hm vC (fun p => (h9 p).2) (fun p hp => hAC p (by omega))
                  rw [← hAe, ← hCe] at hpl
                  rw [← hAe, ← hBe, ← hCe] at hxf
                  have hch0 := CHS_r hb 30 1 (C 1) (by have := hb.2.1 1 (by decide) hk1; omega) (by decide) hk1 (hb.2.1 1 (by decide) hk1).1 (Nat.le_refl _)
                  rw [show rsP k A C 1 (C 1) = pd by rw [hpl, hCe]; rfl] at hch0
                  obtain ⟨p0, s0, hp0⟩ : ∃ p0 s0, pd = p0 :: s0 := List.exists_cons_of_length_pos (by omega)
                  rw [hp0] at hch0
                  obtain ⟨vp0, wp0, ch0⟩ := hch0
                  obtain ⟨PN, hPN⟩ : ∃ z, z = P := ⟨_, rfl⟩
                  rw [← hPN]
                  have hPl : PN = s0.length + 1 := by rw [hPN, hP, hp0]; rfl
                  have hbr0 : mbr G3 k A B C := fun r a b => by
                    rw [hoG3 12 (by decide), hoG3 14 (by decide), hoG3 13 (by decide), hoG 12 (by decide) (by decide), hoG 14 (by decide) (by decide), hoG 13 (by decide) (by decide), hAe, hBe, hCe]
                    have w := hg (r - 1) (by omega)
                    exact ⟨w.1, w.2.2, w.2.1⟩
                  show fv_At Y11_fills 1 0 0 Q 118 [(0, .ref 0), (1, .int (nI k)), (2, .int (nI PN)), (3, .int (nI x))] [] (fw mT G3 L) none 0 0
                  refine fx_iconst (v := (nI 0)) dX11_fills_118 (by decide) ?_
                  refine fx_istore_n (lv2 := [(0, .ref 0), (1, .int (nI k)), (2, .int (nI PN)), (3, .int (nI 0))]) dX11_fills_119 (i := 3) rfl (by decide) rfl ?_
                  refine fx_iconst (v := (nI 0)) dX11_fills_120 (by decide) ?_
                  refine fx_istore (lv2 := [(0, .ref 0), (1, .int (nI k)), (2, .int (nI PN)), (3, .int (nI 0)), (4, .int (nI 0))]) dX11_fills_121 (by decide) rfl ?_
                  refine fx_aload_n dX11_fills_123 rfl (i := 0) rfl ?_
                  refine fw_getr dX11_fills_124 fd11_61 rfl rfl ?_
                  refine fx_iconst (v := (nI 0)) dX11_fills_127 (by decide) ?_
                  refine fx_iconst (v := (nI 0)) dX11_fills_128 (by decide) ?_
                  refine fw_iast 0 dX11_fills_129 rfl rfl (by omega) (by decide) ?_
                  have hend : ∀ (G6 : Nat → Nat → Int32) (m6 : Nat), m6 = xFil k hA hB hC → (∀ i, i ≠ 15 → i ≠ 16 → i ≠ 17 → i ≠ 18 → i ≠ 19 → G6 i = G i) → fv_At Y11_fills 1 0 0 Q 130 [(0, .ref 0), (1, .int (nI k)), (2, .int (nI PN)), (3, .int (nI m6)), (4, .int (iI (((0 : Nat) : Int) + (-1))))] [] (fw mT G6 L) none 0 0 := by
                    intro G6 m6 e1 e2
                    refine fx_iload dX11_fills_130 rfl ?_
                    refine fn_if_ltZ (tgt := 280) dX11_fills_132 (by decide) (by omega) (by omega) (fun c132 => ?_) (fun c132 => by exfalso; omega)
                    refine fx_iload_n dX11_fills_280 rfl (i := 3) rfl ?_
                    exact fx_iret dX11_fills_281 rfl rfl rfl (by rw [hQ]; exact ⟨G6, by rw [e1], rfl, rfl, e2⟩)
                  have L130 : ∀ (K : Nat) (n : Nat) (row : Nat) (col : Nat) (sfx : List (Nat × Nat)) (ce : Nat → Nat → Nat) (us : Nat → Nat) (s : Nat) (mm : Nat) (G5 : Nat → Nat → Int32), (n + 1 + sfx.length = PN ∧ PN ≤ 16) → (1 ≤ row ∧ row ≤ k ∧ A row < col ∧ col ≤ C row) → (CHS k A C row (col - 1) sfx) → (∀ q, q ≤ sfx.length → G5 15 (n + q) = nI ((((row, col) :: sfx).getD q (0, 0)).1 - 1) ∧ G5 16 (n + q) = nI ((((row, col) :: sfx).getD q (0, 0)).2 - 1)) → (mbr G5 k A B C) → (G5 17 n = nI s ∧ s ≤ k) → (mus k B us) → (∀ x, 1 ≤ x → x ≤ k → G5 19 x = nI (us x + if x = s then 1 else 0)) → (mcl G5 k A C ce row col) → (∀ i, i ≠ 15 → i ≠ 16 → i ≠ 17 → i ≠ 18 → i ≠ 19 → G5 i = G i) → ((k - s) * (1 + cst k sfx) + 1 ≤ K) → (∀ (G6 : Nat → Nat → Int32) (m6 : Nat), m6 = mm + fiV (fun v => fiL k A B C sfx (uc ce row col v) (uu us v)) (fok A B C (row, col) ce us) (k - s) (s + 1) 0 → (∀ i, i ≠ 17 → i ≠ 18 → i ≠ 19 → G6 i = G5 i) → (∀ q, q < n → G6 17 q = G5 17 q) → (∀ x, 1 ≤ x → x ≤ k → G6 19 x = nI (us x)) → (∀ x y, x ≤ k → gon A C row col x y → G6 18 (4 * (x - 1) + (y - 1)) = G5 18 (4 * (x - 1) + (y - 1))) → fv_At Y11_fills 1 0 0 Q 130 [(0, .ref 0), (1, .int (nI k)), (2, .int (nI PN)), (3, .int (nI m6)), (4, .int (iI (((n : Nat) : Int) + (-1))))] [] (fw mT G6 L) none 0 0) → fv_At Y11_fills 1 0 0 Q 130 [(0, .ref 0), (1, .int (nI k)), (2, .int (nI PN)), (3, .int (nI mm)), (4, .int (nI n))] [] (fw mT G5 L) none 0 0 := by
                    intro K
                    induction K with
                    | zero =>
                      intro n row col sfx ce us s mm G5 hn hv hch htb hbr hst hus hof hcl hoG5 hmu hK
                      refine fx_iload dX11_fills_130 rfl ?_
                      refine fn_if_lt (tgt := 280) dX11_fills_132 (by decide) (by omega) (fun c132 => ?_) (fun c132 => ?_)
                      · exfalso; omega
                      · exfalso; omega
                    | succ K ih130 =>
                      intro n row col sfx ce us s mm G5 hn hv hch htb hbr hst hus hof hcl hoG5 hmu hK
                      refine fx_iload dX11_fills_130 rfl ?_
                      refine fn_if_lt (tgt := 280) dX11_fills_132 (by decide) (by omega) (fun c132 => ?_) (fun c132 => ?_)
                      · exfalso; omega
                      · skip
                        refine fx_aload_n dX11_fills_135 rfl (i := 0) rfl ?_
                        refine fw_getr dX11_fills_136 fd11_61 rfl rfl ?_
                        refine fx_iload dX11_fills_139 rfl ?_
                        refine fw_iald n dX11_fills_141 rfl rfl (by omega) (by decide) ?_
                        refine fn_to (show _ = (nI s) from hst.1) ?_
                        refine fn_if_le (tgt := 161) dX11_fills_142 (by decide) (by omega) (fun c142 => ?_) (fun c142 => ?_)
                        · skip
                          obtain ⟨X, hX⟩ : ∃ z, z = G5 := ⟨_, rfl⟩
                          rw [← hX]
                          have h19 : ∀ x, 1 ≤ x → x ≤ k → X 19 x = nI (us x) := fun x a b => by rw [hX, hof x a b, if_neg (by omega)]; rfl
                          have hXo : ∀ i, i ≠ 19 → X i = G5 i := fun i _ => by rw [hX]
                          have hbr2 := mbr_k hbr (hXo 12 (by decide)) (hXo 13 (by decide)) (hXo 14 (by decide))
                          have hcl2 : mcl X k A C ce row col := mcl_k hcl (fun _ _ _ _ => by rw [hXo 18 (by decide)])
                          have ht0 := htb 0 (Nat.zero_le _)
                          have h15 : X 15 n = nI (row - 1) := by rw [hXo 15 (by decide)]; exact ht0.1
                          have h16 : X 16 n = nI (col - 1) := by rw [hXo 16 (by decide)]; exact ht0.2
                          have h17 : X 17 n = nI s := by rw [hXo 17 (by decide)]; exact hst.1
                          refine fx_aload_n dX11_fills_161 rfl (i := 0) rfl ?_
                          refine fw_getr dX11_fills_162 fd11_61 rfl rfl ?_
                          refine fx_iload dX11_fills_165 rfl ?_
                          refine fw_iald n dX11_fills_167 rfl rfl (by omega) (by decide) ?_
                          refine fn_to (show _ = (nI s) from h17) ?_
                          refine fx_iconst (v := (nI 1)) dX11_fills_168 (by decide) ?_
                          refine fn_iadd dX11_fills_169 ?_
                          refine fx_istore (lv2 := [(0, .ref 0), (1, .int (nI k)), (2, .int (nI PN)), (3, .int (nI mm)), (4, .int (nI n)), (5, .int (nI (s + 1)))]) dX11_fills_170 (by decide) rfl ?_
                          have L172 : ∀ (k7 : Nat) (v : Nat), (v + k7 = k + 1 ∧ s < v) → (∀ x, s < x → x < v → fok A B C (row, col) ce us x = false) → fv_At Y11_fills 1 0 0 Q 172 [(0, .ref 0), (1, .int (nI k)), (2, .int (nI PN)), (3, .int (nI mm)), (4, .int (nI n)), (5, .int (nI v))] [] (fw mT X L) none 0 0 := by
                            intro k7
                            induction k7 with
                            | zero =>
                              intro v hv7 hno
                              refine fx_iload dX11_fills_172 rfl ?_
                              refine fx_iload_n dX11_fills_174 rfl (i := 1) rfl ?_
                              refine fn_icmp_gt (tgt := 196) dX11_fills_175 (by decide) (by omega) (by omega) (fun c175 => ?_) (fun c175 => ?_)
                              · skip
                                refine fx_iload dX11_fills_196 rfl ?_
                                refine fx_iload_n dX11_fills_198 rfl (i := 1) rfl ?_
                                refine fn_icmp_le (tgt := 208) dX11_fills_199 (by decide) (by omega) (by omega) (fun c199 => ?_) (fun c199 => ?_)
                                · exfalso; omega
                                · skip
                                  show fv_At Y11_fills 1 0 0 Q 202 [(0, .ref 0), (1, .int (nI k)), (2, .int (nI PN)), (3, .int (nI mm)), (4, .int (iI ((n : Int)))), (5, .int (nI v))] [] (fw mT X L) none 0 0
                                  refine fn_iincZ (lv2 := [(0, .ref 0), (1, .int (nI k)), (2, .int (nI PN)), (3, .int (nI mm)), (4, .int (iI ((n : Int) + (-1)))), (5, .int (nI v))]) dX11_fills_202  rfl (by decide) rfl ?_
                                  refine fx_goto (tgt := 277) dX11_fills_205 (by decide) ?_
                                  refine fx_goto (tgt := 130) dX11_fills_277 (by decide) ?_
                                  exact fn_sub [0, 1, 2, 3, 4] rfl (hK X mm (by rw [fiV_out _ _ _ _ _ (fun x a b => hno x (by omega) (by omega)), Nat.add_zero]) (fun i _ _ c => hXo i c) (fun q h => by rw [hXo 17 (by decide)]) h19 (fun x y a b => by rw [hXo 18 (by decide)]))
                              · exfalso; omega
                            | succ k7 ih172 =>
                              intro v hv7 hno
                              refine fx_iload dX11_fills_172 rfl ?_
                              refine fx_iload_n dX11_fills_174 rfl (i := 1) rfl ?_
                              refine fn_icmp_gt (tgt := 196) dX11_fills_175 (by decide) (by omega) (by omega) (fun c175 => ?_) (fun c175 => ?_)
                              · exfalso; omega
                              · skip
                                refine fx_aload_n dX11_fills_178 rfl (i := 0) rfl ?_
                                refine fx_iload_n dX11_fills_179 rfl (i := 1) rfl ?_
                                refine fx_iload dX11_fills_180 rfl ?_
                                refine fx_iload dX11_fills_182 rfl ?_
                                refine fn_cV dX11_fills_184 lk11_227 fv_c8 rfl (fw_at (show mT 0 = some (3, 8, 38, [some 1, none, some 2, some 3, some 4, some 5, some 6, some 7, some 8, some 9, some 10, some 11, some 12, some 13, some 14, some 15, some 16, some 17, some 18, some 19, none, none, none, some 20, some 21, some 22, some 23, none, some 24, some 25, some 26, some 27, some 28, some 29, some 30, some 31, none, some 32]) from rfl)) (C11_mayStand X L k A B C hb row col (by omega) (by omega) (by omega) (by omega) n (by omega) h15 h16 ce us hbr2 hus h19 hcl2 v (by omega) (by omega)) rfl rfl (by decide) (Nat.le_of_ble_eq_true rfl) ?_
                                show fv_At Y11_fills 1 0 0 Q 187 [(0, .ref 0), (1, .int (nI k)), (2, .int (nI PN)), (3, .int (nI mm)), (4, .int (nI n)), (5, .int (nI v))] [.int (bI (fok A B C (row, col) ce us v))] (fw mT X L) none 0 0
                                refine fn_if_neB (tgt := 196) dX11_fills_187 (by decide) (fun c187 => ?_) (fun c187 => ?_)
                                · skip
                                  refine fx_iload dX11_fills_196 rfl ?_
                                  refine fx_iload_n dX11_fills_198 rfl (i := 1) rfl ?_
                                  refine fn_icmp_le (tgt := 208) dX11_fills_199 (by decide) (by omega) (by omega) (fun c199 => ?_) (fun c199 => ?_)
                                  · skip
                                    have hC4 := (hb.2.1 row hv.1 hv.2.1).2
                                    refine fx_aload_n dX11_fills_208 rfl (i := 0) rfl ?_
                                    refine fw_getr dX11_fills_209 fd11_61 rfl rfl ?_
                                    refine fx_iload dX11_fills_212 rfl ?_
                                    refine fx_iload dX11_fills_214 rfl ?_
                                    refine fw_iast n dX11_fills_216 rfl rfl (by omega) (by decide) ?_
                                    refine fx_aload_n dX11_fills_217 rfl (i := 0) rfl ?_
                                    refine fw_getr dX11_fills_218 fd11_64 rfl rfl ?_
                                    refine fx_iconst (v := (nI 4)) dX11_fills_221 (by decide) ?_
                                    refine fx_aload_n dX11_fills_222 rfl (i := 0) rfl ?_
                                    refine fw_getr dX11_fills_223 fd11_55 rfl rfl ?_
                                    refine fx_iload dX11_fills_226 rfl ?_
                                    refine fw_iald n dX11_fills_228 rfl rfl (by omega) (by decide) ?_
                                    refine fn_to (show _ = (nI (row - 1)) from (by rw [g2_row _ _ (by decide)]; exact h15)) ?_
                                    refine fn_imul dX11_fills_229 ?_
                                    refine fx_aload_n dX11_fills_230 rfl (i := 0) rfl ?_
                                    refine fw_getr dX11_fills_231 fd11_58 rfl rfl ?_
                                    refine fx_iload dX11_fills_234 rfl ?_
                                    refine fw_iald n dX11_fills_236 rfl rfl (by omega) (by decide) ?_
                                    refine fn_to (show _ = (nI (col - 1)) from (by rw [g2_row _ _ (by decide)]; exact h16)) ?_
                                    refine fn_iadd dX11_fills_237 ?_
                                    refine fx_iload dX11_fills_238 rfl ?_
                                    refine fw_iast ((4 * (row - 1)) + (col - 1)) dX11_fills_240 rfl rfl (by omega) (by decide) ?_
                                    refine fx_aload_n dX11_fills_241 rfl (i := 0) rfl ?_
                                    refine fw_getr dX11_fills_242 fd11_67 rfl rfl ?_
                                    refine fx_iload dX11_fills_245 rfl ?_
                                    refine fx_dup2 dX11_fills_247 rfl rfl ?_
                                    refine fw_iald v dX11_fills_248 rfl rfl (by omega) (by decide) ?_
                                    refine fn_to (show _ = (nI (us v)) from (by rw [g2_row _ _ (by decide), g2_row _ _ (by decide)]; exact h19 v (by omega) (by omega))) ?_
                                    refine fx_iconst (v := (nI 1)) dX11_fills_249 (by decide) ?_
                                    refine fn_iadd dX11_fills_250 ?_
                                    refine fw_iast v dX11_fills_251 rfl rfl (by omega) (by decide) ?_
                                    obtain ⟨Y, hY⟩ : ∃ z, z = g2 (g2 (g2 X 17 n ((nI v))) 18 ((4 * (row - 1)) + (col - 1)) ((nI v))) 19 v ((nI ((us v) + 1))) := ⟨_, rfl⟩
                                    rw [← hY]
                                    have hok := fok_1 c187
                                    have hYo : ∀ i, i ≠ 17 → i ≠ 18 → i ≠ 19 → Y i = G5 i := fun i a b c => by rw [hY, g2_row _ _ c, g2_row _ _ b, g2_row _ _ a, hXo i c]
                                    have hYof : ∀ x, 1 ≤ x → x ≤ k → Y 19 x = nI (us x + if x = v then 1 else 0) := fun x a b => by
                                      rw [hY]
                                      by_cases z : x = v
                                      · rw [if_pos z, z, g2_eq]
                                      · rw [if_neg z, g2_ne _ _ (fun y => z y.2), g2_ne _ _ (by omega), g2_ne _ _ (by omega), h19 x a b]; rfl
                                    have hYcl : ∀ x y, x ≤ k → gon A C row col x y → Y 18 (4 * (x - 1) + (y - 1)) = G5 18 (4 * (x - 1) + (y - 1)) := fun x y a b => by
                                      have hi := idx_ne hk4 (fun r r1 r2 => (hb.2.1 r r1 r2).2) hv.1 hv.2.1 (by omega) hv.2.2.2 a b
                                      rw [hY, g2_ne _ _ (by omega), g2_ne _ _ (fun w => hi w.2), g2_ne _ _ (by omega), hXo 18 (by decide)]
                                    have hY17 : Y 17 n = nI v := by rw [hY, g2_ne _ _ (by omega), g2_ne _ _ (by omega), g2_eq]
                                    have hYlo : ∀ q, q < n → Y 17 q = G5 17 q := fun q h => by rw [hY, g2_ne _ _ (by omega), g2_ne _ _ (by omega), g2_ne _ _ (by omega), hXo 17 (by decide)]
                                    have hY18 : Y 18 (4 * (row - 1) + (col - 1)) = nI v := by rw [hY, g2_ne _ _ (by omega), g2_eq]
                                    have hRn := fiV_next (fun v => fiL k A B C sfx (uc ce row col v) (uu us v)) (fok A B C (row, col) ce us) (k := k) (s := s) (v := v) (by omega) (by omega) hno c187
                                    have hmv := mu_lt (k := k) (s := s) (v := v) (X := 1 + cst k sfx) (by omega) (by omega)
                                    have he4 : iI (((n + 1 : Nat) : Int) + (-1)) = nI n := show iI (((n + 1 : Nat) : Int) + (-1)) = iI ((n : Nat) : Int) from congrArg iI (by omega)
                                    have hsame : ∀ Z : Nat → Nat → Int32, (∀ i, i ≠ 17 → i ≠ 18 → i ≠ 19 → Z i = Y i) → (∀ q, q ≤ n → Z 17 q = Y 17 q) → (∀ x, 1 ≤ x → x ≤ k → Z 19 x = Y 19 x) → (∀ x y, x ≤ k → gon A C row col x y → Z 18 (4 * (x - 1) + (y - 1)) = Y 18 (4 * (x - 1) + (y - 1))) → fv_At Y11_fills 1 0 0 Q 130 [(0, .ref 0), (1, .int (nI k)), (2, .int (nI PN)), (3, .int (nI (mm + fiL k A B C sfx (uc ce row col v) (uu us v)))), (4, .int (nI n))] [] (fw mT Z L) none 0 0 := by
                                      intro Z z1 z2 z3 z4
                                      refine ih130 n row col sfx ce us v (mm + fiL k A B C sfx (uc ce row col v) (uu us v)) Z hn hv hch (fun q h => by rw [z1 15 (by decide) (by decide) (by decide), z1 16 (by decide) (by decide) (by decide), hYo 15 (by decide) (by decide) (by decide), hYo 16 (by decide) (by decide) (by decide)]; exact htb q h) (mbr_k hbr (by rw [z1 12 (by decide) (by decide) (by decide), hYo 12 (by decide) (by decide) (by decide)]) (by rw [z1 13 (by decide) (by decide) (by decide), hYo 13 (by decide) (by decide) (by decide)]) (by rw [z1 14 (by decide) (by decide) (by decide), hYo 14 (by decide) (by decide) (by decide)])) ⟨by rw [z2 n (Nat.le_refl _)]; exact hY17, by omega⟩ hus (fun x a b => by rw [z3 x a b]; exact hYof x a b) (mcl_k hcl (fun x y a b => by rw [z4 x y a b, hYcl x y a b])) (fun i a b c d e => by rw [z1 i c d e, hYo i c d e]; exact hoG5 i a b c d e) (by omega) ?_
                                      intro G6 m6 e1 e2 e3 e4 e5
                                      refine hK G6 m6 (by rw [e1, hRn]; (try dsimp only); omega) (fun i a b c => by rw [e2 i a b c, z1 i a b c, hYo i a b c]) (fun q h => by rw [e3 q h, z2 q (by omega), hYlo q h]) e4 (fun x y a b => by rw [e5 x y a b, z4 x y a b, hYcl x y a b])
                                    refine fx_iload dX11_fills_252 rfl ?_
                                    refine fx_iconst (v := (nI 1)) dX11_fills_254 (by decide) ?_
                                    refine fn_iadd dX11_fills_255 ?_
                                    refine fx_iload_n dX11_fills_256 rfl (i := 2) rfl ?_
                                    refine fn_icmp_ne (tgt := 266) dX11_fills_257 (by decide) (by omega) (by omega) (fun c257 => ?_) (fun c257 => ?_)
                                    · skip
                                      refine fn_iinc (c := 1) (lv2 := [(0, .ref 0), (1, .int (nI k)), (2, .int (nI PN)), (3, .int (nI mm)), (4, .int (nI (n + 1))), (5, .int (nI v))]) dX11_fills_266 (by decide) rfl (by decide) rfl ?_
                                      refine fx_aload_n dX11_fills_269 rfl (i := 0) rfl ?_
                                      refine fw_getr dX11_fills_270 fd11_61 rfl rfl ?_
                                      refine fx_iload dX11_fills_273 rfl ?_
                                      refine fx_iconst (v := (nI 0)) dX11_fills_275 (by decide) ?_
                                      refine fw_iast (n + 1) dX11_fills_276 rfl rfl (by omega) (by decide) ?_
                                      refine fx_goto (tgt := 130) dX11_fills_277 (by decide) ?_
                                      obtain ⟨p1, s1, hsx⟩ : ∃ p1 s1, sfx = p1 :: s1 := List.exists_cons_of_length_pos (by omega)
                                      subst hsx
                                      obtain ⟨vp, wp, hch2⟩ := hch
                                      rw [List.length_cons] at hn
                                      have hcs : cst k (p1 :: s1) = (k + 1) * (1 + cst k s1) + 1 := rfl
                                      rw [Nat.add_mul, Nat.one_mul] at hcs
                                      have hgo : ∀ x y, x ≤ k → gon A C p1.1 p1.2 x y → gon A C row col x y ∨ (x = row ∧ y = col) := fun x y a b => by have w := (wp x y a).mp b; unfold gon at w ⊢; omega
                                      refine fn_sub [0, 1, 2, 3, 4] rfl (ih130 (n + 1) p1.1 p1.2 s1 (uc ce row col v) (uu us v) 0 mm (g2 Y 17 (n + 1) (nI 0)) (by omega) vp hch2 (fun q h => by have w := htb (q + 1) (by rw [List.length_cons]; omega); rw [g2_row _ _ (by decide), g2_row _ _ (by decide), hYo 15 (by decide) (by decide) (by decide), hYo 16 (by decide) (by decide) (by decide), show n + 1 + q = n + (q + 1) by omega]; exact w) (mbr_k hbr (by rw [g2_row _ _ (by decide), hYo 12 (by decide) (by decide) (by decide)]) (by rw [g2_row _ _ (by decide), hYo 13 (by decide) (by decide) (by decide)]) (by rw [g2_row _ _ (by decide), hYo 14 (by decide) (by decide) (by decide)])) ⟨g2_eq _ _ _ _, Nat.zero_le _⟩ (mus_u hus hok.1 hok.2.1 (by omega)) (fun x a b => by rw [g2_row _ _ (by decide), hYof x a b]; unfold uu; exact congrArg nI (by split <;> (try split) <;> omega)) ?_ (fun i a b c d e => by rw [g2_row _ _ c, hYo i c d e]; exact hoG5 i a b c d e) (by rw [Nat.sub_zero]; omega) ?_)
                                      · intro x y a b
                                        rw [g2_row _ _ (by decide)]
                                        unfold uc
                                        rcases hgo x y a b with w | w
                                        · have hi := idx_ne hk4 (fun r r1 r2 => (hb.2.1 r r1 r2).2) hv.1 hv.2.1 (by omega) hv.2.2.2 a w
                                          rw [hYcl x y a w, if_neg (fun q => hi (by rw [q.1, q.2]))]
                                          exact hcl x y a w
                                        · rw [if_pos w, w.1, w.2, hY18]
                                          exact ⟨rfl, by omega, by omega⟩
                                      · intro G6 m6 e1 e2 e3 e4 e5
                                        rw [he4, show m6 = mm + fiL k A B C (p1 :: s1) (uc ce row col v) (uu us v) from e1]
                                        exact hsame G6 (fun i a b c => by rw [e2 i a b c, g2_row _ _ a]) (fun q h => by rw [e3 q (by omega), g2_ne _ _ (by omega)]) (fun x a b => by rw [e4 x a b, hYof x a b]; unfold uu; exact congrArg nI (by split <;> (try split) <;> omega)) (fun x y a b => by rw [e5 x y a ((wp x y a).mpr (by unfold gon at b ⊢; omega)), g2_row _ _ (by decide)])
                                    · skip
                                      refine fn_iinc (c := 1) (lv2 := [(0, .ref 0), (1, .int (nI k)), (2, .int (nI PN)), (3, .int (nI (mm + 1))), (4, .int (nI n)), (5, .int (nI v))]) dX11_fills_260 (by decide) rfl (by decide) rfl ?_
                                      refine fx_goto (tgt := 277) dX11_fills_263 (by decide) ?_
                                      refine fx_goto (tgt := 130) dX11_fills_277 (by decide) ?_
                                      have hs0 : sfx = [] := List.length_eq_zero_iff.mp (by omega)
                                      subst hs0
                                      exact fn_sub [0, 1, 2, 3, 4] rfl (hsame Y (fun _ _ _ _ => rfl) (fun _ _ => rfl) (fun _ _ _ => rfl) (fun _ _ _ _ => rfl))
                                  · exfalso; omega
                                · skip
                                  refine fn_iinc (c := 1) (lv2 := [(0, .ref 0), (1, .int (nI k)), (2, .int (nI PN)), (3, .int (nI mm)), (4, .int (nI n)), (5, .int (nI (v + 1)))]) dX11_fills_190 (by decide) rfl (by decide) rfl ?_
                                  refine fx_goto (tgt := 172) dX11_fills_193 (by decide) ?_
                                  exact (ih172 (v + 1) (by omega) (fun x a b => by by_cases z : x = v; (rw [z]; exact c187); exact hno x a (by omega)))
                          exact (L172 (k - s) (s + 1) (by omega) (fun x a b => by omega))
                        · skip
                          refine fx_aload_n dX11_fills_145 rfl (i := 0) rfl ?_
                          refine fw_getr dX11_fills_146 fd11_67 rfl rfl ?_
                          refine fx_aload_n dX11_fills_149 rfl (i := 0) rfl ?_
                          refine fw_getr dX11_fills_150 fd11_61 rfl rfl ?_
                          refine fx_iload dX11_fills_153 rfl ?_
                          refine fw_iald n dX11_fills_155 rfl rfl (by omega) (by decide) ?_
                          refine fn_to (show _ = (nI s) from hst.1) ?_
                          refine fx_dup2 dX11_fills_156 rfl rfl ?_
                          refine fw_iald s dX11_fills_157 rfl rfl (by omega) (by decide) ?_
                          refine fn_to (show _ = (nI (us s + 1)) from (by rw [hof s (by omega) hst.2, if_pos rfl])) ?_
                          refine fx_iconst (v := (nI 1)) dX11_fills_158 (by decide) ?_
                          refine fn_isub dX11_fills_159 (by omega) ?_
                          refine fw_iast s dX11_fills_160 rfl rfl (by omega) (by decide) ?_
                          obtain ⟨X, hX⟩ : ∃ z, z = g2 G5 19 s ((nI ((us s + 1) - 1))) := ⟨_, rfl⟩
                          rw [← hX]
                          have h19 : ∀ x, 1 ≤ x → x ≤ k → X 19 x = nI (us x) := fun x a b => by
                            rw [hX]
                            by_cases z : x = s
                            · rw [z, g2_eq]; exact congrArg nI (by omega)
                            · rw [g2_ne _ _ (fun y => z y.2), hof x a b, if_neg z]; rfl
                          have hXo : ∀ i, i ≠ 19 → X i = G5 i := fun i h => by rw [hX]; exact g2_row _ _ h
                          have hbr2 := mbr_k hbr (hXo 12 (by decide)) (hXo 13 (by decide)) (hXo 14 (by decide))
                          have hcl2 : mcl X k A C ce row col := mcl_k hcl (fun _ _ _ _ => by rw [hXo 18 (by decide)])
                          have ht0 := htb 0 (Nat.zero_le _)
                          have h15 : X 15 n = nI (row - 1) := by rw [hXo 15 (by decide)]; exact ht0.1
                          have h16 : X 16 n = nI (col - 1) := by rw [hXo 16 (by decide)]; exact ht0.2
                          have h17 : X 17 n = nI s := by rw [hXo 17 (by decide)]; exact hst.1
                          refine fx_aload_n dX11_fills_161 rfl (i := 0) rfl ?_
                          refine fw_getr dX11_fills_162 fd11_61 rfl rfl ?_
                          refine fx_iload dX11_fills_165 rfl ?_
                          refine fw_iald n dX11_fills_167 rfl rfl (by omega) (by decide) ?_
                          refine fn_to (show _ = (nI s) from h17) ?_
                          refine fx_iconst (v := (nI 1)) dX11_fills_168 (by decide) ?_
                          refine fn_iadd dX11_fills_169 ?_
                          refine fx_istore (lv2 := [(0, .ref 0), (1, .int (nI k)), (2, .int (nI PN)), (3, .int (nI mm)), (4, .int (nI n)), (5, .int (nI (s + 1)))]) dX11_fills_170 (by decide) rfl ?_
                          have L172 : ∀ (k7 : Nat) (v : Nat), (v + k7 = k + 1 ∧ s < v) → (∀ x, s < x → x < v → fok A B C (row, col) ce us x = false) → fv_At Y11_fills 1 0 0 Q 172 [(0, .ref 0), (1, .int (nI k)), (2, .int (nI PN)), (3, .int (nI mm)), (4, .int (nI n)), (5, .int (nI v))] [] (fw mT X L) none 0 0 := by
                            intro k7
                            induction k7 with
                            | zero =>
                              intro v hv7 hno
                              refine fx_iload dX11_fills_172 rfl ?_
                              refine fx_iload_n dX11_fills_174 rfl (i := 1) rfl ?_
                              refine fn_icmp_gt (tgt := 196) dX11_fills_175 (by decide) (by omega) (by omega) (fun c175 => ?_) (fun c175 => ?_)
                              · skip
                                refine fx_iload dX11_fills_196 rfl ?_
                                refine fx_iload_n dX11_fills_198 rfl (i := 1) rfl ?_
                                refine fn_icmp_le (tgt := 208) dX11_fills_199 (by decide) (by omega) (by omega) (fun c199 => ?_) (fun c199 => ?_)
                                · exfalso; omega
                                · skip
                                  show fv_At Y11_fills 1 0 0 Q 202 [(0, .ref 0), (1, .int (nI k)), (2, .int (nI PN)), (3, .int (nI mm)), (4, .int (iI ((n : Int)))), (5, .int (nI v))] [] (fw mT X L) none 0 0
                                  refine fn_iincZ (lv2 := [(0, .ref 0), (1, .int (nI k)), (2, .int (nI PN)), (3, .int (nI mm)), (4, .int (iI ((n : Int) + (-1)))), (5, .int (nI v))]) dX11_fills_202  rfl (by decide) rfl ?_
                                  refine fx_goto (tgt := 277) dX11_fills_205 (by decide) ?_
                                  refine fx_goto (tgt := 130) dX11_fills_277 (by decide) ?_
                                  exact fn_sub [0, 1, 2, 3, 4] rfl (hK X mm (by rw [fiV_out _ _ _ _ _ (fun x a b => hno x (by omega) (by omega)), Nat.add_zero]) (fun i _ _ c => hXo i c) (fun q h => by rw [hXo 17 (by decide)]) h19 (fun x y a b => by rw [hXo 18 (by decide)]))
                              · exfalso; omega
                            | succ k7 ih172 =>
                              intro v hv7 hno
                              refine fx_iload dX11_fills_172 rfl ?_
                              refine fx_iload_n dX11_fills_174 rfl (i := 1) rfl ?_
                              refine fn_icmp_gt (tgt := 196) dX11_fills_175 (by decide) (by omega) (by omega) (fun c175 => ?_) (fun c175 => ?_)
                              · exfalso; omega
                              · skip
                                refine fx_aload_n dX11_fills_178 rfl (i := 0) rfl ?_
                                refine fx_iload_n dX11_fills_179 rfl (i := 1) rfl ?_
                                refine fx_iload dX11_fills_180 rfl ?_
                                refine fx_iload dX11_fills_182 rfl ?_
                                refine fn_cV dX11_fills_184 lk11_227 fv_c8 rfl (fw_at (show mT 0 = some (3, 8, 38, [some 1, none, some 2, some 3, some 4, some 5, some 6, some 7, some 8, some 9, some 10, some 11, some 12, some 13, some 14, some 15, some 16, some 17, some 18, some 19, none, none, none, some 20, some 21, some 22, some 23, none, some 24, some 25, some 26, some 27, some 28, some 29, some 30, some 31, none, some 32]) from rfl)) (C11_mayStand X L k A B C hb row col (by omega) (by omega) (by omega) (by omega) n (by omega) h15 h16 ce us hbr2 hus h19 hcl2 v (by omega) (by omega)) rfl rfl (by decide) (Nat.le_of_ble_eq_true rfl) ?_
                                show fv_At Y11_fills 1 0 0 Q 187 [(0, .ref 0), (1, .int (nI k)), (2, .int (nI PN)), (3, .int (nI mm)), (4, .int (nI n)), (5, .int (nI v))] [.int (bI (fok A B C (row, col) ce us v))] (fw mT X L) none 0 0
                                refine fn_if_neB (tgt := 196) dX11_fills_187 (by decide) (fun c187 => ?_) (fun c187 => ?_)
                                · skip
                                  refine fx_iload dX11_fills_196 rfl ?_
                                  refine fx_iload_n dX11_fills_198 rfl (i := 1) rfl ?_
                                  refine fn_icmp_le (tgt := 208) dX11_fills_199 (by decide) (by omega) (by omega) (fun c199 => ?_) (fun c199 => ?_)
                                  · skip
                                    have hC4 := (hb.2.1 row hv.1 hv.2.1).2
                                    refine fx_aload_n dX11_fills_208 rfl (i := 0) rfl ?_
                                    refine fw_getr dX11_fills_209 fd11_61 rfl rfl ?_
                                    refine fx_iload dX11_fills_212 rfl ?_
                                    refine fx_iload dX11_fills_214 rfl ?_
                                    refine fw_iast n dX11_fills_216 rfl rfl (by omega) (by decide) ?_
                                    refine fx_aload_n dX11_fills_217 rfl (i := 0) rfl ?_
                                    refine fw_getr dX11_fills_218 fd11_64 rfl rfl ?_
                                    refine fx_iconst (v := (nI 4)) dX11_fills_221 (by decide) ?_
                                    refine fx_aload_n dX11_fills_222 rfl (i := 0) rfl ?_
                                    refine fw_getr dX11_fills_223 fd11_55 rfl rfl ?_
                                    refine fx_iload dX11_fills_226 rfl ?_
                                    refine fw_iald n dX11_fills_228 rfl rfl (by omega) (by decide) ?_
                                    refine fn_to (show _ = (nI (row - 1)) from (by rw [g2_row _ _ (by decide)]; exact h15)) ?_
                                    refine fn_imul dX11_fills_229 ?_
                                    refine fx_aload_n dX11_fills_230 rfl (i := 0) rfl ?_
                                    refine fw_getr dX11_fills_231 fd11_58 rfl rfl ?_
                                    refine fx_iload dX11_fills_234 rfl ?_
                                    refine fw_iald n dX11_fills_236 rfl rfl (by omega) (by decide) ?_
                                    refine fn_to (show _ = (nI (col - 1)) from (by rw [g2_row _ _ (by decide)]; exact h16)) ?_
                                    refine fn_iadd dX11_fills_237 ?_
                                    refine fx_iload dX11_fills_238 rfl ?_
                                    refine fw_iast ((4 * (row - 1)) + (col - 1)) dX11_fills_240 rfl rfl (by omega) (by decide) ?_
                                    refine fx_aload_n dX11_fills_241 rfl (i := 0) rfl ?_
                                    refine fw_getr dX11_fills_242 fd11_67 rfl rfl ?_
                                    refine fx_iload dX11_fills_245 rfl ?_
                                    refine fx_dup2 dX11_fills_247 rfl rfl ?_
                                    refine fw_iald v dX11_fills_248 rfl rfl (by omega) (by decide) ?_
                                    refine fn_to (show _ = (nI (us v)) from (by rw [g2_row _ _ (by decide), g2_row _ _ (by decide)]; exact h19 v (by omega) (by omega))) ?_
                                    refine fx_iconst (v := (nI 1)) dX11_fills_249 (by decide) ?_
                                    refine fn_iadd dX11_fills_250 ?_
                                    refine fw_iast v dX11_fills_251 rfl rfl (by omega) (by decide) ?_
                                    obtain ⟨Y, hY⟩ : ∃ z, z = g2 (g2 (g2 X 17 n ((nI v))) 18 ((4 * (row - 1)) + (col - 1)) ((nI v))) 19 v ((nI ((us v) + 1))) := ⟨_, rfl⟩
                                    rw [← hY]
                                    have hok := fok_1 c187
                                    have hYo : ∀ i, i ≠ 17 → i ≠ 18 → i ≠ 19 → Y i = G5 i := fun i a b c => by rw [hY, g2_row _ _ c, g2_row _ _ b, g2_row _ _ a, hXo i c]
                                    have hYof : ∀ x, 1 ≤ x → x ≤ k → Y 19 x = nI (us x + if x = v then 1 else 0) := fun x a b => by
                                      rw [hY]
                                      by_cases z : x = v
                                      · rw [if_pos z, z, g2_eq]
                                      · rw [if_neg z, g2_ne _ _ (fun y => z y.2), g2_ne _ _ (by omega), g2_ne _ _ (by omega), h19 x a b]; rfl
                                    have hYcl : ∀ x y, x ≤ k → gon A C row col x y → Y 18 (4 * (x - 1) + (y - 1)) = G5 18 (4 * (x - 1) + (y - 1)) := fun x y a b => by
                                      have hi := idx_ne hk4 (fun r r1 r2 => (hb.2.1 r r1 r2).2) hv.1 hv.2.1 (by omega) hv.2.2.2 a b
                                      rw [hY, g2_ne _ _ (by omega), g2_ne _ _ (fun w => hi w.2), g2_ne _ _ (by omega), hXo 18 (by decide)]
                                    have hY17 : Y 17 n = nI v := by rw [hY, g2_ne _ _ (by omega), g2_ne _ _ (by omega), g2_eq]
                                    have hYlo : ∀ q, q < n → Y 17 q = G5 17 q := fun q h => by rw [hY, g2_ne _ _ (by omega), g2_ne _ _ (by omega), g2_ne _ _ (by omega), hXo 17 (by decide)]
                                    have hY18 : Y 18 (4 * (row - 1) + (col - 1)) = nI v := by rw [hY, g2_ne _ _ (by omega), g2_eq]
                                    have hRn := fiV_next (fun v => fiL k A B C sfx (uc ce row col v) (uu us v)) (fok A B C (row, col) ce us) (k := k) (s := s) (v := v) (by omega) (by omega) hno c187
                                    have hmv := mu_lt (k := k) (s := s) (v := v) (X := 1 + cst k sfx) (by omega) (by omega)
                                    have he4 : iI (((n + 1 : Nat) : Int) + (-1)) = nI n := show iI (((n + 1 : Nat) : Int) + (-1)) = iI ((n : Nat) : Int) from congrArg iI (by omega)
                                    have hsame : ∀ Z : Nat → Nat → Int32, (∀ i, i ≠ 17 → i ≠ 18 → i ≠ 19 → Z i = Y i) → (∀ q, q ≤ n → Z 17 q = Y 17 q) → (∀ x, 1 ≤ x → x ≤ k → Z 19 x = Y 19 x) → (∀ x y, x ≤ k → gon A C row col x y → Z 18 (4 * (x - 1) + (y - 1)) = Y 18 (4 * (x - 1) + (y - 1))) → fv_At Y11_fills 1 0 0 Q 130 [(0, .ref 0), (1, .int (nI k)), (2, .int (nI PN)), (3, .int (nI (mm + fiL k A B C sfx (uc ce row col v) (uu us v)))), (4, .int (nI n))] [] (fw mT Z L) none 0 0 := by
                                      intro Z z1 z2 z3 z4
                                      refine ih130 n row col sfx ce us v (mm + fiL k A B C sfx (uc ce row col v) (uu us v)) Z hn hv hch (fun q h => by rw [z1 15 (by decide) (by decide) (by decide), z1 16 (by decide) (by decide) (by decide), hYo 15 (by decide) (by decide) (by decide), hYo 16 (by decide) (by decide) (by decide)]; exact htb q h) (mbr_k hbr (by rw [z1 12 (by decide) (by decide) (by decide), hYo 12 (by decide) (by decide) (by decide)]) (by rw [z1 13 (by decide) (by decide) (by decide), hYo 13 (by decide) (by decide) (by decide)]) (by rw [z1 14 (by decide) (by decide) (by decide), hYo 14 (by decide) (by decide) (by decide)])) ⟨by rw [z2 n (Nat.le_refl _)]; exact hY17, by omega⟩ hus (fun x a b => by rw [z3 x a b]; exact hYof x a b) (mcl_k hcl (fun x y a b => by rw [z4 x y a b, hYcl x y a b])) (fun i a b c d e => by rw [z1 i c d e, hYo i c d e]; exact hoG5 i a b c d e) (by omega) ?_
                                      intro G6 m6 e1 e2 e3 e4 e5
                                      refine hK G6 m6 (by rw [e1, hRn]; (try dsimp only); omega) (fun i a b c => by rw [e2 i a b c, z1 i a b c, hYo i a b c]) (fun q h => by rw [e3 q h, z2 q (by omega), hYlo q h]) e4 (fun x y a b => by rw [e5 x y a b, z4 x y a b, hYcl x y a b])
                                    refine fx_iload dX11_fills_252 rfl ?_
                                    refine fx_iconst (v := (nI 1)) dX11_fills_254 (by decide) ?_
                                    refine fn_iadd dX11_fills_255 ?_
                                    refine fx_iload_n dX11_fills_256 rfl (i := 2) rfl ?_
                                    refine fn_icmp_ne (tgt := 266) dX11_fills_257 (by decide) (by omega) (by omega) (fun c257 => ?_) (fun c257 => ?_)
                                    · skip
                                      refine fn_iinc (c := 1) (lv2 := [(0, .ref 0), (1, .int (nI k)), (2, .int (nI PN)), (3, .int (nI mm)), (4, .int (nI (n + 1))), (5, .int (nI v))]) dX11_fills_266 (by decide) rfl (by decide) rfl ?_
                                      refine fx_aload_n dX11_fills_269 rfl (i := 0) rfl ?_
                                      refine fw_getr dX11_fills_270 fd11_61 rfl rfl ?_
                                      refine fx_iload dX11_fills_273 rfl ?_
                                      refine fx_iconst (v := (nI 0)) dX11_fills_275 (by decide) ?_
                                      refine fw_iast (n + 1) dX11_fills_276 rfl rfl (by omega) (by decide) ?_
                                      refine fx_goto (tgt := 130) dX11_fills_277 (by decide) ?_
                                      obtain ⟨p1, s1, hsx⟩ : ∃ p1 s1, sfx = p1 :: s1 := List.exists_cons_of_length_pos (by omega)
                                      subst hsx
                                      obtain ⟨vp, wp, hch2⟩ := hch
                                      rw [List.length_cons] at hn
                                      have hcs : cst k (p1 :: s1) = (k + 1) * (1 + cst k s1) + 1 := rfl
                                      rw [Nat.add_mul, Nat.one_mul] at hcs
                                      have hgo : ∀ x y, x ≤ k → gon A C p1.1 p1.2 x y → gon A C row col x y ∨ (x = row ∧ y = col) := fun x y a b => by have w := (wp x y a).mp b; unfold gon at w ⊢; omega
                                      refine fn_sub [0, 1, 2, 3, 4] rfl (ih130 (n + 1) p1.1 p1.2 s1 (uc ce row col v) (uu us v) 0 mm (g2 Y 17 (n + 1) (nI 0)) (by omega) vp hch2 (fun q h => by have w := htb (q + 1) (by rw [List.length_cons]; omega); rw [g2_row _ _ (by decide), g2_row _ _ (by decide), hYo 15 (by decide) (by decide) (by decide), hYo 16 (by decide) (by decide) (by decide), show n + 1 + q = n + (q + 1) by omega]; exact w) (mbr_k hbr (by rw [g2_row _ _ (by decide), hYo 12 (by decide) (by decide) (by decide)]) (by rw [g2_row _ _ (by decide), hYo 13 (by decide) (by decide) (by decide)]) (by rw [g2_row _ _ (by decide), hYo 14 (by decide) (by decide) (by decide)])) ⟨g2_eq _ _ _ _, Nat.zero_le _⟩ (mus_u hus hok.1 hok.2.1 (by omega)) (fun x a b => by rw [g2_row _ _ (by decide), hYof x a b]; unfold uu; exact congrArg nI (by split <;> (try split) <;> omega)) ?_ (fun i a b c d e => by rw [g2_row _ _ c, hYo i c d e]; exact hoG5 i a b c d e) (by rw [Nat.sub_zero]; omega) ?_)
                                      · intro x y a b
                                        rw [g2_row _ _ (by decide)]
                                        unfold uc
                                        rcases hgo x y a b with w | w
                                        · have hi := idx_ne hk4 (fun r r1 r2 => (hb.2.1 r r1 r2).2) hv.1 hv.2.1 (by omega) hv.2.2.2 a w
                                          rw [hYcl x y a w, if_neg (fun q => hi (by rw [q.1, q.2]))]
                                          exact hcl x y a w
                                        · rw [if_pos w, w.1, w.2, hY18]
                                          exact ⟨rfl, by omega, by omega⟩
                                      · intro G6 m6 e1 e2 e3 e4 e5
                                        rw [he4, show m6 = mm + fiL k A B C (p1 :: s1) (uc ce row col v) (uu us v) from e1]
                                        exact hsame G6 (fun i a b c => by rw [e2 i a b c, g2_row _ _ a]) (fun q h => by rw [e3 q (by omega), g2_ne _ _ (by omega)]) (fun x a b => by rw [e4 x a b, hYof x a b]; unfold uu; exact congrArg nI (by split <;> (try split) <;> omega)) (fun x y a b => by rw [e5 x y a ((wp x y a).mpr (by unfold gon at b ⊢; omega)), g2_row _ _ (by decide)])
                                    · skip
                                      refine fn_iinc (c := 1) (lv2 := [(0, .ref 0), (1, .int (nI k)), (2, .int (nI PN)), (3, .int (nI (mm + 1))), (4, .int (nI n)), (5, .int (nI v))]) dX11_fills_260 (by decide) rfl (by decide) rfl ?_
                                      refine fx_goto (tgt := 277) dX11_fills_263 (by decide) ?_
                                      refine fx_goto (tgt := 130) dX11_fills_277 (by decide) ?_
                                      have hs0 : sfx = [] := List.length_eq_zero_iff.mp (by omega)
                                      subst hs0
                                      exact fn_sub [0, 1, 2, 3, 4] rfl (hsame Y (fun _ _ _ _ => rfl) (fun _ _ => rfl) (fun _ _ _ => rfl) (fun _ _ _ _ => rfl))
                                  · exfalso; omega
                                · skip
                                  refine fn_iinc (c := 1) (lv2 := [(0, .ref 0), (1, .int (nI k)), (2, .int (nI PN)), (3, .int (nI mm)), (4, .int (nI n)), (5, .int (nI (v + 1)))]) dX11_fills_190 (by decide) rfl (by decide) rfl ?_
                                  refine fx_goto (tgt := 172) dX11_fills_193 (by decide) ?_
                                  exact (ih172 (v + 1) (by omega) (fun x a b => by by_cases z : x = v; (rw [z]; exact c187); exact hno x a (by omega)))
                          exact (L172 (k - s) (s + 1) (by omega) (fun x a b => by omega))
                  exact (L130 ((k - 0) * (1 + cst k s0) + 1) 0 p0.1 p0.2 s0 ce0 us0 0 0 (g2 G3 17 0 ((nI 0))) (by omega) vp0 ch0 (fun q h => by rw [g2_row _ _ (by decide), g2_row _ _ (by decide), hoG3 15 (by decide), hoG3 16 (by decide), Nat.zero_add]; have w := htb q (by omega); rw [hp0] at w; exact w) (mbr_k hbr0 (g2_row _ _ (by decide)) (g2_row _ _ (by decide)) (g2_row _ _ (by decide))) ⟨g2_eq _ _ _ _, Nat.zero_le _⟩ (fun v a b => ⟨Nat.zero_le _, fun _ => Nat.le_refl _⟩) (fun x a b => by rw [g2_row _ _ (by decide), hN3 x (by omega), if_neg (by omega)]; rfl) (fun x y a b => by have w := (wp0 x y a).mp b; unfold gon at w; by_cases z : x = 1; (subst z; omega); omega) (fun i a b c d e => by rw [g2_row _ _ c, hoG3 i e, hoG i a b]) (Nat.le_refl _) (fun G6 m6 e1 e2 _ e4 e5 => hend G6 m6 (by rw [e1, hxf, hp0, Nat.zero_add]; rfl) (fun i a b c d e => by rw [e2 i c d e, g2_row _ _ c, hoG3 i e, hoG i a b])))
                · skip
                  refine fx_iconst (v := (nI 1)) dX11_fills_116 (by decide) ?_
                  exact fx_iret dX11_fills_117 rfl rfl rfl (by rw [hQ]; exact ⟨G3, by rw [hxf, List.length_eq_zero_iff.mp (show pd.length = 0 by omega)]; rfl, rfl, rfl, fun i a b _ _ e => (hoG3 i e).trans (hoG i a b)⟩)
              · exfalso; omega
            | succ k6 ih93 =>
              intro x G3 hx hoG3 hN3
              refine fx_iload_n dX11_fills_93 rfl (i := 3) rfl ?_
              refine fx_bipush (v := (nI 6)) dX11_fills_94 (by decide) ?_
              refine fn_icmp_ge (tgt := 112) dX11_fills_96 (by decide) (by omega) (by omega) (fun c96 => ?_) (fun c96 => ?_)
              · exfalso; omega
              · skip
                refine fx_aload_n dX11_fills_99 rfl (i := 0) rfl ?_
                refine fw_getr dX11_fills_100 fd11_67 rfl rfl ?_
                refine fx_iload_n dX11_fills_103 rfl (i := 3) rfl ?_
                refine fx_iconst (v := (nI 0)) dX11_fills_104 (by decide) ?_
                refine fw_iast x dX11_fills_105 rfl rfl (by omega) (by decide) ?_
                refine fn_iinc (c := 1) (lv2 := [(0, .ref 0), (1, .int (nI k)), (2, .int (nI P)), (3, .int (nI (x + 1)))]) dX11_fills_106 (by decide) rfl (by decide) rfl ?_
                refine fx_goto (tgt := 93) dX11_fills_109 (by decide) ?_
                exact (ih93 (x + 1) (g2 G3 19 x ((nI 0))) (by omega) (fun i h => (g2_row _ _ h).trans (hoG3 i h)) (fun q h => by by_cases z : q = x; (rw [z]; exact g2_eq _ _ _ _); exact (g2_ne _ _ (by omega)).trans (hN3 q (by omega))))
          exact (L93 6 0 G1 (by omega) (fun _ _ => rfl) (fun q h => absurd h (Nat.not_lt_zero _)))
        · skip
          refine fx_iconst (v := (nI 0)) dX11_fills_89 (by decide) ?_
          exact fx_iret dX11_fills_90 rfl rfl rfl (by rw [hQ]; exact ⟨G1, by unfold xFil; rw [if_neg (fun w => by omega)], rfl, rfl, fun i a b _ _ _ => hoG i a b⟩)
      · exfalso; omega
    | succ j ih4 =>
      intro pd P r G1 hr hpd hP htb hoG hAC hln
      refine fx_iload_n dX11_fills_4 rfl (i := 3) rfl ?_
      refine fx_iload_n dX11_fills_5 rfl (i := 1) rfl ?_
      refine fn_icmp_ge (tgt := 77) dX11_fills_6 (by decide) (by omega) (by omega) (fun c6 => ?_) (fun c6 => ?_)
      · exfalso; omega
      · skip
        have hcr := (rmo_le vC r (by omega)).1
        have har := h9 r
        refine fx_aload_n dX11_fills_9 rfl (i := 0) rfl ?_
        refine fw_getr dX11_fills_10 fd11_46 rfl rfl ?_
        refine fx_iload_n dX11_fills_13 rfl (i := 3) rfl ?_
        refine fw_iald r dX11_fills_14 rfl rfl (by omega) (by decide) ?_
        refine fn_to (show _ = (nI (hA r)) from (by rw [hoG 12 (by decide) (by decide)]; exact (hg r (by omega)).1)) ?_
        refine fx_aload_n dX11_fills_15 rfl (i := 0) rfl ?_
        refine fw_getr dX11_fills_16 fd11_52 rfl rfl ?_
        refine fx_iload_n dX11_fills_19 rfl (i := 3) rfl ?_
        refine fw_iald r dX11_fills_20 rfl rfl (by omega) (by decide) ?_
        refine fn_to (show _ = (nI (hC r)) from (by rw [hoG 14 (by decide) (by decide)]; exact (hg r (by omega)).2.2)) ?_
        refine fn_icmp_le (tgt := 26) dX11_fills_21 (by decide) (by omega) (by omega) (fun c21 => ?_) (fun c21 => ?_)
        · skip
          refine fx_aload_n dX11_fills_26 rfl (i := 0) rfl ?_
          refine fw_getr dX11_fills_27 fd11_52 rfl rfl ?_
          refine fx_iload_n dX11_fills_30 rfl (i := 3) rfl ?_
          refine fw_iald r dX11_fills_31 rfl rfl (by omega) (by decide) ?_
          refine fn_to (show _ = (nI (hC r)) from (by rw [hoG 14 (by decide) (by decide)]; exact (hg r (by omega)).2.2)) ?_
          refine fx_iconst (v := (nI 1)) dX11_fills_32 (by decide) ?_
          refine fn_isubZ (a := ((hC r : Nat) : Int)) (b := ((1 : Nat) : Int)) dX11_fills_33 ?_
          refine fx_istore (lv2 := [(0, .ref 0), (1, .int (nI k)), (2, .int (nI P)), (3, .int (nI r)), (4, .int (iI ((((hC r : Nat) : Int)) - (((1 : Nat) : Int)))))]) dX11_fills_34 (by decide) rfl ?_
          have L36 : ∀ (k5 : Nat) (c : Int) (pd2 : List (Nat × Nat)) (P2 : Nat) (G2 : Nat → Nat → Int32), (c + 1 = (hA r : Int) + (k5 : Int)) → (pd2 ++ (rowP (r + 1) (hA r + k5) k5 ++ plR (sh1 hA) (sh1 hC) j (r + 2)) = plR (sh1 hA) (sh1 hC) k 1) → (P2 = pd2.length) → (∀ q, q < P2 → G2 15 q = nI ((pd2.getD q (0, 0)).1 - 1) ∧ G2 16 q = nI ((pd2.getD q (0, 0)).2 - 1)) → (∀ i, i ≠ 15 → i ≠ 16 → G2 i = G i) → (pd2.length + k5 ≤ 4 * r + 4) → fv_At Y11_fills 1 0 0 Q 36 [(0, .ref 0), (1, .int (nI k)), (2, .int (nI P2)), (3, .int (nI r)), (4, .int (iI c))] [] (fw mT G2 L) none 0 0 := by
            intro k5
            induction k5 with
            | zero =>
              intro c pd2 P2 G2 hc hpd2 hP2 htb2 hoG2 hln2
              refine fx_iload dX11_fills_36 rfl ?_
              refine fx_aload_n dX11_fills_38 rfl (i := 0) rfl ?_
              refine fw_getr dX11_fills_39 fd11_46 rfl rfl ?_
              refine fx_iload_n dX11_fills_42 rfl (i := 3) rfl ?_
              refine fw_iald r dX11_fills_43 rfl rfl (by omega) (by decide) ?_
              refine fn_to (show _ = (nI (hA r)) from (by rw [hoG2 12 (by decide) (by decide)]; exact (hg r (by omega)).1)) ?_
              refine fn_icmp_ltZ (a := c) (b := ((hA r : Nat) : Int)) (tgt := 71) dX11_fills_44 (by decide) (by omega) (by omega) (by omega) (by omega) (fun c44 => ?_) (fun c44 => ?_)
              · skip
                refine fn_iinc (c := 1) (lv2 := [(0, .ref 0), (1, .int (nI k)), (2, .int (nI P2)), (3, .int (nI (r + 1))), (4, .int (iI c))]) dX11_fills_71 (by decide) rfl (by decide) rfl ?_
                refine fx_goto (tgt := 4) dX11_fills_74 (by decide) ?_
                exact fn_sub [0, 1, 2, 3] rfl (ih4 pd2 P2 (r + 1) G2 (by omega) (by rw [← hpd2]; rfl) hP2 htb2 hoG2 (fun q h => by by_cases z : q = r; (subst z; omega); exact hAC q (by omega)) (by omega))
              · exfalso; omega
            | succ k5 ih36 =>
              intro c pd2 P2 G2 hc hpd2 hP2 htb2 hoG2 hln2
              refine fx_iload dX11_fills_36 rfl ?_
              refine fx_aload_n dX11_fills_38 rfl (i := 0) rfl ?_
              refine fw_getr dX11_fills_39 fd11_46 rfl rfl ?_
              refine fx_iload_n dX11_fills_42 rfl (i := 3) rfl ?_
              refine fw_iald r dX11_fills_43 rfl rfl (by omega) (by decide) ?_
              refine fn_to (show _ = (nI (hA r)) from (by rw [hoG2 12 (by decide) (by decide)]; exact (hg r (by omega)).1)) ?_
              refine fn_icmp_ltZ (a := c) (b := ((hA r : Nat) : Int)) (tgt := 71) dX11_fills_44 (by decide) (by omega) (by omega) (by omega) (by omega) (fun c44 => ?_) (fun c44 => ?_)
              · exfalso; omega
              · skip
                obtain ⟨cn, rfl⟩ : ∃ z : Nat, c = (z : Int) := ⟨c.toNat, by omega⟩
                have hcn : cn = hA r + k5 := by omega
                show fv_At Y11_fills 1 0 0 Q 47 [(0, .ref 0), (1, .int (nI k)), (2, .int (nI P2)), (3, .int (nI r)), (4, .int (nI cn))] [] (fw mT G2 L) none 0 0
                refine fx_aload_n dX11_fills_47 rfl (i := 0) rfl ?_
                refine fw_getr dX11_fills_48 fd11_55 rfl rfl ?_
                refine fx_iload_n dX11_fills_51 rfl (i := 2) rfl ?_
                refine fx_iload_n dX11_fills_52 rfl (i := 3) rfl ?_
                refine fw_iast P2 dX11_fills_53 rfl rfl (by omega) (by decide) ?_
                refine fx_aload_n dX11_fills_54 rfl (i := 0) rfl ?_
                refine fw_getr dX11_fills_55 fd11_58 rfl rfl ?_
                refine fx_iload_n dX11_fills_58 rfl (i := 2) rfl ?_
                refine fx_iload dX11_fills_59 rfl ?_
                refine fw_iast P2 dX11_fills_61 rfl rfl (by omega) (by decide) ?_
                refine fn_iinc (c := 1) (lv2 := [(0, .ref 0), (1, .int (nI k)), (2, .int (nI (P2 + 1))), (3, .int (nI r)), (4, .int (nI cn))]) dX11_fills_62 (by decide) rfl (by decide) rfl ?_
                show fv_At Y11_fills 1 0 0 Q 65 [(0, .ref 0), (1, .int (nI k)), (2, .int (nI (P2 + 1))), (3, .int (nI r)), (4, .int (iI ((cn : Int))))] [] (fw mT (g2 (g2 G2 15 P2 ((nI r))) 16 P2 ((nI cn))) L) none 0 0
                refine fn_iincZ (lv2 := [(0, .ref 0), (1, .int (nI k)), (2, .int (nI (P2 + 1))), (3, .int (nI r)), (4, .int (iI ((cn : Int) + (-1))))]) dX11_fills_65  rfl (by decide) rfl ?_
                refine fx_goto (tgt := 36) dX11_fills_68 (by decide) ?_
                exact (ih36 ((cn : Int) + (-1)) (pd2 ++ [(r + 1, cn + 1)]) (P2 + 1) (g2 (g2 G2 15 P2 ((nI r))) 16 P2 ((nI cn))) (by omega) (by rw [← hpd2, rowP_s, List.append_assoc, hcn, show hA r + (k5 + 1) = hA r + k5 + 1 by omega]; rfl) (by rw [List.length_append, hP2]; rfl) (fun q h => by by_cases z : q = P2; (rw [z, g2_ne _ _ (by omega), g2_eq, g2_eq, hP2, gdP_e]; exact ⟨rfl, rfl⟩); rw [g2_ne _ _ (by omega), g2_ne _ _ (by omega), g2_ne _ _ (by omega), g2_ne _ _ (by omega), gdP_l _ _ (by omega)]; exact htb2 q (by omega)) (fun i a b => by rw [g2_row _ _ b, g2_row _ _ a]; exact hoG2 i a b) (by rw [List.length_append]; simp; omega))
          exact (L36 (hC r - hA r) ((((hC r : Nat) : Int)) - (((1 : Nat) : Int))) pd P G1 (by omega) (by rw [← hpd, plR_s, show hA r + (hC r - hA r) = hC r by omega]; rfl) hP htb hoG (by omega))
        · skip
          refine fx_iconst (v := (nI 0)) dX11_fills_24 (by decide) ?_
          exact fx_iret dX11_fills_25 rfl rfl rfl (by rw [hQ]; exact ⟨G1, by unfold xFil; rw [if_neg (fun w => by have := w.2 r (by omega); omega)], rfl, rfl, fun i a b _ _ _ => hoG i a b⟩)
  exact (L4 k ([]) 0 0 G (by omega) (List.nil_append _) rfl (fun q h => absurd h (Nat.not_lt_zero _)) (fun _ _ _ => rfl) (fun q h => absurd h (Nat.not_lt_zero _)) (Nat.zero_le _))
