def fdl (G : Nat → Nat → Int32) (fl : List Nat) : Prop := ∀ p, p < fl.length → G 2 p = nI (fl.getD p 0)
theorem stB_len (o n a : Nat) : ∀ k b fl, (stB o n a k b fl).length ≤ fl.length + k
  | 0, _, _ => Nat.le_refl _
  | k + 1, b, fl => by
    have h := stB_len o n a k (b + 1) (if ofal (dgt (swp o n a b) n) n = ofal (dgt o n) n + 1 then insL (swp o n a b) fl else fl)
    rw [stB_s]
    split at h
    · rename_i q
      rw [if_pos q]
      rw [insL_len] at h
      omega
    · rename_i q
      rw [if_neg q]
      omega

theorem insL_b {x B : Nat} {fl : List Nat} (hx : x < B) (h : ∀ p, p < fl.length → fl.getD p 0 < B) : ∀ p, p < (insL x fl).length → (insL x fl).getD p 0 < B := by
  intro p hp
  rw [insL_len] at hp
  have hle := insA_le x fl fl.length
  rw [insL_g rfl p]
  split
  · exact h p (by omega)
  · split
    · exact hx
    · exact h (p - 1) (by omega)
theorem fdl_i {G : Nat → Nat → Int32} {x e : Nat} {fl : List Nat} (hE : insA x fl fl.length = e) (hA : ∀ p, p < e → G 2 p = nI (fl.getD p 0)) (hB : ∀ p, e ≤ p → p < fl.length → G 2 (p + 1) = nI (fl.getD p 0)) : fdl (g2 G 2 e (nI x)) (insL x fl) := by
  intro p hp
  rw [insL_len] at hp
  rw [insL_g hE p]
  by_cases q : p < e
  · rw [if_pos q, g2_ne _ _ (by omega)]
    exact hA p q
  · rw [if_neg q]
    by_cases z : p = e
    · rw [if_pos z, z, g2_eq]
    · rw [if_neg z, g2_ne _ _ (by omega)]
      have w := hB (p - 1) (by omega) (by omega)
      rw [show p - 1 + 1 = p by omega] at w
      exact w
theorem ofal_c {n : Nat} {h h2 : Nat → Nat} (he : ∀ p, p < n → h p = h2 p) : ofal h n = ofal h2 n := by
  have i2 : ∀ i, i < n → ∀ k j c, j + k ≤ n → ofal2 h i k j c = ofal2 h2 i k j c := by
    intro i hi k
    induction k with
    | zero => intro j c _; rfl
    | succ k ih =>
      intro j c hj
      unfold ofal2
      rw [he i hi, he j (by omega)]
      exact ih (j + 1) _ (by omega)
  have i1 : ∀ k i c, i + k ≤ n → ofal1 h n k i c = ofal1 h2 n k i c := by
    intro k
    induction k with
    | zero => intro i c _; rfl
    | succ k ih =>
      intro i c hi
      unfold ofal1
      rw [i2 i (by omega) _ _ _ (by omega)]
      exact ih (i + 1) _ (by omega)
  exact i1 n 0 0 (by omega)

set_option maxRecDepth 4000 in
set_option maxHeartbeats 1000000 in
theorem C11_step  (G : Nat → Nat → Int32) (L : Nat → Nat → Int64) (o r k : Int) (o1 : -2147483648 ≤ o) (o2 : o < 2147483648) (r1 : -2147483648 ≤ r) (r2 : r < 2147483648) (k1 : -2147483648 ≤ k) (k2 : k < 2147483648) : fv_M Y11_step 2 0 0 [.ref 0, .int (iI o), .int (iI r), .int (iI k)] (fw mT G L) none (qmo G L (xStp o r k)) := by
  refine fv_enter rfl (Nat.le_of_ble_eq_true rfl) ?_
  obtain ⟨Q, hQ⟩ : ∃ Q : Option Value → fv_F → Option Nat → Prop, Q = (qmo G L (xStp o r k)) := ⟨_, rfl⟩
  rw [← hQ]
  show fv_At Y11_step 2 0 0 Q 0 [(0, .ref 0), (1, .int (iI o)), (2, .int (iI r)), (3, .int (iI k))] [] (fw mT G L) none 0 0
  have fo5 := figs_le o
  refine fx_aload_n dX11_step_0 rfl (i := 0) rfl ?_
  refine fx_iload_n dX11_step_1 rfl (i := 1) rfl ?_
  refine fx_callV dX11_step_2 lk11_133 fv_c8 rfl (fw_at (show mT 0 = some (3, 8, 38, [some 1, none, some 2, some 3, some 4, some 5, some 6, some 7, some 8, some 9, some 10, some 11, some 12, some 13, some 14, some 15, some 16, some 17, some 18, some 19, none, none, none, some 20, some 21, some 22, some 23, none, some 24, some 25, some 26, some 27, some 28, some 29, some 30, some 31, none, some 32]) from rfl)) (C11_reads G L o (by omega) (by omega)) rfl rfl (by decide) (Nat.le_of_ble_eq_true rfl) (by decide) (by decide) (fun r2 f2 al2 h2 => ?_)
  obtain ⟨G2, rfl, rfl, rfl, ho2, hm2⟩ := h2
  show fv_At Y11_step 2 0 0 Q 5 [(0, .ref 0), (1, .int (iI o)), (2, .int (iI r)), (3, .int (iI k))] [.int (bI (decide (figs o ≠ 0)))] (fw mT G2 L) none 0 0
  refine fn_if_eqB (tgt := 30) dX11_step_5 (by decide) (fun c5 => ?_) (fun c5 => ?_)
  · skip
    refine fx_bipush (v := (iI (-2))) dX11_step_30 (by decide) ?_
    exact fx_iret dX11_step_32 rfl rfl rfl (by rw [hQ]; exact ⟨G2, by unfold xStp; rw [if_pos (by first | (have h3 := of_decide_eq_false c5; omega) | omega | (have h3 := of_decide_eq_false c27; omega))], rfl, rfl, fun i j p1 _ p3 => ho2 i j p1 p3⟩)
  · skip
    have hne := of_decide_eq_true c5
    have fob := figs_b hne
    refine fx_aload_n dX11_step_8 rfl (i := 0) rfl ?_
    refine fw_geti dX11_step_9 fd11_130 rfl rfl ?_
    refine fn_to (show _ = (nI (figs o)) from (hm2 (of_decide_eq_true c5)).2.1) ?_
    refine fx_iconst (v := (nI 4)) dX11_step_12 (by decide) ?_
    refine fn_icmp_gt (tgt := 30) dX11_step_13 (by decide) (by omega) (by omega) (fun c13 => ?_) (fun c13 => ?_)
    · skip
      refine fx_bipush (v := (iI (-2))) dX11_step_30 (by decide) ?_
      exact fx_iret dX11_step_32 rfl rfl rfl (by rw [hQ]; exact ⟨G2, by unfold xStp; rw [if_pos (by first | (have h3 := of_decide_eq_false c5; omega) | omega | (have h3 := of_decide_eq_false c27; omega))], rfl, rfl, fun i j p1 _ p3 => ho2 i j p1 p3⟩)
    · skip
      refine fx_iload_n dX11_step_16 rfl (i := 2) rfl ?_
      refine fx_i2l dX11_step_17 ?_
      refine fn_toL (show _ = lI r from lI_of (z := r) (by omega) (by omega)) ?_
      refine fx_lconst (v := 1) dX11_step_18 (by decide) ?_
      refine fn_toL (show _ = (lI 1) from (by decide)) ?_
      refine fx_aload_n dX11_step_19 rfl (i := 0) rfl ?_
      refine fw_geti dX11_step_20 fd11_130 rfl rfl ?_
      refine fn_to (show _ = (nI (figs o)) from (hm2 (of_decide_eq_true c5)).2.1) ?_
      refine fx_i2l dX11_step_23 ?_
      refine fn_toL (show _ = lI (((figs o : Nat) : Int)) from lI_of (z := ((figs o : Nat) : Int)) (by omega) (by omega)) ?_
      refine fn_cS dX11_step_24 lk11_126 (C11_in (v := r) (a := 1) (b := ((figs o : Nat) : Int)) (by omega) (by omega) (by omega) (by omega) (by omega) (by omega) (f := (fw mT G2 L))) rfl rfl (by decide) (Nat.le_of_ble_eq_true rfl) ?_
      show fv_At Y11_step 2 0 0 Q 27 [(0, .ref 0), (1, .int (iI o)), (2, .int (iI r)), (3, .int (iI k))] [.int (bI (decide (1 ≤ r ∧ r ≤ (((figs o : Nat) : Int)))))] (fw mT G2 L) none 0 0
      refine fn_if_neB (tgt := 33) dX11_step_27 (by decide) (fun c27 => ?_) (fun c27 => ?_)
      · skip
        have him := of_decide_eq_true c27
        obtain ⟨o0, rfl⟩ : ∃ z : Nat, o = (z : Int) := ⟨o.toNat, by omega⟩
        obtain ⟨r0, rfl⟩ : ∃ z : Nat, r = (z : Int) := ⟨r.toNat, by omega⟩
        obtain ⟨hfN, hoL⟩ := figs_N hne
        obtain ⟨n, hn⟩ : ∃ n, n = figN o0 := ⟨_, rfl⟩
        rw [← hn] at hfN
        have hm3 : mor G2 n (dgt o0 n) := by have q := hm2 hne; rw [hfN] at q; exact q
        rw [hfN] at him c13
        have hn1 := (ord_b o0 hoL).1
        rw [← hn] at hn1
        have hoe := ord_e o0 hoL (by omega)
        rw [← hn] at hoe
        obtain ⟨v, hv⟩ : ∃ v, v = o0 * 10 + n + 1 := ⟨_, rfl⟩
        obtain ⟨N, hN⟩ : ∃ N, N = n + 1 := ⟨_, rfl⟩
        rw [← hv, ← hN] at hoe
        obtain ⟨hvL, hvN, hvd, hvn⟩ := hoe
        have hxs : xStp (o0 : Int) (r0 : Int) k = ori v N r0 k := by unfold xStp; rw [hfN, if_neg (by omega), hv, hN]; rfl
        have hsx := stP_x hoL (by omega) (r := r0) (by omega) (by omega) k
        rw [← hn, ← hv, ← hN] at hsx
        have hb9 : ∀ p, p < N → dgt v N p < 10 := fun p _ => dgt_lt _ _ _
        show fv_At Y11_step 2 0 0 Q 33 [(0, .ref 0), (1, .int (nI o0)), (2, .int (nI r0)), (3, .int (iI k))] [] (fw mT G2 L) none 0 0
        refine fx_aload_n dX11_step_33 rfl (i := 0) rfl ?_
        refine fw_getr dX11_step_34 fd11_7 rfl rfl ?_
        refine fx_aload_n dX11_step_37 rfl (i := 0) rfl ?_
        refine fw_geti dX11_step_38 fd11_130 rfl rfl ?_
        refine fn_to (show _ = (nI n) from hm3.2.1) ?_
        refine fx_aload_n dX11_step_41 rfl (i := 0) rfl ?_
        refine fw_geti dX11_step_42 fd11_130 rfl rfl ?_
        refine fn_to (show _ = (nI n) from hm3.2.1) ?_
        refine fx_iconst (v := (nI 1)) dX11_step_45 (by decide) ?_
        refine fn_iadd dX11_step_46 ?_
        refine fw_iast n dX11_step_47 rfl rfl (by omega) (by decide) ?_
        refine fx_aload_n dX11_step_48 rfl (i := 0) rfl ?_
        refine fx_dup dX11_step_49 rfl ?_
        refine fw_geti dX11_step_50 fd11_130 rfl rfl ?_
        refine fn_to (show _ = (nI n) from (by rw [g2_ne _ _ (fun q => absurd q.1 (by decide))]; exact hm3.2.1)) ?_
        refine fx_iconst (v := (nI 1)) dX11_step_53 (by decide) ?_
        refine fn_iadd dX11_step_54 ?_
        refine fw_puti dX11_step_55 fd11_130 rfl rfl ?_
        obtain ⟨G5, hG5⟩ : ∃ z, z = g2 (g2 G2 1 n ((nI (n + 1)))) 0 1 ((nI (n + 1))) := ⟨_, rfl⟩
        rw [← hG5]
        have hmo : mor G5 N (dgt v N) := by
          refine ⟨by omega, by rw [hG5, g2_eq, hN], fun p hp => ?_⟩
          rw [hG5, g2_ne _ _ (fun q => absurd q.1 (by decide))]
          by_cases e : p = n
          · rw [e, g2_eq, hvn, hN]
          · rw [g2_ne _ _ (fun q => e q.2), hvd p (by omega)]; exact hm3.2.2 p (by omega)
        have ho5 : ∀ i j, i ≠ 1 → i ≠ 2 → ¬ (i = 0 ∧ j = 1) → G5 i j = G i j := fun i j p1 p2 p3 => by rw [hG5, g2_ne _ _ p3, g2_ne _ _ (fun q => p1 q.1)]; exact ho2 i j p1 p3
        have hl25 := ofal_le (dgt v N) (show N ≤ 5 by omega)
        refine fx_aload_n dX11_step_58 rfl (i := 0) rfl ?_
        refine fn_cV dX11_step_59 lk11_137 fv_c8 rfl (fw_at (show mT 0 = some (3, 8, 38, [some 1, none, some 2, some 3, some 4, some 5, some 6, some 7, some 8, some 9, some 10, some 11, some 12, some 13, some 14, some 15, some 16, some 17, some 18, some 19, none, none, none, some 20, some 21, some 22, some 23, none, some 24, some 25, some 26, some 27, some 28, some 29, some 30, some 31, none, some 32]) from rfl)) (C11_lengthNow G5 L N (dgt v N) hmo hb9) rfl rfl (by decide) (Nat.le_of_ble_eq_true rfl) ?_
        show fv_At Y11_step 2 0 0 Q 62 [(0, .ref 0), (1, .int (nI o0)), (2, .int (nI r0)), (3, .int (iI k))] [.int (nI (ofal (dgt v N) N))] (fw mT G5 L) none 0 0
        refine fx_istore (lv2 := [(0, .ref 0), (1, .int (nI o0)), (2, .int (nI r0)), (3, .int (iI k)), (4, .int (nI (ofal (dgt v N) N)))]) dX11_step_62 (by decide) rfl ?_
        refine fx_iconst (v := (nI 0)) dX11_step_64 (by decide) ?_
        refine fx_istore (lv2 := [(0, .ref 0), (1, .int (nI o0)), (2, .int (nI r0)), (3, .int (iI k)), (4, .int (nI (ofal (dgt v N) N))), (5, .int (nI 0))]) dX11_step_65 (by decide) rfl ?_
        refine fx_iconst (v := (nI 0)) dX11_step_67 (by decide) ?_
        refine fx_istore (lv2 := [(0, .ref 0), (1, .int (nI o0)), (2, .int (nI r0)), (3, .int (iI k)), (4, .int (nI (ofal (dgt v N) N))), (5, .int (nI 0)), (6, .int (nI 0))]) dX11_step_68 (by decide) rfl ?_
        have L70 : ∀ (k1 : Nat) (a : Nat) (fl1 : List Nat) (m1 : Nat) (G6 : Nat → Nat → Int32), (a + k1 = r0) → (m1 = fl1.length) → (mor G6 N (dgt v N)) → (∀ i j, i ≠ 1 → i ≠ 2 → ¬ (i = 0 ∧ j = 1) → G6 i j = G i j) → (fdl G6 fl1) → (∀ p, p < fl1.length → fl1.getD p 0 < 100000000) → (fl1.length ≤ 4 * a) → (stC v N r0 k1 a fl1 = stF v N r0) → fv_At Y11_step 2 0 0 Q 70 [(0, .ref 0), (1, .int (nI o0)), (2, .int (nI r0)), (3, .int (iI k)), (4, .int (nI (ofal (dgt v N) N))), (5, .int (nI m1)), (6, .int (nI a))] [] (fw mT G6 L) none 0 0 := by
          intro k1
          induction k1 with
          | zero =>
            intro a fl1 m1 G6 ha hmm hmo1 ho6 hf hfb1 hlen hR
            refine fx_iload dX11_step_70 rfl ?_
            refine fx_iload_n dX11_step_72 rfl (i := 2) rfl ?_
            refine fn_icmp_ge (tgt := 188) dX11_step_73 (by decide) (by omega) (by omega) (fun c73 => ?_) (fun c73 => ?_)
            · skip
              have hfF : fl1 = stF v N r0 := hR
              rw [← hfF] at hsx
              refine fx_iload_n dX11_step_188 rfl (i := 3) rfl ?_
              refine fx_i2l dX11_step_189 ?_
              refine fn_toL (show _ = lI k from lI_of (z := k) (by omega) (by omega)) ?_
              refine fx_lconst (v := 0) dX11_step_190 (by decide) ?_
              refine fn_toL (show _ = (lI 0) from (by decide)) ?_
              refine fx_iload dX11_step_191 rfl ?_
              refine fx_iconst (v := (nI 1)) dX11_step_193 (by decide) ?_
              refine fn_isubZ (a := ((m1 : Nat) : Int)) (b := ((1 : Nat) : Int)) dX11_step_194 ?_
              refine fx_i2l dX11_step_195 ?_
              refine fn_toL (show _ = lI ((((m1 : Nat) : Int)) - (((1 : Nat) : Int))) from lI_of (z := (((m1 : Nat) : Int)) - (((1 : Nat) : Int))) (by omega) (by omega)) ?_
              refine fn_cS dX11_step_196 lk11_126 (C11_in (v := k) (a := 0) (b := (((m1 : Nat) : Int)) - (((1 : Nat) : Int))) (by omega) (by omega) (by omega) (by omega) (by omega) (by omega) (f := (fw mT G6 L))) rfl rfl (by decide) (Nat.le_of_ble_eq_true rfl) ?_
              show fv_At Y11_step 2 0 0 Q 199 [(0, .ref 0), (1, .int (nI o0)), (2, .int (nI r0)), (3, .int (iI k)), (4, .int (nI (ofal (dgt v N) N))), (5, .int (nI m1)), (6, .int (nI a))] [.int (bI (decide (0 ≤ k ∧ k ≤ ((((m1 : Nat) : Int)) - (((1 : Nat) : Int))))))] (fw mT G6 L) none 0 0
              refine fn_if_eqB (tgt := 211) dX11_step_199 (by decide) (fun c199 => ?_) (fun c199 => ?_)
              · skip
                refine fx_iconst (v := (iI (-1))) dX11_step_211 (by decide) ?_
                exact fx_iret dX11_step_212 rfl rfl rfl (by rw [hQ]; exact ⟨G6, by rw [hxs, hsx, if_neg (by have h3 := of_decide_eq_false c199; omega)], rfl, rfl, ho6⟩)
              · skip
                have hk9 := of_decide_eq_true c199
                obtain ⟨k0, rfl⟩ : ∃ z : Nat, k = (z : Int) := ⟨k.toNat, by omega⟩
                show fv_At Y11_step 2 0 0 Q 202 [(0, .ref 0), (1, .int (nI o0)), (2, .int (nI r0)), (3, .int (nI k0)), (4, .int (nI (ofal (dgt v N) N))), (5, .int (nI m1)), (6, .int (nI a))] [] (fw mT G6 L) none 0 0
                refine fx_aload_n dX11_step_202 rfl (i := 0) rfl ?_
                refine fw_getr dX11_step_203 fd11_13 rfl rfl ?_
                refine fx_iload_n dX11_step_206 rfl (i := 3) rfl ?_
                refine fw_iald k0 dX11_step_207 rfl rfl (by omega) (by decide) ?_
                refine fn_to (show _ = (nI (fl1.getD k0 0)) from (hf k0 (by omega))) ?_
                refine fx_goto (tgt := 212) dX11_step_208 (by decide) ?_
                exact fx_iret dX11_step_212 rfl rfl rfl (by rw [hQ]; exact ⟨G6, by rw [hxs, hsx, if_pos (by omega)]; rfl, rfl, rfl, ho6⟩)
            · exfalso; omega
          | succ k1 ih70 =>
            intro a fl1 m1 G6 ha hmm hmo1 ho6 hf hfb1 hlen hR
            refine fx_iload dX11_step_70 rfl ?_
            refine fx_iload_n dX11_step_72 rfl (i := 2) rfl ?_
            refine fn_icmp_ge (tgt := 188) dX11_step_73 (by decide) (by omega) (by omega) (fun c73 => ?_) (fun c73 => ?_)
            · exfalso; omega
            · skip
              refine fx_iload_n dX11_step_76 rfl (i := 2) rfl ?_
              refine fx_istore (lv2 := [(0, .ref 0), (1, .int (nI o0)), (2, .int (nI r0)), (3, .int (iI k)), (4, .int (nI (ofal (dgt v N) N))), (5, .int (nI m1)), (6, .int (nI a)), (7, .int (nI r0))]) dX11_step_77 (by decide) rfl ?_
              have L79 : ∀ (k2 : Nat) (b : Nat) (fl : List Nat) (mm : Nat) (G7 : Nat → Nat → Int32), (b + k2 = N ∧ r0 ≤ b) → (mm = fl.length) → (mor G7 N (dgt v N)) → (∀ i j, i ≠ 1 → i ≠ 2 → ¬ (i = 0 ∧ j = 1) → G7 i j = G i j) → (fdl G7 fl) → (∀ p, p < fl.length → fl.getD p 0 < 100000000) → (fl.length + k2 ≤ 4 * a + 4) → (stB v N a k2 b fl = stB v N a (N - r0) r0 fl1) → fv_At Y11_step 2 0 0 Q 79 [(0, .ref 0), (1, .int (nI o0)), (2, .int (nI r0)), (3, .int (iI k)), (4, .int (nI (ofal (dgt v N) N))), (5, .int (nI mm)), (6, .int (nI a)), (7, .int (nI b))] [] (fw mT G7 L) none 0 0 := by
                intro k2
                induction k2 with
                | zero =>
                  intro b fl mm G7 hb hmm2 hmo2 ho7 hf2 hfb hlen2 hR2
                  refine fx_iload dX11_step_79 rfl ?_
                  refine fx_aload_n dX11_step_81 rfl (i := 0) rfl ?_
                  refine fw_geti dX11_step_82 fd11_130 rfl rfl ?_
                  refine fn_to (show _ = (nI N) from hmo2.2.1) ?_
                  refine fn_icmp_ge (tgt := 182) dX11_step_85 (by decide) (by omega) (by omega) (fun c85 => ?_) (fun c85 => ?_)
                  · skip
                    refine fn_iinc (c := 1) (lv2 := [(0, .ref 0), (1, .int (nI o0)), (2, .int (nI r0)), (3, .int (iI k)), (4, .int (nI (ofal (dgt v N) N))), (5, .int (nI mm)), (6, .int (nI (a + 1))), (7, .int (nI b))]) dX11_step_182 (by decide) rfl (by decide) rfl ?_
                    refine fx_goto (tgt := 70) dX11_step_185 (by decide) ?_
                    exact fn_sub [0, 1, 2, 3, 4, 5, 6] rfl (ih70 (a + 1) fl mm G7 (by omega) hmm2 hmo2 ho7 hf2 hfb (by omega) (by rw [← hR, stC_s]; exact congrArg _ hR2))
                  · exfalso; omega
                | succ k2 ih79 =>
                  intro b fl mm G7 hb hmm2 hmo2 ho7 hf2 hfb hlen2 hR2
                  refine fx_iload dX11_step_79 rfl ?_
                  refine fx_aload_n dX11_step_81 rfl (i := 0) rfl ?_
                  refine fw_geti dX11_step_82 fd11_130 rfl rfl ?_
                  refine fn_to (show _ = (nI N) from hmo2.2.1) ?_
                  refine fn_icmp_ge (tgt := 182) dX11_step_85 (by decide) (by omega) (by omega) (fun c85 => ?_) (fun c85 => ?_)
                  · exfalso; omega
                  · skip
                    have hmx := mor_swh (a := a) (b := b) hmo2 (by omega) (by omega)
                    have hod := ord_d v hvL a b (by omega) (by omega)
                    rw [hvN] at hod
                    obtain ⟨x, hx⟩ : ∃ x, x = swp v N a b := ⟨_, rfl⟩
                    have hxt := hod.1.trans hx.symm
                    have hl26 := ofal_le (swh (dgt v N) a b) (show N ≤ 5 by omega)
                    have hlx : ofal (dgt (swp v N a b) N) N = ofal (swh (dgt v N) a b) N := ofal_c (fun p hp => hod.2 p hp)
                    have hxb : x < 100000000 := by rw [hx]; have := swp_b (o := v) (n := N) (a := a) (b := b) (by omega) (by omega) (by omega) (ord_b v hvL).2.2; omega
                    have hb8 : ∀ p, p < N → (swh (dgt v N) a b) p < 10 := fun p hp => by unfold swh; split; exact hb9 a (by omega); split; exact hb9 b (by omega); exact hb9 p hp
                    refine fx_aload_n dX11_step_88 rfl (i := 0) rfl ?_
                    refine fx_iload dX11_step_89 rfl ?_
                    refine fx_iload dX11_step_91 rfl ?_
                    refine fn_cV dX11_step_93 lk11_141 fv_c8 rfl (fw_at (show mT 0 = some (3, 8, 38, [some 1, none, some 2, some 3, some 4, some 5, some 6, some 7, some 8, some 9, some 10, some 11, some 12, some 13, some 14, some 15, some 16, some 17, some 18, some 19, none, none, none, some 20, some 21, some 22, some 23, none, some 24, some 25, some 26, some 27, some 28, some 29, some 30, some 31, none, some 32]) from rfl)) (C11_change G7 L a b (by omega) (by omega)) rfl rfl (by decide) (Nat.le_of_ble_eq_true rfl) ?_
                    show fv_At Y11_step 2 0 0 Q 96 [(0, .ref 0), (1, .int (nI o0)), (2, .int (nI r0)), (3, .int (iI k)), (4, .int (nI (ofal (dgt v N) N))), (5, .int (nI mm)), (6, .int (nI a)), (7, .int (nI b))] [] (fw mT (g2 (g2 G7 1 a (G7 1 b)) 1 b (G7 1 a)) L) none 0 0
                    refine fx_aload_n dX11_step_96 rfl (i := 0) rfl ?_
                    refine fn_cV dX11_step_97 lk11_137 fv_c8 rfl (fw_at (show mT 0 = some (3, 8, 38, [some 1, none, some 2, some 3, some 4, some 5, some 6, some 7, some 8, some 9, some 10, some 11, some 12, some 13, some 14, some 15, some 16, some 17, some 18, some 19, none, none, none, some 20, some 21, some 22, some 23, none, some 24, some 25, some 26, some 27, some 28, some 29, some 30, some 31, none, some 32]) from rfl)) (C11_lengthNow (g2 (g2 G7 1 a (G7 1 b)) 1 b (G7 1 a)) L N (swh (dgt v N) a b) hmx hb8) rfl rfl (by decide) (Nat.le_of_ble_eq_true rfl) ?_
                    show fv_At Y11_step 2 0 0 Q 100 [(0, .ref 0), (1, .int (nI o0)), (2, .int (nI r0)), (3, .int (iI k)), (4, .int (nI (ofal (dgt v N) N))), (5, .int (nI mm)), (6, .int (nI a)), (7, .int (nI b))] [.int (nI (ofal (swh (dgt v N) a b) N))] (fw mT (g2 (g2 G7 1 a (G7 1 b)) 1 b (G7 1 a)) L) none 0 0
                    refine fx_iload dX11_step_100 rfl ?_
                    refine fx_iconst (v := (nI 1)) dX11_step_102 (by decide) ?_
                    refine fn_iadd dX11_step_103 ?_
                    refine fn_icmp_ne (tgt := 168) dX11_step_104 (by decide) (by omega) (by omega) (fun c104 => ?_) (fun c104 => ?_)
                    · skip
                      obtain ⟨X, hX⟩ : ∃ z, z = g2 (g2 G7 1 a (G7 1 b)) 1 b (G7 1 a) := ⟨_, rfl⟩
                      rw [← hX]
                      have hmX : mor X N (swh (dgt v N) a b) := by rw [hX]; exact hmx
                      have hoX : ∀ i j, i ≠ 1 → i ≠ 2 → ¬ (i = 0 ∧ j = 1) → X i j = G i j := fun i j p1 p2 p3 => by rw [hX, g2_ne _ _ (fun q => p1 q.1), g2_ne _ _ (fun q => p1 q.1)]; exact ho7 i j p1 p2 p3
                      have hfX : fdl X fl := fun p hp => by rw [hX, g2_ne _ _ (fun q => absurd q.1 (by decide)), g2_ne _ _ (fun q => absurd q.1 (by decide))]; exact hf2 p hp
                      have hfbX := hfb
                      refine fx_aload_n dX11_step_168 rfl (i := 0) rfl ?_
                      refine fx_iload dX11_step_169 rfl ?_
                      refine fx_iload dX11_step_171 rfl ?_
                      refine fn_cV dX11_step_173 lk11_141 fv_c8 rfl (fw_at (show mT 0 = some (3, 8, 38, [some 1, none, some 2, some 3, some 4, some 5, some 6, some 7, some 8, some 9, some 10, some 11, some 12, some 13, some 14, some 15, some 16, some 17, some 18, some 19, none, none, none, some 20, some 21, some 22, some 23, none, some 24, some 25, some 26, some 27, some 28, some 29, some 30, some 31, none, some 32]) from rfl)) (C11_change X L a b (by omega) (by omega)) rfl rfl (by decide) (Nat.le_of_ble_eq_true rfl) ?_
                      show fv_At Y11_step 2 0 0 Q 176 [(0, .ref 0), (1, .int (nI o0)), (2, .int (nI r0)), (3, .int (iI k)), (4, .int (nI (ofal (dgt v N) N))), (5, .int (nI mm)), (6, .int (nI a)), (7, .int (nI b))] [] (fw mT (g2 (g2 X 1 a (X 1 b)) 1 b (X 1 a)) L) none 0 0
                      refine fn_iinc (c := 1) (lv2 := [(0, .ref 0), (1, .int (nI o0)), (2, .int (nI r0)), (3, .int (iI k)), (4, .int (nI (ofal (dgt v N) N))), (5, .int (nI mm)), (6, .int (nI a)), (7, .int (nI (b + 1)))]) dX11_step_176 (by decide) rfl (by decide) rfl ?_
                      refine fx_goto (tgt := 79) dX11_step_179 (by decide) ?_
                      exact (ih79 (b + 1) fl mm (g2 (g2 X 1 a (X 1 b)) 1 b (X 1 a)) (by omega) hmm2 (mor_c (mor_swh (a := a) (b := b) hmX (by omega) (by omega)) (fun p _ => (swh_swh _ p).symm)) (fun i j p1 p2 p3 => by rw [g2_ne _ _ (fun q => p1 q.1), g2_ne _ _ (fun q => p1 q.1)]; exact hoX i j p1 p2 p3) (fun p hp => by rw [g2_ne _ _ (fun q => absurd q.1 (by decide)), g2_ne _ _ (fun q => absurd q.1 (by decide))]; exact hfX p hp) hfbX (by omega) (by rw [← hR2, stB_s, hlx, ← hx, if_neg c104]))
                    · skip
                      refine fx_iload dX11_step_107 rfl ?_
                      refine fx_istore (lv2 := [(0, .ref 0), (1, .int (nI o0)), (2, .int (nI r0)), (3, .int (iI k)), (4, .int (nI (ofal (dgt v N) N))), (5, .int (nI mm)), (6, .int (nI a)), (7, .int (nI b)), (8, .int (nI mm))]) dX11_step_109 (by decide) rfl ?_
                      have L111 : ∀ (k3 : Nat) (e : Nat) (G8 : Nat → Nat → Int32), (e = k3 ∧ k3 ≤ fl.length) → (mor G8 N (swh (dgt v N) a b)) → (∀ i j, i ≠ 1 → i ≠ 2 → ¬ (i = 0 ∧ j = 1) → G8 i j = G i j) → (∀ p, p < e → G8 2 p = nI (fl.getD p 0)) → (∀ p, e ≤ p → p < fl.length → G8 2 (p + 1) = nI (fl.getD p 0)) → (insA x fl e = insA x fl fl.length) → fv_At Y11_step 2 0 0 Q 111 [(0, .ref 0), (1, .int (nI o0)), (2, .int (nI r0)), (3, .int (iI k)), (4, .int (nI (ofal (dgt v N) N))), (5, .int (nI mm)), (6, .int (nI a)), (7, .int (nI b)), (8, .int (nI e))] [] (fw mT G8 L) none 0 0 := by
                        intro k3
                        induction k3 with
                        | zero =>
                          intro e G8 he hmz ho8 hfA hfB hI
                          refine fx_iload dX11_step_111 rfl ?_
                          refine fn_if_le (tgt := 154) dX11_step_113 (by decide) (by omega) (fun c113 => ?_) (fun c113 => ?_)
                          · skip
                            have hE : insA x fl fl.length = e := by first | (rw [← hI, show e = k3 + 1 by omega, insA_s, if_neg (by omega)]) | (rw [← hI, show e = 0 by omega]; rfl)
                            refine fx_aload_n dX11_step_154 rfl (i := 0) rfl ?_
                            refine fw_getr dX11_step_155 fd11_13 rfl rfl ?_
                            refine fx_iload dX11_step_158 rfl ?_
                            refine fx_aload_n dX11_step_160 rfl (i := 0) rfl ?_
                            refine fn_cV dX11_step_161 lk11_145 fv_c8 rfl (fw_at (show mT 0 = some (3, 8, 38, [some 1, none, some 2, some 3, some 4, some 5, some 6, some 7, some 8, some 9, some 10, some 11, some 12, some 13, some 14, some 15, some 16, some 17, some 18, some 19, none, none, none, some 20, some 21, some 22, some 23, none, some 24, some 25, some 26, some 27, some 28, some 29, some 30, some 31, none, some 32]) from rfl)) (C11_told G8 L N (swh (dgt v N) a b) hmz) rfl rfl (by decide) (Nat.le_of_ble_eq_true rfl) ?_
                            show fv_At Y11_step 2 0 0 Q 164 [(0, .ref 0), (1, .int (nI o0)), (2, .int (nI r0)), (3, .int (iI k)), (4, .int (nI (ofal (dgt v N) N))), (5, .int (nI mm)), (6, .int (nI a)), (7, .int (nI b)), (8, .int (nI e))] [.int (nI (tld (swh (dgt v N) a b) N)), .int (nI e), .ref 2] (fw mT G8 L) none 0 0
                            refine fn_to (show _ = (nI x) from (congrArg nI hxt)) ?_
                            refine fw_iast e dX11_step_164 rfl rfl (by omega) (by decide) ?_
                            refine fn_iinc (c := 1) (lv2 := [(0, .ref 0), (1, .int (nI o0)), (2, .int (nI r0)), (3, .int (iI k)), (4, .int (nI (ofal (dgt v N) N))), (5, .int (nI (mm + 1))), (6, .int (nI a)), (7, .int (nI b)), (8, .int (nI e))]) dX11_step_165 (by decide) rfl (by decide) rfl ?_
                            obtain ⟨X, hX⟩ : ∃ z, z = g2 G8 2 e ((nI x)) := ⟨_, rfl⟩
                            rw [← hX]
                            have hmX : mor X N (swh (dgt v N) a b) := by rw [hX]; exact mor_2 hmz _ _
                            have hoX : ∀ i j, i ≠ 1 → i ≠ 2 → ¬ (i = 0 ∧ j = 1) → X i j = G i j := fun i j p1 p2 p3 => by rw [hX, g2_ne _ _ (fun q => p2 q.1)]; exact ho8 i j p1 p2 p3
                            have hfX : fdl X (insL x fl) := by rw [hX]; exact fdl_i hE hfA hfB
                            have hfbX := insL_b hxb hfb
                            refine fx_aload_n dX11_step_168 rfl (i := 0) rfl ?_
                            refine fx_iload dX11_step_169 rfl ?_
                            refine fx_iload dX11_step_171 rfl ?_
                            refine fn_cV dX11_step_173 lk11_141 fv_c8 rfl (fw_at (show mT 0 = some (3, 8, 38, [some 1, none, some 2, some 3, some 4, some 5, some 6, some 7, some 8, some 9, some 10, some 11, some 12, some 13, some 14, some 15, some 16, some 17, some 18, some 19, none, none, none, some 20, some 21, some 22, some 23, none, some 24, some 25, some 26, some 27, some 28, some 29, some 30, some 31, none, some 32]) from rfl)) (C11_change X L a b (by omega) (by omega)) rfl rfl (by decide) (Nat.le_of_ble_eq_true rfl) ?_
                            show fv_At Y11_step 2 0 0 Q 176 [(0, .ref 0), (1, .int (nI o0)), (2, .int (nI r0)), (3, .int (iI k)), (4, .int (nI (ofal (dgt v N) N))), (5, .int (nI (mm + 1))), (6, .int (nI a)), (7, .int (nI b)), (8, .int (nI e))] [] (fw mT (g2 (g2 X 1 a (X 1 b)) 1 b (X 1 a)) L) none 0 0
                            refine fn_iinc (c := 1) (lv2 := [(0, .ref 0), (1, .int (nI o0)), (2, .int (nI r0)), (3, .int (iI k)), (4, .int (nI (ofal (dgt v N) N))), (5, .int (nI (mm + 1))), (6, .int (nI a)), (7, .int (nI (b + 1))), (8, .int (nI e))]) dX11_step_176 (by decide) rfl (by decide) rfl ?_
                            refine fx_goto (tgt := 79) dX11_step_179 (by decide) ?_
                            exact fn_sub [0, 1, 2, 3, 4, 5, 6, 7] rfl (ih79 (b + 1) (insL x fl) (mm + 1) (g2 (g2 X 1 a (X 1 b)) 1 b (X 1 a)) (by omega) (by rw [insL_len, hmm2]) (mor_c (mor_swh (a := a) (b := b) hmX (by omega) (by omega)) (fun p _ => (swh_swh _ p).symm)) (fun i j p1 p2 p3 => by rw [g2_ne _ _ (fun q => p1 q.1), g2_ne _ _ (fun q => p1 q.1)]; exact hoX i j p1 p2 p3) (fun p hp => by rw [g2_ne _ _ (fun q => absurd q.1 (by decide)), g2_ne _ _ (fun q => absurd q.1 (by decide))]; exact hfX p hp) hfbX (by rw [insL_len]; omega) (by rw [← hR2, stB_s, hlx, ← hx, if_pos c104]))
                          · exfalso; omega
                        | succ k3 ih111 =>
                          intro e G8 he hmz ho8 hfA hfB hI
                          refine fx_iload dX11_step_111 rfl ?_
                          refine fn_if_le (tgt := 154) dX11_step_113 (by decide) (by omega) (fun c113 => ?_) (fun c113 => ?_)
                          · exfalso; omega
                          · skip
                            have hgb : fl.getD k3 0 < 100000000 := hfb k3 (by omega)
                            refine fx_aload_n dX11_step_116 rfl (i := 0) rfl ?_
                            refine fw_getr dX11_step_117 fd11_13 rfl rfl ?_
                            refine fx_iload dX11_step_120 rfl ?_
                            refine fx_iconst (v := (nI 1)) dX11_step_122 (by decide) ?_
                            refine fn_isub dX11_step_123 (by omega) ?_
                            refine fw_iald (e - 1) dX11_step_124 rfl rfl (by omega) (by decide) ?_
                            refine fn_to (show _ = (nI (fl.getD k3 0)) from (by rw [show e - 1 = k3 by omega]; exact hfA k3 (by omega))) ?_
                            refine fx_aload_n dX11_step_125 rfl (i := 0) rfl ?_
                            refine fn_cV dX11_step_126 lk11_145 fv_c8 rfl (fw_at (show mT 0 = some (3, 8, 38, [some 1, none, some 2, some 3, some 4, some 5, some 6, some 7, some 8, some 9, some 10, some 11, some 12, some 13, some 14, some 15, some 16, some 17, some 18, some 19, none, none, none, some 20, some 21, some 22, some 23, none, some 24, some 25, some 26, some 27, some 28, some 29, some 30, some 31, none, some 32]) from rfl)) (C11_told G8 L N (swh (dgt v N) a b) hmz) rfl rfl (by decide) (Nat.le_of_ble_eq_true rfl) ?_
                            show fv_At Y11_step 2 0 0 Q 129 [(0, .ref 0), (1, .int (nI o0)), (2, .int (nI r0)), (3, .int (iI k)), (4, .int (nI (ofal (dgt v N) N))), (5, .int (nI mm)), (6, .int (nI a)), (7, .int (nI b)), (8, .int (nI e))] [.int (nI (tld (swh (dgt v N) a b) N)), .int (nI (fl.getD k3 0))] (fw mT G8 L) none 0 0
                            refine fn_to (show _ = (nI x) from (congrArg nI hxt)) ?_
                            refine fn_icmp_le (tgt := 154) dX11_step_129 (by decide) (by omega) (by omega) (fun c129 => ?_) (fun c129 => ?_)
                            · skip
                              have hE : insA x fl fl.length = e := by first | (rw [← hI, show e = k3 + 1 by omega, insA_s, if_neg (by omega)]) | (rw [← hI, show e = 0 by omega]; rfl)
                              refine fx_aload_n dX11_step_154 rfl (i := 0) rfl ?_
                              refine fw_getr dX11_step_155 fd11_13 rfl rfl ?_
                              refine fx_iload dX11_step_158 rfl ?_
                              refine fx_aload_n dX11_step_160 rfl (i := 0) rfl ?_
                              refine fn_cV dX11_step_161 lk11_145 fv_c8 rfl (fw_at (show mT 0 = some (3, 8, 38, [some 1, none, some 2, some 3, some 4, some 5, some 6, some 7, some 8, some 9, some 10, some 11, some 12, some 13, some 14, some 15, some 16, some 17, some 18, some 19, none, none, none, some 20, some 21, some 22, some 23, none, some 24, some 25, some 26, some 27, some 28, some 29, some 30, some 31, none, some 32]) from rfl)) (C11_told G8 L N (swh (dgt v N) a b) hmz) rfl rfl (by decide) (Nat.le_of_ble_eq_true rfl) ?_
                              show fv_At Y11_step 2 0 0 Q 164 [(0, .ref 0), (1, .int (nI o0)), (2, .int (nI r0)), (3, .int (iI k)), (4, .int (nI (ofal (dgt v N) N))), (5, .int (nI mm)), (6, .int (nI a)), (7, .int (nI b)), (8, .int (nI e))] [.int (nI (tld (swh (dgt v N) a b) N)), .int (nI e), .ref 2] (fw mT G8 L) none 0 0
                              refine fn_to (show _ = (nI x) from (congrArg nI hxt)) ?_
                              refine fw_iast e dX11_step_164 rfl rfl (by omega) (by decide) ?_
                              refine fn_iinc (c := 1) (lv2 := [(0, .ref 0), (1, .int (nI o0)), (2, .int (nI r0)), (3, .int (iI k)), (4, .int (nI (ofal (dgt v N) N))), (5, .int (nI (mm + 1))), (6, .int (nI a)), (7, .int (nI b)), (8, .int (nI e))]) dX11_step_165 (by decide) rfl (by decide) rfl ?_
                              obtain ⟨X, hX⟩ : ∃ z, z = g2 G8 2 e ((nI x)) := ⟨_, rfl⟩
                              rw [← hX]
                              have hmX : mor X N (swh (dgt v N) a b) := by rw [hX]; exact mor_2 hmz _ _
                              have hoX : ∀ i j, i ≠ 1 → i ≠ 2 → ¬ (i = 0 ∧ j = 1) → X i j = G i j := fun i j p1 p2 p3 => by rw [hX, g2_ne _ _ (fun q => p2 q.1)]; exact ho8 i j p1 p2 p3
                              have hfX : fdl X (insL x fl) := by rw [hX]; exact fdl_i hE hfA hfB
                              have hfbX := insL_b hxb hfb
                              refine fx_aload_n dX11_step_168 rfl (i := 0) rfl ?_
                              refine fx_iload dX11_step_169 rfl ?_
                              refine fx_iload dX11_step_171 rfl ?_
                              refine fn_cV dX11_step_173 lk11_141 fv_c8 rfl (fw_at (show mT 0 = some (3, 8, 38, [some 1, none, some 2, some 3, some 4, some 5, some 6, some 7, some 8, some 9, some 10, some 11, some 12, some 13, some 14, some 15, some 16, some 17, some 18, some 19, none, none, none, some 20, some 21, some 22, some 23, none, some 24, some 25, some 26, some 27, some 28, some 29, some 30, some 31, none, some 32]) from rfl)) (C11_change X L a b (by omega) (by omega)) rfl rfl (by decide) (Nat.le_of_ble_eq_true rfl) ?_
                              show fv_At Y11_step 2 0 0 Q 176 [(0, .ref 0), (1, .int (nI o0)), (2, .int (nI r0)), (3, .int (iI k)), (4, .int (nI (ofal (dgt v N) N))), (5, .int (nI (mm + 1))), (6, .int (nI a)), (7, .int (nI b)), (8, .int (nI e))] [] (fw mT (g2 (g2 X 1 a (X 1 b)) 1 b (X 1 a)) L) none 0 0
                              refine fn_iinc (c := 1) (lv2 := [(0, .ref 0), (1, .int (nI o0)), (2, .int (nI r0)), (3, .int (iI k)), (4, .int (nI (ofal (dgt v N) N))), (5, .int (nI (mm + 1))), (6, .int (nI a)), (7, .int (nI (b + 1))), (8, .int (nI e))]) dX11_step_176 (by decide) rfl (by decide) rfl ?_
                              refine fx_goto (tgt := 79) dX11_step_179 (by decide) ?_
                              exact fn_sub [0, 1, 2, 3, 4, 5, 6, 7] rfl (ih79 (b + 1) (insL x fl) (mm + 1) (g2 (g2 X 1 a (X 1 b)) 1 b (X 1 a)) (by omega) (by rw [insL_len, hmm2]) (mor_c (mor_swh (a := a) (b := b) hmX (by omega) (by omega)) (fun p _ => (swh_swh _ p).symm)) (fun i j p1 p2 p3 => by rw [g2_ne _ _ (fun q => p1 q.1), g2_ne _ _ (fun q => p1 q.1)]; exact hoX i j p1 p2 p3) (fun p hp => by rw [g2_ne _ _ (fun q => absurd q.1 (by decide)), g2_ne _ _ (fun q => absurd q.1 (by decide))]; exact hfX p hp) hfbX (by rw [insL_len]; omega) (by rw [← hR2, stB_s, hlx, ← hx, if_pos c104]))
                            · skip
                              refine fx_aload_n dX11_step_132 rfl (i := 0) rfl ?_
                              refine fw_getr dX11_step_133 fd11_13 rfl rfl ?_
                              refine fx_iload dX11_step_136 rfl ?_
                              refine fx_aload_n dX11_step_138 rfl (i := 0) rfl ?_
                              refine fw_getr dX11_step_139 fd11_13 rfl rfl ?_
                              refine fx_iload dX11_step_142 rfl ?_
                              refine fx_iconst (v := (nI 1)) dX11_step_144 (by decide) ?_
                              refine fn_isub dX11_step_145 (by omega) ?_
                              refine fw_iald (e - 1) dX11_step_146 rfl rfl (by omega) (by decide) ?_
                              refine fn_to (show _ = (nI (fl.getD k3 0)) from (by rw [show e - 1 = k3 by omega]; exact hfA k3 (by omega))) ?_
                              refine fw_iast e dX11_step_147 rfl rfl (by omega) (by decide) ?_
                              refine fn_idec (c := 1) (lv2 := [(0, .ref 0), (1, .int (nI o0)), (2, .int (nI r0)), (3, .int (iI k)), (4, .int (nI (ofal (dgt v N) N))), (5, .int (nI mm)), (6, .int (nI a)), (7, .int (nI b)), (8, .int (nI (e - 1)))]) dX11_step_148 (by decide) (by omega) rfl (by decide) rfl ?_
                              refine fx_goto (tgt := 111) dX11_step_151 (by decide) ?_
                              exact (ih111 (e - 1) (g2 G8 2 e ((nI (fl.getD k3 0)))) (by omega) (mor_2 hmz _ _) (fun i j p1 p2 p3 => (g2_ne _ _ (fun q => p2 q.1)).trans (ho8 i j p1 p2 p3)) (fun p hp => (g2_ne _ _ (fun q => by omega)).trans (hfA p (by omega))) (fun p p1 p2 => by by_cases z : p = k3; (rw [z, show e = k3 + 1 by omega, g2_eq]); exact (g2_ne _ _ (fun q => by omega)).trans (hfB p (by omega) p2)) (by rw [← hI, show e = k3 + 1 by omega, insA_s, if_pos (by omega)]; rfl))
                      exact (L111 mm mm (g2 (g2 G7 1 a (G7 1 b)) 1 b (G7 1 a)) (by omega) hmx (fun i j p1 p2 p3 => by rw [g2_ne _ _ (fun q => p1 q.1), g2_ne _ _ (fun q => p1 q.1)]; exact ho7 i j p1 p2 p3) (fun p hp => by rw [g2_ne _ _ (fun q => absurd q.1 (by decide)), g2_ne _ _ (fun q => absurd q.1 (by decide))]; exact hf2 p (by omega)) (fun p p1 p2 => by omega) (by rw [hmm2]))
              exact (L79 (N - r0) r0 fl1 m1 G6 (by omega) hmm hmo1 ho6 hf hfb1 (by omega) rfl)
        exact (L70 r0 0 ([]) 0 G5 (by omega) rfl hmo ho5 (fun p hp => absurd hp (Nat.not_lt_zero _)) (fun p hp => absurd hp (Nat.not_lt_zero _)) (Nat.zero_le _) rfl)
      · skip
        refine fx_bipush (v := (iI (-2))) dX11_step_30 (by decide) ?_
        exact fx_iret dX11_step_32 rfl rfl rfl (by rw [hQ]; exact ⟨G2, by unfold xStp; rw [if_pos (by first | (have h3 := of_decide_eq_false c5; omega) | omega | (have h3 := of_decide_eq_false c27; omega))], rfl, rfl, fun i j p1 _ p3 => ho2 i j p1 p3⟩)
