/-- how many figures -/
def ndl : Nat → Nat → Nat → Nat
  | 0, n, _ => n
  | k + 1, n, r => if 0 < r then ndl k (n + 1) (r / 10) else n
theorem figl_ndl : ∀ k n s r, (figl k n s r).1 = ndl k n r
  | 0, _, _, _ => rfl
  | k + 1, n, s, r => by
    have h := figl_ndl k (n + 1) (s ||| 2 ^ (r % 10)) (r / 10)
    unfold figl ndl
    split
    · exact h
    · rfl
theorem ndl_b : ∀ k n r, n ≤ ndl k n r ∧ ndl k n r ≤ n + k ∧ (r < 10 ^ k → r < 10 ^ (ndl k n r - n)) ∧ (n < ndl k n r → 10 ^ (ndl k n r - n - 1) ≤ r)
  | 0, n, r => ⟨Nat.le_refl _, Nat.le_refl _, fun h => by show r < 10 ^ (n - n); rw [Nat.sub_self]; exact h, fun h => absurd h (Nat.lt_irrefl _)⟩
  | k + 1, n, r => by
    unfold ndl
    split
    · rename_i hr
      obtain ⟨h1, h2, h3, h4⟩ := ndl_b k (n + 1) (r / 10)
      refine ⟨by omega, by omega, fun h => ?_, fun _ => ?_⟩
      · rw [Nat.pow_succ] at h
        have h5 := h3 (by omega)
        rw [show ndl k (n + 1) (r / 10) - n = (ndl k (n + 1) (r / 10) - (n + 1)) + 1 by omega, Nat.pow_succ]
        omega
      · by_cases e : n + 1 < ndl k (n + 1) (r / 10)
        · have h5 := h4 e
          rw [show ndl k (n + 1) (r / 10) - n - 1 = (ndl k (n + 1) (r / 10) - (n + 1) - 1) + 1 by omega, Nat.pow_succ]
          omega
        · rw [show ndl k (n + 1) (r / 10) - n - 1 = 0 by omega]
          show 1 ≤ r
          omega
    · rename_i hr
      refine ⟨Nat.le_refl _, by omega, fun _ => ?_, fun h => absurd h (Nat.lt_irrefl _)⟩
      rw [Nat.sub_self]
      show r < 1
      omega
theorem figl_0 (k n s : Nat) : figl k n s 0 = (n, s) := by
  cases k
  · rfl
  · rfl
theorem dgt_div {w m j : Nat} (h : j < m) : w / 10 ^ (m - (j + 1)) % 10 = dgt w m j := by
  unfold dgt fat
  rw [show m - 1 - j = m - (j + 1) by omega]
/-- an answer of reads: whether it is an order; then its figures are at work -/
def qrd (G : Nat → Nat → Int32) (L : Nat → Nat → Int64) (o : Int) : Option Value → fv_F → Option Nat → Prop := fun r2 f2 al2 => ∃ G2 : Nat → Nat → Int32, r2 = some (.int (bI (decide (figs o ≠ 0)))) ∧ f2 = fw mT G2 L ∧ al2 = none ∧ (∀ i j, i ≠ 1 → ¬ (i = 0 ∧ j = 1) → G2 i j = G i j) ∧ (figs o ≠ 0 → mor G2 (figs o) (dgt o.toNat (figs o)))

set_option maxRecDepth 4000 in
set_option maxHeartbeats 1000000 in
theorem C11_reads  (G : Nat → Nat → Int32) (L : Nat → Nat → Int64) (o : Int) (o1 : -2147483648 ≤ o) (o2 : o < 2147483648) : fv_M Y11_reads 1 0 0 [.ref 0, .int (iI o)] (fw mT G L) none (qrd G L o) := by
  refine fv_enter rfl (Nat.le_of_ble_eq_true rfl) ?_
  obtain ⟨Q, hQ⟩ : ∃ Q : Option Value → fv_F → Option Nat → Prop, Q = (qrd G L o) := ⟨_, rfl⟩
  rw [← hQ]
  show fv_At Y11_reads 1 0 0 Q 0 [(0, .ref 0), (1, .int (iI o))] [] (fw mT G L) none 0 0
  refine fx_iload_n dX11_reads_0 rfl (i := 1) rfl ?_
  refine fx_i2l dX11_reads_1 ?_
  refine fn_toL (show _ = lI o from lI_of (z := o) (by omega) (by omega)) ?_
  refine fx_lconst (v := 1) dX11_reads_2 (by decide) ?_
  refine fn_toL (show _ = (lI 1) from (by decide)) ?_
  refine fx_ldc2 dX11_reads_3 kc11_124 (fn_toL (show _ = lI (54321) by decide) ?_)
  refine fn_cS dX11_reads_6 lk11_126 (C11_in (v := o) (a := 1) (b := 54321) (by omega) (by omega) (by omega) (by omega) (by omega) (by omega) (f := (fw mT G L))) rfl rfl (by decide) (Nat.le_of_ble_eq_true rfl) ?_
  show fv_At Y11_reads 1 0 0 Q 9 [(0, .ref 0), (1, .int (iI o))] [.int (bI (decide (1 ≤ o ∧ o ≤ 54321)))] (fw mT G L) none 0 0
  refine fn_if_neB (tgt := 14) dX11_reads_9 (by decide) (fun c9 => ?_) (fun c9 => ?_)
  · skip
    have h0 := of_decide_eq_true c9
    obtain ⟨w, rfl⟩ : ∃ w : Nat, o = (w : Int) := ⟨o.toNat, by omega⟩
    have hf : figs (w : Int) = figN w := by unfold figs; rw [if_neg (by omega)]; rfl
    show fv_At Y11_reads 1 0 0 Q 14 [(0, .ref 0), (1, .int (nI w))] [] (fw mT G L) none 0 0
    refine fx_aload_n dX11_reads_14 rfl (i := 0) rfl ?_
    refine fx_iconst (v := (nI 0)) dX11_reads_15 (by decide) ?_
    refine fw_puti dX11_reads_16 fd11_130 rfl rfl ?_
    refine fx_iload_n dX11_reads_19 rfl (i := 1) rfl ?_
    refine fx_istore_n (lv2 := [(0, .ref 0), (1, .int (nI w)), (2, .int (nI w))]) dX11_reads_20 (i := 2) rfl (by decide) rfl ?_
    have L21 : ∀ (k : Nat) (r : Nat) (m : Nat) (G1 : Nat → Nat → Int32), (r < 10 ^ k ∧ r < 100000) → (G1 0 1 = nI m) → (∀ i j, i ≠ 1 → ¬ (i = 0 ∧ j = 1) → G1 i j = G i j) → (ndl k m r = ndl 5 0 w) → fv_At Y11_reads 1 0 0 Q 21 [(0, .ref 0), (1, .int (nI w)), (2, .int (nI r))] [] (fw mT G1 L) none 0 0 := by
      intro k
      induction k with
      | zero =>
        intro r m G1 hr hn1 ho1 hN
        refine fx_iload_n dX11_reads_21 rfl (i := 2) rfl ?_
        refine fn_if_le (tgt := 43) dX11_reads_22 (by decide) (by omega) (fun c22 => ?_) (fun c22 => ?_)
        · skip
          have hm : ndl 5 0 w = m := hN.symm
          obtain ⟨b1, b2, b3, b4⟩ := ndl_b 5 0 w
          rw [hm] at b1 b2 b3 b4
          have b5 := b3 (by omega)
          have hmp : 1 ≤ m := by
            rcases Nat.eq_zero_or_pos m with e | e
            · rw [e] at b5; have : w < 1 := b5; omega
            · exact e
          have b6 := b4 hmp
          refine fx_iconst (v := (nI 0)) dX11_reads_43 (by decide) ?_
          refine fx_istore_n (lv2 := [(0, .ref 0), (1, .int (nI w)), (2, .int (nI 0))]) dX11_reads_44 (i := 2) rfl (by decide) rfl ?_
          refine fx_iload_n dX11_reads_45 rfl (i := 1) rfl ?_
          refine fx_istore_n (lv2 := [(0, .ref 0), (1, .int (nI w)), (2, .int (nI 0)), (3, .int (nI w))]) dX11_reads_46 (i := 3) rfl (by decide) rfl ?_
          refine fx_aload_n dX11_reads_47 rfl (i := 0) rfl ?_
          refine fw_geti dX11_reads_48 fd11_130 rfl rfl ?_
          refine fn_to (show _ = (nI m) from hn1) ?_
          refine fx_iconst (v := (nI 1)) dX11_reads_51 (by decide) ?_
          refine fn_isubZ (a := ((m : Nat) : Int)) (b := ((1 : Nat) : Int)) dX11_reads_52 ?_
          refine fx_istore (lv2 := [(0, .ref 0), (1, .int (nI w)), (2, .int (nI 0)), (3, .int (nI w)), (4, .int (iI ((((m : Nat) : Int)) - (((1 : Nat) : Int)))))]) dX11_reads_53 (by decide) rfl ?_
          have L55 : ∀ (j : Nat) (x : Int) (s : Nat) (l : Nat) (G2 : Nat → Nat → Int32), (x = (j : Int) - 1 ∧ j ≤ m) → (l = w / 10 ^ (m - j)) → (G2 0 1 = nI m) → (∀ i j, i ≠ 1 → ¬ (i = 0 ∧ j = 1) → G2 i j = G i j) → (∀ p, j ≤ p → p < m → G2 1 p = nI (dgt w m p)) → (figl (5 - (m - j)) (m - j) s l = figl 5 0 0 w) → (s < 1024) → fv_At Y11_reads 1 0 0 Q 55 [(0, .ref 0), (1, .int (nI w)), (2, .int (nI s)), (3, .int (nI l)), (4, .int (iI x))] [] (fw mT G2 L) none 0 0 := by
            intro j
            induction j with
            | zero =>
              intro x s l G2 hx hl hn2 ho2 hd hF hs
              refine fx_iload dX11_reads_55 rfl ?_
              refine fn_if_ltZ (tgt := 91) dX11_reads_57 (by decide) (by omega) (by omega) (fun c57 => ?_) (fun c57 => ?_)
              · skip
                have hl0 : l = 0 := by rw [hl]; exact Nat.div_eq_of_lt b5
                have hF3 : figl 5 0 0 w = (m, s) := by rw [← hF, hl0, figl_0]; rfl
                have e2 : 2 ^ (m + 1) ≤ 2 ^ 6 := Nat.pow_le_pow_right (by decide) (by omega)
                have e3 : 2 ^ 1 ≤ 2 ^ (m + 1) := Nat.pow_le_pow_right (by decide) (by omega)
                have hfn : figN w = if s = 2 ^ (m + 1) - 2 then m else 0 := by unfold figN; rw [hF3]
                refine fx_iload_n dX11_reads_91 rfl (i := 2) rfl ?_
                refine fx_iconst (v := (nI 2)) dX11_reads_92 (by decide) ?_
                refine fx_aload_n dX11_reads_93 rfl (i := 0) rfl ?_
                refine fw_geti dX11_reads_94 fd11_130 rfl rfl ?_
                refine fn_to (show _ = (nI m) from hn2) ?_
                refine fx_ishl dX11_reads_97 ?_
                refine fn_to (show _ = (nI (2 ^ (m + 1))) from (nI_shl2 _ (by omega))) ?_
                refine fx_iconst (v := (nI 2)) dX11_reads_98 (by decide) ?_
                refine fn_isub dX11_reads_99 (by omega) ?_
                refine fn_icmp_ne (tgt := 107) dX11_reads_100 (by decide) (by omega) (by omega) (fun c100 => ?_) (fun c100 => ?_)
                · skip
                  refine fx_iconst (v := (nI 0)) dX11_reads_107 (by decide) ?_
                  refine fn_to (show _ = (bI false) from rfl) ?_
                  exact fx_zret dX11_reads_108 rfl (bI_01 _) rfl rfl (by rw [hQ]; exact ⟨G2, by rw [decide_eq_false (by rw [hf, hfn, if_neg c100]; omega)], rfl, rfl, ho2, fun h => absurd (show figs (w : Int) = 0 by rw [hf, hfn, if_neg c100]) h⟩)
                · skip
                  refine fx_iconst (v := (nI 1)) dX11_reads_103 (by decide) ?_
                  refine fn_to (show _ = (bI true) from rfl) ?_
                  refine fx_goto (tgt := 108) dX11_reads_104 (by decide) ?_
                  exact fx_zret dX11_reads_108 rfl (bI_01 _) rfl rfl (by rw [hQ]; exact ⟨G2, by rw [decide_eq_true (by rw [hf, hfn, if_pos c100]; omega)], rfl, rfl, ho2, fun _ => by rw [hf, hfn, if_pos c100]; exact ⟨by omega, hn2, fun p hp => hd p (Nat.zero_le _) hp⟩⟩)
              · exfalso; omega
            | succ j ih55 =>
              intro x s l G2 hx hl hn2 ho2 hd hF hs
              refine fx_iload dX11_reads_55 rfl ?_
              refine fn_if_ltZ (tgt := 91) dX11_reads_57 (by decide) (by omega) (by omega) (fun c57 => ?_) (fun c57 => ?_)
              · exfalso; omega
              · skip
                obtain rfl : x = (j : Int) := by omega
                have hdl := dgt_lt w m j
                have hlw : l ≤ w := by rw [hl]; exact Nat.div_le_self _ _
                have hlp : 0 < l := by rw [hl]; exact Nat.div_pos (Nat.le_trans (Nat.pow_le_pow_right (by decide) (by omega)) b6) (Nat.pow_pos (by decide))
                have hF2 : figl (5 - (m - j)) (m - j) (s ||| 2 ^ dgt w m j) (l / 10) = figl 5 0 0 w := by
                  rw [← hF, show 5 - (m - (j + 1)) = (5 - (m - j)) + 1 by omega, figl, if_pos hlp, show l % 10 = dgt w m j by rw [hl, dgt_div (by omega)], show m - (j + 1) + 1 = m - j by omega]
                show fv_At Y11_reads 1 0 0 Q 60 [(0, .ref 0), (1, .int (nI w)), (2, .int (nI s)), (3, .int (nI l)), (4, .int (nI j))] [] (fw mT G2 L) none 0 0
                refine fx_aload_n dX11_reads_60 rfl (i := 0) rfl ?_
                refine fw_getr dX11_reads_61 fd11_7 rfl rfl ?_
                refine fx_iload dX11_reads_64 rfl ?_
                refine fx_iload_n dX11_reads_66 rfl (i := 3) rfl ?_
                refine fx_bipush (v := (nI 10)) dX11_reads_67 (by decide) ?_
                refine fn_irem dX11_reads_69 (by omega) (by omega) (by omega) ?_
                refine fn_to (show _ = (nI (dgt w m j)) from (by rw [hl, dgt_div (by omega)])) ?_
                refine fw_iast j dX11_reads_70 rfl rfl (by omega) (by decide) ?_
                refine fx_iload_n dX11_reads_71 rfl (i := 2) rfl ?_
                refine fx_iconst (v := (nI 1)) dX11_reads_72 (by decide) ?_
                refine fx_iload_n dX11_reads_73 rfl (i := 3) rfl ?_
                refine fx_bipush (v := (nI 10)) dX11_reads_74 (by decide) ?_
                refine fn_irem dX11_reads_76 (by omega) (by omega) (by omega) ?_
                refine fn_to (show _ = (nI (dgt w m j)) from (by rw [hl, dgt_div (by omega)])) ?_
                refine fx_ishl dX11_reads_77 ?_
                refine fn_to (show _ = (nI (2 ^ dgt w m j)) from (nI_shl1 _ (by omega))) ?_
                refine fx_ior dX11_reads_78 ?_
                refine fn_to (show _ = (nI (s ||| 2 ^ dgt w m j)) from (nI_or _ _)) ?_
                refine fx_istore_n (lv2 := [(0, .ref 0), (1, .int (nI w)), (2, .int (nI (s ||| 2 ^ dgt w m j))), (3, .int (nI l)), (4, .int (nI j))]) dX11_reads_79 (i := 2) rfl (by decide) rfl ?_
                refine fx_iload_n dX11_reads_80 rfl (i := 3) rfl ?_
                refine fx_bipush (v := (nI 10)) dX11_reads_81 (by decide) ?_
                refine fn_idiv dX11_reads_83 (by omega) (by omega) (by omega) ?_
                refine fx_istore_n (lv2 := [(0, .ref 0), (1, .int (nI w)), (2, .int (nI (s ||| 2 ^ dgt w m j))), (3, .int (nI (l / 10))), (4, .int (nI j))]) dX11_reads_84 (i := 3) rfl (by decide) rfl ?_
                show fv_At Y11_reads 1 0 0 Q 85 [(0, .ref 0), (1, .int (nI w)), (2, .int (nI (s ||| 2 ^ dgt w m j))), (3, .int (nI (l / 10))), (4, .int (iI ((j : Int))))] [] (fw mT (g2 G2 1 j ((nI (dgt w m j)))) L) none 0 0
                refine fn_iincZ (lv2 := [(0, .ref 0), (1, .int (nI w)), (2, .int (nI (s ||| 2 ^ dgt w m j))), (3, .int (nI (l / 10))), (4, .int (iI ((j : Int) + (-1))))]) dX11_reads_85  rfl (by decide) rfl ?_
                refine fx_goto (tgt := 55) dX11_reads_88 (by decide) ?_
                exact (ih55 ((j : Int) + (-1)) (s ||| 2 ^ dgt w m j) (l / 10) (g2 G2 1 j ((nI (dgt w m j)))) (by omega) (by rw [hl, Nat.div_div_eq_div_mul, ← Nat.pow_succ]; congr 2; omega) ((g2_ne _ _ (fun h => absurd h.1 (by decide))).trans hn2) (fun i p a b => (g2_ne _ _ (fun h => a h.1)).trans (ho2 i p a b)) (fun p h1 h2 => by by_cases e : p = j; (rw [e]; exact g2_eq _ _ _ _); exact (g2_ne _ _ (fun h => e h.2)).trans (hd p (by omega) h2)) hF2 (Nat.or_lt_two_pow (n := 10) hs (Nat.pow_lt_pow_right (by decide) hdl)))
          exact (L55 m ((((m : Nat) : Int)) - (((1 : Nat) : Int))) 0 w G1 (by omega) (by rw [Nat.sub_self, Nat.pow_zero, Nat.div_one]) hn1 ho1 (fun p h1 h2 => by omega) (by rw [Nat.sub_self]) (by decide))
        · exfalso; omega
      | succ k ih21 =>
        intro r m G1 hr hn1 ho1 hN
        refine fx_iload_n dX11_reads_21 rfl (i := 2) rfl ?_
        refine fn_if_le (tgt := 43) dX11_reads_22 (by decide) (by omega) (fun c22 => ?_) (fun c22 => ?_)
        · skip
          have hm : ndl 5 0 w = m := by rw [← hN, ndl, if_neg (by omega)]
          obtain ⟨b1, b2, b3, b4⟩ := ndl_b 5 0 w
          rw [hm] at b1 b2 b3 b4
          have b5 := b3 (by omega)
          have hmp : 1 ≤ m := by
            rcases Nat.eq_zero_or_pos m with e | e
            · rw [e] at b5; have : w < 1 := b5; omega
            · exact e
          have b6 := b4 hmp
          refine fx_iconst (v := (nI 0)) dX11_reads_43 (by decide) ?_
          refine fx_istore_n (lv2 := [(0, .ref 0), (1, .int (nI w)), (2, .int (nI 0))]) dX11_reads_44 (i := 2) rfl (by decide) rfl ?_
          refine fx_iload_n dX11_reads_45 rfl (i := 1) rfl ?_
          refine fx_istore_n (lv2 := [(0, .ref 0), (1, .int (nI w)), (2, .int (nI 0)), (3, .int (nI w))]) dX11_reads_46 (i := 3) rfl (by decide) rfl ?_
          refine fx_aload_n dX11_reads_47 rfl (i := 0) rfl ?_
          refine fw_geti dX11_reads_48 fd11_130 rfl rfl ?_
          refine fn_to (show _ = (nI m) from hn1) ?_
          refine fx_iconst (v := (nI 1)) dX11_reads_51 (by decide) ?_
          refine fn_isubZ (a := ((m : Nat) : Int)) (b := ((1 : Nat) : Int)) dX11_reads_52 ?_
          refine fx_istore (lv2 := [(0, .ref 0), (1, .int (nI w)), (2, .int (nI 0)), (3, .int (nI w)), (4, .int (iI ((((m : Nat) : Int)) - (((1 : Nat) : Int)))))]) dX11_reads_53 (by decide) rfl ?_
          have L55 : ∀ (j : Nat) (x : Int) (s : Nat) (l : Nat) (G2 : Nat → Nat → Int32), (x = (j : Int) - 1 ∧ j ≤ m) → (l = w / 10 ^ (m - j)) → (G2 0 1 = nI m) → (∀ i j, i ≠ 1 → ¬ (i = 0 ∧ j = 1) → G2 i j = G i j) → (∀ p, j ≤ p → p < m → G2 1 p = nI (dgt w m p)) → (figl (5 - (m - j)) (m - j) s l = figl 5 0 0 w) → (s < 1024) → fv_At Y11_reads 1 0 0 Q 55 [(0, .ref 0), (1, .int (nI w)), (2, .int (nI s)), (3, .int (nI l)), (4, .int (iI x))] [] (fw mT G2 L) none 0 0 := by
            intro j
            induction j with
            | zero =>
              intro x s l G2 hx hl hn2 ho2 hd hF hs
              refine fx_iload dX11_reads_55 rfl ?_
              refine fn_if_ltZ (tgt := 91) dX11_reads_57 (by decide) (by omega) (by omega) (fun c57 => ?_) (fun c57 => ?_)
              · skip
                have hl0 : l = 0 := by rw [hl]; exact Nat.div_eq_of_lt b5
                have hF3 : figl 5 0 0 w = (m, s) := by rw [← hF, hl0, figl_0]; rfl
                have e2 : 2 ^ (m + 1) ≤ 2 ^ 6 := Nat.pow_le_pow_right (by decide) (by omega)
                have e3 : 2 ^ 1 ≤ 2 ^ (m + 1) := Nat.pow_le_pow_right (by decide) (by omega)
                have hfn : figN w = if s = 2 ^ (m + 1) - 2 then m else 0 := by unfold figN; rw [hF3]
                refine fx_iload_n dX11_reads_91 rfl (i := 2) rfl ?_
                refine fx_iconst (v := (nI 2)) dX11_reads_92 (by decide) ?_
                refine fx_aload_n dX11_reads_93 rfl (i := 0) rfl ?_
                refine fw_geti dX11_reads_94 fd11_130 rfl rfl ?_
                refine fn_to (show _ = (nI m) from hn2) ?_
                refine fx_ishl dX11_reads_97 ?_
                refine fn_to (show _ = (nI (2 ^ (m + 1))) from (nI_shl2 _ (by omega))) ?_
                refine fx_iconst (v := (nI 2)) dX11_reads_98 (by decide) ?_
                refine fn_isub dX11_reads_99 (by omega) ?_
                refine fn_icmp_ne (tgt := 107) dX11_reads_100 (by decide) (by omega) (by omega) (fun c100 => ?_) (fun c100 => ?_)
                · skip
                  refine fx_iconst (v := (nI 0)) dX11_reads_107 (by decide) ?_
                  refine fn_to (show _ = (bI false) from rfl) ?_
                  exact fx_zret dX11_reads_108 rfl (bI_01 _) rfl rfl (by rw [hQ]; exact ⟨G2, by rw [decide_eq_false (by rw [hf, hfn, if_neg c100]; omega)], rfl, rfl, ho2, fun h => absurd (show figs (w : Int) = 0 by rw [hf, hfn, if_neg c100]) h⟩)
                · skip
                  refine fx_iconst (v := (nI 1)) dX11_reads_103 (by decide) ?_
                  refine fn_to (show _ = (bI true) from rfl) ?_
                  refine fx_goto (tgt := 108) dX11_reads_104 (by decide) ?_
                  exact fx_zret dX11_reads_108 rfl (bI_01 _) rfl rfl (by rw [hQ]; exact ⟨G2, by rw [decide_eq_true (by rw [hf, hfn, if_pos c100]; omega)], rfl, rfl, ho2, fun _ => by rw [hf, hfn, if_pos c100]; exact ⟨by omega, hn2, fun p hp => hd p (Nat.zero_le _) hp⟩⟩)
              · exfalso; omega
            | succ j ih55 =>
              intro x s l G2 hx hl hn2 ho2 hd hF hs
              refine fx_iload dX11_reads_55 rfl ?_
              refine fn_if_ltZ (tgt := 91) dX11_reads_57 (by decide) (by omega) (by omega) (fun c57 => ?_) (fun c57 => ?_)
              · exfalso; omega
              · skip
                obtain rfl : x = (j : Int) := by omega
                have hdl := dgt_lt w m j
                have hlw : l ≤ w := by rw [hl]; exact Nat.div_le_self _ _
                have hlp : 0 < l := by rw [hl]; exact Nat.div_pos (Nat.le_trans (Nat.pow_le_pow_right (by decide) (by omega)) b6) (Nat.pow_pos (by decide))
                have hF2 : figl (5 - (m - j)) (m - j) (s ||| 2 ^ dgt w m j) (l / 10) = figl 5 0 0 w := by
                  rw [← hF, show 5 - (m - (j + 1)) = (5 - (m - j)) + 1 by omega, figl, if_pos hlp, show l % 10 = dgt w m j by rw [hl, dgt_div (by omega)], show m - (j + 1) + 1 = m - j by omega]
                show fv_At Y11_reads 1 0 0 Q 60 [(0, .ref 0), (1, .int (nI w)), (2, .int (nI s)), (3, .int (nI l)), (4, .int (nI j))] [] (fw mT G2 L) none 0 0
                refine fx_aload_n dX11_reads_60 rfl (i := 0) rfl ?_
                refine fw_getr dX11_reads_61 fd11_7 rfl rfl ?_
                refine fx_iload dX11_reads_64 rfl ?_
                refine fx_iload_n dX11_reads_66 rfl (i := 3) rfl ?_
                refine fx_bipush (v := (nI 10)) dX11_reads_67 (by decide) ?_
                refine fn_irem dX11_reads_69 (by omega) (by omega) (by omega) ?_
                refine fn_to (show _ = (nI (dgt w m j)) from (by rw [hl, dgt_div (by omega)])) ?_
                refine fw_iast j dX11_reads_70 rfl rfl (by omega) (by decide) ?_
                refine fx_iload_n dX11_reads_71 rfl (i := 2) rfl ?_
                refine fx_iconst (v := (nI 1)) dX11_reads_72 (by decide) ?_
                refine fx_iload_n dX11_reads_73 rfl (i := 3) rfl ?_
                refine fx_bipush (v := (nI 10)) dX11_reads_74 (by decide) ?_
                refine fn_irem dX11_reads_76 (by omega) (by omega) (by omega) ?_
                refine fn_to (show _ = (nI (dgt w m j)) from (by rw [hl, dgt_div (by omega)])) ?_
                refine fx_ishl dX11_reads_77 ?_
                refine fn_to (show _ = (nI (2 ^ dgt w m j)) from (nI_shl1 _ (by omega))) ?_
                refine fx_ior dX11_reads_78 ?_
                refine fn_to (show _ = (nI (s ||| 2 ^ dgt w m j)) from (nI_or _ _)) ?_
                refine fx_istore_n (lv2 := [(0, .ref 0), (1, .int (nI w)), (2, .int (nI (s ||| 2 ^ dgt w m j))), (3, .int (nI l)), (4, .int (nI j))]) dX11_reads_79 (i := 2) rfl (by decide) rfl ?_
                refine fx_iload_n dX11_reads_80 rfl (i := 3) rfl ?_
                refine fx_bipush (v := (nI 10)) dX11_reads_81 (by decide) ?_
                refine fn_idiv dX11_reads_83 (by omega) (by omega) (by omega) ?_
                refine fx_istore_n (lv2 := [(0, .ref 0), (1, .int (nI w)), (2, .int (nI (s ||| 2 ^ dgt w m j))), (3, .int (nI (l / 10))), (4, .int (nI j))]) dX11_reads_84 (i := 3) rfl (by decide) rfl ?_
                show fv_At Y11_reads 1 0 0 Q 85 [(0, .ref 0), (1, .int (nI w)), (2, .int (nI (s ||| 2 ^ dgt w m j))), (3, .int (nI (l / 10))), (4, .int (iI ((j : Int))))] [] (fw mT (g2 G2 1 j ((nI (dgt w m j)))) L) none 0 0
                refine fn_iincZ (lv2 := [(0, .ref 0), (1, .int (nI w)), (2, .int (nI (s ||| 2 ^ dgt w m j))), (3, .int (nI (l / 10))), (4, .int (iI ((j : Int) + (-1))))]) dX11_reads_85  rfl (by decide) rfl ?_
                refine fx_goto (tgt := 55) dX11_reads_88 (by decide) ?_
                exact (ih55 ((j : Int) + (-1)) (s ||| 2 ^ dgt w m j) (l / 10) (g2 G2 1 j ((nI (dgt w m j)))) (by omega) (by rw [hl, Nat.div_div_eq_div_mul, ← Nat.pow_succ]; congr 2; omega) ((g2_ne _ _ (fun h => absurd h.1 (by decide))).trans hn2) (fun i p a b => (g2_ne _ _ (fun h => a h.1)).trans (ho2 i p a b)) (fun p h1 h2 => by by_cases e : p = j; (rw [e]; exact g2_eq _ _ _ _); exact (g2_ne _ _ (fun h => e h.2)).trans (hd p (by omega) h2)) hF2 (Nat.or_lt_two_pow (n := 10) hs (Nat.pow_lt_pow_right (by decide) hdl)))
          exact (L55 m ((((m : Nat) : Int)) - (((1 : Nat) : Int))) 0 w G1 (by omega) (by rw [Nat.sub_self, Nat.pow_zero, Nat.div_one]) hn1 ho1 (fun p h1 h2 => by omega) (by rw [Nat.sub_self]) (by decide))
        · skip
          refine fx_aload_n dX11_reads_25 rfl (i := 0) rfl ?_
          refine fx_dup dX11_reads_26 rfl ?_
          refine fw_geti dX11_reads_27 fd11_130 rfl rfl ?_
          refine fn_to (show _ = (nI m) from hn1) ?_
          refine fx_iconst (v := (nI 1)) dX11_reads_30 (by decide) ?_
          refine fn_iadd dX11_reads_31 ?_
          refine fw_puti dX11_reads_32 fd11_130 rfl rfl ?_
          refine fx_iload_n dX11_reads_35 rfl (i := 2) rfl ?_
          refine fx_bipush (v := (nI 10)) dX11_reads_36 (by decide) ?_
          refine fn_idiv dX11_reads_38 (by omega) (by omega) (by omega) ?_
          refine fx_istore_n (lv2 := [(0, .ref 0), (1, .int (nI w)), (2, .int (nI (r / 10)))]) dX11_reads_39 (i := 2) rfl (by decide) rfl ?_
          refine fx_goto (tgt := 21) dX11_reads_40 (by decide) ?_
          exact (ih21 (r / 10) (m + 1) (g2 G1 0 1 ((nI (m + 1)))) (by have h7 := hr.1; rw [Nat.pow_succ] at h7; omega) (g2_eq _ _ _ _) (fun i j a b => (g2_ne _ _ b).trans (ho1 i j a b)) (by rw [← hN, ndl, if_pos (by omega)]))
    exact (L21 5 w 0 (g2 G 0 1 ((nI 0))) (by omega) (g2_eq _ _ _ _) (fun i j _ b => g2_ne _ _ b) rfl)
  · skip
    refine fx_iconst (v := (nI 0)) dX11_reads_12 (by decide) ?_
    refine fn_to (show _ = (bI false) from rfl) ?_
    exact fx_zret dX11_reads_13 rfl (bI_01 _) rfl rfl (by rw [hQ]; exact ⟨G, by rw [decide_eq_false (show ¬ figs o ≠ 0 from fun h => h (by unfold figs; rw [if_pos (by have := of_decide_eq_false c9; omega)]))], rfl, rfl, fun _ _ _ _ => rfl, fun h => absurd (show figs o = 0 by unfold figs; rw [if_pos (by have := of_decide_eq_false c9; omega)]) h⟩)
