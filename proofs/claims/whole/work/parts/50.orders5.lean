def cP (n l o : Nat) : Bool := decide (figs (o : Int) = n ∧ ofal (dgt o (figs (o : Int))) (figs (o : Int)) = l)
def ctO (n l : Nat) : Nat → Nat → Nat → Nat
  | 0, _, c => c
  | k + 1, o, c => ctO n l k (o + 1) (if cP n l o = true then c + 1 else c + 0)
theorem ctO_s (n l k o c : Nat) : ctO n l (k + 1) o c = ctO n l k (o + 1) (if cP n l o = true then c + 1 else c + 0) := rfl
theorem ctO_l (n l : Nat) : ∀ k o c, ctO n l k o c = c + ((List.range' o k).filter (cP n l)).length
  | 0, _, _ => rfl
  | k + 1, o, c => by
    rw [ctO_s, ctO_l n l k, r1_s, List.filter_cons]
    by_cases q : cP n l o = true
    · rw [if_pos q, if_pos q, List.length_cons]; omega
    · rw [if_neg q, if_neg q]; omega
theorem nd_len : ∀ (A B : List Nat), A.Nodup → (∀ x, x ∈ A → x ∈ B) → A.length ≤ B.length
  | [], _, _, _ => Nat.zero_le _
  | a :: A, B, hn, h => by
    have hn2 := List.nodup_cons.mp hn
    have hm := h a List.mem_cons_self
    have ih := nd_len A (B.erase a) hn2.2 (fun x hx => (List.mem_erase_of_ne (fun e => hn2.1 (by rw [← e]; exact hx))).mpr (h x (List.mem_cons_of_mem _ hx)))
    rw [List.length_erase_of_mem hm] at ih
    have h0 := List.length_pos_of_mem hm
    rw [List.length_cons]
    omega
theorem ordL_nd : ordL.Nodup := by decide +kernel
theorem ordL_r : ∀ o, o ∈ ordL → 10 ^ figN o / 10 ≤ o ∧ o < 10 ^ figN o ∧ 1 ≤ o ∧ o ≤ 54321 ∧ ofal (dgt o (figN o)) (figN o) ≤ 10 := by
  have h : ordL.all (fun o => decide (10 ^ figN o / 10 ≤ o ∧ o < 10 ^ figN o ∧ 1 ≤ o ∧ o ≤ 54321 ∧ ofal (dgt o (figN o)) (figN o) ≤ 10)) = true := by decide +kernel
  intro o ho
  exact of_decide_eq_true (List.all_eq_true.mp h o ho)
theorem figs_o {o : Nat} (ho : o ∈ ordL) : figs (o : Int) = figN o := by
  have := ordL_r o ho
  unfold figs
  rw [if_neg (by omega)]
  rfl
def oct (n l : Nat) : Nat := (ordL.filter (fun o => decide (figN o = n ∧ ofal (dgt o (figN o)) (figN o) = l))).length
theorem ctO_o {n l : Nat} (hn : 1 ≤ n) : ctO n l (10 ^ n - 10 ^ n / 10) (10 ^ n / 10) 0 = oct n l := by
  rw [ctO_l, Nat.zero_add]
  refine Nat.le_antisymm (nd_len _ _ (List.Pairwise.filter _ (List.nodup_range' 1)) (fun x hx => ?_)) (nd_len _ _ (List.Pairwise.filter _ ordL_nd) (fun x hx => ?_))
  · obtain ⟨h1, h2⟩ := List.mem_filter.mp hx
    unfold cP at h2
    have h3 := of_decide_eq_true h2
    have h4 := figs_N (w := x) (by omega)
    refine List.mem_filter.mpr ⟨h4.2, decide_eq_true ?_⟩
    rw [← h4.1]
    exact h3
  · obtain ⟨h1, h2⟩ := List.mem_filter.mp hx
    have h3 := of_decide_eq_true h2
    have h4 := ordL_r x h1
    have h5 := figs_o h1
    rw [h3.1] at h4
    refine List.mem_filter.mpr ⟨List.mem_range'_1.mpr (by omega), ?_⟩
    unfold cP
    rw [h5]
    exact decide_eq_true h3
theorem olenS_0 (g : Nat → Nat) (len : Nat) : ∀ k b c, (∀ x, b ≤ x → x < b + k → g (len - x) = 0) → olenS g len k b c = c
  | 0, _, _, _ => rfl
  | k + 1, b, c, h => by
    unfold olenS
    split
    · rw [h b (Nat.le_refl _) (by omega), olenS_0 g len k (b + 1) _ (fun x p q => h x (by omega) (by omega))]
      rfl
    · rfl
theorem olen_0 : ∀ n l, n ≤ 5 → n * (n - 1) / 2 < l → olen n l = 0 := by
  have h1 : ∀ l, 0 < l → olen 1 l = 0 := fun l h => by rw [olen_1 1 l (Nat.le_refl _), if_neg (by omega)]
  have h2 : ∀ l, 1 < l → olen 2 l = 0 := fun l h => by rw [olen_2 2 l (by decide)]; exact olenS_0 _ _ _ _ _ (fun x a b => h1 _ (by omega))
  have h3 : ∀ l, 3 < l → olen 3 l = 0 := fun l h => by rw [olen_2 3 l (by decide)]; exact olenS_0 _ _ _ _ _ (fun x a b => h2 _ (by omega))
  have h4 : ∀ l, 6 < l → olen 4 l = 0 := fun l h => by rw [olen_2 4 l (by decide)]; exact olenS_0 _ _ _ _ _ (fun x a b => h3 _ (by omega))
  have h5 : ∀ l, 10 < l → olen 5 l = 0 := fun l h => by rw [olen_2 5 l (by decide)]; exact olenS_0 _ _ _ _ _ (fun x a b => h4 _ (by omega))
  intro n l hn hl
  match n, hn with
  | 0, _ => rw [olen_1 0 l (by decide), if_neg (by omega)]
  | 1, _ => exact h1 l hl
  | 2, _ => exact h2 l hl
  | 3, _ => exact h3 l hl
  | 4, _ => exact h4 l hl
  | 5, _ => exact h5 l hl
theorem oct_k : ∀ n, n < 6 → ∀ l, l < 11 → 1 ≤ n → oct n l = olen n l := by
  have h : (List.range 6).all (fun n => (List.range 11).all (fun l => (n == 0) || (oct n l == olen n l))) = true := by decide +kernel
  intro n hn l hl h1
  have q := List.all_eq_true.mp (List.all_eq_true.mp h n (List.mem_range.mpr hn)) l (List.mem_range.mpr hl)
  rw [Bool.or_eq_true] at q
  rcases q with q | q
  · have q2 : n = 0 := by simpa using q
    omega
  · simpa using q
theorem ctO_n {n l : Nat} (h1 : 1 ≤ n) (h5 : n ≤ 5) : ctO n l (10 ^ n - 10 ^ n / 10) (10 ^ n / 10) 0 = olen n l := by
  rw [ctO_o h1]
  by_cases q : l < 11
  · exact oct_k n (by omega) l q h1
  · have e : n * (n - 1) / 2 < l := by
      have w : n = 1 ∨ n = 2 ∨ n = 3 ∨ n = 4 ∨ n = 5 := by omega
      rcases w with rfl | rfl | rfl | rfl | rfl <;> omega
    rw [olen_0 n l h5 e]
    unfold oct
    rw [List.length_eq_zero_iff, List.filter_eq_nil_iff]
    intro x hx hq
    have h3 := of_decide_eq_true hq
    have h4 := (ordL_r x hx).2.2.2.2
    omega

set_option maxRecDepth 4000 in
set_option maxHeartbeats 1000000 in
theorem C11_orders  (G : Nat → Nat → Int32) (L : Nat → Nat → Int64) (n l : Int) (n1 : -2147483648 ≤ n) (n2 : n < 2147483648) (l1 : -2147483648 ≤ l) (l2 : l < 2147483648) : fv_M Y11_orders 2 0 0 [.ref 0, .int (iI n), .int (iI l)] (fw mT G L) none (qmo G L (xOrd n l)) := by
  refine fv_enter rfl (Nat.le_of_ble_eq_true rfl) ?_
  obtain ⟨Q, hQ⟩ : ∃ Q : Option Value → fv_F → Option Nat → Prop, Q = (qmo G L (xOrd n l)) := ⟨_, rfl⟩
  rw [← hQ]
  show fv_At Y11_orders 2 0 0 Q 0 [(0, .ref 0), (1, .int (iI n)), (2, .int (iI l))] [] (fw mT G L) none 0 0
  refine fx_iload_n dX11_orders_0 rfl (i := 1) rfl ?_
  refine fx_i2l dX11_orders_1 ?_
  refine fn_toL (show _ = lI n from lI_of (z := n) (by omega) (by omega)) ?_
  refine fx_lconst (v := 1) dX11_orders_2 (by decide) ?_
  refine fn_toL (show _ = (lI 1) from (by decide)) ?_
  refine fx_ldc2 dX11_orders_3 kc11_148 (fn_toL (show _ = lI (5) by decide) ?_)
  refine fn_cS dX11_orders_6 lk11_126 (C11_in (v := n) (a := 1) (b := 5) (by omega) (by omega) (by omega) (by omega) (by omega) (by omega) (f := (fw mT G L))) rfl rfl (by decide) (Nat.le_of_ble_eq_true rfl) ?_
  show fv_At Y11_orders 2 0 0 Q 9 [(0, .ref 0), (1, .int (iI n)), (2, .int (iI l))] [.int (bI (decide (1 ≤ n ∧ n ≤ 5)))] (fw mT G L) none 0 0
  refine fn_if_eqB (tgt := 16) dX11_orders_9 (by decide) (fun c9 => ?_) (fun c9 => ?_)
  · skip
    refine fx_bipush (v := (iI (-2))) dX11_orders_16 (by decide) ?_
    exact fx_iret dX11_orders_18 rfl rfl rfl (by rw [hQ]; exact ⟨G, by unfold xOrd; rw [if_pos (by first | omega | (have h3 := of_decide_eq_false c9; omega))], rfl, rfl, fun _ _ _ _ _ => rfl⟩)
  · skip
    refine fx_iload_n dX11_orders_12 rfl (i := 2) rfl ?_
    refine fn_if_geZ (tgt := 19) dX11_orders_13 (by decide) (by omega) (by omega) (fun c13 => ?_) (fun c13 => ?_)
    · skip
      have him := of_decide_eq_true c9
      obtain ⟨n0, rfl⟩ : ∃ z : Nat, n = (z : Int) := ⟨n.toNat, by omega⟩
      obtain ⟨l0, rfl⟩ : ∃ z : Nat, l = (z : Int) := ⟨l.toNat, by omega⟩
      show fv_At Y11_orders 2 0 0 Q 19 [(0, .ref 0), (1, .int (nI n0)), (2, .int (nI l0))] [] (fw mT G L) none 0 0
      refine fx_iconst (v := (nI 0)) dX11_orders_19 (by decide) ?_
      refine fx_istore_n (lv2 := [(0, .ref 0), (1, .int (nI n0)), (2, .int (nI l0)), (3, .int (nI 0))]) dX11_orders_20 (i := 3) rfl (by decide) rfl ?_
      refine fx_iconst (v := (nI 1)) dX11_orders_21 (by decide) ?_
      refine fx_istore (lv2 := [(0, .ref 0), (1, .int (nI n0)), (2, .int (nI l0)), (3, .int (nI 0)), (4, .int (nI 1))]) dX11_orders_22 (by decide) rfl ?_
      refine fx_iconst (v := (nI 0)) dX11_orders_24 (by decide) ?_
      refine fx_istore (lv2 := [(0, .ref 0), (1, .int (nI n0)), (2, .int (nI l0)), (3, .int (nI 0)), (4, .int (nI 1)), (5, .int (nI 0))]) dX11_orders_25 (by decide) rfl ?_
      have L27 : ∀ (k1 : Nat) (m : Nat) (i : Nat), (i + k1 = n0) → (m = 10 ^ i) → fv_At Y11_orders 2 0 0 Q 27 [(0, .ref 0), (1, .int (nI n0)), (2, .int (nI l0)), (3, .int (nI 0)), (4, .int (nI m)), (5, .int (nI i))] [] (fw mT G L) none 0 0 := by
        intro k1
        induction k1 with
        | zero =>
          intro m i hi hm
          refine fx_iload dX11_orders_27 rfl ?_
          refine fx_iload_n dX11_orders_29 rfl (i := 1) rfl ?_
          refine fn_icmp_ge (tgt := 46) dX11_orders_30 (by decide) (by omega) (by omega) (fun c30 => ?_) (fun c30 => ?_)
          · skip
            rw [show i = n0 by omega] at hm
            have hm5 : 10 ^ n0 ≤ 10 ^ 5 := Nat.pow_le_pow_right (by decide) (by omega)
            rw [← hm] at hm5
            refine fx_iload dX11_orders_46 rfl ?_
            refine fx_bipush (v := (nI 10)) dX11_orders_48 (by decide) ?_
            refine fn_idiv dX11_orders_50 (by omega) (by omega) (by omega) ?_
            refine fx_istore (lv2 := [(0, .ref 0), (1, .int (nI n0)), (2, .int (nI l0)), (3, .int (nI 0)), (4, .int (nI m)), (5, .int (nI (m / 10)))]) dX11_orders_51 (by decide) rfl ?_
            have L53 : ∀ (k2 : Nat) (c : Nat) (o : Nat) (G1 : Nat → Nat → Int32), (o + k2 = m) → (∀ i j, i ≠ 1 → ¬ (i = 0 ∧ j = 1) → G1 i j = G i j) → (ctO n0 l0 k2 o c = ctO n0 l0 (m - m / 10) (m / 10) 0) → fv_At Y11_orders 2 0 0 Q 53 [(0, .ref 0), (1, .int (nI n0)), (2, .int (nI l0)), (3, .int (nI c)), (4, .int (nI m)), (5, .int (nI o))] [] (fw mT G1 L) none 0 0 := by
              intro k2
              induction k2 with
              | zero =>
                intro c o G1 ho hoG hR
                refine fx_iload dX11_orders_53 rfl ?_
                refine fx_iload dX11_orders_55 rfl ?_
                refine fn_icmp_ge (tgt := 99) dX11_orders_57 (by decide) (by omega) (by omega) (fun c57 => ?_) (fun c57 => ?_)
                · skip
                  refine fx_iload_n dX11_orders_99 rfl (i := 3) rfl ?_
                  exact fx_iret dX11_orders_100 rfl rfl rfl (by rw [hQ]; exact ⟨G1, by unfold xOrd; rw [if_neg (by omega)]; show _ = some (Value.int (nI (olen n0 l0))); rw [← ctO_n (by omega) (by omega), ← hm, ← hR]; rfl, rfl, rfl, fun i j a _ b => hoG i j a b⟩)
                · exfalso; omega
              | succ k2 ih53 =>
                intro c o G1 ho hoG hR
                refine fx_iload dX11_orders_53 rfl ?_
                refine fx_iload dX11_orders_55 rfl ?_
                refine fn_icmp_ge (tgt := 99) dX11_orders_57 (by decide) (by omega) (by omega) (fun c57 => ?_) (fun c57 => ?_)
                · exfalso; omega
                · skip
                  have hf5 := figs_le (o : Int)
                  refine fx_iload_n dX11_orders_60 rfl (i := 3) rfl ?_
                  refine fx_aload_n dX11_orders_61 rfl (i := 0) rfl ?_
                  refine fx_iload dX11_orders_62 rfl ?_
                  refine fx_callV dX11_orders_64 lk11_133 fv_c8 rfl (fw_at (show mT 0 = some (3, 8, 38, [some 1, none, some 2, some 3, some 4, some 5, some 6, some 7, some 8, some 9, some 10, some 11, some 12, some 13, some 14, some 15, some 16, some 17, some 18, some 19, none, none, none, some 20, some 21, some 22, some 23, none, some 24, some 25, some 26, some 27, some 28, some 29, some 30, some 31, none, some 32]) from rfl)) (C11_reads G1 L (((o : Nat) : Int)) (by omega) (by omega)) rfl rfl (by decide) (Nat.le_of_ble_eq_true rfl) (by decide) (by decide) (fun r64 f64 al64 h64 => ?_)
                  obtain ⟨G64, rfl, rfl, rfl, ho64, hm64⟩ := h64
                  show fv_At Y11_orders 2 0 0 Q 67 [(0, .ref 0), (1, .int (nI n0)), (2, .int (nI l0)), (3, .int (nI c)), (4, .int (nI m)), (5, .int (nI o))] [.int (bI (decide (figs (((o : Nat) : Int)) ≠ 0))), .int (nI c)] (fw mT G64 L) none 0 0
                  refine fn_if_eqB (tgt := 90) dX11_orders_67 (by decide) (fun c67 => ?_) (fun c67 => ?_)
                  · skip
                    refine fx_iconst (v := (nI 0)) dX11_orders_90 (by decide) ?_
                    refine fn_iadd dX11_orders_91 ?_
                    refine fx_istore_n (lv2 := [(0, .ref 0), (1, .int (nI n0)), (2, .int (nI l0)), (3, .int (nI (c + 0))), (4, .int (nI m)), (5, .int (nI o))]) dX11_orders_92 (i := 3) rfl (by decide) rfl ?_
                    refine fn_iinc (c := 1) (lv2 := [(0, .ref 0), (1, .int (nI n0)), (2, .int (nI l0)), (3, .int (nI (c + 0))), (4, .int (nI m)), (5, .int (nI (o + 1)))]) dX11_orders_93 (by decide) rfl (by decide) rfl ?_
                    refine fx_goto (tgt := 53) dX11_orders_96 (by decide) ?_
                    exact (ih53 (c + 0) (o + 1) G64 (by omega) (fun i j a b => (ho64 i j a b).trans (hoG i j a b)) (by rw [← hR, ctO_s]; rw [if_neg (by unfold cP; intro z; have z2 := of_decide_eq_true z; first | exact absurd z2.1 c75 | exact absurd z2.2 c83 | exact absurd (of_decide_eq_false c67) (by omega))]))
                  · skip
                    refine fx_aload_n dX11_orders_70 rfl (i := 0) rfl ?_
                    refine fw_geti dX11_orders_71 fd11_130 rfl rfl ?_
                    refine fn_to (show _ = (nI (figs (o : Int))) from (hm64 (of_decide_eq_true c67)).2.1) ?_
                    refine fx_iload_n dX11_orders_74 rfl (i := 1) rfl ?_
                    refine fn_icmp_ne (tgt := 90) dX11_orders_75 (by decide) (by omega) (by omega) (fun c75 => ?_) (fun c75 => ?_)
                    · skip
                      refine fx_iconst (v := (nI 0)) dX11_orders_90 (by decide) ?_
                      refine fn_iadd dX11_orders_91 ?_
                      refine fx_istore_n (lv2 := [(0, .ref 0), (1, .int (nI n0)), (2, .int (nI l0)), (3, .int (nI (c + 0))), (4, .int (nI m)), (5, .int (nI o))]) dX11_orders_92 (i := 3) rfl (by decide) rfl ?_
                      refine fn_iinc (c := 1) (lv2 := [(0, .ref 0), (1, .int (nI n0)), (2, .int (nI l0)), (3, .int (nI (c + 0))), (4, .int (nI m)), (5, .int (nI (o + 1)))]) dX11_orders_93 (by decide) rfl (by decide) rfl ?_
                      refine fx_goto (tgt := 53) dX11_orders_96 (by decide) ?_
                      exact (ih53 (c + 0) (o + 1) G64 (by omega) (fun i j a b => (ho64 i j a b).trans (hoG i j a b)) (by rw [← hR, ctO_s]; rw [if_neg (by unfold cP; intro z; have z2 := of_decide_eq_true z; first | exact absurd z2.1 c75 | exact absurd z2.2 c83 | exact absurd (of_decide_eq_false c67) (by omega))]))
                    · skip
                      have hl25 := ofal_le (dgt o (figs (o : Int))) (show figs (o : Int) ≤ 5 by omega)
                      refine fx_aload_n dX11_orders_78 rfl (i := 0) rfl ?_
                      refine fn_cV dX11_orders_79 lk11_137 fv_c8 rfl (fw_at (show mT 0 = some (3, 8, 38, [some 1, none, some 2, some 3, some 4, some 5, some 6, some 7, some 8, some 9, some 10, some 11, some 12, some 13, some 14, some 15, some 16, some 17, some 18, some 19, none, none, none, some 20, some 21, some 22, some 23, none, some 24, some 25, some 26, some 27, some 28, some 29, some 30, some 31, none, some 32]) from rfl)) (C11_lengthNow G64 L (figs (o : Int)) (dgt o (figs (o : Int))) (hm64 (of_decide_eq_true c67)) (fun p _ => dgt_lt _ _ _)) rfl rfl (by decide) (Nat.le_of_ble_eq_true rfl) ?_
                      show fv_At Y11_orders 2 0 0 Q 82 [(0, .ref 0), (1, .int (nI n0)), (2, .int (nI l0)), (3, .int (nI c)), (4, .int (nI m)), (5, .int (nI o))] [.int (nI (ofal (dgt o (figs (o : Int))) (figs (o : Int)))), .int (nI c)] (fw mT G64 L) none 0 0
                      refine fx_iload_n dX11_orders_82 rfl (i := 2) rfl ?_
                      refine fn_icmp_ne (tgt := 90) dX11_orders_83 (by decide) (by omega) (by omega) (fun c83 => ?_) (fun c83 => ?_)
                      · skip
                        refine fx_iconst (v := (nI 0)) dX11_orders_90 (by decide) ?_
                        refine fn_iadd dX11_orders_91 ?_
                        refine fx_istore_n (lv2 := [(0, .ref 0), (1, .int (nI n0)), (2, .int (nI l0)), (3, .int (nI (c + 0))), (4, .int (nI m)), (5, .int (nI o))]) dX11_orders_92 (i := 3) rfl (by decide) rfl ?_
                        refine fn_iinc (c := 1) (lv2 := [(0, .ref 0), (1, .int (nI n0)), (2, .int (nI l0)), (3, .int (nI (c + 0))), (4, .int (nI m)), (5, .int (nI (o + 1)))]) dX11_orders_93 (by decide) rfl (by decide) rfl ?_
                        refine fx_goto (tgt := 53) dX11_orders_96 (by decide) ?_
                        exact (ih53 (c + 0) (o + 1) G64 (by omega) (fun i j a b => (ho64 i j a b).trans (hoG i j a b)) (by rw [← hR, ctO_s]; rw [if_neg (by unfold cP; intro z; have z2 := of_decide_eq_true z; first | exact absurd z2.1 c75 | exact absurd z2.2 c83 | exact absurd (of_decide_eq_false c67) (by omega))]))
                      · skip
                        refine fx_iconst (v := (nI 1)) dX11_orders_86 (by decide) ?_
                        refine fx_goto (tgt := 91) dX11_orders_87 (by decide) ?_
                        refine fn_iadd dX11_orders_91 ?_
                        refine fx_istore_n (lv2 := [(0, .ref 0), (1, .int (nI n0)), (2, .int (nI l0)), (3, .int (nI (c + 1))), (4, .int (nI m)), (5, .int (nI o))]) dX11_orders_92 (i := 3) rfl (by decide) rfl ?_
                        refine fn_iinc (c := 1) (lv2 := [(0, .ref 0), (1, .int (nI n0)), (2, .int (nI l0)), (3, .int (nI (c + 1))), (4, .int (nI m)), (5, .int (nI (o + 1)))]) dX11_orders_93 (by decide) rfl (by decide) rfl ?_
                        refine fx_goto (tgt := 53) dX11_orders_96 (by decide) ?_
                        exact (ih53 (c + 1) (o + 1) G64 (by omega) (fun i j a b => (ho64 i j a b).trans (hoG i j a b)) (by rw [← hR, ctO_s]; rw [if_pos (by unfold cP; exact decide_eq_true ⟨c75, c83⟩)]))
            exact (L53 (m - m / 10) 0 (m / 10) G (by omega) (fun _ _ _ _ => rfl) rfl)
          · exfalso; omega
        | succ k1 ih27 =>
          intro m i hi hm
          refine fx_iload dX11_orders_27 rfl ?_
          refine fx_iload_n dX11_orders_29 rfl (i := 1) rfl ?_
          refine fn_icmp_ge (tgt := 46) dX11_orders_30 (by decide) (by omega) (by omega) (fun c30 => ?_) (fun c30 => ?_)
          · exfalso; omega
          · skip
            refine fx_bipush (v := (nI 10)) dX11_orders_33 (by decide) ?_
            refine fx_iload dX11_orders_35 rfl ?_
            refine fn_imul dX11_orders_37 ?_
            refine fx_istore (lv2 := [(0, .ref 0), (1, .int (nI n0)), (2, .int (nI l0)), (3, .int (nI 0)), (4, .int (nI (10 * m))), (5, .int (nI i))]) dX11_orders_38 (by decide) rfl ?_
            refine fn_iinc (c := 1) (lv2 := [(0, .ref 0), (1, .int (nI n0)), (2, .int (nI l0)), (3, .int (nI 0)), (4, .int (nI (10 * m))), (5, .int (nI (i + 1)))]) dX11_orders_40 (by decide) rfl (by decide) rfl ?_
            refine fx_goto (tgt := 27) dX11_orders_43 (by decide) ?_
            exact (ih27 (10 * m) (i + 1) (by omega) (by rw [hm, Nat.pow_succ, Nat.mul_comm]))
      exact (L27 n0 1 0 (by omega) rfl)
    · skip
      refine fx_bipush (v := (iI (-2))) dX11_orders_16 (by decide) ?_
      exact fx_iret dX11_orders_18 rfl rfl rfl (by rw [hQ]; exact ⟨G, by unfold xOrd; rw [if_pos (by first | omega | (have h3 := of_decide_eq_false c9; omega))], rfl, rfl, fun _ _ _ _ _ => rfl⟩)

/-- sorting in -/
def insA (x : Nat) (fl : List Nat) : Nat → Nat
  | 0 => 0
  | k + 1 => if x < fl.getD k 0 then insA x fl k else k + 1
theorem insA_s (x : Nat) (fl : List Nat) (k : Nat) : insA x fl (k + 1) = if x < fl.getD k 0 then insA x fl k else k + 1 := rfl
def insL (x : Nat) (fl : List Nat) : List Nat := fl.take (insA x fl fl.length) ++ x :: fl.drop (insA x fl fl.length)
def stB (o n a : Nat) : Nat → Nat → List Nat → List Nat
  | 0, _, fl => fl
  | k + 1, b, fl => stB o n a k (b + 1) (if ofal (dgt (swp o n a b) n) n = ofal (dgt o n) n + 1 then insL (swp o n a b) fl else fl)
def stC (o n r : Nat) : Nat → Nat → List Nat → List Nat
  | 0, _, fl => fl
  | k + 1, a, fl => stC o n r k (a + 1) (stB o n a (n - r) r fl)
theorem stB_s (o n a k b : Nat) (fl : List Nat) : stB o n a (k + 1) b fl = stB o n a k (b + 1) (if ofal (dgt (swp o n a b) n) n = ofal (dgt o n) n + 1 then insL (swp o n a b) fl else fl) := rfl
theorem stC_s (o n r k a : Nat) (fl : List Nat) : stC o n r (k + 1) a fl = stC o n r k (a + 1) (stB o n a (n - r) r fl) := rfl
def stF (o n r : Nat) : List Nat := stC o n r r 0 []
theorem insA_le (x : Nat) (fl : List Nat) : ∀ k, insA x fl k ≤ k
  | 0 => Nat.le_refl _
  | k + 1 => by
    have := insA_le x fl k
    rw [insA_s]
    split <;> omega
theorem insL_len (x : Nat) (fl : List Nat) : (insL x fl).length = fl.length + 1 := by
  have := insA_le x fl fl.length
  unfold insL
  rw [List.length_append, List.length_cons, List.length_take, List.length_drop]
  omega
theorem insL_g {x : Nat} {fl : List Nat} {e : Nat} (he : insA x fl fl.length = e) (p : Nat) : (insL x fl).getD p 0 = if p < e then fl.getD p 0 else if p = e then x else fl.getD (p - 1) 0 := by
  have hle := insA_le x fl fl.length
  unfold insL
  rw [he]
  rw [he] at hle
  by_cases q : p < e
  · rw [if_pos q, gdA, if_pos (by rw [List.length_take]; omega), List.getD_eq_getElem?_getD, List.getD_eq_getElem?_getD, List.getElem?_take_of_lt q]
  · rw [if_neg q, gdA, if_neg (by rw [List.length_take]; omega), List.length_take, show min e fl.length = e by omega]
    by_cases z : p = e
    · rw [if_pos z, z, Nat.sub_self]; rfl
    · rw [if_neg z, show p - e = (p - e - 1) + 1 by omega]
      show ((fl.drop e).getD (p - e - 1) 0) = _
      rw [List.getD_eq_getElem?_getD, List.getD_eq_getElem?_getD, List.getElem?_drop, show e + (p - e - 1) = p - 1 by omega]
def ordd (o : Nat) : Bool := (List.range (figN o)).all (fun a => (List.range (figN o)).all (fun b => decide (b ≤ a) || ((tld (swh (dgt o (figN o)) a b) (figN o) == swp o (figN o) a b) && (List.range (figN o)).all (fun p => dgt (swp o (figN o) a b) (figN o) p == swh (dgt o (figN o)) a b p))))
theorem ord_d : ∀ o, o ∈ ordL → ∀ a b, a < b → b < figN o → tld (swh (dgt o (figN o)) a b) (figN o) = swp o (figN o) a b ∧ ∀ p, p < figN o → dgt (swp o (figN o) a b) (figN o) p = swh (dgt o (figN o)) a b p := by
  have h : ordL.all ordd = true := by decide +kernel
  intro o ho a b hab hb
  have h1 := List.all_eq_true.mp h o ho
  unfold ordd at h1
  have h2 := List.all_eq_true.mp (List.all_eq_true.mp h1 a (List.mem_range.mpr (by omega))) b (List.mem_range.mpr hb)
  rw [Bool.or_eq_true, Bool.and_eq_true] at h2
  rcases h2 with h2 | ⟨h2, h3⟩
  · have := of_decide_eq_true h2
    omega
  · exact ⟨of_decide_eq_true h2, fun p hp => of_decide_eq_true (List.all_eq_true.mp h3 p (List.mem_range.mpr hp))⟩
theorem ord_e : ∀ o, o ∈ ordL → figN o ≤ 4 → (o * 10 + figN o + 1) ∈ ordL ∧ figN (o * 10 + figN o + 1) = figN o + 1 ∧ (∀ p, p < figN o → dgt (o * 10 + figN o + 1) (figN o + 1) p = dgt o (figN o) p) ∧ dgt (o * 10 + figN o + 1) (figN o + 1) (figN o) = figN o + 1 := by
  have h : ordL.all (fun o => decide (4 < figN o) || (ordL.contains (o * 10 + figN o + 1) && (figN (o * 10 + figN o + 1) == figN o + 1) && (List.range (figN o)).all (fun p => dgt (o * 10 + figN o + 1) (figN o + 1) p == dgt o (figN o) p) && (dgt (o * 10 + figN o + 1) (figN o + 1) (figN o) == figN o + 1))) = true := by decide +kernel
  intro o ho h4
  have h1 := List.all_eq_true.mp h o ho
  rw [Bool.or_eq_true, Bool.and_eq_true, Bool.and_eq_true, Bool.and_eq_true] at h1
  rcases h1 with h1 | ⟨⟨⟨q1, q2⟩, q3⟩, q4⟩
  · have := of_decide_eq_true h1
    omega
  · exact ⟨List.contains_iff_mem.mp q1, of_decide_eq_true q2, fun p hp => of_decide_eq_true (List.all_eq_true.mp q3 p (List.mem_range.mpr hp)), of_decide_eq_true q4⟩
theorem stF_k : ∀ o, o ∈ ordL → figN o ≤ 4 → ∀ r, 1 ≤ r → r ≤ figN o → (stF (o * 10 + figN o + 1) (figN o + 1) r).length ≤ 10 ∧ ∀ q : Nat, q < 10 → ori (o * 10 + figN o + 1) (figN o + 1) r (q : Int) = if q < (stF (o * 10 + figN o + 1) (figN o + 1) r).length then (((stF (o * 10 + figN o + 1) (figN o + 1) r).getD q 0 : Nat) : Int) else -1 := by
  have h : ordL.all (fun o => decide (4 < figN o) || (List.range 5).all (fun r => decide (r < 1 ∨ figN o < r) || (decide ((stF (o * 10 + figN o + 1) (figN o + 1) r).length ≤ 10) && (List.range 10).all (fun (q : Nat) => ori (o * 10 + figN o + 1) (figN o + 1) r (q : Int) == if q < (stF (o * 10 + figN o + 1) (figN o + 1) r).length then (((stF (o * 10 + figN o + 1) (figN o + 1) r).getD q 0 : Nat) : Int) else -1)))) = true := by decide +kernel
  intro o ho h4 r h1 h2
  have w := List.all_eq_true.mp h o ho
  rw [Bool.or_eq_true] at w
  rcases w with w | w
  · have := of_decide_eq_true w
    omega
  · have w2 := List.all_eq_true.mp w r (List.mem_range.mpr (by omega))
    rw [Bool.or_eq_true, Bool.and_eq_true] at w2
    rcases w2 with w2 | ⟨w2, w3⟩
    · have := of_decide_eq_true w2
      omega
    · exact ⟨of_decide_eq_true w2, fun q hq => of_decide_eq_true (List.all_eq_true.mp w3 q (List.mem_range.mpr hq))⟩
theorem stP_x {o : Nat} (ho : o ∈ ordL) (h4 : figN o ≤ 4) {r : Nat} (h1 : 1 ≤ r) (h2 : r ≤ figN o) (k : Int) : ori (o * 10 + figN o + 1) (figN o + 1) r k = if 0 ≤ k ∧ k ≤ ((stF (o * 10 + figN o + 1) (figN o + 1) r).length : Int) - 1 then (((stF (o * 10 + figN o + 1) (figN o + 1) r).getD k.toNat 0 : Nat) : Int) else -1 := by
  obtain ⟨a, b⟩ := stF_k o ho h4 r h1 h2
  by_cases q : k < 0 ∨ 10 ≤ k
  · rw [if_neg (by omega)]
    unfold ori
    rw [if_pos q]
  · have w := b k.toNat (by omega)
    rw [show ((k.toNat : Nat) : Int) = k by omega] at w
    rw [w]
    by_cases z : k.toNat < (stF (o * 10 + figN o + 1) (figN o + 1) r).length
    · rw [if_pos z, if_pos (by omega)]
    · rw [if_neg z, if_neg (by omega)]
theorem swh_swh (h : Nat → Nat) {a b : Nat} (p : Nat) : swh (swh h a b) a b p = h p := by
  unfold swh
  by_cases q : p = b
  · rw [if_pos q]
    by_cases z : a = b
    · rw [if_pos z, z, q]
    · rw [if_neg z, if_pos rfl, q]
  · rw [if_neg q]
    by_cases z : p = a
    · rw [if_pos z, if_pos rfl, z]
    · rw [if_neg z, if_neg q, if_neg z]
theorem mor_c {G : Nat → Nat → Int32} {n : Nat} {h h2 : Nat → Nat} (hm : mor G n h) (he : ∀ p, p < n → h2 p = h p) : mor G n h2 := ⟨hm.1, hm.2.1, fun p hp => by rw [he p hp]; exact hm.2.2 p hp⟩
theorem mor_2 {G : Nat → Nat → Int32} {n : Nat} {h : Nat → Nat} (hm : mor G n h) (m : Nat) (v : Int32) : mor (g2 G 2 m v) n h := ⟨hm.1, by rw [g2_ne _ _ (fun q => absurd q.1 (by decide))]; exact hm.2.1, fun p hp => by rw [g2_ne _ _ (fun q => absurd q.1 (by decide))]; exact hm.2.2 p hp⟩
