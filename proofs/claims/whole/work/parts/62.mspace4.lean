/-- the rods that are on each point -/
def rwS (q a b w : Nat) : Nat → Nat → (Nat → Nat) → Nat → Nat
  | 0, _, R => R
  | n + 1, i, R => rwS q a b w n (i + 1) (fun x => if x = onl q a b i then R x ||| w else R x)
theorem rwS_s (q a b w n i : Nat) (R : Nat → Nat) : rwS q a b w (n + 1) i R = rwS q a b w n (i + 1) (fun x => if x = onl q a b i then R x ||| w else R x) := rfl
def rdL (q : Nat) (ra rb : Nat → Nat) (b : Nat) : Nat → Nat → (Nat → Nat) → Nat → Nat
  | 0, _, R => R
  | n + 1, r, R => rdL q ra rb b n (r + 1) (if b / 2 ^ r % 2 = 1 then rwS q (ra r) (rb r) (2 ^ r) (q + 1) 0 R else R)
theorem rdL_s (q : Nat) (ra rb : Nat → Nat) (b n r : Nat) (R : Nat → Nat) : rdL q ra rb b (n + 1) r R = rdL q ra rb b n (r + 1) (if b / 2 ^ r % 2 = 1 then rwS q (ra r) (rb r) (2 ^ r) (q + 1) 0 R else R) := rfl
def zRd : Nat → Nat := fun _ => 0
def rdq (q : Nat) (ra rb : Nat → Nat) (b : Nat) : Nat → Nat := rdL q ra rb b 8 0 zRd
theorem rwS_b (q a b w : Nat) (hw : w < 256) : ∀ n i (R : Nat → Nat), (∀ x, R x < 256) → ∀ x, rwS q a b w n i R x < 256
  | 0, _, _, h => h
  | n + 1, i, R, h => by
    rw [rwS_s]
    refine rwS_b q a b w hw n (i + 1) _ (fun x => ?_)
    show (if x = onl q a b i then R x ||| w else R x) < 256
    split
    · exact Nat.or_lt_two_pow (n := 8) (h x) hw
    · exact h x
theorem rdL_b (q : Nat) (ra rb : Nat → Nat) (b : Nat) : ∀ n r (R : Nat → Nat), r + n ≤ 8 → (∀ x, R x < 256) → ∀ x, rdL q ra rb b n r R x < 256
  | 0, _, _, _, h => h
  | n + 1, r, R, hr, h => by
    rw [rdL_s]
    refine rdL_b q ra rb b n (r + 1) _ (by omega) ?_
    have h2 : 2 ^ r < 256 := Nat.lt_of_le_of_lt (Nat.pow_le_pow_right (n := 2) (by decide) (show r ≤ 7 by omega)) (by decide)
    split
    · exact rwS_b _ _ _ _ h2 _ _ _ h
    · exact h
theorem rdq_b (q : Nat) (ra rb : Nat → Nat) (b x : Nat) : rdq q ra rb b x < 256 := rdL_b q ra rb b 8 0 zRd (by decide) (fun _ => by show 0 < 256; decide) x

set_option maxRecDepth 4000 in
set_option maxHeartbeats 1000000 in
theorem C11_lookAtRods  (G : Nat → Nat → Int32) (L : Nat → Nat → Int64) (q : Nat) (hS : msq G q) (th : Nat → Bool) (ra rb : Nat → Nat) (hD : mrd G q th ra rb) (b : Nat) (hb : b < 256) (hth : ∀ r, r < 8 → b / 2 ^ r % 2 = 1 → th r = true) : fv_M Y11_lookAtRods 2 0 0 [.ref 0, .int (nI b)] (fw mT G L) none (fun r2 f2 al2 => ∃ G2 : Nat → Nat → Int32, r2 = none ∧ f2 = fw mT G2 L ∧ al2 = none ∧ (∀ i, i ≠ 31 → G2 i = G i) ∧ ∀ x, x < 625 → G2 31 x = nI (rdq q ra rb b x)) := by
  refine fv_enter rfl (Nat.le_of_ble_eq_true rfl) ?_
  obtain ⟨Q, hQ⟩ : ∃ Q : Option Value → fv_F → Option Nat → Prop, Q = (fun r2 f2 al2 => ∃ G2 : Nat → Nat → Int32, r2 = none ∧ f2 = fw mT G2 L ∧ al2 = none ∧ (∀ i, i ≠ 31 → G2 i = G i) ∧ ∀ x, x < 625 → G2 31 x = nI (rdq q ra rb b x)) := ⟨_, rfl⟩
  rw [← hQ]
  show fv_At Y11_lookAtRods 2 0 0 Q 0 [(0, .ref 0), (1, .int (nI b))] [] (fw mT G L) none 0 0
  have h625 := q4_le hS.2.1
  have hq0 : 0 < q ∧ q ≤ 5 := by have := hS.2.1; omega
  refine fx_iconst (v := (nI 0)) dX11_lookAtRods_0 (by decide) ?_
  refine fx_istore_n (lv2 := [(0, .ref 0), (1, .int (nI b)), (2, .int (nI 0))]) dX11_lookAtRods_1 (i := 2) rfl (by decide) rfl ?_
  have L2 : ∀ (j : Nat) (p : Nat) (G0 : Nat → Nat → Int32), (p + j = 625) → (∀ i, i ≠ 31 → G0 i = G i) → (∀ x, x < p → G0 31 x = nI 0) → fv_At Y11_lookAtRods 2 0 0 Q 2 [(0, .ref 0), (1, .int (nI b)), (2, .int (nI p))] [] (fw mT G0 L) none 0 0 := by
    intro j
    induction j with
    | zero =>
      intro p G0 hj hoG0 hN0
      refine fx_iload_n dX11_lookAtRods_2 rfl (i := 2) rfl ?_
      refine fx_sipush (v := (nI 625)) dX11_lookAtRods_3 (by decide) ?_
      refine fn_icmp_ge (tgt := 22) dX11_lookAtRods_6 (by decide) (by omega) (by omega) (fun c6 => ?_) (fun c6 => ?_)
      · skip
        refine fx_iconst (v := (nI 0)) dX11_lookAtRods_22 (by decide) ?_
        refine fx_istore_n (lv2 := [(0, .ref 0), (1, .int (nI b)), (2, .int (nI 0))]) dX11_lookAtRods_23 (i := 2) rfl (by decide) rfl ?_
        have L24 : ∀ (n : Nat) (r : Nat) (R : Nat → Nat) (G1 : Nat → Nat → Int32), (r + n = 8) → (∀ i, i ≠ 31 → G1 i = G i) → (∀ x, x < 625 → G1 31 x = nI (R x)) → (rdL q ra rb b n r R = rdq q ra rb b) → fv_At Y11_lookAtRods 2 0 0 Q 24 [(0, .ref 0), (1, .int (nI b)), (2, .int (nI r))] [] (fw mT G1 L) none 0 0 := by
          intro n
          induction n with
          | zero =>
            intro r R G1 hr hoG1 hN1 hR
            refine fx_iload_n dX11_lookAtRods_24 rfl (i := 2) rfl ?_
            refine fx_bipush (v := (nI 8)) dX11_lookAtRods_25 (by decide) ?_
            refine fn_icmp_ge (tgt := 89) dX11_lookAtRods_27 (by decide) (by omega) (by omega) (fun c27 => ?_) (fun c27 => ?_)
            · skip
              exact fx_vret dX11_lookAtRods_89 rfl rfl rfl (by rw [hQ]; exact ⟨G1, rfl, rfl, rfl, hoG1, fun x h => by rw [hN1 x h, show R = rdq q ra rb b from hR]⟩)
            · exfalso; omega
          | succ n ih24 =>
            intro r R G1 hr hoG1 hN1 hR
            refine fx_iload_n dX11_lookAtRods_24 rfl (i := 2) rfl ?_
            refine fx_bipush (v := (nI 8)) dX11_lookAtRods_25 (by decide) ?_
            refine fn_icmp_ge (tgt := 89) dX11_lookAtRods_27 (by decide) (by omega) (by omega) (fun c27 => ?_) (fun c27 => ?_)
            · exfalso; omega
            · skip
              refine fx_iload_n dX11_lookAtRods_30 rfl (i := 1) rfl ?_
              refine fx_iload_n dX11_lookAtRods_31 rfl (i := 2) rfl ?_
              refine fx_ishr dX11_lookAtRods_32 ?_
              refine fn_to (show _ = (nI (b / 2 ^ r)) from (nI_shr (by omega) (by omega))) ?_
              refine fx_iconst (v := (nI 1)) dX11_lookAtRods_33 (by decide) ?_
              refine fx_iand dX11_lookAtRods_34 ?_
              refine fn_to (show _ = (nI (b / 2 ^ r % 2)) from ((nI_and _ _).trans (congrArg nI (Nat.and_one_is_mod _)))) ?_
              refine fx_iconst (v := (nI 1)) dX11_lookAtRods_35 (by decide) ?_
              refine fn_icmp_ne (tgt := 83) dX11_lookAtRods_36 (by decide) (by omega) (by omega) (fun c36 => ?_) (fun c36 => ?_)
              · skip
                refine fn_iinc (c := 1) (lv2 := [(0, .ref 0), (1, .int (nI b)), (2, .int (nI (r + 1)))]) dX11_lookAtRods_83 (by decide) rfl (by decide) rfl ?_
                refine fx_goto (tgt := 24) dX11_lookAtRods_86 (by decide) ?_
                exact (ih24 (r + 1) R G1 (by omega) hoG1 hN1 (by rw [← hR, rdL_s, if_neg c36]))
              · skip
                have hrd := hD.2 r (by omega) (hth r (by omega) c36)
                refine fx_iconst (v := (nI 0)) dX11_lookAtRods_39 (by decide) ?_
                refine fx_istore_n (lv2 := [(0, .ref 0), (1, .int (nI b)), (2, .int (nI r)), (3, .int (nI 0))]) dX11_lookAtRods_40 (i := 3) rfl (by decide) rfl ?_
                have L41 : ∀ (n2 : Nat) (i : Nat) (R2 : Nat → Nat) (G2 : Nat → Nat → Int32), (i + n2 = q + 1) → (∀ i, i ≠ 31 → G2 i = G i) → (∀ x, x < 625 → G2 31 x = nI (R2 x)) → (rwS q (ra r) (rb r) (2 ^ r) n2 i R2 = rwS q (ra r) (rb r) (2 ^ r) (q + 1) 0 R) → fv_At Y11_lookAtRods 2 0 0 Q 41 [(0, .ref 0), (1, .int (nI b)), (2, .int (nI r)), (3, .int (nI i))] [] (fw mT G2 L) none 0 0 := by
                  intro n2
                  induction n2 with
                  | zero =>
                    intro i R2 G2 hi hoG2 hN2 hR2
                    refine fx_iload_n dX11_lookAtRods_41 rfl (i := 3) rfl ?_
                    refine fx_aload_n dX11_lookAtRods_42 rfl (i := 0) rfl ?_
                    refine fw_geti dX11_lookAtRods_43 fd11_116 rfl rfl ?_
                    refine fn_to (show _ = (nI q) from ((congrFun (hoG2 0 (by decide)) 27).trans hS.1)) ?_
                    refine fn_icmp_gt (tgt := 83) dX11_lookAtRods_46 (by decide) (by omega) (by omega) (fun c46 => ?_) (fun c46 => ?_)
                    · skip
                      refine fn_iinc (c := 1) (lv2 := [(0, .ref 0), (1, .int (nI b)), (2, .int (nI (r + 1))), (3, .int (nI i))]) dX11_lookAtRods_83 (by decide) rfl (by decide) rfl ?_
                      refine fx_goto (tgt := 24) dX11_lookAtRods_86 (by decide) ?_
                      exact fn_sub [0, 1, 2] rfl (ih24 (r + 1) (rwS q (ra r) (rb r) (2 ^ r) (q + 1) 0 R) G2 (by omega) hoG2 (fun x h => by rw [hN2 x h, show R2 = rwS q (ra r) (rb r) (2 ^ r) (q + 1) 0 R from hR2]) (by rw [← hR, rdL_s, if_pos c36]))
                    · exfalso; omega
                  | succ n2 ih41 =>
                    intro i R2 G2 hi hoG2 hN2 hR2
                    refine fx_iload_n dX11_lookAtRods_41 rfl (i := 3) rfl ?_
                    refine fx_aload_n dX11_lookAtRods_42 rfl (i := 0) rfl ?_
                    refine fw_geti dX11_lookAtRods_43 fd11_116 rfl rfl ?_
                    refine fn_to (show _ = (nI q) from ((congrFun (hoG2 0 (by decide)) 27).trans hS.1)) ?_
                    refine fn_icmp_gt (tgt := 83) dX11_lookAtRods_46 (by decide) (by omega) (by omega) (fun c46 => ?_) (fun c46 => ?_)
                    · exfalso; omega
                    · skip
                      have hS2 : msq G2 q := msq_k hS (by rw [hoG2 0 (by decide)]) (hoG2 29 (by decide)) (hoG2 30 (by decide))
                      have hol := onl_lt (q := q) hq0.1 (a := ra r) (b := rb r) (i := i) hrd.1.2
                      refine fx_aload_n dX11_lookAtRods_49 rfl (i := 0) rfl ?_
                      refine fw_getr dX11_lookAtRods_50 fd11_103 rfl rfl ?_
                      refine fx_aload_n dX11_lookAtRods_53 rfl (i := 0) rfl ?_
                      refine fx_aload_n dX11_lookAtRods_54 rfl (i := 0) rfl ?_
                      refine fw_getr dX11_lookAtRods_55 fd11_85 rfl rfl ?_
                      refine fx_iload_n dX11_lookAtRods_58 rfl (i := 2) rfl ?_
                      refine fw_iald r dX11_lookAtRods_59 rfl rfl (by omega) (by decide) ?_
                      refine fn_to (show _ = (nI (ra r)) from ((congrFun (hoG2 25 (by decide)) r).trans hrd.1.1)) ?_
                      refine fx_aload_n dX11_lookAtRods_60 rfl (i := 0) rfl ?_
                      refine fw_getr dX11_lookAtRods_61 fd11_88 rfl rfl ?_
                      refine fx_iload_n dX11_lookAtRods_64 rfl (i := 2) rfl ?_
                      refine fw_iald r dX11_lookAtRods_65 rfl rfl (by omega) (by decide) ?_
                      refine fn_to (show _ = (nI (rb r)) from ((congrFun (hoG2 26 (by decide)) r).trans hrd.2.1)) ?_
                      refine fx_iload_n dX11_lookAtRods_66 rfl (i := 3) rfl ?_
                      refine fn_cV dX11_lookAtRods_67 lk11_254 fv_c8 rfl (fw_at (show mT 0 = some (3, 8, 38, [some 1, none, some 2, some 3, some 4, some 5, some 6, some 7, some 8, some 9, some 10, some 11, some 12, some 13, some 14, some 15, some 16, some 17, some 18, some 19, none, none, none, some 20, some 21, some 22, some 23, none, some 24, some 25, some 26, some 27, some 28, some 29, some 30, some 31, none, some 32]) from rfl)) (C11_onLine G2 L q hS2 (ra r) (rb r) i (by omega) (by omega) (by omega)) rfl rfl (by decide) (Nat.le_of_ble_eq_true rfl) ?_
                      show fv_At Y11_lookAtRods 2 0 0 Q 70 [(0, .ref 0), (1, .int (nI b)), (2, .int (nI r)), (3, .int (nI i))] [.int (nI (onl q (ra r) (rb r) i)), .ref 31] (fw mT G2 L) none 0 0
                      refine fx_dup2 dX11_lookAtRods_70 rfl rfl ?_
                      refine fw_iald (onl q (ra r) (rb r) i) dX11_lookAtRods_71 rfl rfl (by omega) (by decide) ?_
                      refine fn_to (show _ = (nI (R2 (onl q (ra r) (rb r) i))) from (hN2 _ (by omega))) ?_
                      refine fx_iconst (v := (nI 1)) dX11_lookAtRods_72 (by decide) ?_
                      refine fx_iload_n dX11_lookAtRods_73 rfl (i := 2) rfl ?_
                      refine fx_ishl dX11_lookAtRods_74 ?_
                      refine fn_to (show _ = (nI (2 ^ r)) from (nI_shl1 _ (by omega))) ?_
                      refine fx_ior dX11_lookAtRods_75 ?_
                      refine fn_to (show _ = (nI (R2 (onl q (ra r) (rb r) i) ||| 2 ^ r)) from (nI_or _ _)) ?_
                      refine fw_iast (onl q (ra r) (rb r) i) dX11_lookAtRods_76 rfl rfl (by omega) (by decide) ?_
                      refine fn_iinc (c := 1) (lv2 := [(0, .ref 0), (1, .int (nI b)), (2, .int (nI r)), (3, .int (nI (i + 1)))]) dX11_lookAtRods_77 (by decide) rfl (by decide) rfl ?_
                      refine fx_goto (tgt := 41) dX11_lookAtRods_80 (by decide) ?_
                      exact (ih41 (i + 1) ((fun x => if x = onl q (ra r) (rb r) i then R2 x ||| 2 ^ r else R2 x)) (g2 G2 31 (onl q (ra r) (rb r) i) ((nI (R2 (onl q (ra r) (rb r) i) ||| 2 ^ r)))) (by omega) (fun i z => (g2_row _ _ z).trans (hoG2 i z)) (fun x h => by by_cases z : x = onl q (ra r) (rb r) i; (rw [if_pos z, z, g2_eq]); rw [if_neg z, g2_ne _ _ (fun y => z y.2), hN2 x h]) (by rw [← hR2, rwS_s]))
                exact (L41 (q + 1) 0 R G1 (by omega) hoG1 hN1 rfl)
        exact (L24 8 0 zRd G0 (by omega) hoG0 (fun x h => hN0 x (by omega)) rfl)
      · exfalso; omega
    | succ j ih2 =>
      intro p G0 hj hoG0 hN0
      refine fx_iload_n dX11_lookAtRods_2 rfl (i := 2) rfl ?_
      refine fx_sipush (v := (nI 625)) dX11_lookAtRods_3 (by decide) ?_
      refine fn_icmp_ge (tgt := 22) dX11_lookAtRods_6 (by decide) (by omega) (by omega) (fun c6 => ?_) (fun c6 => ?_)
      · exfalso; omega
      · skip
        refine fx_aload_n dX11_lookAtRods_9 rfl (i := 0) rfl ?_
        refine fw_getr dX11_lookAtRods_10 fd11_103 rfl rfl ?_
        refine fx_iload_n dX11_lookAtRods_13 rfl (i := 2) rfl ?_
        refine fx_iconst (v := (nI 0)) dX11_lookAtRods_14 (by decide) ?_
        refine fw_iast p dX11_lookAtRods_15 rfl rfl (by omega) (by decide) ?_
        refine fn_iinc (c := 1) (lv2 := [(0, .ref 0), (1, .int (nI b)), (2, .int (nI (p + 1)))]) dX11_lookAtRods_16 (by decide) rfl (by decide) rfl ?_
        refine fx_goto (tgt := 2) dX11_lookAtRods_19 (by decide) ?_
        exact (ih2 (p + 1) (g2 G0 31 p ((nI 0))) (by omega) (fun i q => (g2_row _ _ q).trans (hoG0 i q)) (fun x q => by by_cases w : x = p; (rw [w]; exact g2_eq _ _ _ _); exact (g2_ne _ _ (fun z => w z.2)).trans (hN0 x (by omega))))
  exact (L2 625 0 G (by omega) (fun _ _ => rfl) (fun p q => absurd q (Nat.not_lt_zero _)))

/-- whether two points are the least on their line -/
def alq (q a b : Nat) : Nat → Nat → Bool
  | 0, _ => true
  | n + 1, i => if onl q a b i < a ∨ (a < onl q a b i ∧ onl q a b i < b) then false else alq q a b n (i + 1)
theorem alq_s (q a b n i : Nat) : alq q a b (n + 1) i = if onl q a b i < a ∨ (a < onl q a b i ∧ onl q a b i < b) then false else alq q a b n (i + 1) := rfl
def mtq (q a b : Nat) (R : Nat → Nat) : Nat → Nat → Nat → Nat
  | 0, _, m => m
  | n + 1, i, m => mtq q a b R n (i + 1) (m ||| R (onl q a b i))
theorem mtq_s (q a b : Nat) (R : Nat → Nat) (n i m : Nat) : mtq q a b R (n + 1) i m = mtq q a b R n (i + 1) (m ||| R (onl q a b i)) := rfl
theorem g2_cq (G : Nat → Nat → Int32) {a b i j : Nat} (v : Int32) (h : ¬ (i = a ∧ j = b)) : g2 G a b v i j = G i j := g2_ne _ _ h
/-- how many points are on the told rods -/
def pcq (R : Nat → Nat) : Nat → Nat → Nat → Nat
  | 0, _, c => c
  | n + 1, x, c => pcq R n (x + 1) (c + if R x = 0 then 0 else 1)
theorem pcq_s (R : Nat → Nat) (n x c : Nat) : pcq R (n + 1) x c = pcq R n (x + 1) (c + if R x = 0 then 0 else 1) := rfl
/-- the answer to a question about told rods -/
def bqv (th : Nat → Bool) (b : Int) (v : Nat) : Int := if 0 ≤ b ∧ b ≤ 255 then (if atq th b.toNat = true then (v : Int) else -3) else -2
theorem atl_h (th : Nat → Bool) (b : Nat) : ∀ n r x, atl th b n r x = true → x = true ∧ ∀ s, r ≤ s → s < r + n → b / 2 ^ s % 2 = 1 → th s = true
  | 0, _, _, h => ⟨h, fun s a b => by omega⟩
  | n + 1, r, x, h => by
    rw [atl_s] at h
    obtain ⟨h1, h2⟩ := atl_h th b n (r + 1) _ h
    rw [Bool.and_eq_true, Bool.or_eq_true] at h1
    refine ⟨h1.1, fun s a c e => ?_⟩
    by_cases z : s = r
    · rw [z] at e ⊢
      exact h1.2.resolve_left (fun w => by have := of_decide_eq_true w; omega)
    · exact h2 s (by omega) (by omega) e
theorem atq_h {th : Nat → Bool} {b : Nat} (h : atq th b = true) : ∀ r, r < 8 → b / 2 ^ r % 2 = 1 → th r = true := fun r hr => (atl_h th b 8 0 true h).2 r (Nat.zero_le _) (by omega)

set_option maxRecDepth 4000 in
set_option maxHeartbeats 1000000 in
theorem C11_areLeast  (G : Nat → Nat → Int32) (L : Nat → Nat → Int64) (q : Nat) (hS : msq G q) (R : Nat → Nat) (hN : ∀ x, x < 625 → G 31 x = nI (R x)) (a b : Nat) (ha : a < q ^ 4) (hb : b < q ^ 4) : fv_M Y11_areLeast 2 0 0 [.ref 0, .int (nI a), .int (nI b)] (fw mT G L) none (fun r2 f2 al2 => ∃ G2 : Nat → Nat → Int32, r2 = some (.int (bI (alq q a b (q + 1) 0))) ∧ f2 = fw mT G2 L ∧ al2 = none ∧ (∀ j p, ¬ (j = 0 ∧ p = 36) → G2 j p = G j p) ∧ (alq q a b (q + 1) 0 = true → G2 0 36 = nI (mtq q a b R (q + 1) 0 0))) := by
  refine fv_enter rfl (Nat.le_of_ble_eq_true rfl) ?_
  obtain ⟨Q, hQ⟩ : ∃ Q : Option Value → fv_F → Option Nat → Prop, Q = (fun r2 f2 al2 => ∃ G2 : Nat → Nat → Int32, r2 = some (.int (bI (alq q a b (q + 1) 0))) ∧ f2 = fw mT G2 L ∧ al2 = none ∧ (∀ j p, ¬ (j = 0 ∧ p = 36) → G2 j p = G j p) ∧ (alq q a b (q + 1) 0 = true → G2 0 36 = nI (mtq q a b R (q + 1) 0 0))) := ⟨_, rfl⟩
  rw [← hQ]
  show fv_At Y11_areLeast 2 0 0 Q 0 [(0, .ref 0), (1, .int (nI a)), (2, .int (nI b))] [] (fw mT G L) none 0 0
  have h625 := q4_le hS.2.1
  have hq0 : 0 < q ∧ q ≤ 5 := by have := hS.2.1; omega
  refine fx_aload_n dX11_areLeast_0 rfl (i := 0) rfl ?_
  refine fx_iconst (v := (nI 0)) dX11_areLeast_1 (by decide) ?_
  refine fw_puti dX11_areLeast_2 fd11_266 rfl rfl ?_
  refine fx_iconst (v := (nI 0)) dX11_areLeast_5 (by decide) ?_
  refine fx_istore_n (lv2 := [(0, .ref 0), (1, .int (nI a)), (2, .int (nI b)), (3, .int (nI 0))]) dX11_areLeast_6 (i := 3) rfl (by decide) rfl ?_
  have L7 : ∀ (n : Nat) (i : Nat) (m : Nat) (G2 : Nat → Nat → Int32), (i + n = q + 1) → (∀ j p, ¬ (j = 0 ∧ p = 36) → G2 j p = G j p) → (G2 0 36 = nI m) → (alq q a b n i = alq q a b (q + 1) 0) → (mtq q a b R n i m = mtq q a b R (q + 1) 0 0) → fv_At Y11_areLeast 2 0 0 Q 7 [(0, .ref 0), (1, .int (nI a)), (2, .int (nI b)), (3, .int (nI i))] [] (fw mT G2 L) none 0 0 := by
    intro n
    induction n with
    | zero =>
      intro i m G2 hi hoG2 hm hR hRm
      refine fx_iload_n dX11_areLeast_7 rfl (i := 3) rfl ?_
      refine fx_aload_n dX11_areLeast_8 rfl (i := 0) rfl ?_
      refine fw_geti dX11_areLeast_9 fd11_116 rfl rfl ?_
      refine fn_to (show _ = (nI q) from ((hoG2 0 27 (by decide)).trans hS.1)) ?_
      refine fn_icmp_gt (tgt := 66) dX11_areLeast_12 (by decide) (by omega) (by omega) (fun c12 => ?_) (fun c12 => ?_)
      · skip
        refine fx_iconst (v := (nI 1)) dX11_areLeast_66 (by decide) ?_
        refine fn_to (show _ = (bI true) from rfl) ?_
        exact fx_zret dX11_areLeast_67 rfl (bI_01 _) rfl rfl (by rw [hQ]; exact ⟨G2, by rw [← hR]; rfl, rfl, rfl, hoG2, fun _ => by rw [hm, show m = mtq q a b R (q + 1) 0 0 from hRm]⟩)
      · exfalso; omega
    | succ n ih7 =>
      intro i m G2 hi hoG2 hm hR hRm
      refine fx_iload_n dX11_areLeast_7 rfl (i := 3) rfl ?_
      refine fx_aload_n dX11_areLeast_8 rfl (i := 0) rfl ?_
      refine fw_geti dX11_areLeast_9 fd11_116 rfl rfl ?_
      refine fn_to (show _ = (nI q) from ((hoG2 0 27 (by decide)).trans hS.1)) ?_
      refine fn_icmp_gt (tgt := 66) dX11_areLeast_12 (by decide) (by omega) (by omega) (fun c12 => ?_) (fun c12 => ?_)
      · exfalso; omega
      · skip
        have hS2 : msq G2 q := msq_k hS (hoG2 0 27 (by decide)) (funext (fun p => hoG2 29 p (by omega))) (funext (fun p => hoG2 30 p (by omega)))
        have hol := onl_lt (q := q) hq0.1 (a := a) (b := b) (i := i) ha
        refine fx_aload_n dX11_areLeast_15 rfl (i := 0) rfl ?_
        refine fx_iload_n dX11_areLeast_16 rfl (i := 1) rfl ?_
        refine fx_iload_n dX11_areLeast_17 rfl (i := 2) rfl ?_
        refine fx_iload_n dX11_areLeast_18 rfl (i := 3) rfl ?_
        refine fn_cV dX11_areLeast_19 lk11_254 fv_c8 rfl (fw_at (show mT 0 = some (3, 8, 38, [some 1, none, some 2, some 3, some 4, some 5, some 6, some 7, some 8, some 9, some 10, some 11, some 12, some 13, some 14, some 15, some 16, some 17, some 18, some 19, none, none, none, some 20, some 21, some 22, some 23, none, some 24, some 25, some 26, some 27, some 28, some 29, some 30, some 31, none, some 32]) from rfl)) (C11_onLine G2 L q hS2 a b i (by omega) (by omega) (by omega)) rfl rfl (by decide) (Nat.le_of_ble_eq_true rfl) ?_
        show fv_At Y11_areLeast 2 0 0 Q 22 [(0, .ref 0), (1, .int (nI a)), (2, .int (nI b)), (3, .int (nI i))] [.int (nI (onl q a b i))] (fw mT G2 L) none 0 0
        refine fx_istore (lv2 := [(0, .ref 0), (1, .int (nI a)), (2, .int (nI b)), (3, .int (nI i)), (4, .int (nI (onl q a b i)))]) dX11_areLeast_22 (by decide) rfl ?_
        refine fx_iload dX11_areLeast_24 rfl ?_
        refine fx_iload_n dX11_areLeast_26 rfl (i := 1) rfl ?_
        refine fn_icmp_lt (tgt := 42) dX11_areLeast_27 (by decide) (by omega) (by omega) (fun c27 => ?_) (fun c27 => ?_)
        · skip
          refine fx_iconst (v := (nI 0)) dX11_areLeast_42 (by decide) ?_
          refine fn_to (show _ = (bI false) from rfl) ?_
          exact fx_zret dX11_areLeast_43 rfl (bI_01 _) rfl rfl (by rw [hQ]; exact (by have hf : alq q a b (q + 1) 0 = false := by {rw [← hR, alq_s, if_pos (by omega)]}; exact ⟨G2, by rw [hf], rfl, rfl, hoG2, fun w => absurd (hf.symm.trans w) (by decide)⟩))
        · skip
          refine fx_iload dX11_areLeast_30 rfl ?_
          refine fx_iload_n dX11_areLeast_32 rfl (i := 1) rfl ?_
          refine fn_icmp_le (tgt := 44) dX11_areLeast_33 (by decide) (by omega) (by omega) (fun c33 => ?_) (fun c33 => ?_)
          · skip
            refine fx_aload_n dX11_areLeast_44 rfl (i := 0) rfl ?_
            refine fx_dup dX11_areLeast_45 rfl ?_
            refine fw_geti dX11_areLeast_46 fd11_266 rfl rfl ?_
            refine fn_to (show _ = (nI m) from hm) ?_
            refine fx_aload_n dX11_areLeast_49 rfl (i := 0) rfl ?_
            refine fw_getr dX11_areLeast_50 fd11_103 rfl rfl ?_
            refine fx_iload dX11_areLeast_53 rfl ?_
            refine fw_iald (onl q a b i) dX11_areLeast_55 rfl rfl (by omega) (by decide) ?_
            refine fn_to (show _ = (nI (R (onl q a b i))) from ((hoG2 31 _ (by omega)).trans (hN _ (by omega)))) ?_
            refine fx_ior dX11_areLeast_56 ?_
            refine fn_to (show _ = (nI (m ||| R (onl q a b i))) from (nI_or _ _)) ?_
            refine fw_puti dX11_areLeast_57 fd11_266 rfl rfl ?_
            refine fn_iinc (c := 1) (lv2 := [(0, .ref 0), (1, .int (nI a)), (2, .int (nI b)), (3, .int (nI (i + 1))), (4, .int (nI (onl q a b i)))]) dX11_areLeast_60 (by decide) rfl (by decide) rfl ?_
            refine fx_goto (tgt := 7) dX11_areLeast_63 (by decide) ?_
            exact fn_sub [0, 1, 2, 3] rfl (ih7 (i + 1) (m ||| R (onl q a b i)) (g2 G2 0 36 ((nI (m ||| R (onl q a b i))))) (by omega) (fun j p h => (g2_ne _ _ h).trans (hoG2 j p h)) (g2_eq _ _ _ _) (by rw [← hR, alq_s, if_neg (by omega)]) (by rw [← hRm, mtq_s]))
          · skip
            refine fx_iload dX11_areLeast_36 rfl ?_
            refine fx_iload_n dX11_areLeast_38 rfl (i := 2) rfl ?_
            refine fn_icmp_ge (tgt := 44) dX11_areLeast_39 (by decide) (by omega) (by omega) (fun c39 => ?_) (fun c39 => ?_)
            · skip
              refine fx_aload_n dX11_areLeast_44 rfl (i := 0) rfl ?_
              refine fx_dup dX11_areLeast_45 rfl ?_
              refine fw_geti dX11_areLeast_46 fd11_266 rfl rfl ?_
              refine fn_to (show _ = (nI m) from hm) ?_
              refine fx_aload_n dX11_areLeast_49 rfl (i := 0) rfl ?_
              refine fw_getr dX11_areLeast_50 fd11_103 rfl rfl ?_
              refine fx_iload dX11_areLeast_53 rfl ?_
              refine fw_iald (onl q a b i) dX11_areLeast_55 rfl rfl (by omega) (by decide) ?_
              refine fn_to (show _ = (nI (R (onl q a b i))) from ((hoG2 31 _ (by omega)).trans (hN _ (by omega)))) ?_
              refine fx_ior dX11_areLeast_56 ?_
              refine fn_to (show _ = (nI (m ||| R (onl q a b i))) from (nI_or _ _)) ?_
              refine fw_puti dX11_areLeast_57 fd11_266 rfl rfl ?_
              refine fn_iinc (c := 1) (lv2 := [(0, .ref 0), (1, .int (nI a)), (2, .int (nI b)), (3, .int (nI (i + 1))), (4, .int (nI (onl q a b i)))]) dX11_areLeast_60 (by decide) rfl (by decide) rfl ?_
              refine fx_goto (tgt := 7) dX11_areLeast_63 (by decide) ?_
              exact fn_sub [0, 1, 2, 3] rfl (ih7 (i + 1) (m ||| R (onl q a b i)) (g2 G2 0 36 ((nI (m ||| R (onl q a b i))))) (by omega) (fun j p h => (g2_ne _ _ h).trans (hoG2 j p h)) (g2_eq _ _ _ _) (by rw [← hR, alq_s, if_neg (by omega)]) (by rw [← hRm, mtq_s]))
            · skip
              refine fx_iconst (v := (nI 0)) dX11_areLeast_42 (by decide) ?_
              refine fn_to (show _ = (bI false) from rfl) ?_
              exact fx_zret dX11_areLeast_43 rfl (bI_01 _) rfl rfl (by rw [hQ]; exact (by have hf : alq q a b (q + 1) 0 = false := by {rw [← hR, alq_s, if_pos (by omega)]}; exact ⟨G2, by rw [hf], rfl, rfl, hoG2, fun w => absurd (hf.symm.trans w) (by decide)⟩))
  exact (L7 (q + 1) 0 0 (g2 G 0 36 ((nI 0))) (by omega) (fun j p h => g2_ne _ _ h) (g2_eq _ _ _ _) rfl rfl)

set_option maxRecDepth 4000 in
set_option maxHeartbeats 1000000 in
theorem C11_points  (G : Nat → Nat → Int32) (L : Nat → Nat → Int64) (q : Nat) (hS : msq G q) (th : Nat → Bool) (ra rb : Nat → Nat) (hD : mrd G q th ra rb) (b : Int) (b1 : -2147483648 ≤ b) (b2 : b < 2147483648) : fv_M Y11_points 3 0 0 [.ref 0, .int (iI b)] (fw mT G L) none (fun r2 f2 al2 => ∃ G2 : Nat → Nat → Int32, r2 = some (.int (iI (bqv th b (pcq (rdq q ra rb b.toNat) 625 0 0)))) ∧ f2 = fw mT G2 L ∧ al2 = none ∧ ∀ i, i ≠ 31 → G2 i = G i) := by
  refine fv_enter rfl (Nat.le_of_ble_eq_true rfl) ?_
  obtain ⟨Q, hQ⟩ : ∃ Q : Option Value → fv_F → Option Nat → Prop, Q = (fun r2 f2 al2 => ∃ G2 : Nat → Nat → Int32, r2 = some (.int (iI (bqv th b (pcq (rdq q ra rb b.toNat) 625 0 0)))) ∧ f2 = fw mT G2 L ∧ al2 = none ∧ ∀ i, i ≠ 31 → G2 i = G i) := ⟨_, rfl⟩
  rw [← hQ]
  show fv_At Y11_points 3 0 0 Q 0 [(0, .ref 0), (1, .int (iI b))] [] (fw mT G L) none 0 0
  refine fx_iload_n dX11_points_0 rfl (i := 1) rfl ?_
  refine fx_i2l dX11_points_1 ?_
  refine fn_toL (show _ = lI b from lI_of (z := b) (by omega) (by omega)) ?_
  refine fx_lconst (v := 0) dX11_points_2 (by decide) ?_
  refine fn_toL (show _ = (lI 0) from (by decide)) ?_
  refine fx_ldc2 dX11_points_3 kc11_269 (fn_toL (show _ = lI (255) by decide) ?_)
  refine fn_cS dX11_points_6 lk11_126 (C11_in (v := b) (a := 0) (b := 255) (by omega) (by omega) (by omega) (by omega) (by omega) (by omega) (f := (fw mT G L))) rfl rfl (by decide) (Nat.le_of_ble_eq_true rfl) ?_
  show fv_At Y11_points 3 0 0 Q 9 [(0, .ref 0), (1, .int (iI b))] [.int (bI (decide (0 ≤ b ∧ b ≤ 255)))] (fw mT G L) none 0 0
  refine fn_if_neB (tgt := 15) dX11_points_9 (by decide) (fun c9 => ?_) (fun c9 => ?_)
  · skip
    have hin := of_decide_eq_true c9
    obtain ⟨b0, rfl⟩ : ∃ z : Nat, b = (z : Int) := ⟨b.toNat, by omega⟩
    show fv_At Y11_points 3 0 0 Q 15 [(0, .ref 0), (1, .int (nI b0))] [] (fw mT G L) none 0 0
    refine fx_aload_n dX11_points_15 rfl (i := 0) rfl ?_
    refine fx_iload_n dX11_points_16 rfl (i := 1) rfl ?_
    refine fn_cV dX11_points_17 lk11_271 fv_c8 rfl (fw_at (show mT 0 = some (3, 8, 38, [some 1, none, some 2, some 3, some 4, some 5, some 6, some 7, some 8, some 9, some 10, some 11, some 12, some 13, some 14, some 15, some 16, some 17, some 18, some 19, none, none, none, some 20, some 21, some 22, some 23, none, some 24, some 25, some 26, some 27, some 28, some 29, some 30, some 31, none, some 32]) from rfl)) (C11_areThere G L th hD.1 b0 (by omega)) rfl rfl (by decide) (Nat.le_of_ble_eq_true rfl) ?_
    show fv_At Y11_points 3 0 0 Q 20 [(0, .ref 0), (1, .int (nI b0))] [.int (bI (atq th b0))] (fw mT G L) none 0 0
    refine fn_if_neB (tgt := 26) dX11_points_20 (by decide) (fun c20 => ?_) (fun c20 => ?_)
    · skip
      refine fx_aload_n dX11_points_26 rfl (i := 0) rfl ?_
      refine fx_iload_n dX11_points_27 rfl (i := 1) rfl ?_
      refine fx_callV dX11_points_28 lk11_274 fv_c8 rfl (fw_at (show mT 0 = some (3, 8, 38, [some 1, none, some 2, some 3, some 4, some 5, some 6, some 7, some 8, some 9, some 10, some 11, some 12, some 13, some 14, some 15, some 16, some 17, some 18, some 19, none, none, none, some 20, some 21, some 22, some 23, none, some 24, some 25, some 26, some 27, some 28, some 29, some 30, some 31, none, some 32]) from rfl)) (C11_lookAtRods G L q hS th ra rb hD b0 (by omega) (atq_h c20)) rfl rfl (by decide) (Nat.le_of_ble_eq_true rfl) (by decide) (by decide) (fun r28 f28 al28 h28 => ?_)
      obtain ⟨G28, rfl, rfl, rfl, ho28, hr28⟩ := h28
      show fv_At Y11_points 3 0 0 Q 31 [(0, .ref 0), (1, .int (nI b0))] [] (fw mT G28 L) none 0 0
      have hRb := rdq_b q ra rb b0
      have hbv : ((b0 : Nat) : Int).toNat = b0 := Int.toNat_natCast b0
      obtain ⟨R, hRe⟩ : ∃ z, z = rdq q ra rb b0 := ⟨_, rfl⟩
      rw [← hRe] at hr28 hRb
      refine fx_iconst (v := (nI 0)) dX11_points_31 (by decide) ?_
      refine fx_istore_n (lv2 := [(0, .ref 0), (1, .int (nI b0)), (2, .int (nI 0))]) dX11_points_32 (i := 2) rfl (by decide) rfl ?_
      refine fx_iconst (v := (nI 0)) dX11_points_33 (by decide) ?_
      refine fx_istore_n (lv2 := [(0, .ref 0), (1, .int (nI b0)), (2, .int (nI 0)), (3, .int (nI 0))]) dX11_points_34 (i := 3) rfl (by decide) rfl ?_
      have L35 : ∀ (n : Nat) (c : Nat) (x : Nat), (x + n = 625) → (pcq R n x c = pcq R 625 0 0) → fv_At Y11_points 3 0 0 Q 35 [(0, .ref 0), (1, .int (nI b0)), (2, .int (nI c)), (3, .int (nI x))] [] (fw mT G28 L) none 0 0 := by
        intro n
        induction n with
        | zero =>
          intro c x hx hR
          refine fx_iload_n dX11_points_35 rfl (i := 3) rfl ?_
          refine fx_sipush (v := (nI 625)) dX11_points_36 (by decide) ?_
          refine fn_icmp_ge (tgt := 65) dX11_points_39 (by decide) (by omega) (by omega) (fun c39 => ?_) (fun c39 => ?_)
          · skip
            refine fx_iload_n dX11_points_65 rfl (i := 2) rfl ?_
            exact fx_iret dX11_points_66 rfl rfl rfl (by rw [hQ]; exact ⟨G28, by unfold bqv; rw [if_pos hin, hbv, if_pos c20, ← hRe, ← hR]; rfl, rfl, rfl, ho28⟩)
          · exfalso; omega
        | succ n ih35 =>
          intro c x hx hR
          refine fx_iload_n dX11_points_35 rfl (i := 3) rfl ?_
          refine fx_sipush (v := (nI 625)) dX11_points_36 (by decide) ?_
          refine fn_icmp_ge (tgt := 65) dX11_points_39 (by decide) (by omega) (by omega) (fun c39 => ?_) (fun c39 => ?_)
          · exfalso; omega
          · skip
            refine fx_iload_n dX11_points_42 rfl (i := 2) rfl ?_
            refine fx_aload_n dX11_points_43 rfl (i := 0) rfl ?_
            refine fw_getr dX11_points_44 fd11_103 rfl rfl ?_
            refine fx_iload_n dX11_points_47 rfl (i := 3) rfl ?_
            refine fw_iald x dX11_points_48 rfl rfl (by omega) (by decide) ?_
            refine fn_to (show _ = (nI (R x)) from (hr28 x (by omega))) ?_
            have hRx := hRb x
            refine fn_if_eq (tgt := 56) dX11_points_49 (by decide) (by omega) (fun c49 => ?_) (fun c49 => ?_)
            · skip
              refine fx_iconst (v := (nI 0)) dX11_points_56 (by decide) ?_
              refine fn_iadd dX11_points_57 ?_
              refine fn_to (show _ = (nI (c + if R x = 0 then 0 else 1)) from (by first | (rw [if_pos c49]) | (rw [if_neg c49]))) ?_
              refine fx_istore_n (lv2 := [(0, .ref 0), (1, .int (nI b0)), (2, .int (nI (c + if R x = 0 then 0 else 1))), (3, .int (nI x))]) dX11_points_58 (i := 2) rfl (by decide) rfl ?_
              refine fn_iinc (c := 1) (lv2 := [(0, .ref 0), (1, .int (nI b0)), (2, .int (nI (c + if R x = 0 then 0 else 1))), (3, .int (nI (x + 1)))]) dX11_points_59 (by decide) rfl (by decide) rfl ?_
              refine fx_goto (tgt := 35) dX11_points_62 (by decide) ?_
              exact (ih35 (c + if R x = 0 then 0 else 1) (x + 1) (by omega) (by rw [← hR, pcq_s]))
            · skip
              refine fx_iconst (v := (nI 1)) dX11_points_52 (by decide) ?_
              refine fx_goto (tgt := 57) dX11_points_53 (by decide) ?_
              refine fn_iadd dX11_points_57 ?_
              refine fn_to (show _ = (nI (c + if R x = 0 then 0 else 1)) from (by first | (rw [if_pos c49]) | (rw [if_neg c49]))) ?_
              refine fx_istore_n (lv2 := [(0, .ref 0), (1, .int (nI b0)), (2, .int (nI (c + if R x = 0 then 0 else 1))), (3, .int (nI x))]) dX11_points_58 (i := 2) rfl (by decide) rfl ?_
              refine fn_iinc (c := 1) (lv2 := [(0, .ref 0), (1, .int (nI b0)), (2, .int (nI (c + if R x = 0 then 0 else 1))), (3, .int (nI (x + 1)))]) dX11_points_59 (by decide) rfl (by decide) rfl ?_
              refine fx_goto (tgt := 35) dX11_points_62 (by decide) ?_
              exact (ih35 (c + if R x = 0 then 0 else 1) (x + 1) (by omega) (by rw [← hR, pcq_s]))
      exact (L35 625 0 0 (by omega) rfl)
    · skip
      refine fx_bipush (v := (iI (-3))) dX11_points_23 (by decide) ?_
      exact fx_iret dX11_points_25 rfl rfl rfl (by rw [hQ]; exact ⟨G, by unfold bqv; rw [if_pos hin, Int.toNat_natCast, if_neg (by rw [c20]; decide)], rfl, rfl, fun _ _ => rfl⟩)
  · skip
    refine fx_bipush (v := (iI (-2))) dX11_points_12 (by decide) ?_
    exact fx_iret dX11_points_14 rfl rfl rfl (by rw [hQ]; exact ⟨G, by unfold bqv; rw [if_neg (of_decide_eq_false c9)], rfl, rfl, fun _ _ => rfl⟩)
