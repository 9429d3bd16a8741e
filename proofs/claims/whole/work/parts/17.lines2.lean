/-- the first rest that is not 0 -/
def ldl (r : Nat → Nat) : Nat → Nat → Nat → Nat
  | 0, _, l => l
  | k + 1, a, l => if l = 0 then ldl r k (a + 1) (r a) else l
def ldf (r : Nat → Nat) : Nat := ldl r 6 0 0
def fcl (q l : Nat) : Nat → Nat → Nat
  | 0, x => x
  | k + 1, x => if md ((x * l : Nat) : Int) q = 1 then x else fcl q l k (x + 1)
def fc (q l : Nat) : Nat := fcl q l (q - 1) 1
def nrm (q : Nat) (r : Nat → Nat) (j : Nat) : Nat := md ((r j * fc q (ldf r) : Nat) : Int) q
/-- the rests with the first that is not 0 made 1 -/
def lnr (q : Nat) (r : Nat → Nat) : Nat → Nat := if ldf r = 0 then r else nrm q r
theorem w6_w6 (G : Nat → Nat → Int32) (a n : Nat) (r r2 : Nat → Nat) : w6 (w6 G a n r) a n r2 = w6 G a n r2 := by
  funext i j
  unfold w6
  by_cases h : i = a ∧ j < n
  · rw [if_pos h, if_pos h]
  · rw [if_neg h, if_neg h, if_neg h]
theorem lnr_w6 (G : Nat → Nat → Int32) (a q : Nat) (r : Nat → Nat) : (if ldf r = 0 then w6 G a 6 r else w6 (w6 G a 6 r) a 6 (nrm q r)) = w6 G a 6 (lnr q r) := by
  unfold lnr
  split
  · rfl
  · exact w6_w6 G a 6 r _
def pli (j : Nat) : Nat := if j < 3 then 0 else if j < 5 then 1 else 2
def plj (j : Nat) : Nat := if j < 3 then j + 1 else if j < 5 then j - 1 else 3
def plz (x y i j : Nat) : Int := ((pfg x i * pfg y j : Nat) : Int) - ((pfg x j * pfg y i : Nat) : Int)
theorem plz_b (x y i j : Nat) : -100 < plz x y i j ∧ plz x y i j < 100 := by
  have h1 : pfg x i * pfg y j ≤ 9 * 9 := Nat.mul_le_mul (Nat.le_of_lt_succ (pfg_lt x i)) (Nat.le_of_lt_succ (pfg_lt y j))
  have h2 : pfg x j * pfg y i ≤ 9 * 9 := Nat.mul_le_mul (Nat.le_of_lt_succ (pfg_lt x j)) (Nat.le_of_lt_succ (pfg_lt y i))
  unfold plz
  omega
/-- the six rests of the line through two points -/
def plk (x y q j : Nat) : Nat := md (plz x y (pli j) (plj j)) q
/-- these with the first made 1 -/
def pln (x y q : Nat) : Nat → Nat := lnr q (plk x y q)
theorem nrm_lt {q : Nat} (h : 0 < q) (r : Nat → Nat) (j : Nat) : nrm q r j < q := md_lt _ h
theorem pln_lt {q : Nat} (h : 0 < q) (x y j : Nat) : pln x y q j < q := by
  unfold pln lnr
  split
  · exact md_lt _ h
  · exact md_lt _ h

set_option maxRecDepth 4000 in
set_option maxHeartbeats 1000000 in
theorem C5_normalize (T : fw_T) (p : Nat) (hp : T p = some (3, 3, 2, [some (p + 1), none])) (hp1 : T (p + 1) = some (0, 0, 6, [])) (G : Nat → Nat → Int32) (L : Nat → Nat → Int64)(r : Nat → Nat) (hr : ∀ j, j < 6 → G (p + 1) j = nI (r j)) (q : Nat) (hb : ∀ j, j < 6 → r j < q) (hq0 : 0 < q) (hq : q < 100) : fv_M Y5_normalize 2 0 0 [.ref p, .int (nI q)] (fw T G L) none (fv_eq (some (.int (bI (decide (ldf r ≠ 0))))) (fw T (if ldf r = 0 then G else w6 G (p + 1) 6 (nrm q r)) L)) := by
  refine fv_enter rfl (Nat.le_of_ble_eq_true rfl) ?_
  obtain ⟨Q, hQ⟩ : ∃ Q : Option Value → fv_F → Option Nat → Prop, Q = (fv_eq (some (.int (bI (decide (ldf r ≠ 0))))) (fw T (if ldf r = 0 then G else w6 G (p + 1) 6 (nrm q r)) L)) := ⟨_, rfl⟩
  rw [← hQ]
  show fv_At Y5_normalize 2 0 0 Q 0 [(0, .ref p), (1, .int (nI q))] [] (fw T G L) none 0 0
  refine fx_iconst (v := (nI 0)) dX5_normalize_0 (by decide) ?_
  refine fx_istore_n (lv2 := [(0, .ref p), (1, .int (nI q)), (2, .int (nI 0))]) dX5_normalize_1 (i := 2) rfl (by decide) rfl ?_
  refine fx_iconst (v := (nI 0)) dX5_normalize_2 (by decide) ?_
  refine fx_istore_n (lv2 := [(0, .ref p), (1, .int (nI q)), (2, .int (nI 0)), (3, .int (nI 0))]) dX5_normalize_3 (i := 3) rfl (by decide) rfl ?_
  have L4 : ∀ (k : Nat) (l : Nat) (a : Nat), (a + k = 6) → (l < 100) → (ldl r k a l = ldf r) → fv_At Y5_normalize 2 0 0 Q 4 [(0, .ref p), (1, .int (nI q)), (2, .int (nI l)), (3, .int (nI a))] [] (fw T G L) none 0 0 := by
    intro k
    induction k with
    | zero =>
      intro l a ha hl hR
      refine fx_iload_n dX5_normalize_4 rfl (i := 3) rfl ?_
      refine fx_bipush (v := (nI 6)) dX5_normalize_5 (by decide) ?_
      refine fn_icmp_ge (tgt := 27) dX5_normalize_7 (by decide) (by omega) (by omega) (fun c7 => ?_) (fun c7 => ?_)
      · skip
        have hl2 : ldf r = l := by first | exact hR.symm | (rw [← hR, ldl, if_neg (by omega)])
        refine fx_iload_n dX5_normalize_27 rfl (i := 2) rfl ?_
        refine fn_if_ne (tgt := 33) dX5_normalize_28 (by decide) (by omega) (fun c28 => ?_) (fun c28 => ?_)
        · skip
          refine fx_iconst (v := (nI 1)) dX5_normalize_33 (by decide) ?_
          refine fx_istore_n (lv2 := [(0, .ref p), (1, .int (nI q)), (2, .int (nI l)), (3, .int (nI 1))]) dX5_normalize_34 (i := 3) rfl (by decide) rfl ?_
          have L35 : ∀ (k2 : Nat) (x : Nat), (x + k2 = q) → (fcl q l k2 x = fcl q l (q - 1) 1) → fv_At Y5_normalize 2 0 0 Q 35 [(0, .ref p), (1, .int (nI q)), (2, .int (nI l)), (3, .int (nI x))] [] (fw T G L) none 0 0 := by
            intro k2
            induction k2 with
            | zero =>
              intro x hx hF
              refine fx_iload_n dX5_normalize_35 rfl (i := 3) rfl ?_
              refine fx_iload_n dX5_normalize_36 rfl (i := 1) rfl ?_
              refine fn_icmp_ge (tgt := 57) dX5_normalize_37 (by decide) (by omega) (by omega) (fun c37 => ?_) (fun c37 => ?_)
              · skip
                have hx2 : fc q l = x := by first | exact hF.symm | (rw [fc, ← hF, fcl, if_pos (by omega)])
                refine fx_iconst (v := (nI 0)) dX5_normalize_57 (by decide) ?_
                refine fx_istore (lv2 := [(0, .ref p), (1, .int (nI q)), (2, .int (nI l)), (3, .int (nI x)), (4, .int (nI 0))]) dX5_normalize_58 (by decide) rfl ?_
                have L60 : ∀ (k3 : Nat) (a2 : Nat) (G1 : Nat → Nat → Int32), (a2 + k3 = 6) → (G1 = w6 G (p + 1) a2 (nrm q r)) → fv_At Y5_normalize 2 0 0 Q 60 [(0, .ref p), (1, .int (nI q)), (2, .int (nI l)), (3, .int (nI x)), (4, .int (nI a2))] [] (fw T G1 L) none 0 0 := by
                  intro k3
                  induction k3 with
                  | zero =>
                    intro a2 G1 ha2 hG
                    refine fx_iload dX5_normalize_60 rfl ?_
                    refine fx_bipush (v := (nI 6)) dX5_normalize_62 (by decide) ?_
                    refine fn_icmp_ge (tgt := 93) dX5_normalize_64 (by decide) (by omega) (by omega) (fun c64 => ?_) (fun c64 => ?_)
                    · skip
                      refine fx_iconst (v := (nI 1)) dX5_normalize_93 (by decide) ?_
                      refine fn_to (show _ = (bI true) from rfl) ?_
                      exact fx_zret dX5_normalize_94 rfl (bI_01 _) rfl rfl (by rw [hQ]; exact ⟨by rw [decide_eq_true (by omega)], by rw [if_neg (by omega), hG, show a2 = 6 by omega], rfl⟩)
                    · exfalso; omega
                  | succ k3 ih60 =>
                    intro a2 G1 ha2 hG
                    refine fx_iload dX5_normalize_60 rfl ?_
                    refine fx_bipush (v := (nI 6)) dX5_normalize_62 (by decide) ?_
                    refine fn_icmp_ge (tgt := 93) dX5_normalize_64 (by decide) (by omega) (by omega) (fun c64 => ?_) (fun c64 => ?_)
                    · exfalso; omega
                    · skip
                      refine fx_aload_n dX5_normalize_67 rfl (i := 0) rfl ?_
                      refine fw_getr dX5_normalize_68 fd5_9 hp rfl ?_
                      refine fx_iload dX5_normalize_71 rfl ?_
                      refine fx_aload_n dX5_normalize_73 rfl (i := 0) rfl ?_
                      refine fw_getr dX5_normalize_74 fd5_9 hp rfl ?_
                      refine fx_iload dX5_normalize_77 rfl ?_
                      refine fw_iald a2 dX5_normalize_79 hp1 rfl (by omega) (by decide) ?_
                      refine fn_to (show _ = (nI (r a2)) from (by rw [hG, w6_ge (Nat.le_refl _)]; exact hr a2 (by omega))) ?_
                      refine fx_iload_n dX5_normalize_80 rfl (i := 3) rfl ?_
                      have hm2 : r a2 * x ≤ 99 * 99 := Nat.mul_le_mul (by have := hb a2 (by omega); omega) (by omega)
                      refine fn_imul dX5_normalize_81 ?_
                      refine fx_iload_n dX5_normalize_82 rfl (i := 1) rfl ?_
                      refine fn_cS dX5_normalize_83 lk5_23 (C5_rest (a := (((r a2) * x : Nat) : Int)) (b := q) (by omega) (by omega) (by omega) (by omega) (f := (fw T G1 L))) rfl rfl (by decide) (Nat.le_of_ble_eq_true rfl) ?_
                      show fv_At Y5_normalize 2 0 0 Q 86 [(0, .ref p), (1, .int (nI q)), (2, .int (nI l)), (3, .int (nI x)), (4, .int (nI a2))] [.int (nI (md ((((r a2) * x : Nat) : Int)) q)), .int (nI a2), .ref (p + 1)] (fw T G1 L) none 0 0
                      refine fw_iast a2 dX5_normalize_86 hp1 rfl (by omega) (by decide) ?_
                      refine fn_iinc (c := 1) (lv2 := [(0, .ref p), (1, .int (nI q)), (2, .int (nI l)), (3, .int (nI x)), (4, .int (nI (a2 + 1)))]) dX5_normalize_87 (by decide) rfl (by decide) rfl ?_
                      refine fx_goto (tgt := 60) dX5_normalize_90 (by decide) ?_
                      exact (ih60 (a2 + 1) (g2 G1 (p + 1) a2 ((nI (md ((((r a2) * x : Nat) : Int)) q)))) (by omega) (by rw [hG, ← w6_s, nrm, hl2, hx2]))
                exact (L60 6 0 G (by omega) (w6_0 _ _ _).symm)
              · exfalso; omega
            | succ k2 ih35 =>
              intro x hx hF
              refine fx_iload_n dX5_normalize_35 rfl (i := 3) rfl ?_
              refine fx_iload_n dX5_normalize_36 rfl (i := 1) rfl ?_
              refine fn_icmp_ge (tgt := 57) dX5_normalize_37 (by decide) (by omega) (by omega) (fun c37 => ?_) (fun c37 => ?_)
              · exfalso; omega
              · skip
                refine fx_iload_n dX5_normalize_40 rfl (i := 3) rfl ?_
                refine fx_iload_n dX5_normalize_41 rfl (i := 2) rfl ?_
                have hm : x * l ≤ 99 * 99 := Nat.mul_le_mul (by omega) (by omega)
                refine fn_imul dX5_normalize_42 ?_
                refine fx_iload_n dX5_normalize_43 rfl (i := 1) rfl ?_
                refine fn_cS dX5_normalize_44 lk5_23 (C5_rest (a := ((x * l : Nat) : Int)) (b := q) (by omega) (by omega) (by omega) (by omega) (f := (fw T G L))) rfl rfl (by decide) (Nat.le_of_ble_eq_true rfl) ?_
                show fv_At Y5_normalize 2 0 0 Q 47 [(0, .ref p), (1, .int (nI q)), (2, .int (nI l)), (3, .int (nI x))] [.int (nI (md (((x * l : Nat) : Int)) q))] (fw T G L) none 0 0
                have hmd := md_lt ((x * l : Nat) : Int) hq0
                refine fx_iconst (v := (nI 1)) dX5_normalize_47 (by decide) ?_
                refine fn_icmp_eq (tgt := 57) dX5_normalize_48 (by decide) (by omega) (by omega) (fun c48 => ?_) (fun c48 => ?_)
                · skip
                  have hx2 : fc q l = x := by first | exact hF.symm | (rw [fc, ← hF, fcl, if_pos (by omega)])
                  refine fx_iconst (v := (nI 0)) dX5_normalize_57 (by decide) ?_
                  refine fx_istore (lv2 := [(0, .ref p), (1, .int (nI q)), (2, .int (nI l)), (3, .int (nI x)), (4, .int (nI 0))]) dX5_normalize_58 (by decide) rfl ?_
                  have L60 : ∀ (k3 : Nat) (a2 : Nat) (G1 : Nat → Nat → Int32), (a2 + k3 = 6) → (G1 = w6 G (p + 1) a2 (nrm q r)) → fv_At Y5_normalize 2 0 0 Q 60 [(0, .ref p), (1, .int (nI q)), (2, .int (nI l)), (3, .int (nI x)), (4, .int (nI a2))] [] (fw T G1 L) none 0 0 := by
                    intro k3
                    induction k3 with
                    | zero =>
                      intro a2 G1 ha2 hG
                      refine fx_iload dX5_normalize_60 rfl ?_
                      refine fx_bipush (v := (nI 6)) dX5_normalize_62 (by decide) ?_
                      refine fn_icmp_ge (tgt := 93) dX5_normalize_64 (by decide) (by omega) (by omega) (fun c64 => ?_) (fun c64 => ?_)
                      · skip
                        refine fx_iconst (v := (nI 1)) dX5_normalize_93 (by decide) ?_
                        refine fn_to (show _ = (bI true) from rfl) ?_
                        exact fx_zret dX5_normalize_94 rfl (bI_01 _) rfl rfl (by rw [hQ]; exact ⟨by rw [decide_eq_true (by omega)], by rw [if_neg (by omega), hG, show a2 = 6 by omega], rfl⟩)
                      · exfalso; omega
                    | succ k3 ih60 =>
                      intro a2 G1 ha2 hG
                      refine fx_iload dX5_normalize_60 rfl ?_
                      refine fx_bipush (v := (nI 6)) dX5_normalize_62 (by decide) ?_
                      refine fn_icmp_ge (tgt := 93) dX5_normalize_64 (by decide) (by omega) (by omega) (fun c64 => ?_) (fun c64 => ?_)
                      · exfalso; omega
                      · skip
                        refine fx_aload_n dX5_normalize_67 rfl (i := 0) rfl ?_
                        refine fw_getr dX5_normalize_68 fd5_9 hp rfl ?_
                        refine fx_iload dX5_normalize_71 rfl ?_
                        refine fx_aload_n dX5_normalize_73 rfl (i := 0) rfl ?_
                        refine fw_getr dX5_normalize_74 fd5_9 hp rfl ?_
                        refine fx_iload dX5_normalize_77 rfl ?_
                        refine fw_iald a2 dX5_normalize_79 hp1 rfl (by omega) (by decide) ?_
                        refine fn_to (show _ = (nI (r a2)) from (by rw [hG, w6_ge (Nat.le_refl _)]; exact hr a2 (by omega))) ?_
                        refine fx_iload_n dX5_normalize_80 rfl (i := 3) rfl ?_
                        have hm2 : r a2 * x ≤ 99 * 99 := Nat.mul_le_mul (by have := hb a2 (by omega); omega) (by omega)
                        refine fn_imul dX5_normalize_81 ?_
                        refine fx_iload_n dX5_normalize_82 rfl (i := 1) rfl ?_
                        refine fn_cS dX5_normalize_83 lk5_23 (C5_rest (a := (((r a2) * x : Nat) : Int)) (b := q) (by omega) (by omega) (by omega) (by omega) (f := (fw T G1 L))) rfl rfl (by decide) (Nat.le_of_ble_eq_true rfl) ?_
                        show fv_At Y5_normalize 2 0 0 Q 86 [(0, .ref p), (1, .int (nI q)), (2, .int (nI l)), (3, .int (nI x)), (4, .int (nI a2))] [.int (nI (md ((((r a2) * x : Nat) : Int)) q)), .int (nI a2), .ref (p + 1)] (fw T G1 L) none 0 0
                        refine fw_iast a2 dX5_normalize_86 hp1 rfl (by omega) (by decide) ?_
                        refine fn_iinc (c := 1) (lv2 := [(0, .ref p), (1, .int (nI q)), (2, .int (nI l)), (3, .int (nI x)), (4, .int (nI (a2 + 1)))]) dX5_normalize_87 (by decide) rfl (by decide) rfl ?_
                        refine fx_goto (tgt := 60) dX5_normalize_90 (by decide) ?_
                        exact (ih60 (a2 + 1) (g2 G1 (p + 1) a2 ((nI (md ((((r a2) * x : Nat) : Int)) q)))) (by omega) (by rw [hG, ← w6_s, nrm, hl2, hx2]))
                  exact (L60 6 0 G (by omega) (w6_0 _ _ _).symm)
                · skip
                  refine fn_iinc (c := 1) (lv2 := [(0, .ref p), (1, .int (nI q)), (2, .int (nI l)), (3, .int (nI (x + 1)))]) dX5_normalize_51 (by decide) rfl (by decide) rfl ?_
                  refine fx_goto (tgt := 35) dX5_normalize_54 (by decide) ?_
                  exact (ih35 (x + 1) (by omega) (by rw [← hF, fcl, if_neg (by omega)]))
          exact (L35 (q - 1) 1 (by omega) rfl)
        · skip
          refine fx_iconst (v := (nI 0)) dX5_normalize_31 (by decide) ?_
          refine fn_to (show _ = (bI false) from rfl) ?_
          exact fx_zret dX5_normalize_32 rfl (bI_01 _) rfl rfl (by rw [hQ]; exact ⟨by rw [decide_eq_false (by omega)], by rw [if_pos (by omega)], rfl⟩)
      · exfalso; omega
    | succ k ih4 =>
      intro l a ha hl hR
      refine fx_iload_n dX5_normalize_4 rfl (i := 3) rfl ?_
      refine fx_bipush (v := (nI 6)) dX5_normalize_5 (by decide) ?_
      refine fn_icmp_ge (tgt := 27) dX5_normalize_7 (by decide) (by omega) (by omega) (fun c7 => ?_) (fun c7 => ?_)
      · exfalso; omega
      · skip
        refine fx_iload_n dX5_normalize_10 rfl (i := 2) rfl ?_
        refine fn_if_ne (tgt := 27) dX5_normalize_11 (by decide) (by omega) (fun c11 => ?_) (fun c11 => ?_)
        · skip
          have hl2 : ldf r = l := by first | exact hR.symm | (rw [← hR, ldl, if_neg (by omega)])
          refine fx_iload_n dX5_normalize_27 rfl (i := 2) rfl ?_
          refine fn_if_ne (tgt := 33) dX5_normalize_28 (by decide) (by omega) (fun c28 => ?_) (fun c28 => ?_)
          · skip
            refine fx_iconst (v := (nI 1)) dX5_normalize_33 (by decide) ?_
            refine fx_istore_n (lv2 := [(0, .ref p), (1, .int (nI q)), (2, .int (nI l)), (3, .int (nI 1))]) dX5_normalize_34 (i := 3) rfl (by decide) rfl ?_
            have L35 : ∀ (k2 : Nat) (x : Nat), (x + k2 = q) → (fcl q l k2 x = fcl q l (q - 1) 1) → fv_At Y5_normalize 2 0 0 Q 35 [(0, .ref p), (1, .int (nI q)), (2, .int (nI l)), (3, .int (nI x))] [] (fw T G L) none 0 0 := by
              intro k2
              induction k2 with
              | zero =>
                intro x hx hF
                refine fx_iload_n dX5_normalize_35 rfl (i := 3) rfl ?_
                refine fx_iload_n dX5_normalize_36 rfl (i := 1) rfl ?_
                refine fn_icmp_ge (tgt := 57) dX5_normalize_37 (by decide) (by omega) (by omega) (fun c37 => ?_) (fun c37 => ?_)
                · skip
                  have hx2 : fc q l = x := by first | exact hF.symm | (rw [fc, ← hF, fcl, if_pos (by omega)])
                  refine fx_iconst (v := (nI 0)) dX5_normalize_57 (by decide) ?_
                  refine fx_istore (lv2 := [(0, .ref p), (1, .int (nI q)), (2, .int (nI l)), (3, .int (nI x)), (4, .int (nI 0))]) dX5_normalize_58 (by decide) rfl ?_
                  have L60 : ∀ (k3 : Nat) (a2 : Nat) (G1 : Nat → Nat → Int32), (a2 + k3 = 6) → (G1 = w6 G (p + 1) a2 (nrm q r)) → fv_At Y5_normalize 2 0 0 Q 60 [(0, .ref p), (1, .int (nI q)), (2, .int (nI l)), (3, .int (nI x)), (4, .int (nI a2))] [] (fw T G1 L) none 0 0 := by
                    intro k3
                    induction k3 with
                    | zero =>
                      intro a2 G1 ha2 hG
                      refine fx_iload dX5_normalize_60 rfl ?_
                      refine fx_bipush (v := (nI 6)) dX5_normalize_62 (by decide) ?_
                      refine fn_icmp_ge (tgt := 93) dX5_normalize_64 (by decide) (by omega) (by omega) (fun c64 => ?_) (fun c64 => ?_)
                      · skip
                        refine fx_iconst (v := (nI 1)) dX5_normalize_93 (by decide) ?_
                        refine fn_to (show _ = (bI true) from rfl) ?_
                        exact fx_zret dX5_normalize_94 rfl (bI_01 _) rfl rfl (by rw [hQ]; exact ⟨by rw [decide_eq_true (by omega)], by rw [if_neg (by omega), hG, show a2 = 6 by omega], rfl⟩)
                      · exfalso; omega
                    | succ k3 ih60 =>
                      intro a2 G1 ha2 hG
                      refine fx_iload dX5_normalize_60 rfl ?_
                      refine fx_bipush (v := (nI 6)) dX5_normalize_62 (by decide) ?_
                      refine fn_icmp_ge (tgt := 93) dX5_normalize_64 (by decide) (by omega) (by omega) (fun c64 => ?_) (fun c64 => ?_)
                      · exfalso; omega
                      · skip
                        refine fx_aload_n dX5_normalize_67 rfl (i := 0) rfl ?_
                        refine fw_getr dX5_normalize_68 fd5_9 hp rfl ?_
                        refine fx_iload dX5_normalize_71 rfl ?_
                        refine fx_aload_n dX5_normalize_73 rfl (i := 0) rfl ?_
                        refine fw_getr dX5_normalize_74 fd5_9 hp rfl ?_
                        refine fx_iload dX5_normalize_77 rfl ?_
                        refine fw_iald a2 dX5_normalize_79 hp1 rfl (by omega) (by decide) ?_
                        refine fn_to (show _ = (nI (r a2)) from (by rw [hG, w6_ge (Nat.le_refl _)]; exact hr a2 (by omega))) ?_
                        refine fx_iload_n dX5_normalize_80 rfl (i := 3) rfl ?_
                        have hm2 : r a2 * x ≤ 99 * 99 := Nat.mul_le_mul (by have := hb a2 (by omega); omega) (by omega)
                        refine fn_imul dX5_normalize_81 ?_
                        refine fx_iload_n dX5_normalize_82 rfl (i := 1) rfl ?_
                        refine fn_cS dX5_normalize_83 lk5_23 (C5_rest (a := (((r a2) * x : Nat) : Int)) (b := q) (by omega) (by omega) (by omega) (by omega) (f := (fw T G1 L))) rfl rfl (by decide) (Nat.le_of_ble_eq_true rfl) ?_
                        show fv_At Y5_normalize 2 0 0 Q 86 [(0, .ref p), (1, .int (nI q)), (2, .int (nI l)), (3, .int (nI x)), (4, .int (nI a2))] [.int (nI (md ((((r a2) * x : Nat) : Int)) q)), .int (nI a2), .ref (p + 1)] (fw T G1 L) none 0 0
                        refine fw_iast a2 dX5_normalize_86 hp1 rfl (by omega) (by decide) ?_
                        refine fn_iinc (c := 1) (lv2 := [(0, .ref p), (1, .int (nI q)), (2, .int (nI l)), (3, .int (nI x)), (4, .int (nI (a2 + 1)))]) dX5_normalize_87 (by decide) rfl (by decide) rfl ?_
                        refine fx_goto (tgt := 60) dX5_normalize_90 (by decide) ?_
                        exact (ih60 (a2 + 1) (g2 G1 (p + 1) a2 ((nI (md ((((r a2) * x : Nat) : Int)) q)))) (by omega) (by rw [hG, ← w6_s, nrm, hl2, hx2]))
                  exact (L60 6 0 G (by omega) (w6_0 _ _ _).symm)
                · exfalso; omega
              | succ k2 ih35 =>
                intro x hx hF
                refine fx_iload_n dX5_normalize_35 rfl (i := 3) rfl ?_
                refine fx_iload_n dX5_normalize_36 rfl (i := 1) rfl ?_
                refine fn_icmp_ge (tgt := 57) dX5_normalize_37 (by decide) (by omega) (by omega) (fun c37 => ?_) (fun c37 => ?_)
                · exfalso; omega
                · skip
                  refine fx_iload_n dX5_normalize_40 rfl (i := 3) rfl ?_
                  refine fx_iload_n dX5_normalize_41 rfl (i := 2) rfl ?_
                  have hm : x * l ≤ 99 * 99 := Nat.mul_le_mul (by omega) (by omega)
                  refine fn_imul dX5_normalize_42 ?_
                  refine fx_iload_n dX5_normalize_43 rfl (i := 1) rfl ?_
                  refine fn_cS dX5_normalize_44 lk5_23 (C5_rest (a := ((x * l : Nat) : Int)) (b := q) (by omega) (by omega) (by omega) (by omega) (f := (fw T G L))) rfl rfl (by decide) (Nat.le_of_ble_eq_true rfl) ?_
                  show fv_At Y5_normalize 2 0 0 Q 47 [(0, .ref p), (1, .int (nI q)), (2, .int (nI l)), (3, .int (nI x))] [.int (nI (md (((x * l : Nat) : Int)) q))] (fw T G L) none 0 0
                  have hmd := md_lt ((x * l : Nat) : Int) hq0
                  refine fx_iconst (v := (nI 1)) dX5_normalize_47 (by decide) ?_
                  refine fn_icmp_eq (tgt := 57) dX5_normalize_48 (by decide) (by omega) (by omega) (fun c48 => ?_) (fun c48 => ?_)
                  · skip
                    have hx2 : fc q l = x := by first | exact hF.symm | (rw [fc, ← hF, fcl, if_pos (by omega)])
                    refine fx_iconst (v := (nI 0)) dX5_normalize_57 (by decide) ?_
                    refine fx_istore (lv2 := [(0, .ref p), (1, .int (nI q)), (2, .int (nI l)), (3, .int (nI x)), (4, .int (nI 0))]) dX5_normalize_58 (by decide) rfl ?_
                    have L60 : ∀ (k3 : Nat) (a2 : Nat) (G1 : Nat → Nat → Int32), (a2 + k3 = 6) → (G1 = w6 G (p + 1) a2 (nrm q r)) → fv_At Y5_normalize 2 0 0 Q 60 [(0, .ref p), (1, .int (nI q)), (2, .int (nI l)), (3, .int (nI x)), (4, .int (nI a2))] [] (fw T G1 L) none 0 0 := by
                      intro k3
                      induction k3 with
                      | zero =>
                        intro a2 G1 ha2 hG
                        refine fx_iload dX5_normalize_60 rfl ?_
                        refine fx_bipush (v := (nI 6)) dX5_normalize_62 (by decide) ?_
                        refine fn_icmp_ge (tgt := 93) dX5_normalize_64 (by decide) (by omega) (by omega) (fun c64 => ?_) (fun c64 => ?_)
                        · skip
                          refine fx_iconst (v := (nI 1)) dX5_normalize_93 (by decide) ?_
                          refine fn_to (show _ = (bI true) from rfl) ?_
                          exact fx_zret dX5_normalize_94 rfl (bI_01 _) rfl rfl (by rw [hQ]; exact ⟨by rw [decide_eq_true (by omega)], by rw [if_neg (by omega), hG, show a2 = 6 by omega], rfl⟩)
                        · exfalso; omega
                      | succ k3 ih60 =>
                        intro a2 G1 ha2 hG
                        refine fx_iload dX5_normalize_60 rfl ?_
                        refine fx_bipush (v := (nI 6)) dX5_normalize_62 (by decide) ?_
                        refine fn_icmp_ge (tgt := 93) dX5_normalize_64 (by decide) (by omega) (by omega) (fun c64 => ?_) (fun c64 => ?_)
                        · exfalso; omega
                        · skip
                          refine fx_aload_n dX5_normalize_67 rfl (i := 0) rfl ?_
                          refine fw_getr dX5_normalize_68 fd5_9 hp rfl ?_
                          refine fx_iload dX5_normalize_71 rfl ?_
                          refine fx_aload_n dX5_normalize_73 rfl (i := 0) rfl ?_
                          refine fw_getr dX5_normalize_74 fd5_9 hp rfl ?_
                          refine fx_iload dX5_normalize_77 rfl ?_
                          refine fw_iald a2 dX5_normalize_79 hp1 rfl (by omega) (by decide) ?_
                          refine fn_to (show _ = (nI (r a2)) from (by rw [hG, w6_ge (Nat.le_refl _)]; exact hr a2 (by omega))) ?_
                          refine fx_iload_n dX5_normalize_80 rfl (i := 3) rfl ?_
                          have hm2 : r a2 * x ≤ 99 * 99 := Nat.mul_le_mul (by have := hb a2 (by omega); omega) (by omega)
                          refine fn_imul dX5_normalize_81 ?_
                          refine fx_iload_n dX5_normalize_82 rfl (i := 1) rfl ?_
                          refine fn_cS dX5_normalize_83 lk5_23 (C5_rest (a := (((r a2) * x : Nat) : Int)) (b := q) (by omega) (by omega) (by omega) (by omega) (f := (fw T G1 L))) rfl rfl (by decide) (Nat.le_of_ble_eq_true rfl) ?_
                          show fv_At Y5_normalize 2 0 0 Q 86 [(0, .ref p), (1, .int (nI q)), (2, .int (nI l)), (3, .int (nI x)), (4, .int (nI a2))] [.int (nI (md ((((r a2) * x : Nat) : Int)) q)), .int (nI a2), .ref (p + 1)] (fw T G1 L) none 0 0
                          refine fw_iast a2 dX5_normalize_86 hp1 rfl (by omega) (by decide) ?_
                          refine fn_iinc (c := 1) (lv2 := [(0, .ref p), (1, .int (nI q)), (2, .int (nI l)), (3, .int (nI x)), (4, .int (nI (a2 + 1)))]) dX5_normalize_87 (by decide) rfl (by decide) rfl ?_
                          refine fx_goto (tgt := 60) dX5_normalize_90 (by decide) ?_
                          exact (ih60 (a2 + 1) (g2 G1 (p + 1) a2 ((nI (md ((((r a2) * x : Nat) : Int)) q)))) (by omega) (by rw [hG, ← w6_s, nrm, hl2, hx2]))
                    exact (L60 6 0 G (by omega) (w6_0 _ _ _).symm)
                  · skip
                    refine fn_iinc (c := 1) (lv2 := [(0, .ref p), (1, .int (nI q)), (2, .int (nI l)), (3, .int (nI (x + 1)))]) dX5_normalize_51 (by decide) rfl (by decide) rfl ?_
                    refine fx_goto (tgt := 35) dX5_normalize_54 (by decide) ?_
                    exact (ih35 (x + 1) (by omega) (by rw [← hF, fcl, if_neg (by omega)]))
            exact (L35 (q - 1) 1 (by omega) rfl)
          · skip
            refine fx_iconst (v := (nI 0)) dX5_normalize_31 (by decide) ?_
            refine fn_to (show _ = (bI false) from rfl) ?_
            exact fx_zret dX5_normalize_32 rfl (bI_01 _) rfl rfl (by rw [hQ]; exact ⟨by rw [decide_eq_false (by omega)], by rw [if_pos (by omega)], rfl⟩)
        · skip
          refine fx_aload_n dX5_normalize_14 rfl (i := 0) rfl ?_
          refine fw_getr dX5_normalize_15 fd5_9 hp rfl ?_
          refine fx_iload_n dX5_normalize_18 rfl (i := 3) rfl ?_
          refine fw_iald a dX5_normalize_19 hp1 rfl (by omega) (by decide) ?_
          refine fn_to (show _ = (nI (r a)) from hr a (by omega)) ?_
          refine fx_istore_n (lv2 := [(0, .ref p), (1, .int (nI q)), (2, .int (nI (r a))), (3, .int (nI a))]) dX5_normalize_20 (i := 2) rfl (by decide) rfl ?_
          refine fn_iinc (c := 1) (lv2 := [(0, .ref p), (1, .int (nI q)), (2, .int (nI (r a))), (3, .int (nI (a + 1)))]) dX5_normalize_21 (by decide) rfl (by decide) rfl ?_
          refine fx_goto (tgt := 4) dX5_normalize_24 (by decide) ?_
          exact (ih4 (r a) (a + 1) (by omega) (by have := hb a (by omega); omega) (by rw [← hR, ldl, if_pos (by omega)]))
  exact (L4 6 0 0 (by omega) (by omega) rfl)

set_option maxRecDepth 4000 in
set_option maxHeartbeats 1000000 in
theorem C5_span (T : fw_T) (p : Nat) (hp : T p = some (3, 3, 2, [some (p + 1), none])) (hp1 : T (p + 1) = some (0, 0, 6, [])) (G : Nat → Nat → Int32) (L : Nat → Nat → Int64)(x y q : Nat) (hx : x < 2147483648) (hy : y < 2147483648) (hq0 : 0 < q) (hq : q < 100) : fv_M Y5_span 3 0 0 [.ref p, .int (nI x), .int (nI y), .int (nI q)] (fw T G L) none (fv_eq (some (.int (bI (decide (ldf (plk x y q) ≠ 0))))) (fw T (g2 (w6 G (p + 1) 6 (pln x y q)) p 1 (bI (decide (ldf (plk x y q) ≠ 0)))) L)) := by
  refine fv_enter rfl (Nat.le_of_ble_eq_true rfl) ?_
  obtain ⟨Q, hQ⟩ : ∃ Q : Option Value → fv_F → Option Nat → Prop, Q = (fv_eq (some (.int (bI (decide (ldf (plk x y q) ≠ 0))))) (fw T (g2 (w6 G (p + 1) 6 (pln x y q)) p 1 (bI (decide (ldf (plk x y q) ≠ 0)))) L)) := ⟨_, rfl⟩
  rw [← hQ]
  show fv_At Y5_span 3 0 0 Q 0 [(0, .ref p), (1, .int (nI x)), (2, .int (nI y)), (3, .int (nI q))] [] (fw T G L) none 0 0
  refine fx_iconst (v := (nI 0)) dX5_span_0 (by decide) ?_
  refine fx_istore (lv2 := [(0, .ref p), (1, .int (nI x)), (2, .int (nI y)), (3, .int (nI q)), (4, .int (nI 0))]) dX5_span_1 (by decide) rfl ?_
  refine fx_iconst (v := (nI 0)) dX5_span_3 (by decide) ?_
  refine fx_istore (lv2 := [(0, .ref p), (1, .int (nI x)), (2, .int (nI y)), (3, .int (nI q)), (4, .int (nI 0)), (5, .int (nI 0))]) dX5_span_4 (by decide) rfl ?_
  refine fx_iload dX5_span_6 rfl ?_
  refine fx_iconst (v := (nI 3)) dX5_span_8 (by decide) ?_
  refine fn_icmp_ge (tgt := 84) dX5_span_9 (by decide) (by omega) (by omega) (fun c9 => ?_) (fun c9 => ?_)
  · exfalso; omega
  · skip
    refine fx_iload dX5_span_12 rfl ?_
    refine fx_iconst (v := (nI 1)) dX5_span_14 (by decide) ?_
    refine fn_iadd dX5_span_15 ?_
    refine fx_istore (lv2 := [(0, .ref p), (1, .int (nI x)), (2, .int (nI y)), (3, .int (nI q)), (4, .int (nI 0)), (5, .int (nI 0)), (6, .int (nI 1))]) dX5_span_16 (by decide) rfl ?_
    refine fx_iload dX5_span_18 rfl ?_
    refine fx_iconst (v := (nI 4)) dX5_span_20 (by decide) ?_
    refine fn_icmp_ge (tgt := 78) dX5_span_21 (by decide) (by omega) (by omega) (fun c21 => ?_) (fun c21 => ?_)
    · exfalso; omega
    · skip
      refine fx_iload dX5_span_24 rfl ?_
      refine fx_bipush (v := (nI 6)) dX5_span_26 (by decide) ?_
      refine fn_icmp_ge (tgt := 78) dX5_span_28 (by decide) (by omega) (by omega) (fun c28 => ?_) (fun c28 => ?_)
      · exfalso; omega
      · skip
        refine fx_aload_n dX5_span_31 rfl (i := 0) rfl ?_
        refine fw_getr dX5_span_32 fd5_9 hp rfl ?_
        refine fx_iload dX5_span_35 rfl ?_
        refine fx_iload_n dX5_span_37 rfl (i := 1) rfl ?_
        refine fx_iload dX5_span_38 rfl ?_
        refine fn_cS dX5_span_40 lk5_17 (C9_figure (p := x) (i := 0) (by omega) (by omega) (f := (fw T G L))) rfl rfl (by decide) (Nat.le_of_ble_eq_true rfl) ?_
        show fv_At Y5_span 3 0 0 Q 43 [(0, .ref p), (1, .int (nI x)), (2, .int (nI y)), (3, .int (nI q)), (4, .int (nI 0)), (5, .int (nI 0)), (6, .int (nI 1))] [.int (nI (pfg x 0)), .int (nI 0), .ref (p + 1)] (fw T G L) none 0 0
        refine fx_iload_n dX5_span_43 rfl (i := 2) rfl ?_
        refine fx_iload dX5_span_44 rfl ?_
        refine fn_cS dX5_span_46 lk5_17 (C9_figure (p := y) (i := 1) (by omega) (by omega) (f := (fw T G L))) rfl rfl (by decide) (Nat.le_of_ble_eq_true rfl) ?_
        show fv_At Y5_span 3 0 0 Q 49 [(0, .ref p), (1, .int (nI x)), (2, .int (nI y)), (3, .int (nI q)), (4, .int (nI 0)), (5, .int (nI 0)), (6, .int (nI 1))] [.int (nI (pfg y 1)), .int (nI (pfg x 0)), .int (nI 0), .ref (p + 1)] (fw T G L) none 0 0
        refine fn_imul dX5_span_49 ?_
        refine fx_iload_n dX5_span_50 rfl (i := 1) rfl ?_
        refine fx_iload dX5_span_51 rfl ?_
        refine fn_cS dX5_span_53 lk5_17 (C9_figure (p := x) (i := 1) (by omega) (by omega) (f := (fw T G L))) rfl rfl (by decide) (Nat.le_of_ble_eq_true rfl) ?_
        show fv_At Y5_span 3 0 0 Q 56 [(0, .ref p), (1, .int (nI x)), (2, .int (nI y)), (3, .int (nI q)), (4, .int (nI 0)), (5, .int (nI 0)), (6, .int (nI 1))] [.int (nI (pfg x 1)), .int (nI ((pfg x 0) * (pfg y 1))), .int (nI 0), .ref (p + 1)] (fw T G L) none 0 0
        refine fx_iload_n dX5_span_56 rfl (i := 2) rfl ?_
        refine fx_iload dX5_span_57 rfl ?_
        refine fn_cS dX5_span_59 lk5_17 (C9_figure (p := y) (i := 0) (by omega) (by omega) (f := (fw T G L))) rfl rfl (by decide) (Nat.le_of_ble_eq_true rfl) ?_
        show fv_At Y5_span 3 0 0 Q 62 [(0, .ref p), (1, .int (nI x)), (2, .int (nI y)), (3, .int (nI q)), (4, .int (nI 0)), (5, .int (nI 0)), (6, .int (nI 1))] [.int (nI (pfg y 0)), .int (nI (pfg x 1)), .int (nI ((pfg x 0) * (pfg y 1))), .int (nI 0), .ref (p + 1)] (fw T G L) none 0 0
        refine fn_imul dX5_span_62 ?_
        refine fn_isubZ (a := (((pfg x 0) * (pfg y 1) : Nat) : Int)) (b := (((pfg x 1) * (pfg y 0) : Nat) : Int)) dX5_span_63 ?_
        refine fn_to (show _ = (iI (plz x y 0 1)) from rfl) ?_
        have hz := plz_b x y 0 1
        refine fx_iload_n dX5_span_64 rfl (i := 3) rfl ?_
        refine fn_cS dX5_span_65 lk5_23 (C5_rest (a := plz x y 0 1) (b := q) (by omega) (by omega) (by omega) (by omega) (f := (fw T G L))) rfl rfl (by decide) (Nat.le_of_ble_eq_true rfl) ?_
        show fv_At Y5_span 3 0 0 Q 68 [(0, .ref p), (1, .int (nI x)), (2, .int (nI y)), (3, .int (nI q)), (4, .int (nI 0)), (5, .int (nI 0)), (6, .int (nI 1))] [.int (nI (md (plz x y 0 1) q)), .int (nI 0), .ref (p + 1)] (fw T G L) none 0 0
        refine fw_iast 0 dX5_span_68 hp1 rfl (by omega) (by decide) ?_
        refine fn_iinc (c := 1) (lv2 := [(0, .ref p), (1, .int (nI x)), (2, .int (nI y)), (3, .int (nI q)), (4, .int (nI 1)), (5, .int (nI 0)), (6, .int (nI 1))]) dX5_span_69 (by decide) rfl (by decide) rfl ?_
        refine fn_iinc (c := 1) (lv2 := [(0, .ref p), (1, .int (nI x)), (2, .int (nI y)), (3, .int (nI q)), (4, .int (nI 1)), (5, .int (nI 0)), (6, .int (nI 2))]) dX5_span_72 (by decide) rfl (by decide) rfl ?_
        refine fx_goto (tgt := 18) dX5_span_75 (by decide) ?_
        refine fx_iload dX5_span_18 rfl ?_
        refine fx_iconst (v := (nI 4)) dX5_span_20 (by decide) ?_
        refine fn_icmp_ge (tgt := 78) dX5_span_21 (by decide) (by omega) (by omega) (fun c21 => ?_) (fun c21 => ?_)
        · exfalso; omega
        · skip
          refine fx_iload dX5_span_24 rfl ?_
          refine fx_bipush (v := (nI 6)) dX5_span_26 (by decide) ?_
          refine fn_icmp_ge (tgt := 78) dX5_span_28 (by decide) (by omega) (by omega) (fun c28 => ?_) (fun c28 => ?_)
          · exfalso; omega
          · skip
            refine fx_aload_n dX5_span_31 rfl (i := 0) rfl ?_
            refine fw_getr dX5_span_32 fd5_9 hp rfl ?_
            refine fx_iload dX5_span_35 rfl ?_
            refine fx_iload_n dX5_span_37 rfl (i := 1) rfl ?_
            refine fx_iload dX5_span_38 rfl ?_
            refine fn_cS dX5_span_40 lk5_17 (C9_figure (p := x) (i := 0) (by omega) (by omega) (f := (fw T (g2 G (p + 1) 0 ((nI (md (plz x y 0 1) q)))) L))) rfl rfl (by decide) (Nat.le_of_ble_eq_true rfl) ?_
            show fv_At Y5_span 3 0 0 Q 43 [(0, .ref p), (1, .int (nI x)), (2, .int (nI y)), (3, .int (nI q)), (4, .int (nI 1)), (5, .int (nI 0)), (6, .int (nI 2))] [.int (nI (pfg x 0)), .int (nI 1), .ref (p + 1)] (fw T (g2 G (p + 1) 0 ((nI (md (plz x y 0 1) q)))) L) none 0 0
            refine fx_iload_n dX5_span_43 rfl (i := 2) rfl ?_
            refine fx_iload dX5_span_44 rfl ?_
            refine fn_cS dX5_span_46 lk5_17 (C9_figure (p := y) (i := 2) (by omega) (by omega) (f := (fw T (g2 G (p + 1) 0 ((nI (md (plz x y 0 1) q)))) L))) rfl rfl (by decide) (Nat.le_of_ble_eq_true rfl) ?_
            show fv_At Y5_span 3 0 0 Q 49 [(0, .ref p), (1, .int (nI x)), (2, .int (nI y)), (3, .int (nI q)), (4, .int (nI 1)), (5, .int (nI 0)), (6, .int (nI 2))] [.int (nI (pfg y 2)), .int (nI (pfg x 0)), .int (nI 1), .ref (p + 1)] (fw T (g2 G (p + 1) 0 ((nI (md (plz x y 0 1) q)))) L) none 0 0
            refine fn_imul dX5_span_49 ?_
            refine fx_iload_n dX5_span_50 rfl (i := 1) rfl ?_
            refine fx_iload dX5_span_51 rfl ?_
            refine fn_cS dX5_span_53 lk5_17 (C9_figure (p := x) (i := 2) (by omega) (by omega) (f := (fw T (g2 G (p + 1) 0 ((nI (md (plz x y 0 1) q)))) L))) rfl rfl (by decide) (Nat.le_of_ble_eq_true rfl) ?_
            show fv_At Y5_span 3 0 0 Q 56 [(0, .ref p), (1, .int (nI x)), (2, .int (nI y)), (3, .int (nI q)), (4, .int (nI 1)), (5, .int (nI 0)), (6, .int (nI 2))] [.int (nI (pfg x 2)), .int (nI ((pfg x 0) * (pfg y 2))), .int (nI 1), .ref (p + 1)] (fw T (g2 G (p + 1) 0 ((nI (md (plz x y 0 1) q)))) L) none 0 0
            refine fx_iload_n dX5_span_56 rfl (i := 2) rfl ?_
            refine fx_iload dX5_span_57 rfl ?_
            refine fn_cS dX5_span_59 lk5_17 (C9_figure (p := y) (i := 0) (by omega) (by omega) (f := (fw T (g2 G (p + 1) 0 ((nI (md (plz x y 0 1) q)))) L))) rfl rfl (by decide) (Nat.le_of_ble_eq_true rfl) ?_
            show fv_At Y5_span 3 0 0 Q 62 [(0, .ref p), (1, .int (nI x)), (2, .int (nI y)), (3, .int (nI q)), (4, .int (nI 1)), (5, .int (nI 0)), (6, .int (nI 2))] [.int (nI (pfg y 0)), .int (nI (pfg x 2)), .int (nI ((pfg x 0) * (pfg y 2))), .int (nI 1), .ref (p + 1)] (fw T (g2 G (p + 1) 0 ((nI (md (plz x y 0 1) q)))) L) none 0 0
            refine fn_imul dX5_span_62 ?_
            refine fn_isubZ (a := (((pfg x 0) * (pfg y 2) : Nat) : Int)) (b := (((pfg x 2) * (pfg y 0) : Nat) : Int)) dX5_span_63 ?_
            refine fn_to (show _ = (iI (plz x y 0 2)) from rfl) ?_
            have hz := plz_b x y 0 2
            refine fx_iload_n dX5_span_64 rfl (i := 3) rfl ?_
            refine fn_cS dX5_span_65 lk5_23 (C5_rest (a := plz x y 0 2) (b := q) (by omega) (by omega) (by omega) (by omega) (f := (fw T (g2 G (p + 1) 0 ((nI (md (plz x y 0 1) q)))) L))) rfl rfl (by decide) (Nat.le_of_ble_eq_true rfl) ?_
            show fv_At Y5_span 3 0 0 Q 68 [(0, .ref p), (1, .int (nI x)), (2, .int (nI y)), (3, .int (nI q)), (4, .int (nI 1)), (5, .int (nI 0)), (6, .int (nI 2))] [.int (nI (md (plz x y 0 2) q)), .int (nI 1), .ref (p + 1)] (fw T (g2 G (p + 1) 0 ((nI (md (plz x y 0 1) q)))) L) none 0 0
            refine fw_iast 1 dX5_span_68 hp1 rfl (by omega) (by decide) ?_
            refine fn_iinc (c := 1) (lv2 := [(0, .ref p), (1, .int (nI x)), (2, .int (nI y)), (3, .int (nI q)), (4, .int (nI 2)), (5, .int (nI 0)), (6, .int (nI 2))]) dX5_span_69 (by decide) rfl (by decide) rfl ?_
            refine fn_iinc (c := 1) (lv2 := [(0, .ref p), (1, .int (nI x)), (2, .int (nI y)), (3, .int (nI q)), (4, .int (nI 2)), (5, .int (nI 0)), (6, .int (nI 3))]) dX5_span_72 (by decide) rfl (by decide) rfl ?_
            refine fx_goto (tgt := 18) dX5_span_75 (by decide) ?_
            refine fx_iload dX5_span_18 rfl ?_
            refine fx_iconst (v := (nI 4)) dX5_span_20 (by decide) ?_
            refine fn_icmp_ge (tgt := 78) dX5_span_21 (by decide) (by omega) (by omega) (fun c21 => ?_) (fun c21 => ?_)
            · exfalso; omega
            · skip
              refine fx_iload dX5_span_24 rfl ?_
              refine fx_bipush (v := (nI 6)) dX5_span_26 (by decide) ?_
              refine fn_icmp_ge (tgt := 78) dX5_span_28 (by decide) (by omega) (by omega) (fun c28 => ?_) (fun c28 => ?_)
              · exfalso; omega
              · skip
                refine fx_aload_n dX5_span_31 rfl (i := 0) rfl ?_
                refine fw_getr dX5_span_32 fd5_9 hp rfl ?_
                refine fx_iload dX5_span_35 rfl ?_
                refine fx_iload_n dX5_span_37 rfl (i := 1) rfl ?_
                refine fx_iload dX5_span_38 rfl ?_
                refine fn_cS dX5_span_40 lk5_17 (C9_figure (p := x) (i := 0) (by omega) (by omega) (f := (fw T (g2 (g2 G (p + 1) 0 ((nI (md (plz x y 0 1) q)))) (p + 1) 1 ((nI (md (plz x y 0 2) q)))) L))) rfl rfl (by decide) (Nat.le_of_ble_eq_true rfl) ?_
                show fv_At Y5_span 3 0 0 Q 43 [(0, .ref p), (1, .int (nI x)), (2, .int (nI y)), (3, .int (nI q)), (4, .int (nI 2)), (5, .int (nI 0)), (6, .int (nI 3))] [.int (nI (pfg x 0)), .int (nI 2), .ref (p + 1)] (fw T (g2 (g2 G (p + 1) 0 ((nI (md (plz x y 0 1) q)))) (p + 1) 1 ((nI (md (plz x y 0 2) q)))) L) none 0 0
                refine fx_iload_n dX5_span_43 rfl (i := 2) rfl ?_
                refine fx_iload dX5_span_44 rfl ?_
                refine fn_cS dX5_span_46 lk5_17 (C9_figure (p := y) (i := 3) (by omega) (by omega) (f := (fw T (g2 (g2 G (p + 1) 0 ((nI (md (plz x y 0 1) q)))) (p + 1) 1 ((nI (md (plz x y 0 2) q)))) L))) rfl rfl (by decide) (Nat.le_of_ble_eq_true rfl) ?_
                show fv_At Y5_span 3 0 0 Q 49 [(0, .ref p), (1, .int (nI x)), (2, .int (nI y)), (3, .int (nI q)), (4, .int (nI 2)), (5, .int (nI 0)), (6, .int (nI 3))] [.int (nI (pfg y 3)), .int (nI (pfg x 0)), .int (nI 2), .ref (p + 1)] (fw T (g2 (g2 G (p + 1) 0 ((nI (md (plz x y 0 1) q)))) (p + 1) 1 ((nI (md (plz x y 0 2) q)))) L) none 0 0
                refine fn_imul dX5_span_49 ?_
                refine fx_iload_n dX5_span_50 rfl (i := 1) rfl ?_
                refine fx_iload dX5_span_51 rfl ?_
                refine fn_cS dX5_span_53 lk5_17 (C9_figure (p := x) (i := 3) (by omega) (by omega) (f := (fw T (g2 (g2 G (p + 1) 0 ((nI (md (plz x y 0 1) q)))) (p + 1) 1 ((nI (md (plz x y 0 2) q)))) L))) rfl rfl (by decide) (Nat.le_of_ble_eq_true rfl) ?_
                show fv_At Y5_span 3 0 0 Q 56 [(0, .ref p), (1, .int (nI x)), (2, .int (nI y)), (3, .int (nI q)), (4, .int (nI 2)), (5, .int (nI 0)), (6, .int (nI 3))] [.int (nI (pfg x 3)), .int (nI ((pfg x 0) * (pfg y 3))), .int (nI 2), .ref (p + 1)] (fw T (g2 (g2 G (p + 1) 0 ((nI (md (plz x y 0 1) q)))) (p + 1) 1 ((nI (md (plz x y 0 2) q)))) L) none 0 0
                refine fx_iload_n dX5_span_56 rfl (i := 2) rfl ?_
                refine fx_iload dX5_span_57 rfl ?_
                refine fn_cS dX5_span_59 lk5_17 (C9_figure (p := y) (i := 0) (by omega) (by omega) (f := (fw T (g2 (g2 G (p + 1) 0 ((nI (md (plz x y 0 1) q)))) (p + 1) 1 ((nI (md (plz x y 0 2) q)))) L))) rfl rfl (by decide) (Nat.le_of_ble_eq_true rfl) ?_
                show fv_At Y5_span 3 0 0 Q 62 [(0, .ref p), (1, .int (nI x)), (2, .int (nI y)), (3, .int (nI q)), (4, .int (nI 2)), (5, .int (nI 0)), (6, .int (nI 3))] [.int (nI (pfg y 0)), .int (nI (pfg x 3)), .int (nI ((pfg x 0) * (pfg y 3))), .int (nI 2), .ref (p + 1)] (fw T (g2 (g2 G (p + 1) 0 ((nI (md (plz x y 0 1) q)))) (p + 1) 1 ((nI (md (plz x y 0 2) q)))) L) none 0 0
                refine fn_imul dX5_span_62 ?_
                refine fn_isubZ (a := (((pfg x 0) * (pfg y 3) : Nat) : Int)) (b := (((pfg x 3) * (pfg y 0) : Nat) : Int)) dX5_span_63 ?_
                refine fn_to (show _ = (iI (plz x y 0 3)) from rfl) ?_
                have hz := plz_b x y 0 3
                refine fx_iload_n dX5_span_64 rfl (i := 3) rfl ?_
                refine fn_cS dX5_span_65 lk5_23 (C5_rest (a := plz x y 0 3) (b := q) (by omega) (by omega) (by omega) (by omega) (f := (fw T (g2 (g2 G (p + 1) 0 ((nI (md (plz x y 0 1) q)))) (p + 1) 1 ((nI (md (plz x y 0 2) q)))) L))) rfl rfl (by decide) (Nat.le_of_ble_eq_true rfl) ?_
                show fv_At Y5_span 3 0 0 Q 68 [(0, .ref p), (1, .int (nI x)), (2, .int (nI y)), (3, .int (nI q)), (4, .int (nI 2)), (5, .int (nI 0)), (6, .int (nI 3))] [.int (nI (md (plz x y 0 3) q)), .int (nI 2), .ref (p + 1)] (fw T (g2 (g2 G (p + 1) 0 ((nI (md (plz x y 0 1) q)))) (p + 1) 1 ((nI (md (plz x y 0 2) q)))) L) none 0 0
                refine fw_iast 2 dX5_span_68 hp1 rfl (by omega) (by decide) ?_
                refine fn_iinc (c := 1) (lv2 := [(0, .ref p), (1, .int (nI x)), (2, .int (nI y)), (3, .int (nI q)), (4, .int (nI 3)), (5, .int (nI 0)), (6, .int (nI 3))]) dX5_span_69 (by decide) rfl (by decide) rfl ?_
                refine fn_iinc (c := 1) (lv2 := [(0, .ref p), (1, .int (nI x)), (2, .int (nI y)), (3, .int (nI q)), (4, .int (nI 3)), (5, .int (nI 0)), (6, .int (nI 4))]) dX5_span_72 (by decide) rfl (by decide) rfl ?_
                refine fx_goto (tgt := 18) dX5_span_75 (by decide) ?_
                refine fx_iload dX5_span_18 rfl ?_
                refine fx_iconst (v := (nI 4)) dX5_span_20 (by decide) ?_
                refine fn_icmp_ge (tgt := 78) dX5_span_21 (by decide) (by omega) (by omega) (fun c21 => ?_) (fun c21 => ?_)
                · skip
                  refine fn_iinc (c := 1) (lv2 := [(0, .ref p), (1, .int (nI x)), (2, .int (nI y)), (3, .int (nI q)), (4, .int (nI 3)), (5, .int (nI 1)), (6, .int (nI 4))]) dX5_span_78 (by decide) rfl (by decide) rfl ?_
                  refine fx_goto (tgt := 6) dX5_span_81 (by decide) ?_
                  refine fx_iload dX5_span_6 rfl ?_
                  refine fx_iconst (v := (nI 3)) dX5_span_8 (by decide) ?_
                  refine fn_icmp_ge (tgt := 84) dX5_span_9 (by decide) (by omega) (by omega) (fun c9 => ?_) (fun c9 => ?_)
                  · exfalso; omega
                  · skip
                    refine fx_iload dX5_span_12 rfl ?_
                    refine fx_iconst (v := (nI 1)) dX5_span_14 (by decide) ?_
                    refine fn_iadd dX5_span_15 ?_
                    refine fx_istore (lv2 := [(0, .ref p), (1, .int (nI x)), (2, .int (nI y)), (3, .int (nI q)), (4, .int (nI 3)), (5, .int (nI 1)), (6, .int (nI 2))]) dX5_span_16 (by decide) rfl ?_
                    refine fx_iload dX5_span_18 rfl ?_
                    refine fx_iconst (v := (nI 4)) dX5_span_20 (by decide) ?_
                    refine fn_icmp_ge (tgt := 78) dX5_span_21 (by decide) (by omega) (by omega) (fun c21 => ?_) (fun c21 => ?_)
                    · exfalso; omega
                    · skip
                      refine fx_iload dX5_span_24 rfl ?_
                      refine fx_bipush (v := (nI 6)) dX5_span_26 (by decide) ?_
                      refine fn_icmp_ge (tgt := 78) dX5_span_28 (by decide) (by omega) (by omega) (fun c28 => ?_) (fun c28 => ?_)
                      · exfalso; omega
                      · skip
                        refine fx_aload_n dX5_span_31 rfl (i := 0) rfl ?_
                        refine fw_getr dX5_span_32 fd5_9 hp rfl ?_
                        refine fx_iload dX5_span_35 rfl ?_
                        refine fx_iload_n dX5_span_37 rfl (i := 1) rfl ?_
                        refine fx_iload dX5_span_38 rfl ?_
                        refine fn_cS dX5_span_40 lk5_17 (C9_figure (p := x) (i := 1) (by omega) (by omega) (f := (fw T (g2 (g2 (g2 G (p + 1) 0 ((nI (md (plz x y 0 1) q)))) (p + 1) 1 ((nI (md (plz x y 0 2) q)))) (p + 1) 2 ((nI (md (plz x y 0 3) q)))) L))) rfl rfl (by decide) (Nat.le_of_ble_eq_true rfl) ?_
                        show fv_At Y5_span 3 0 0 Q 43 [(0, .ref p), (1, .int (nI x)), (2, .int (nI y)), (3, .int (nI q)), (4, .int (nI 3)), (5, .int (nI 1)), (6, .int (nI 2))] [.int (nI (pfg x 1)), .int (nI 3), .ref (p + 1)] (fw T (g2 (g2 (g2 G (p + 1) 0 ((nI (md (plz x y 0 1) q)))) (p + 1) 1 ((nI (md (plz x y 0 2) q)))) (p + 1) 2 ((nI (md (plz x y 0 3) q)))) L) none 0 0
                        refine fx_iload_n dX5_span_43 rfl (i := 2) rfl ?_
                        refine fx_iload dX5_span_44 rfl ?_
                        refine fn_cS dX5_span_46 lk5_17 (C9_figure (p := y) (i := 2) (by omega) (by omega) (f := (fw T (g2 (g2 (g2 G (p + 1) 0 ((nI (md (plz x y 0 1) q)))) (p + 1) 1 ((nI (md (plz x y 0 2) q)))) (p + 1) 2 ((nI (md (plz x y 0 3) q)))) L))) rfl rfl (by decide) (Nat.le_of_ble_eq_true rfl) ?_
                        show fv_At Y5_span 3 0 0 Q 49 [(0, .ref p), (1, .int (nI x)), (2, .int (nI y)), (3, .int (nI q)), (4, .int (nI 3)), (5, .int (nI 1)), (6, .int (nI 2))] [.int (nI (pfg y 2)), .int (nI (pfg x 1)), .int (nI 3), .ref (p + 1)] (fw T (g2 (g2 (g2 G (p + 1) 0 ((nI (md (plz x y 0 1) q)))) (p + 1) 1 ((nI (md (plz x y 0 2) q)))) (p + 1) 2 ((nI (md (plz x y 0 3) q)))) L) none 0 0
                        refine fn_imul dX5_span_49 ?_
                        refine fx_iload_n dX5_span_50 rfl (i := 1) rfl ?_
                        refine fx_iload dX5_span_51 rfl ?_
                        refine fn_cS dX5_span_53 lk5_17 (C9_figure (p := x) (i := 2) (by omega) (by omega) (f := (fw T (g2 (g2 (g2 G (p + 1) 0 ((nI (md (plz x y 0 1) q)))) (p + 1) 1 ((nI (md (plz x y 0 2) q)))) (p + 1) 2 ((nI (md (plz x y 0 3) q)))) L))) rfl rfl (by decide) (Nat.le_of_ble_eq_true rfl) ?_
                        show fv_At Y5_span 3 0 0 Q 56 [(0, .ref p), (1, .int (nI x)), (2, .int (nI y)), (3, .int (nI q)), (4, .int (nI 3)), (5, .int (nI 1)), (6, .int (nI 2))] [.int (nI (pfg x 2)), .int (nI ((pfg x 1) * (pfg y 2))), .int (nI 3), .ref (p + 1)] (fw T (g2 (g2 (g2 G (p + 1) 0 ((nI (md (plz x y 0 1) q)))) (p + 1) 1 ((nI (md (plz x y 0 2) q)))) (p + 1) 2 ((nI (md (plz x y 0 3) q)))) L) none 0 0
                        refine fx_iload_n dX5_span_56 rfl (i := 2) rfl ?_
                        refine fx_iload dX5_span_57 rfl ?_
                        refine fn_cS dX5_span_59 lk5_17 (C9_figure (p := y) (i := 1) (by omega) (by omega) (f := (fw T (g2 (g2 (g2 G (p + 1) 0 ((nI (md (plz x y 0 1) q)))) (p + 1) 1 ((nI (md (plz x y 0 2) q)))) (p + 1) 2 ((nI (md (plz x y 0 3) q)))) L))) rfl rfl (by decide) (Nat.le_of_ble_eq_true rfl) ?_
                        show fv_At Y5_span 3 0 0 Q 62 [(0, .ref p), (1, .int (nI x)), (2, .int (nI y)), (3, .int (nI q)), (4, .int (nI 3)), (5, .int (nI 1)), (6, .int (nI 2))] [.int (nI (pfg y 1)), .int (nI (pfg x 2)), .int (nI ((pfg x 1) * (pfg y 2))), .int (nI 3), .ref (p + 1)] (fw T (g2 (g2 (g2 G (p + 1) 0 ((nI (md (plz x y 0 1) q)))) (p + 1) 1 ((nI (md (plz x y 0 2) q)))) (p + 1) 2 ((nI (md (plz x y 0 3) q)))) L) none 0 0
                        refine fn_imul dX5_span_62 ?_
                        refine fn_isubZ (a := (((pfg x 1) * (pfg y 2) : Nat) : Int)) (b := (((pfg x 2) * (pfg y 1) : Nat) : Int)) dX5_span_63 ?_
                        refine fn_to (show _ = (iI (plz x y 1 2)) from rfl) ?_
                        have hz := plz_b x y 1 2
                        refine fx_iload_n dX5_span_64 rfl (i := 3) rfl ?_
                        refine fn_cS dX5_span_65 lk5_23 (C5_rest (a := plz x y 1 2) (b := q) (by omega) (by omega) (by omega) (by omega) (f := (fw T (g2 (g2 (g2 G (p + 1) 0 ((nI (md (plz x y 0 1) q)))) (p + 1) 1 ((nI (md (plz x y 0 2) q)))) (p + 1) 2 ((nI (md (plz x y 0 3) q)))) L))) rfl rfl (by decide) (Nat.le_of_ble_eq_true rfl) ?_
                        show fv_At Y5_span 3 0 0 Q 68 [(0, .ref p), (1, .int (nI x)), (2, .int (nI y)), (3, .int (nI q)), (4, .int (nI 3)), (5, .int (nI 1)), (6, .int (nI 2))] [.int (nI (md (plz x y 1 2) q)), .int (nI 3), .ref (p + 1)] (fw T (g2 (g2 (g2 G (p + 1) 0 ((nI (md (plz x y 0 1) q)))) (p + 1) 1 ((nI (md (plz x y 0 2) q)))) (p + 1) 2 ((nI (md (plz x y 0 3) q)))) L) none 0 0
                        refine fw_iast 3 dX5_span_68 hp1 rfl (by omega) (by decide) ?_
                        refine fn_iinc (c := 1) (lv2 := [(0, .ref p), (1, .int (nI x)), (2, .int (nI y)), (3, .int (nI q)), (4, .int (nI 4)), (5, .int (nI 1)), (6, .int (nI 2))]) dX5_span_69 (by decide) rfl (by decide) rfl ?_
                        refine fn_iinc (c := 1) (lv2 := [(0, .ref p), (1, .int (nI x)), (2, .int (nI y)), (3, .int (nI q)), (4, .int (nI 4)), (5, .int (nI 1)), (6, .int (nI 3))]) dX5_span_72 (by decide) rfl (by decide) rfl ?_
                        refine fx_goto (tgt := 18) dX5_span_75 (by decide) ?_
                        refine fx_iload dX5_span_18 rfl ?_
                        refine fx_iconst (v := (nI 4)) dX5_span_20 (by decide) ?_
                        refine fn_icmp_ge (tgt := 78) dX5_span_21 (by decide) (by omega) (by omega) (fun c21 => ?_) (fun c21 => ?_)
                        · exfalso; omega
                        · skip
                          refine fx_iload dX5_span_24 rfl ?_
                          refine fx_bipush (v := (nI 6)) dX5_span_26 (by decide) ?_
                          refine fn_icmp_ge (tgt := 78) dX5_span_28 (by decide) (by omega) (by omega) (fun c28 => ?_) (fun c28 => ?_)
                          · exfalso; omega
                          · skip
                            refine fx_aload_n dX5_span_31 rfl (i := 0) rfl ?_
                            refine fw_getr dX5_span_32 fd5_9 hp rfl ?_
                            refine fx_iload dX5_span_35 rfl ?_
                            refine fx_iload_n dX5_span_37 rfl (i := 1) rfl ?_
                            refine fx_iload dX5_span_38 rfl ?_
                            refine fn_cS dX5_span_40 lk5_17 (C9_figure (p := x) (i := 1) (by omega) (by omega) (f := (fw T (g2 (g2 (g2 (g2 G (p + 1) 0 ((nI (md (plz x y 0 1) q)))) (p + 1) 1 ((nI (md (plz x y 0 2) q)))) (p + 1) 2 ((nI (md (plz x y 0 3) q)))) (p + 1) 3 ((nI (md (plz x y 1 2) q)))) L))) rfl rfl (by decide) (Nat.le_of_ble_eq_true rfl) ?_
                            show fv_At Y5_span 3 0 0 Q 43 [(0, .ref p), (1, .int (nI x)), (2, .int (nI y)), (3, .int (nI q)), (4, .int (nI 4)), (5, .int (nI 1)), (6, .int (nI 3))] [.int (nI (pfg x 1)), .int (nI 4), .ref (p + 1)] (fw T (g2 (g2 (g2 (g2 G (p + 1) 0 ((nI (md (plz x y 0 1) q)))) (p + 1) 1 ((nI (md (plz x y 0 2) q)))) (p + 1) 2 ((nI (md (plz x y 0 3) q)))) (p + 1) 3 ((nI (md (plz x y 1 2) q)))) L) none 0 0
                            refine fx_iload_n dX5_span_43 rfl (i := 2) rfl ?_
                            refine fx_iload dX5_span_44 rfl ?_
                            refine fn_cS dX5_span_46 lk5_17 (C9_figure (p := y) (i := 3) (by omega) (by omega) (f := (fw T (g2 (g2 (g2 (g2 G (p + 1) 0 ((nI (md (plz x y 0 1) q)))) (p + 1) 1 ((nI (md (plz x y 0 2) q)))) (p + 1) 2 ((nI (md (plz x y 0 3) q)))) (p + 1) 3 ((nI (md (plz x y 1 2) q)))) L))) rfl rfl (by decide) (Nat.le_of_ble_eq_true rfl) ?_
                            show fv_At Y5_span 3 0 0 Q 49 [(0, .ref p), (1, .int (nI x)), (2, .int (nI y)), (3, .int (nI q)), (4, .int (nI 4)), (5, .int (nI 1)), (6, .int (nI 3))] [.int (nI (pfg y 3)), .int (nI (pfg x 1)), .int (nI 4), .ref (p + 1)] (fw T (g2 (g2 (g2 (g2 G (p + 1) 0 ((nI (md (plz x y 0 1) q)))) (p + 1) 1 ((nI (md (plz x y 0 2) q)))) (p + 1) 2 ((nI (md (plz x y 0 3) q)))) (p + 1) 3 ((nI (md (plz x y 1 2) q)))) L) none 0 0
                            refine fn_imul dX5_span_49 ?_
                            refine fx_iload_n dX5_span_50 rfl (i := 1) rfl ?_
                            refine fx_iload dX5_span_51 rfl ?_
                            refine fn_cS dX5_span_53 lk5_17 (C9_figure (p := x) (i := 3) (by omega) (by omega) (f := (fw T (g2 (g2 (g2 (g2 G (p + 1) 0 ((nI (md (plz x y 0 1) q)))) (p + 1) 1 ((nI (md (plz x y 0 2) q)))) (p + 1) 2 ((nI (md (plz x y 0 3) q)))) (p + 1) 3 ((nI (md (plz x y 1 2) q)))) L))) rfl rfl (by decide) (Nat.le_of_ble_eq_true rfl) ?_
                            show fv_At Y5_span 3 0 0 Q 56 [(0, .ref p), (1, .int (nI x)), (2, .int (nI y)), (3, .int (nI q)), (4, .int (nI 4)), (5, .int (nI 1)), (6, .int (nI 3))] [.int (nI (pfg x 3)), .int (nI ((pfg x 1) * (pfg y 3))), .int (nI 4), .ref (p + 1)] (fw T (g2 (g2 (g2 (g2 G (p + 1) 0 ((nI (md (plz x y 0 1) q)))) (p + 1) 1 ((nI (md (plz x y 0 2) q)))) (p + 1) 2 ((nI (md (plz x y 0 3) q)))) (p + 1) 3 ((nI (md (plz x y 1 2) q)))) L) none 0 0
                            refine fx_iload_n dX5_span_56 rfl (i := 2) rfl ?_
                            refine fx_iload dX5_span_57 rfl ?_
                            refine fn_cS dX5_span_59 lk5_17 (C9_figure (p := y) (i := 1) (by omega) (by omega) (f := (fw T (g2 (g2 (g2 (g2 G (p + 1) 0 ((nI (md (plz x y 0 1) q)))) (p + 1) 1 ((nI (md (plz x y 0 2) q)))) (p + 1) 2 ((nI (md (plz x y 0 3) q)))) (p + 1) 3 ((nI (md (plz x y 1 2) q)))) L))) rfl rfl (by decide) (Nat.le_of_ble_eq_true rfl) ?_
                            show fv_At Y5_span 3 0 0 Q 62 [(0, .ref p), (1, .int (nI x)), (2, .int (nI y)), (3, .int (nI q)), (4, .int (nI 4)), (5, .int (nI 1)), (6, .int (nI 3))] [.int (nI (pfg y 1)), .int (nI (pfg x 3)), .int (nI ((pfg x 1) * (pfg y 3))), .int (nI 4), .ref (p + 1)] (fw T (g2 (g2 (g2 (g2 G (p + 1) 0 ((nI (md (plz x y 0 1) q)))) (p + 1) 1 ((nI (md (plz x y 0 2) q)))) (p + 1) 2 ((nI (md (plz x y 0 3) q)))) (p + 1) 3 ((nI (md (plz x y 1 2) q)))) L) none 0 0
                            refine fn_imul dX5_span_62 ?_
                            refine fn_isubZ (a := (((pfg x 1) * (pfg y 3) : Nat) : Int)) (b := (((pfg x 3) * (pfg y 1) : Nat) : Int)) dX5_span_63 ?_
                            refine fn_to (show _ = (iI (plz x y 1 3)) from rfl) ?_
                            have hz := plz_b x y 1 3
                            refine fx_iload_n dX5_span_64 rfl (i := 3) rfl ?_
                            refine fn_cS dX5_span_65 lk5_23 (C5_rest (a := plz x y 1 3) (b := q) (by omega) (by omega) (by omega) (by omega) (f := (fw T (g2 (g2 (g2 (g2 G (p + 1) 0 ((nI (md (plz x y 0 1) q)))) (p + 1) 1 ((nI (md (plz x y 0 2) q)))) (p + 1) 2 ((nI (md (plz x y 0 3) q)))) (p + 1) 3 ((nI (md (plz x y 1 2) q)))) L))) rfl rfl (by decide) (Nat.le_of_ble_eq_true rfl) ?_
                            show fv_At Y5_span 3 0 0 Q 68 [(0, .ref p), (1, .int (nI x)), (2, .int (nI y)), (3, .int (nI q)), (4, .int (nI 4)), (5, .int (nI 1)), (6, .int (nI 3))] [.int (nI (md (plz x y 1 3) q)), .int (nI 4), .ref (p + 1)] (fw T (g2 (g2 (g2 (g2 G (p + 1) 0 ((nI (md (plz x y 0 1) q)))) (p + 1) 1 ((nI (md (plz x y 0 2) q)))) (p + 1) 2 ((nI (md (plz x y 0 3) q)))) (p + 1) 3 ((nI (md (plz x y 1 2) q)))) L) none 0 0
                            refine fw_iast 4 dX5_span_68 hp1 rfl (by omega) (by decide) ?_
                            refine fn_iinc (c := 1) (lv2 := [(0, .ref p), (1, .int (nI x)), (2, .int (nI y)), (3, .int (nI q)), (4, .int (nI 5)), (5, .int (nI 1)), (6, .int (nI 3))]) dX5_span_69 (by decide) rfl (by decide) rfl ?_
                            refine fn_iinc (c := 1) (lv2 := [(0, .ref p), (1, .int (nI x)), (2, .int (nI y)), (3, .int (nI q)), (4, .int (nI 5)), (5, .int (nI 1)), (6, .int (nI 4))]) dX5_span_72 (by decide) rfl (by decide) rfl ?_
                            refine fx_goto (tgt := 18) dX5_span_75 (by decide) ?_
                            refine fx_iload dX5_span_18 rfl ?_
                            refine fx_iconst (v := (nI 4)) dX5_span_20 (by decide) ?_
                            refine fn_icmp_ge (tgt := 78) dX5_span_21 (by decide) (by omega) (by omega) (fun c21 => ?_) (fun c21 => ?_)
                            · skip
                              refine fn_iinc (c := 1) (lv2 := [(0, .ref p), (1, .int (nI x)), (2, .int (nI y)), (3, .int (nI q)), (4, .int (nI 5)), (5, .int (nI 2)), (6, .int (nI 4))]) dX5_span_78 (by decide) rfl (by decide) rfl ?_
                              refine fx_goto (tgt := 6) dX5_span_81 (by decide) ?_
                              refine fx_iload dX5_span_6 rfl ?_
                              refine fx_iconst (v := (nI 3)) dX5_span_8 (by decide) ?_
                              refine fn_icmp_ge (tgt := 84) dX5_span_9 (by decide) (by omega) (by omega) (fun c9 => ?_) (fun c9 => ?_)
                              · exfalso; omega
                              · skip
                                refine fx_iload dX5_span_12 rfl ?_
                                refine fx_iconst (v := (nI 1)) dX5_span_14 (by decide) ?_
                                refine fn_iadd dX5_span_15 ?_
                                refine fx_istore (lv2 := [(0, .ref p), (1, .int (nI x)), (2, .int (nI y)), (3, .int (nI q)), (4, .int (nI 5)), (5, .int (nI 2)), (6, .int (nI 3))]) dX5_span_16 (by decide) rfl ?_
                                refine fx_iload dX5_span_18 rfl ?_
                                refine fx_iconst (v := (nI 4)) dX5_span_20 (by decide) ?_
                                refine fn_icmp_ge (tgt := 78) dX5_span_21 (by decide) (by omega) (by omega) (fun c21 => ?_) (fun c21 => ?_)
                                · exfalso; omega
                                · skip
                                  refine fx_iload dX5_span_24 rfl ?_
                                  refine fx_bipush (v := (nI 6)) dX5_span_26 (by decide) ?_
                                  refine fn_icmp_ge (tgt := 78) dX5_span_28 (by decide) (by omega) (by omega) (fun c28 => ?_) (fun c28 => ?_)
                                  · exfalso; omega
                                  · skip
                                    refine fx_aload_n dX5_span_31 rfl (i := 0) rfl ?_
                                    refine fw_getr dX5_span_32 fd5_9 hp rfl ?_
                                    refine fx_iload dX5_span_35 rfl ?_
                                    refine fx_iload_n dX5_span_37 rfl (i := 1) rfl ?_
                                    refine fx_iload dX5_span_38 rfl ?_
                                    refine fn_cS dX5_span_40 lk5_17 (C9_figure (p := x) (i := 2) (by omega) (by omega) (f := (fw T (g2 (g2 (g2 (g2 (g2 G (p + 1) 0 ((nI (md (plz x y 0 1) q)))) (p + 1) 1 ((nI (md (plz x y 0 2) q)))) (p + 1) 2 ((nI (md (plz x y 0 3) q)))) (p + 1) 3 ((nI (md (plz x y 1 2) q)))) (p + 1) 4 ((nI (md (plz x y 1 3) q)))) L))) rfl rfl (by decide) (Nat.le_of_ble_eq_true rfl) ?_
                                    show fv_At Y5_span 3 0 0 Q 43 [(0, .ref p), (1, .int (nI x)), (2, .int (nI y)), (3, .int (nI q)), (4, .int (nI 5)), (5, .int (nI 2)), (6, .int (nI 3))] [.int (nI (pfg x 2)), .int (nI 5), .ref (p + 1)] (fw T (g2 (g2 (g2 (g2 (g2 G (p + 1) 0 ((nI (md (plz x y 0 1) q)))) (p + 1) 1 ((nI (md (plz x y 0 2) q)))) (p + 1) 2 ((nI (md (plz x y 0 3) q)))) (p + 1) 3 ((nI (md (plz x y 1 2) q)))) (p + 1) 4 ((nI (md (plz x y 1 3) q)))) L) none 0 0
                                    refine fx_iload_n dX5_span_43 rfl (i := 2) rfl ?_
                                    refine fx_iload dX5_span_44 rfl ?_
                                    refine fn_cS dX5_span_46 lk5_17 (C9_figure (p := y) (i := 3) (by omega) (by omega) (f := (fw T (g2 (g2 (g2 (g2 (g2 G (p + 1) 0 ((nI (md (plz x y 0 1) q)))) (p + 1) 1 ((nI (md (plz x y 0 2) q)))) (p + 1) 2 ((nI (md (plz x y 0 3) q)))) (p + 1) 3 ((nI (md (plz x y 1 2) q)))) (p + 1) 4 ((nI (md (plz x y 1 3) q)))) L))) rfl rfl (by decide) (Nat.le_of_ble_eq_true rfl) ?_
                                    show fv_At Y5_span 3 0 0 Q 49 [(0, .ref p), (1, .int (nI x)), (2, .int (nI y)), (3, .int (nI q)), (4, .int (nI 5)), (5, .int (nI 2)), (6, .int (nI 3))] [.int (nI (pfg y 3)), .int (nI (pfg x 2)), .int (nI 5), .ref (p + 1)] (fw T (g2 (g2 (g2 (g2 (g2 G (p + 1) 0 ((nI (md (plz x y 0 1) q)))) (p + 1) 1 ((nI (md (plz x y 0 2) q)))) (p + 1) 2 ((nI (md (plz x y 0 3) q)))) (p + 1) 3 ((nI (md (plz x y 1 2) q)))) (p + 1) 4 ((nI (md (plz x y 1 3) q)))) L) none 0 0
                                    refine fn_imul dX5_span_49 ?_
                                    refine fx_iload_n dX5_span_50 rfl (i := 1) rfl ?_
                                    refine fx_iload dX5_span_51 rfl ?_
                                    refine fn_cS dX5_span_53 lk5_17 (C9_figure (p := x) (i := 3) (by omega) (by omega) (f := (fw T (g2 (g2 (g2 (g2 (g2 G (p + 1) 0 ((nI (md (plz x y 0 1) q)))) (p + 1) 1 ((nI (md (plz x y 0 2) q)))) (p + 1) 2 ((nI (md (plz x y 0 3) q)))) (p + 1) 3 ((nI (md (plz x y 1 2) q)))) (p + 1) 4 ((nI (md (plz x y 1 3) q)))) L))) rfl rfl (by decide) (Nat.le_of_ble_eq_true rfl) ?_
                                    show fv_At Y5_span 3 0 0 Q 56 [(0, .ref p), (1, .int (nI x)), (2, .int (nI y)), (3, .int (nI q)), (4, .int (nI 5)), (5, .int (nI 2)), (6, .int (nI 3))] [.int (nI (pfg x 3)), .int (nI ((pfg x 2) * (pfg y 3))), .int (nI 5), .ref (p + 1)] (fw T (g2 (g2 (g2 (g2 (g2 G (p + 1) 0 ((nI (md (plz x y 0 1) q)))) (p + 1) 1 ((nI (md (plz x y 0 2) q)))) (p + 1) 2 ((nI (md (plz x y 0 3) q)))) (p + 1) 3 ((nI (md (plz x y 1 2) q)))) (p + 1) 4 ((nI (md (plz x y 1 3) q)))) L) none 0 0
                                    refine fx_iload_n dX5_span_56 rfl (i := 2) rfl ?_
                                    refine fx_iload dX5_span_57 rfl ?_
                                    refine fn_cS dX5_span_59 lk5_17 (C9_figure (p := y) (i := 2) (by omega) (by omega) (f := (fw T (g2 (g2 (g2 (g2 (g2 G (p + 1) 0 ((nI (md (plz x y 0 1) q)))) (p + 1) 1 ((nI (md (plz x y 0 2) q)))) (p + 1) 2 ((nI (md (plz x y 0 3) q)))) (p + 1) 3 ((nI (md (plz x y 1 2) q)))) (p + 1) 4 ((nI (md (plz x y 1 3) q)))) L))) rfl rfl (by decide) (Nat.le_of_ble_eq_true rfl) ?_
                                    show fv_At Y5_span 3 0 0 Q 62 [(0, .ref p), (1, .int (nI x)), (2, .int (nI y)), (3, .int (nI q)), (4, .int (nI 5)), (5, .int (nI 2)), (6, .int (nI 3))] [.int (nI (pfg y 2)), .int (nI (pfg x 3)), .int (nI ((pfg x 2) * (pfg y 3))), .int (nI 5), .ref (p + 1)] (fw T (g2 (g2 (g2 (g2 (g2 G (p + 1) 0 ((nI (md (plz x y 0 1) q)))) (p + 1) 1 ((nI (md (plz x y 0 2) q)))) (p + 1) 2 ((nI (md (plz x y 0 3) q)))) (p + 1) 3 ((nI (md (plz x y 1 2) q)))) (p + 1) 4 ((nI (md (plz x y 1 3) q)))) L) none 0 0
                                    refine fn_imul dX5_span_62 ?_
                                    refine fn_isubZ (a := (((pfg x 2) * (pfg y 3) : Nat) : Int)) (b := (((pfg x 3) * (pfg y 2) : Nat) : Int)) dX5_span_63 ?_
                                    refine fn_to (show _ = (iI (plz x y 2 3)) from rfl) ?_
                                    have hz := plz_b x y 2 3
                                    refine fx_iload_n dX5_span_64 rfl (i := 3) rfl ?_
                                    refine fn_cS dX5_span_65 lk5_23 (C5_rest (a := plz x y 2 3) (b := q) (by omega) (by omega) (by omega) (by omega) (f := (fw T (g2 (g2 (g2 (g2 (g2 G (p + 1) 0 ((nI (md (plz x y 0 1) q)))) (p + 1) 1 ((nI (md (plz x y 0 2) q)))) (p + 1) 2 ((nI (md (plz x y 0 3) q)))) (p + 1) 3 ((nI (md (plz x y 1 2) q)))) (p + 1) 4 ((nI (md (plz x y 1 3) q)))) L))) rfl rfl (by decide) (Nat.le_of_ble_eq_true rfl) ?_
                                    show fv_At Y5_span 3 0 0 Q 68 [(0, .ref p), (1, .int (nI x)), (2, .int (nI y)), (3, .int (nI q)), (4, .int (nI 5)), (5, .int (nI 2)), (6, .int (nI 3))] [.int (nI (md (plz x y 2 3) q)), .int (nI 5), .ref (p + 1)] (fw T (g2 (g2 (g2 (g2 (g2 G (p + 1) 0 ((nI (md (plz x y 0 1) q)))) (p + 1) 1 ((nI (md (plz x y 0 2) q)))) (p + 1) 2 ((nI (md (plz x y 0 3) q)))) (p + 1) 3 ((nI (md (plz x y 1 2) q)))) (p + 1) 4 ((nI (md (plz x y 1 3) q)))) L) none 0 0
                                    refine fw_iast 5 dX5_span_68 hp1 rfl (by omega) (by decide) ?_
                                    refine fn_iinc (c := 1) (lv2 := [(0, .ref p), (1, .int (nI x)), (2, .int (nI y)), (3, .int (nI q)), (4, .int (nI 6)), (5, .int (nI 2)), (6, .int (nI 3))]) dX5_span_69 (by decide) rfl (by decide) rfl ?_
                                    refine fn_iinc (c := 1) (lv2 := [(0, .ref p), (1, .int (nI x)), (2, .int (nI y)), (3, .int (nI q)), (4, .int (nI 6)), (5, .int (nI 2)), (6, .int (nI 4))]) dX5_span_72 (by decide) rfl (by decide) rfl ?_
                                    refine fx_goto (tgt := 18) dX5_span_75 (by decide) ?_
                                    refine fx_iload dX5_span_18 rfl ?_
                                    refine fx_iconst (v := (nI 4)) dX5_span_20 (by decide) ?_
                                    refine fn_icmp_ge (tgt := 78) dX5_span_21 (by decide) (by omega) (by omega) (fun c21 => ?_) (fun c21 => ?_)
                                    · skip
                                      refine fn_iinc (c := 1) (lv2 := [(0, .ref p), (1, .int (nI x)), (2, .int (nI y)), (3, .int (nI q)), (4, .int (nI 6)), (5, .int (nI 3)), (6, .int (nI 4))]) dX5_span_78 (by decide) rfl (by decide) rfl ?_
                                      refine fx_goto (tgt := 6) dX5_span_81 (by decide) ?_
                                      refine fx_iload dX5_span_6 rfl ?_
                                      refine fx_iconst (v := (nI 3)) dX5_span_8 (by decide) ?_
                                      refine fn_icmp_ge (tgt := 84) dX5_span_9 (by decide) (by omega) (by omega) (fun c9 => ?_) (fun c9 => ?_)
                                      · skip
                                        have e6 : g2 (g2 (g2 (g2 (g2 (g2 G (p + 1) 0 ((nI (md (plz x y 0 1) q)))) (p + 1) 1 ((nI (md (plz x y 0 2) q)))) (p + 1) 2 ((nI (md (plz x y 0 3) q)))) (p + 1) 3 ((nI (md (plz x y 1 2) q)))) (p + 1) 4 ((nI (md (plz x y 1 3) q)))) (p + 1) 5 ((nI (md (plz x y 2 3) q))) = w6 G (p + 1) 6 (plk x y q) := w6_6 G (p + 1) (plk x y q)
                                        rw [e6]
                                        refine fx_aload_n dX5_span_84 rfl (i := 0) rfl ?_
                                        refine fx_aload_n dX5_span_85 rfl (i := 0) rfl ?_
                                        refine fx_iload_n dX5_span_86 rfl (i := 3) rfl ?_
                                        refine fn_cV dX5_span_87 lk5_26 fv_c3 rfl (fw_at hp) (C5_normalize T p hp hp1 (w6 G (p + 1) 6 (plk x y q)) L (plk x y q) (fun j hj => w6_at hj) q (fun j _ => md_lt _ hq0) hq0 hq) rfl rfl (by decide) (Nat.le_of_ble_eq_true rfl) ?_
                                        show fv_At Y5_span 3 0 0 Q 90 [(0, .ref p), (1, .int (nI x)), (2, .int (nI y)), (3, .int (nI q)), (4, .int (nI 6)), (5, .int (nI 3)), (6, .int (nI 4))] [.int (bI (decide (ldf (plk x y q) ≠ 0))), .ref p] (fw T (if ldf (plk x y q) = 0 then w6 G (p + 1) 6 (plk x y q) else w6 (w6 G (p + 1) 6 (plk x y q)) (p + 1) 6 (nrm q (plk x y q))) L) none 0 0
                                        have e7 : (if ldf (plk x y q) = 0 then w6 G (p + 1) 6 (plk x y q) else w6 (w6 G (p + 1) 6 (plk x y q)) (p + 1) 6 (nrm q (plk x y q))) = w6 G (p + 1) 6 (pln x y q) := lnr_w6 G (p + 1) q (plk x y q)
                                        rw [e7]
                                        refine fw_putz dX5_span_90 fd5_13 (bI_01 _) hp rfl ?_
                                        refine fx_aload_n dX5_span_93 rfl (i := 0) rfl ?_
                                        refine fw_geti dX5_span_94 fd5_13 hp rfl ?_
                                        refine fn_to (show _ = (bI (decide (ldf (plk x y q) ≠ 0))) from (g2_eq _ _ _ _)) ?_
                                        exact fx_zret dX5_span_97 rfl (bI_01 _) rfl rfl (by rw [hQ]; exact ⟨rfl, rfl, rfl⟩)
                                      · exfalso; omega
                                    · exfalso; omega
                            · exfalso; omega
                · exfalso; omega

/-- a line by the rests of its points, and whether it is there -/
def lnp (G : Nat → Nat → Int32) (p : Nat) (r : Nat → Nat) (t : Bool) : Nat → Nat → Int32 := g2 (w6 G (p + 1) 6 r) p 1 (bI t)
