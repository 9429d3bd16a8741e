/-- the point with its first 1 at a place, 0 at the hole, behind the 1 the figures of a number by q -/
def pfrl (q f : Nat) (h : Int) : Nat → Nat → Nat → Nat → Nat
  | 0, _, p, _ => p
  | k + 1, i, p, x => pfrl q f h k (i + 1) (p * 10 + (if f < i ∧ (i : Int) ≠ h then x % q else if i = f then 1 else 0)) (if f < i ∧ (i : Int) ≠ h then x / q else x)
def pfr (q f : Nat) (h : Int) (x : Nat) : Nat := pfrl q f h 4 0 0 x
theorem pfrl_b {q f : Nat} (h : Int) (hq : 0 < q ∧ q ≤ 5) : ∀ k i p x, pfrl q f h k i p x < (p + 1) * 10 ^ k
  | 0, _, p, _ => by show p < (p + 1) * 1; omega
  | k + 1, i, p, x => by
    refine Nat.lt_of_lt_of_le (pfrl_b h hq k (i + 1) _ _) ?_
    rw [Nat.pow_succ, ← Nat.mul_assoc, Nat.mul_right_comm]
    refine Nat.mul_le_mul_right _ ?_
    have := Nat.mod_lt x hq.1
    split
    · omega
    · split <;> omega
theorem pfr_b {q f : Nat} (h : Int) (x : Nat) (hq : 0 < q ∧ q ≤ 5) : pfr q f h x < 10000 := pfrl_b h hq 4 0 0 x

set_option maxRecDepth 4000 in
set_option maxHeartbeats 1000000 in
theorem C9_pointFrom  (G : Nat → Nat → Int32) (L : Nat → Nat → Int64) (q : Nat) (th : Nat → Bool) (rs : Nat → Nat → Nat) (hS : spc G q th rs) (f x : Nat) (h : Int) (hf : f < 100) (hx : x < 2147483648) (hh1 : -100 < h) (hh2 : h < 100) : fv_M Y9_pointFrom 0 0 0 [.ref 31, .int (nI f), .int (iI h), .int (nI x)] (fw cT G L) none (fv_eq (some (.int (nI (pfr q f h x)))) (fw cT G L)) := by
  refine fv_enter rfl (Nat.le_of_ble_eq_true rfl) ?_
  obtain ⟨Q, hQ⟩ : ∃ Q : Option Value → fv_F → Option Nat → Prop, Q = (fv_eq (some (.int (nI (pfr q f h x)))) (fw cT G L)) := ⟨_, rfl⟩
  rw [← hQ]
  show fv_At Y9_pointFrom 0 0 0 Q 0 [(0, .ref 31), (1, .int (nI f)), (2, .int (iI h)), (3, .int (nI x))] [] (fw cT G L) none 0 0
  have hq5 := spc_q hS
  refine fx_iconst (v := (nI 0)) dX9_pointFrom_0 (by decide) ?_
  refine fx_istore (lv2 := [(0, .ref 31), (1, .int (nI f)), (2, .int (iI h)), (3, .int (nI x)), (4, .int (nI 0))]) dX9_pointFrom_1 (by decide) rfl ?_
  refine fx_iload_n dX9_pointFrom_3 rfl (i := 3) rfl ?_
  refine fx_istore (lv2 := [(0, .ref 31), (1, .int (nI f)), (2, .int (iI h)), (3, .int (nI x)), (4, .int (nI 0)), (5, .int (nI x))]) dX9_pointFrom_4 (by decide) rfl ?_
  refine fx_iconst (v := (nI 0)) dX9_pointFrom_6 (by decide) ?_
  refine fx_istore (lv2 := [(0, .ref 31), (1, .int (nI f)), (2, .int (iI h)), (3, .int (nI x)), (4, .int (nI 0)), (5, .int (nI x)), (6, .int (nI 0))]) dX9_pointFrom_7 (by decide) rfl ?_
  have L9 : ∀ (k : Nat) (p : Nat) (y : Nat) (i : Nat), (i + k = 4) → (y < 2147483648) → (pfrl q f h k i p y = pfr q f h x) → fv_At Y9_pointFrom 0 0 0 Q 9 [(0, .ref 31), (1, .int (nI f)), (2, .int (iI h)), (3, .int (nI x)), (4, .int (nI p)), (5, .int (nI y)), (6, .int (nI i))] [] (fw cT G L) none 0 0 := by
    intro k
    induction k with
    | zero =>
      intro p y i hi hy hR
      refine fx_iload dX9_pointFrom_9 rfl ?_
      refine fx_iconst (v := (nI 4)) dX9_pointFrom_11 (by decide) ?_
      refine fn_icmp_ge (tgt := 81) dX9_pointFrom_12 (by decide) (by omega) (by omega) (fun c12 => ?_) (fun c12 => ?_)
      · skip
        refine fx_iload dX9_pointFrom_81 rfl ?_
        exact fx_iret dX9_pointFrom_83 rfl rfl rfl (by rw [hQ]; exact ⟨by rw [← hR]; rfl, rfl, rfl⟩)
      · exfalso; omega
    | succ k ih9 =>
      intro p y i hi hy hR
      refine fx_iload dX9_pointFrom_9 rfl ?_
      refine fx_iconst (v := (nI 4)) dX9_pointFrom_11 (by decide) ?_
      refine fn_icmp_ge (tgt := 81) dX9_pointFrom_12 (by decide) (by omega) (by omega) (fun c12 => ?_) (fun c12 => ?_)
      · exfalso; omega
      · skip
        refine fx_iload dX9_pointFrom_15 rfl ?_
        refine fx_iload_n dX9_pointFrom_17 rfl (i := 1) rfl ?_
        refine fn_icmp_ne (tgt := 25) dX9_pointFrom_18 (by decide) (by omega) (by omega) (fun c18 => ?_) (fun c18 => ?_)
        · skip
          refine fx_iconst (v := (nI 0)) dX9_pointFrom_25 (by decide) ?_
          refine fx_istore (lv2 := [(0, .ref 31), (1, .int (nI f)), (2, .int (iI h)), (3, .int (nI x)), (4, .int (nI p)), (5, .int (nI y)), (6, .int (nI i)), (7, .int (nI 0))]) dX9_pointFrom_26 (by decide) rfl ?_
          refine fx_iload dX9_pointFrom_28 rfl ?_
          refine fx_iload_n dX9_pointFrom_30 rfl (i := 1) rfl ?_
          refine fn_icmp_le (tgt := 65) dX9_pointFrom_31 (by decide) (by omega) (by omega) (fun c31 => ?_) (fun c31 => ?_)
          · skip
            refine fx_iload dX9_pointFrom_65 rfl ?_
            refine fx_bipush (v := (nI 10)) dX9_pointFrom_67 (by decide) ?_
            refine fn_imul dX9_pointFrom_69 ?_
            refine fx_iload dX9_pointFrom_70 rfl ?_
            refine fn_iadd dX9_pointFrom_72 ?_
            refine fx_istore (lv2 := [(0, .ref 31), (1, .int (nI f)), (2, .int (iI h)), (3, .int (nI x)), (4, .int (nI ((p * 10) + 0))), (5, .int (nI y)), (6, .int (nI i)), (7, .int (nI 0))]) dX9_pointFrom_73 (by decide) rfl ?_
            refine fn_iinc (c := 1) (lv2 := [(0, .ref 31), (1, .int (nI f)), (2, .int (iI h)), (3, .int (nI x)), (4, .int (nI ((p * 10) + 0))), (5, .int (nI y)), (6, .int (nI (i + 1))), (7, .int (nI 0))]) dX9_pointFrom_75 (by decide) rfl (by decide) rfl ?_
            refine fx_goto (tgt := 9) dX9_pointFrom_78 (by decide) ?_
            exact fn_sub [0, 1, 2, 3, 4, 5, 6] rfl (ih9 ((p * 10) + 0) y (i + 1) (by omega) (by first | assumption | exact Nat.lt_of_le_of_lt (Nat.div_le_self _ _) hy) (by rw [← hR, pfrl]; repeat' split; all_goals first | rfl | (exfalso; omega)))
          · skip
            refine fx_iload dX9_pointFrom_34 rfl ?_
            refine fx_iload_n dX9_pointFrom_36 rfl (i := 2) rfl ?_
            refine fn_icmp_eqZ (a := ((i : Nat) : Int)) (b := h) (tgt := 65) dX9_pointFrom_37 (by decide) (by omega) (by omega) (by omega) (by omega) (fun c37 => ?_) (fun c37 => ?_)
            · skip
              refine fx_iload dX9_pointFrom_65 rfl ?_
              refine fx_bipush (v := (nI 10)) dX9_pointFrom_67 (by decide) ?_
              refine fn_imul dX9_pointFrom_69 ?_
              refine fx_iload dX9_pointFrom_70 rfl ?_
              refine fn_iadd dX9_pointFrom_72 ?_
              refine fx_istore (lv2 := [(0, .ref 31), (1, .int (nI f)), (2, .int (iI h)), (3, .int (nI x)), (4, .int (nI ((p * 10) + 0))), (5, .int (nI y)), (6, .int (nI i)), (7, .int (nI 0))]) dX9_pointFrom_73 (by decide) rfl ?_
              refine fn_iinc (c := 1) (lv2 := [(0, .ref 31), (1, .int (nI f)), (2, .int (iI h)), (3, .int (nI x)), (4, .int (nI ((p * 10) + 0))), (5, .int (nI y)), (6, .int (nI (i + 1))), (7, .int (nI 0))]) dX9_pointFrom_75 (by decide) rfl (by decide) rfl ?_
              refine fx_goto (tgt := 9) dX9_pointFrom_78 (by decide) ?_
              exact fn_sub [0, 1, 2, 3, 4, 5, 6] rfl (ih9 ((p * 10) + 0) y (i + 1) (by omega) (by first | assumption | exact Nat.lt_of_le_of_lt (Nat.div_le_self _ _) hy) (by rw [← hR, pfrl]; repeat' split; all_goals first | rfl | (exfalso; omega)))
            · skip
              refine fx_aload_n dX9_pointFrom_40 rfl (i := 0) rfl ?_
              refine fw_geti dX9_pointFrom_41 fd9_22 rfl rfl ?_
              refine fn_to (show _ = (nI q) from hS.1) ?_
              refine fn_if_le (tgt := 65) dX9_pointFrom_44 (by decide) (by omega) (fun c44 => ?_) (fun c44 => ?_)
              · exfalso; omega
              · skip
                skip
                refine fx_iload dX9_pointFrom_47 rfl ?_
                refine fx_aload_n dX9_pointFrom_49 rfl (i := 0) rfl ?_
                refine fw_geti dX9_pointFrom_50 fd9_22 rfl rfl ?_
                refine fn_to (show _ = (nI q) from hS.1) ?_
                refine fn_irem dX9_pointFrom_53 (by omega) (by omega) (by omega) ?_
                refine fx_istore (lv2 := [(0, .ref 31), (1, .int (nI f)), (2, .int (iI h)), (3, .int (nI x)), (4, .int (nI p)), (5, .int (nI y)), (6, .int (nI i)), (7, .int (nI (y % q)))]) dX9_pointFrom_54 (by decide) rfl ?_
                refine fx_iload dX9_pointFrom_56 rfl ?_
                refine fx_aload_n dX9_pointFrom_58 rfl (i := 0) rfl ?_
                refine fw_geti dX9_pointFrom_59 fd9_22 rfl rfl ?_
                refine fn_to (show _ = (nI q) from hS.1) ?_
                refine fn_idiv dX9_pointFrom_62 (by omega) (by omega) (by omega) ?_
                refine fx_istore (lv2 := [(0, .ref 31), (1, .int (nI f)), (2, .int (iI h)), (3, .int (nI x)), (4, .int (nI p)), (5, .int (nI (y / q))), (6, .int (nI i)), (7, .int (nI (y % q)))]) dX9_pointFrom_63 (by decide) rfl ?_
                refine fx_iload dX9_pointFrom_65 rfl ?_
                refine fx_bipush (v := (nI 10)) dX9_pointFrom_67 (by decide) ?_
                refine fn_imul dX9_pointFrom_69 ?_
                refine fx_iload dX9_pointFrom_70 rfl ?_
                refine fn_iadd dX9_pointFrom_72 ?_
                refine fx_istore (lv2 := [(0, .ref 31), (1, .int (nI f)), (2, .int (iI h)), (3, .int (nI x)), (4, .int (nI ((p * 10) + (y % q)))), (5, .int (nI (y / q))), (6, .int (nI i)), (7, .int (nI (y % q)))]) dX9_pointFrom_73 (by decide) rfl ?_
                refine fn_iinc (c := 1) (lv2 := [(0, .ref 31), (1, .int (nI f)), (2, .int (iI h)), (3, .int (nI x)), (4, .int (nI ((p * 10) + (y % q)))), (5, .int (nI (y / q))), (6, .int (nI (i + 1))), (7, .int (nI (y % q)))]) dX9_pointFrom_75 (by decide) rfl (by decide) rfl ?_
                refine fx_goto (tgt := 9) dX9_pointFrom_78 (by decide) ?_
                exact fn_sub [0, 1, 2, 3, 4, 5, 6] rfl (ih9 ((p * 10) + (y % q)) (y / q) (i + 1) (by omega) (by first | assumption | exact Nat.lt_of_le_of_lt (Nat.div_le_self _ _) hy) (by rw [← hR, pfrl]; repeat' split; all_goals first | rfl | (exfalso; omega)))
        · skip
          refine fx_iconst (v := (nI 1)) dX9_pointFrom_21 (by decide) ?_
          refine fx_goto (tgt := 26) dX9_pointFrom_22 (by decide) ?_
          refine fx_istore (lv2 := [(0, .ref 31), (1, .int (nI f)), (2, .int (iI h)), (3, .int (nI x)), (4, .int (nI p)), (5, .int (nI y)), (6, .int (nI i)), (7, .int (nI 1))]) dX9_pointFrom_26 (by decide) rfl ?_
          refine fx_iload dX9_pointFrom_28 rfl ?_
          refine fx_iload_n dX9_pointFrom_30 rfl (i := 1) rfl ?_
          refine fn_icmp_le (tgt := 65) dX9_pointFrom_31 (by decide) (by omega) (by omega) (fun c31 => ?_) (fun c31 => ?_)
          · skip
            refine fx_iload dX9_pointFrom_65 rfl ?_
            refine fx_bipush (v := (nI 10)) dX9_pointFrom_67 (by decide) ?_
            refine fn_imul dX9_pointFrom_69 ?_
            refine fx_iload dX9_pointFrom_70 rfl ?_
            refine fn_iadd dX9_pointFrom_72 ?_
            refine fx_istore (lv2 := [(0, .ref 31), (1, .int (nI f)), (2, .int (iI h)), (3, .int (nI x)), (4, .int (nI ((p * 10) + 1))), (5, .int (nI y)), (6, .int (nI i)), (7, .int (nI 1))]) dX9_pointFrom_73 (by decide) rfl ?_
            refine fn_iinc (c := 1) (lv2 := [(0, .ref 31), (1, .int (nI f)), (2, .int (iI h)), (3, .int (nI x)), (4, .int (nI ((p * 10) + 1))), (5, .int (nI y)), (6, .int (nI (i + 1))), (7, .int (nI 1))]) dX9_pointFrom_75 (by decide) rfl (by decide) rfl ?_
            refine fx_goto (tgt := 9) dX9_pointFrom_78 (by decide) ?_
            exact fn_sub [0, 1, 2, 3, 4, 5, 6] rfl (ih9 ((p * 10) + 1) y (i + 1) (by omega) (by first | assumption | exact Nat.lt_of_le_of_lt (Nat.div_le_self _ _) hy) (by rw [← hR, pfrl]; repeat' split; all_goals first | rfl | (exfalso; omega)))
          · skip
            refine fx_iload dX9_pointFrom_34 rfl ?_
            refine fx_iload_n dX9_pointFrom_36 rfl (i := 2) rfl ?_
            refine fn_icmp_eqZ (a := ((i : Nat) : Int)) (b := h) (tgt := 65) dX9_pointFrom_37 (by decide) (by omega) (by omega) (by omega) (by omega) (fun c37 => ?_) (fun c37 => ?_)
            · skip
              refine fx_iload dX9_pointFrom_65 rfl ?_
              refine fx_bipush (v := (nI 10)) dX9_pointFrom_67 (by decide) ?_
              refine fn_imul dX9_pointFrom_69 ?_
              refine fx_iload dX9_pointFrom_70 rfl ?_
              refine fn_iadd dX9_pointFrom_72 ?_
              refine fx_istore (lv2 := [(0, .ref 31), (1, .int (nI f)), (2, .int (iI h)), (3, .int (nI x)), (4, .int (nI ((p * 10) + 1))), (5, .int (nI y)), (6, .int (nI i)), (7, .int (nI 1))]) dX9_pointFrom_73 (by decide) rfl ?_
              refine fn_iinc (c := 1) (lv2 := [(0, .ref 31), (1, .int (nI f)), (2, .int (iI h)), (3, .int (nI x)), (4, .int (nI ((p * 10) + 1))), (5, .int (nI y)), (6, .int (nI (i + 1))), (7, .int (nI 1))]) dX9_pointFrom_75 (by decide) rfl (by decide) rfl ?_
              refine fx_goto (tgt := 9) dX9_pointFrom_78 (by decide) ?_
              exact fn_sub [0, 1, 2, 3, 4, 5, 6] rfl (ih9 ((p * 10) + 1) y (i + 1) (by omega) (by first | assumption | exact Nat.lt_of_le_of_lt (Nat.div_le_self _ _) hy) (by rw [← hR, pfrl]; repeat' split; all_goals first | rfl | (exfalso; omega)))
            · skip
              refine fx_aload_n dX9_pointFrom_40 rfl (i := 0) rfl ?_
              refine fw_geti dX9_pointFrom_41 fd9_22 rfl rfl ?_
              refine fn_to (show _ = (nI q) from hS.1) ?_
              refine fn_if_le (tgt := 65) dX9_pointFrom_44 (by decide) (by omega) (fun c44 => ?_) (fun c44 => ?_)
              · exfalso; omega
              · skip
                skip
                refine fx_iload dX9_pointFrom_47 rfl ?_
                refine fx_aload_n dX9_pointFrom_49 rfl (i := 0) rfl ?_
                refine fw_geti dX9_pointFrom_50 fd9_22 rfl rfl ?_
                refine fn_to (show _ = (nI q) from hS.1) ?_
                refine fn_irem dX9_pointFrom_53 (by omega) (by omega) (by omega) ?_
                refine fx_istore (lv2 := [(0, .ref 31), (1, .int (nI f)), (2, .int (iI h)), (3, .int (nI x)), (4, .int (nI p)), (5, .int (nI y)), (6, .int (nI i)), (7, .int (nI (y % q)))]) dX9_pointFrom_54 (by decide) rfl ?_
                refine fx_iload dX9_pointFrom_56 rfl ?_
                refine fx_aload_n dX9_pointFrom_58 rfl (i := 0) rfl ?_
                refine fw_geti dX9_pointFrom_59 fd9_22 rfl rfl ?_
                refine fn_to (show _ = (nI q) from hS.1) ?_
                refine fn_idiv dX9_pointFrom_62 (by omega) (by omega) (by omega) ?_
                refine fx_istore (lv2 := [(0, .ref 31), (1, .int (nI f)), (2, .int (iI h)), (3, .int (nI x)), (4, .int (nI p)), (5, .int (nI (y / q))), (6, .int (nI i)), (7, .int (nI (y % q)))]) dX9_pointFrom_63 (by decide) rfl ?_
                refine fx_iload dX9_pointFrom_65 rfl ?_
                refine fx_bipush (v := (nI 10)) dX9_pointFrom_67 (by decide) ?_
                refine fn_imul dX9_pointFrom_69 ?_
                refine fx_iload dX9_pointFrom_70 rfl ?_
                refine fn_iadd dX9_pointFrom_72 ?_
                refine fx_istore (lv2 := [(0, .ref 31), (1, .int (nI f)), (2, .int (iI h)), (3, .int (nI x)), (4, .int (nI ((p * 10) + (y % q)))), (5, .int (nI (y / q))), (6, .int (nI i)), (7, .int (nI (y % q)))]) dX9_pointFrom_73 (by decide) rfl ?_
                refine fn_iinc (c := 1) (lv2 := [(0, .ref 31), (1, .int (nI f)), (2, .int (iI h)), (3, .int (nI x)), (4, .int (nI ((p * 10) + (y % q)))), (5, .int (nI (y / q))), (6, .int (nI (i + 1))), (7, .int (nI (y % q)))]) dX9_pointFrom_75 (by decide) rfl (by decide) rfl ?_
                refine fx_goto (tgt := 9) dX9_pointFrom_78 (by decide) ?_
                exact fn_sub [0, 1, 2, 3, 4, 5, 6] rfl (ih9 ((p * 10) + (y % q)) (y / q) (i + 1) (by omega) (by first | assumption | exact Nat.lt_of_le_of_lt (Nat.div_le_self _ _) hy) (by rw [← hR, pfrl]; repeat' split; all_goals first | rfl | (exfalso; omega)))
  exact (L9 4 0 x 0 (by omega) (by omega) rfl)

def ponI (rs : Nat → Nat → Nat) (q f b : Nat) : Nat → Nat → Nat → Nat
  | 0, _, c => c
  | k + 1, x, c => ponI rs q f b k (x + 1) (if ono rs q (pfr q f (-1) x) b 8 0 = true then c + 1 else c)
/-- how many points are on a told rod -/
def pon (rs : Nat → Nat → Nat) (q b : Nat) : Nat := ponI rs q 3 b (q ^ 0) 0 (ponI rs q 2 b (q ^ 1) 0 (ponI rs q 1 b (q ^ 2) 0 (ponI rs q 0 b (q ^ 3) 0 0)))
theorem powq {q : Nat} (h : 0 < q ∧ q ≤ 5) {e : Nat} (he : e ≤ 3) : q ^ e ≤ 125 := Nat.le_trans (Nat.pow_le_pow_left h.2 e) (Nat.pow_le_pow_right (n := 5) (by decide) he)

set_option maxRecDepth 4000 in
set_option maxHeartbeats 1000000 in
theorem C9_pointsOn  (G : Nat → Nat → Int32) (L : Nat → Nat → Int64) (q : Nat) (th : Nat → Bool) (rs : Nat → Nat → Nat) (hS : spc G q th rs) (b : Nat) (hb : b < 256) (hth : ∀ r, r < 8 → btd b r = true → th r = true) : fv_M Y9_pointsOn 4 0 0 [.ref 31, .int (nI b)] (fw cT G L) none (fv_eq (some (.int (nI (pon rs q b)))) (fw cT G L)) := by
  refine fv_enter rfl (Nat.le_of_ble_eq_true rfl) ?_
  obtain ⟨Q, hQ⟩ : ∃ Q : Option Value → fv_F → Option Nat → Prop, Q = (fv_eq (some (.int (nI (pon rs q b)))) (fw cT G L)) := ⟨_, rfl⟩
  rw [← hQ]
  show fv_At Y9_pointsOn 4 0 0 Q 0 [(0, .ref 31), (1, .int (nI b))] [] (fw cT G L) none 0 0
  have hq5 := spc_q hS
  refine fx_iconst (v := (nI 0)) dX9_pointsOn_0 (by decide) ?_
  refine fx_istore_n (lv2 := [(0, .ref 31), (1, .int (nI b)), (2, .int (nI 0))]) dX9_pointsOn_1 (i := 2) rfl (by decide) rfl ?_
  refine fx_iconst (v := (nI 0)) dX9_pointsOn_2 (by decide) ?_
  refine fx_istore_n (lv2 := [(0, .ref 31), (1, .int (nI b)), (2, .int (nI 0)), (3, .int (nI 0))]) dX9_pointsOn_3 (i := 3) rfl (by decide) rfl ?_
  refine fx_iload_n dX9_pointsOn_4 rfl (i := 3) rfl ?_
  refine fx_iconst (v := (nI 4)) dX9_pointsOn_5 (by decide) ?_
  refine fn_icmp_ge (tgt := 62) dX9_pointsOn_6 (by decide) (by omega) (by omega) (fun c6 => ?_) (fun c6 => ?_)
  · exfalso; omega
  · skip
    refine fx_aload_n dX9_pointsOn_9 rfl (i := 0) rfl ?_
    refine fw_geti dX9_pointsOn_10 fd9_22 rfl rfl ?_
    refine fn_to (show _ = (nI q) from hS.1) ?_
    refine fx_iconst (v := (nI 3)) dX9_pointsOn_13 (by decide) ?_
    refine fx_iload_n dX9_pointsOn_14 rfl (i := 3) rfl ?_
    refine fn_isub dX9_pointsOn_15 (by omega) ?_
    refine fn_cS dX9_pointsOn_16 lk9_32 (C3_power (b := q) (k := 3) (by omega) (f := (fw cT G L))) rfl rfl (by decide) (Nat.le_of_ble_eq_true rfl) ?_
    show fv_At Y9_pointsOn 4 0 0 Q 19 [(0, .ref 31), (1, .int (nI b)), (2, .int (nI 0)), (3, .int (nI 0))] [.int (nI (q ^ 3))] (fw cT G L) none 0 0
    have hpw := powq hq5 (e := 3) (by decide)
    refine fx_istore (lv2 := [(0, .ref 31), (1, .int (nI b)), (2, .int (nI 0)), (3, .int (nI 0)), (4, .int (nI (q ^ 3)))]) dX9_pointsOn_19 (by decide) rfl ?_
    refine fx_iconst (v := (nI 0)) dX9_pointsOn_21 (by decide) ?_
    refine fx_istore (lv2 := [(0, .ref 31), (1, .int (nI b)), (2, .int (nI 0)), (3, .int (nI 0)), (4, .int (nI (q ^ 3))), (5, .int (nI 0))]) dX9_pointsOn_22 (by decide) rfl ?_
    have L24 : ∀ (k : Nat) (c0 : Nat) (x : Nat), (x + k = q ^ 3) → (ponI rs q 0 b k x c0 = ponI rs q 0 b (q ^ 3) 0 0) → fv_At Y9_pointsOn 4 0 0 Q 24 [(0, .ref 31), (1, .int (nI b)), (2, .int (nI c0)), (3, .int (nI 0)), (4, .int (nI (q ^ 3))), (5, .int (nI x))] [] (fw cT G L) none 0 0 := by
      intro k
      induction k with
      | zero =>
        intro c0 x hx hR0
        refine fx_iload dX9_pointsOn_24 rfl ?_
        refine fx_iload dX9_pointsOn_26 rfl ?_
        refine fn_icmp_ge (tgt := 56) dX9_pointsOn_28 (by decide) (by omega) (by omega) (fun c28 => ?_) (fun c28 => ?_)
        · skip
          refine fn_iinc (c := 1) (lv2 := [(0, .ref 31), (1, .int (nI b)), (2, .int (nI c0)), (3, .int (nI 1)), (4, .int (nI (q ^ 3))), (5, .int (nI x))]) dX9_pointsOn_56 (by decide) rfl (by decide) rfl ?_
          refine fx_goto (tgt := 4) dX9_pointsOn_59 (by decide) ?_
          refine fx_iload_n dX9_pointsOn_4 rfl (i := 3) rfl ?_
          refine fx_iconst (v := (nI 4)) dX9_pointsOn_5 (by decide) ?_
          refine fn_icmp_ge (tgt := 62) dX9_pointsOn_6 (by decide) (by omega) (by omega) (fun c6 => ?_) (fun c6 => ?_)
          · exfalso; omega
          · skip
            refine fx_aload_n dX9_pointsOn_9 rfl (i := 0) rfl ?_
            refine fw_geti dX9_pointsOn_10 fd9_22 rfl rfl ?_
            refine fn_to (show _ = (nI q) from hS.1) ?_
            refine fx_iconst (v := (nI 3)) dX9_pointsOn_13 (by decide) ?_
            refine fx_iload_n dX9_pointsOn_14 rfl (i := 3) rfl ?_
            refine fn_isub dX9_pointsOn_15 (by omega) ?_
            refine fn_cS dX9_pointsOn_16 lk9_32 (C3_power (b := q) (k := 2) (by omega) (f := (fw cT G L))) rfl rfl (by decide) (Nat.le_of_ble_eq_true rfl) ?_
            show fv_At Y9_pointsOn 4 0 0 Q 19 [(0, .ref 31), (1, .int (nI b)), (2, .int (nI c0)), (3, .int (nI 1)), (4, .int (nI (q ^ 3))), (5, .int (nI x))] [.int (nI (q ^ 2))] (fw cT G L) none 0 0
            have hpw := powq hq5 (e := 2) (by decide)
            refine fx_istore (lv2 := [(0, .ref 31), (1, .int (nI b)), (2, .int (nI c0)), (3, .int (nI 1)), (4, .int (nI (q ^ 2))), (5, .int (nI x))]) dX9_pointsOn_19 (by decide) rfl ?_
            refine fx_iconst (v := (nI 0)) dX9_pointsOn_21 (by decide) ?_
            refine fx_istore (lv2 := [(0, .ref 31), (1, .int (nI b)), (2, .int (nI c0)), (3, .int (nI 1)), (4, .int (nI (q ^ 2))), (5, .int (nI 0))]) dX9_pointsOn_22 (by decide) rfl ?_
            have L24 : ∀ (k : Nat) (c1 : Nat) (x : Nat), (x + k = q ^ 2) → (ponI rs q 1 b k x c1 = ponI rs q 1 b (q ^ 2) 0 c0) → fv_At Y9_pointsOn 4 0 0 Q 24 [(0, .ref 31), (1, .int (nI b)), (2, .int (nI c1)), (3, .int (nI 1)), (4, .int (nI (q ^ 2))), (5, .int (nI x))] [] (fw cT G L) none 0 0 := by
              intro k
              induction k with
              | zero =>
                intro c1 x hx hR1
                refine fx_iload dX9_pointsOn_24 rfl ?_
                refine fx_iload dX9_pointsOn_26 rfl ?_
                refine fn_icmp_ge (tgt := 56) dX9_pointsOn_28 (by decide) (by omega) (by omega) (fun c28 => ?_) (fun c28 => ?_)
                · skip
                  refine fn_iinc (c := 1) (lv2 := [(0, .ref 31), (1, .int (nI b)), (2, .int (nI c1)), (3, .int (nI 2)), (4, .int (nI (q ^ 2))), (5, .int (nI x))]) dX9_pointsOn_56 (by decide) rfl (by decide) rfl ?_
                  refine fx_goto (tgt := 4) dX9_pointsOn_59 (by decide) ?_
                  refine fx_iload_n dX9_pointsOn_4 rfl (i := 3) rfl ?_
                  refine fx_iconst (v := (nI 4)) dX9_pointsOn_5 (by decide) ?_
                  refine fn_icmp_ge (tgt := 62) dX9_pointsOn_6 (by decide) (by omega) (by omega) (fun c6 => ?_) (fun c6 => ?_)
                  · exfalso; omega
                  · skip
                    refine fx_aload_n dX9_pointsOn_9 rfl (i := 0) rfl ?_
                    refine fw_geti dX9_pointsOn_10 fd9_22 rfl rfl ?_
                    refine fn_to (show _ = (nI q) from hS.1) ?_
                    refine fx_iconst (v := (nI 3)) dX9_pointsOn_13 (by decide) ?_
                    refine fx_iload_n dX9_pointsOn_14 rfl (i := 3) rfl ?_
                    refine fn_isub dX9_pointsOn_15 (by omega) ?_
                    refine fn_cS dX9_pointsOn_16 lk9_32 (C3_power (b := q) (k := 1) (by omega) (f := (fw cT G L))) rfl rfl (by decide) (Nat.le_of_ble_eq_true rfl) ?_
                    show fv_At Y9_pointsOn 4 0 0 Q 19 [(0, .ref 31), (1, .int (nI b)), (2, .int (nI c1)), (3, .int (nI 2)), (4, .int (nI (q ^ 2))), (5, .int (nI x))] [.int (nI (q ^ 1))] (fw cT G L) none 0 0
                    have hpw := powq hq5 (e := 1) (by decide)
                    refine fx_istore (lv2 := [(0, .ref 31), (1, .int (nI b)), (2, .int (nI c1)), (3, .int (nI 2)), (4, .int (nI (q ^ 1))), (5, .int (nI x))]) dX9_pointsOn_19 (by decide) rfl ?_
                    refine fx_iconst (v := (nI 0)) dX9_pointsOn_21 (by decide) ?_
                    refine fx_istore (lv2 := [(0, .ref 31), (1, .int (nI b)), (2, .int (nI c1)), (3, .int (nI 2)), (4, .int (nI (q ^ 1))), (5, .int (nI 0))]) dX9_pointsOn_22 (by decide) rfl ?_
                    have L24 : ∀ (k : Nat) (c2 : Nat) (x : Nat), (x + k = q ^ 1) → (ponI rs q 2 b k x c2 = ponI rs q 2 b (q ^ 1) 0 c1) → fv_At Y9_pointsOn 4 0 0 Q 24 [(0, .ref 31), (1, .int (nI b)), (2, .int (nI c2)), (3, .int (nI 2)), (4, .int (nI (q ^ 1))), (5, .int (nI x))] [] (fw cT G L) none 0 0 := by
                      intro k
                      induction k with
                      | zero =>
                        intro c2 x hx hR2
                        refine fx_iload dX9_pointsOn_24 rfl ?_
                        refine fx_iload dX9_pointsOn_26 rfl ?_
                        refine fn_icmp_ge (tgt := 56) dX9_pointsOn_28 (by decide) (by omega) (by omega) (fun c28 => ?_) (fun c28 => ?_)
                        · skip
                          refine fn_iinc (c := 1) (lv2 := [(0, .ref 31), (1, .int (nI b)), (2, .int (nI c2)), (3, .int (nI 3)), (4, .int (nI (q ^ 1))), (5, .int (nI x))]) dX9_pointsOn_56 (by decide) rfl (by decide) rfl ?_
                          refine fx_goto (tgt := 4) dX9_pointsOn_59 (by decide) ?_
                          refine fx_iload_n dX9_pointsOn_4 rfl (i := 3) rfl ?_
                          refine fx_iconst (v := (nI 4)) dX9_pointsOn_5 (by decide) ?_
                          refine fn_icmp_ge (tgt := 62) dX9_pointsOn_6 (by decide) (by omega) (by omega) (fun c6 => ?_) (fun c6 => ?_)
                          · exfalso; omega
                          · skip
                            refine fx_aload_n dX9_pointsOn_9 rfl (i := 0) rfl ?_
                            refine fw_geti dX9_pointsOn_10 fd9_22 rfl rfl ?_
                            refine fn_to (show _ = (nI q) from hS.1) ?_
                            refine fx_iconst (v := (nI 3)) dX9_pointsOn_13 (by decide) ?_
                            refine fx_iload_n dX9_pointsOn_14 rfl (i := 3) rfl ?_
                            refine fn_isub dX9_pointsOn_15 (by omega) ?_
                            refine fn_cS dX9_pointsOn_16 lk9_32 (C3_power (b := q) (k := 0) (by omega) (f := (fw cT G L))) rfl rfl (by decide) (Nat.le_of_ble_eq_true rfl) ?_
                            show fv_At Y9_pointsOn 4 0 0 Q 19 [(0, .ref 31), (1, .int (nI b)), (2, .int (nI c2)), (3, .int (nI 3)), (4, .int (nI (q ^ 1))), (5, .int (nI x))] [.int (nI (q ^ 0))] (fw cT G L) none 0 0
                            have hpw := powq hq5 (e := 0) (by decide)
                            refine fx_istore (lv2 := [(0, .ref 31), (1, .int (nI b)), (2, .int (nI c2)), (3, .int (nI 3)), (4, .int (nI (q ^ 0))), (5, .int (nI x))]) dX9_pointsOn_19 (by decide) rfl ?_
                            refine fx_iconst (v := (nI 0)) dX9_pointsOn_21 (by decide) ?_
                            refine fx_istore (lv2 := [(0, .ref 31), (1, .int (nI b)), (2, .int (nI c2)), (3, .int (nI 3)), (4, .int (nI (q ^ 0))), (5, .int (nI 0))]) dX9_pointsOn_22 (by decide) rfl ?_
                            have L24 : ∀ (k : Nat) (c3 : Nat) (x : Nat), (x + k = q ^ 0) → (ponI rs q 3 b k x c3 = ponI rs q 3 b (q ^ 0) 0 c2) → fv_At Y9_pointsOn 4 0 0 Q 24 [(0, .ref 31), (1, .int (nI b)), (2, .int (nI c3)), (3, .int (nI 3)), (4, .int (nI (q ^ 0))), (5, .int (nI x))] [] (fw cT G L) none 0 0 := by
                              intro k
                              induction k with
                              | zero =>
                                intro c3 x hx hR3
                                refine fx_iload dX9_pointsOn_24 rfl ?_
                                refine fx_iload dX9_pointsOn_26 rfl ?_
                                refine fn_icmp_ge (tgt := 56) dX9_pointsOn_28 (by decide) (by omega) (by omega) (fun c28 => ?_) (fun c28 => ?_)
                                · skip
                                  refine fn_iinc (c := 1) (lv2 := [(0, .ref 31), (1, .int (nI b)), (2, .int (nI c3)), (3, .int (nI 4)), (4, .int (nI (q ^ 0))), (5, .int (nI x))]) dX9_pointsOn_56 (by decide) rfl (by decide) rfl ?_
                                  refine fx_goto (tgt := 4) dX9_pointsOn_59 (by decide) ?_
                                  refine fx_iload_n dX9_pointsOn_4 rfl (i := 3) rfl ?_
                                  refine fx_iconst (v := (nI 4)) dX9_pointsOn_5 (by decide) ?_
                                  refine fn_icmp_ge (tgt := 62) dX9_pointsOn_6 (by decide) (by omega) (by omega) (fun c6 => ?_) (fun c6 => ?_)
                                  · skip
                                    refine fx_iload_n dX9_pointsOn_62 rfl (i := 2) rfl ?_
                                    exact fx_iret dX9_pointsOn_63 rfl rfl rfl (by rw [hQ]; exact ⟨by unfold pon; have e0 : c0 = _ := hR0; have e1 : c1 = _ := hR1; have e2 : c2 = _ := hR2; have e3 : c3 = _ := hR3; rw [← e0, ← e1, ← e2, ← e3], rfl, rfl⟩)
                                  · exfalso; omega
                                · exfalso; omega
                              | succ k ih24 =>
                                intro c3 x hx hR3
                                refine fx_iload dX9_pointsOn_24 rfl ?_
                                refine fx_iload dX9_pointsOn_26 rfl ?_
                                refine fn_icmp_ge (tgt := 56) dX9_pointsOn_28 (by decide) (by omega) (by omega) (fun c28 => ?_) (fun c28 => ?_)
                                · exfalso; omega
                                · skip
                                  refine fx_aload_n dX9_pointsOn_31 rfl (i := 0) rfl ?_
                                  refine fx_aload_n dX9_pointsOn_32 rfl (i := 0) rfl ?_
                                  refine fx_iload_n dX9_pointsOn_33 rfl (i := 3) rfl ?_
                                  refine fx_iconst (v := (iI (-1))) dX9_pointsOn_34 (by decide) ?_
                                  refine fx_iload dX9_pointsOn_35 rfl ?_
                                  refine fn_cV dX9_pointsOn_37 lk9_73 fv_c6 rfl (fw_at (show cT 31 = some (3, 6, 3, [some 32, some 33, none]) from rfl)) (C9_pointFrom G L q th rs hS (3) (x) (-1) (by omega) (by omega) (by omega) (by omega)) rfl rfl (by decide) (Nat.le_of_ble_eq_true rfl) ?_
                                  show fv_At Y9_pointsOn 4 0 0 Q 40 [(0, .ref 31), (1, .int (nI b)), (2, .int (nI c3)), (3, .int (nI 3)), (4, .int (nI (q ^ 0))), (5, .int (nI x))] [.int (nI (pfr q 3 (-1) x)), .ref 31] (fw cT G L) none 0 0
                                  refine fx_iload_n dX9_pointsOn_40 rfl (i := 1) rfl ?_
                                  refine fn_cV dX9_pointsOn_41 lk9_79 fv_c6 rfl (fw_at (show cT 31 = some (3, 6, 3, [some 32, some 33, none]) from rfl)) (C9_isOnOne G L q th rs hS b hb hth (pfr q 3 (-1) x) (by have := pfr_b (q := q) (f := 3) (-1) x (spc_q hS); omega)) rfl rfl (by decide) (Nat.le_of_ble_eq_true rfl) ?_
                                  show fv_At Y9_pointsOn 4 0 0 Q 44 [(0, .ref 31), (1, .int (nI b)), (2, .int (nI c3)), (3, .int (nI 3)), (4, .int (nI (q ^ 0))), (5, .int (nI x))] [.int (bI (ono rs q (pfr q 3 (-1) x) b 8 0))] (fw cT G L) none 0 0
                                  refine fn_if_eqB (tgt := 50) dX9_pointsOn_44 (by decide) (fun c44 => ?_) (fun c44 => ?_)
                                  · skip
                                    refine fn_iinc (c := 1) (lv2 := [(0, .ref 31), (1, .int (nI b)), (2, .int (nI c3)), (3, .int (nI 3)), (4, .int (nI (q ^ 0))), (5, .int (nI (x + 1)))]) dX9_pointsOn_50 (by decide) rfl (by decide) rfl ?_
                                    refine fx_goto (tgt := 24) dX9_pointsOn_53 (by decide) ?_
                                    exact (ih24 c3 (x + 1) (by omega) (by rw [← hR3, ponI]; first | rw [if_pos c44] | rw [if_neg (by simp_all)]))
                                  · skip
                                    refine fn_iinc (c := 1) (lv2 := [(0, .ref 31), (1, .int (nI b)), (2, .int (nI (c3 + 1))), (3, .int (nI 3)), (4, .int (nI (q ^ 0))), (5, .int (nI x))]) dX9_pointsOn_47 (by decide) rfl (by decide) rfl ?_
                                    refine fn_iinc (c := 1) (lv2 := [(0, .ref 31), (1, .int (nI b)), (2, .int (nI (c3 + 1))), (3, .int (nI 3)), (4, .int (nI (q ^ 0))), (5, .int (nI (x + 1)))]) dX9_pointsOn_50 (by decide) rfl (by decide) rfl ?_
                                    refine fx_goto (tgt := 24) dX9_pointsOn_53 (by decide) ?_
                                    exact (ih24 (c3 + 1) (x + 1) (by omega) (by rw [← hR3, ponI]; first | rw [if_pos c44] | rw [if_neg (by simp_all)]))
                            exact (L24 (q ^ 0) c2 0 (by omega) rfl)
                        · exfalso; omega
                      | succ k ih24 =>
                        intro c2 x hx hR2
                        refine fx_iload dX9_pointsOn_24 rfl ?_
                        refine fx_iload dX9_pointsOn_26 rfl ?_
                        refine fn_icmp_ge (tgt := 56) dX9_pointsOn_28 (by decide) (by omega) (by omega) (fun c28 => ?_) (fun c28 => ?_)
                        · exfalso; omega
                        · skip
                          refine fx_aload_n dX9_pointsOn_31 rfl (i := 0) rfl ?_
                          refine fx_aload_n dX9_pointsOn_32 rfl (i := 0) rfl ?_
                          refine fx_iload_n dX9_pointsOn_33 rfl (i := 3) rfl ?_
                          refine fx_iconst (v := (iI (-1))) dX9_pointsOn_34 (by decide) ?_
                          refine fx_iload dX9_pointsOn_35 rfl ?_
                          refine fn_cV dX9_pointsOn_37 lk9_73 fv_c6 rfl (fw_at (show cT 31 = some (3, 6, 3, [some 32, some 33, none]) from rfl)) (C9_pointFrom G L q th rs hS (2) (x) (-1) (by omega) (by omega) (by omega) (by omega)) rfl rfl (by decide) (Nat.le_of_ble_eq_true rfl) ?_
                          show fv_At Y9_pointsOn 4 0 0 Q 40 [(0, .ref 31), (1, .int (nI b)), (2, .int (nI c2)), (3, .int (nI 2)), (4, .int (nI (q ^ 1))), (5, .int (nI x))] [.int (nI (pfr q 2 (-1) x)), .ref 31] (fw cT G L) none 0 0
                          refine fx_iload_n dX9_pointsOn_40 rfl (i := 1) rfl ?_
                          refine fn_cV dX9_pointsOn_41 lk9_79 fv_c6 rfl (fw_at (show cT 31 = some (3, 6, 3, [some 32, some 33, none]) from rfl)) (C9_isOnOne G L q th rs hS b hb hth (pfr q 2 (-1) x) (by have := pfr_b (q := q) (f := 2) (-1) x (spc_q hS); omega)) rfl rfl (by decide) (Nat.le_of_ble_eq_true rfl) ?_
                          show fv_At Y9_pointsOn 4 0 0 Q 44 [(0, .ref 31), (1, .int (nI b)), (2, .int (nI c2)), (3, .int (nI 2)), (4, .int (nI (q ^ 1))), (5, .int (nI x))] [.int (bI (ono rs q (pfr q 2 (-1) x) b 8 0))] (fw cT G L) none 0 0
                          refine fn_if_eqB (tgt := 50) dX9_pointsOn_44 (by decide) (fun c44 => ?_) (fun c44 => ?_)
                          · skip
                            refine fn_iinc (c := 1) (lv2 := [(0, .ref 31), (1, .int (nI b)), (2, .int (nI c2)), (3, .int (nI 2)), (4, .int (nI (q ^ 1))), (5, .int (nI (x + 1)))]) dX9_pointsOn_50 (by decide) rfl (by decide) rfl ?_
                            refine fx_goto (tgt := 24) dX9_pointsOn_53 (by decide) ?_
                            exact (ih24 c2 (x + 1) (by omega) (by rw [← hR2, ponI]; first | rw [if_pos c44] | rw [if_neg (by simp_all)]))
                          · skip
                            refine fn_iinc (c := 1) (lv2 := [(0, .ref 31), (1, .int (nI b)), (2, .int (nI (c2 + 1))), (3, .int (nI 2)), (4, .int (nI (q ^ 1))), (5, .int (nI x))]) dX9_pointsOn_47 (by decide) rfl (by decide) rfl ?_
                            refine fn_iinc (c := 1) (lv2 := [(0, .ref 31), (1, .int (nI b)), (2, .int (nI (c2 + 1))), (3, .int (nI 2)), (4, .int (nI (q ^ 1))), (5, .int (nI (x + 1)))]) dX9_pointsOn_50 (by decide) rfl (by decide) rfl ?_
                            refine fx_goto (tgt := 24) dX9_pointsOn_53 (by decide) ?_
                            exact (ih24 (c2 + 1) (x + 1) (by omega) (by rw [← hR2, ponI]; first | rw [if_pos c44] | rw [if_neg (by simp_all)]))
                    exact (L24 (q ^ 1) c1 0 (by omega) rfl)
                · exfalso; omega
              | succ k ih24 =>
                intro c1 x hx hR1
                refine fx_iload dX9_pointsOn_24 rfl ?_
                refine fx_iload dX9_pointsOn_26 rfl ?_
                refine fn_icmp_ge (tgt := 56) dX9_pointsOn_28 (by decide) (by omega) (by omega) (fun c28 => ?_) (fun c28 => ?_)
                · exfalso; omega
                · skip
                  refine fx_aload_n dX9_pointsOn_31 rfl (i := 0) rfl ?_
                  refine fx_aload_n dX9_pointsOn_32 rfl (i := 0) rfl ?_
                  refine fx_iload_n dX9_pointsOn_33 rfl (i := 3) rfl ?_
                  refine fx_iconst (v := (iI (-1))) dX9_pointsOn_34 (by decide) ?_
                  refine fx_iload dX9_pointsOn_35 rfl ?_
                  refine fn_cV dX9_pointsOn_37 lk9_73 fv_c6 rfl (fw_at (show cT 31 = some (3, 6, 3, [some 32, some 33, none]) from rfl)) (C9_pointFrom G L q th rs hS (1) (x) (-1) (by omega) (by omega) (by omega) (by omega)) rfl rfl (by decide) (Nat.le_of_ble_eq_true rfl) ?_
                  show fv_At Y9_pointsOn 4 0 0 Q 40 [(0, .ref 31), (1, .int (nI b)), (2, .int (nI c1)), (3, .int (nI 1)), (4, .int (nI (q ^ 2))), (5, .int (nI x))] [.int (nI (pfr q 1 (-1) x)), .ref 31] (fw cT G L) none 0 0
                  refine fx_iload_n dX9_pointsOn_40 rfl (i := 1) rfl ?_
                  refine fn_cV dX9_pointsOn_41 lk9_79 fv_c6 rfl (fw_at (show cT 31 = some (3, 6, 3, [some 32, some 33, none]) from rfl)) (C9_isOnOne G L q th rs hS b hb hth (pfr q 1 (-1) x) (by have := pfr_b (q := q) (f := 1) (-1) x (spc_q hS); omega)) rfl rfl (by decide) (Nat.le_of_ble_eq_true rfl) ?_
                  show fv_At Y9_pointsOn 4 0 0 Q 44 [(0, .ref 31), (1, .int (nI b)), (2, .int (nI c1)), (3, .int (nI 1)), (4, .int (nI (q ^ 2))), (5, .int (nI x))] [.int (bI (ono rs q (pfr q 1 (-1) x) b 8 0))] (fw cT G L) none 0 0
                  refine fn_if_eqB (tgt := 50) dX9_pointsOn_44 (by decide) (fun c44 => ?_) (fun c44 => ?_)
                  · skip
                    refine fn_iinc (c := 1) (lv2 := [(0, .ref 31), (1, .int (nI b)), (2, .int (nI c1)), (3, .int (nI 1)), (4, .int (nI (q ^ 2))), (5, .int (nI (x + 1)))]) dX9_pointsOn_50 (by decide) rfl (by decide) rfl ?_
                    refine fx_goto (tgt := 24) dX9_pointsOn_53 (by decide) ?_
                    exact (ih24 c1 (x + 1) (by omega) (by rw [← hR1, ponI]; first | rw [if_pos c44] | rw [if_neg (by simp_all)]))
                  · skip
                    refine fn_iinc (c := 1) (lv2 := [(0, .ref 31), (1, .int (nI b)), (2, .int (nI (c1 + 1))), (3, .int (nI 1)), (4, .int (nI (q ^ 2))), (5, .int (nI x))]) dX9_pointsOn_47 (by decide) rfl (by decide) rfl ?_
                    refine fn_iinc (c := 1) (lv2 := [(0, .ref 31), (1, .int (nI b)), (2, .int (nI (c1 + 1))), (3, .int (nI 1)), (4, .int (nI (q ^ 2))), (5, .int (nI (x + 1)))]) dX9_pointsOn_50 (by decide) rfl (by decide) rfl ?_
                    refine fx_goto (tgt := 24) dX9_pointsOn_53 (by decide) ?_
                    exact (ih24 (c1 + 1) (x + 1) (by omega) (by rw [← hR1, ponI]; first | rw [if_pos c44] | rw [if_neg (by simp_all)]))
            exact (L24 (q ^ 2) c0 0 (by omega) rfl)
        · exfalso; omega
      | succ k ih24 =>
        intro c0 x hx hR0
        refine fx_iload dX9_pointsOn_24 rfl ?_
        refine fx_iload dX9_pointsOn_26 rfl ?_
        refine fn_icmp_ge (tgt := 56) dX9_pointsOn_28 (by decide) (by omega) (by omega) (fun c28 => ?_) (fun c28 => ?_)
        · exfalso; omega
        · skip
          refine fx_aload_n dX9_pointsOn_31 rfl (i := 0) rfl ?_
          refine fx_aload_n dX9_pointsOn_32 rfl (i := 0) rfl ?_
          refine fx_iload_n dX9_pointsOn_33 rfl (i := 3) rfl ?_
          refine fx_iconst (v := (iI (-1))) dX9_pointsOn_34 (by decide) ?_
          refine fx_iload dX9_pointsOn_35 rfl ?_
          refine fn_cV dX9_pointsOn_37 lk9_73 fv_c6 rfl (fw_at (show cT 31 = some (3, 6, 3, [some 32, some 33, none]) from rfl)) (C9_pointFrom G L q th rs hS (0) (x) (-1) (by omega) (by omega) (by omega) (by omega)) rfl rfl (by decide) (Nat.le_of_ble_eq_true rfl) ?_
          show fv_At Y9_pointsOn 4 0 0 Q 40 [(0, .ref 31), (1, .int (nI b)), (2, .int (nI c0)), (3, .int (nI 0)), (4, .int (nI (q ^ 3))), (5, .int (nI x))] [.int (nI (pfr q 0 (-1) x)), .ref 31] (fw cT G L) none 0 0
          refine fx_iload_n dX9_pointsOn_40 rfl (i := 1) rfl ?_
          refine fn_cV dX9_pointsOn_41 lk9_79 fv_c6 rfl (fw_at (show cT 31 = some (3, 6, 3, [some 32, some 33, none]) from rfl)) (C9_isOnOne G L q th rs hS b hb hth (pfr q 0 (-1) x) (by have := pfr_b (q := q) (f := 0) (-1) x (spc_q hS); omega)) rfl rfl (by decide) (Nat.le_of_ble_eq_true rfl) ?_
          show fv_At Y9_pointsOn 4 0 0 Q 44 [(0, .ref 31), (1, .int (nI b)), (2, .int (nI c0)), (3, .int (nI 0)), (4, .int (nI (q ^ 3))), (5, .int (nI x))] [.int (bI (ono rs q (pfr q 0 (-1) x) b 8 0))] (fw cT G L) none 0 0
          refine fn_if_eqB (tgt := 50) dX9_pointsOn_44 (by decide) (fun c44 => ?_) (fun c44 => ?_)
          · skip
            refine fn_iinc (c := 1) (lv2 := [(0, .ref 31), (1, .int (nI b)), (2, .int (nI c0)), (3, .int (nI 0)), (4, .int (nI (q ^ 3))), (5, .int (nI (x + 1)))]) dX9_pointsOn_50 (by decide) rfl (by decide) rfl ?_
            refine fx_goto (tgt := 24) dX9_pointsOn_53 (by decide) ?_
            exact (ih24 c0 (x + 1) (by omega) (by rw [← hR0, ponI]; first | rw [if_pos c44] | rw [if_neg (by simp_all)]))
          · skip
            refine fn_iinc (c := 1) (lv2 := [(0, .ref 31), (1, .int (nI b)), (2, .int (nI (c0 + 1))), (3, .int (nI 0)), (4, .int (nI (q ^ 3))), (5, .int (nI x))]) dX9_pointsOn_47 (by decide) rfl (by decide) rfl ?_
            refine fn_iinc (c := 1) (lv2 := [(0, .ref 31), (1, .int (nI b)), (2, .int (nI (c0 + 1))), (3, .int (nI 0)), (4, .int (nI (q ^ 3))), (5, .int (nI (x + 1)))]) dX9_pointsOn_50 (by decide) rfl (by decide) rfl ?_
            refine fx_goto (tgt := 24) dX9_pointsOn_53 (by decide) ?_
            exact (ih24 (c0 + 1) (x + 1) (by omega) (by rw [← hR0, ponI]; first | rw [if_pos c44] | rw [if_neg (by simp_all)]))
    exact (L24 (q ^ 3) 0 0 (by omega) rfl)

def lfI (rs : Nat → Nat → Nat) (q f s b o : Nat) : Nat → Nat → Nat → Nat
  | 0, _, c => c
  | k + 1, x, c => lfI rs q f s b o k (x + 1) (if cal rs q (pln (pfr q f (s : Int) o) (pfr q s (-1) x) q) b 8 0 = true then c + 1 else c)
def lfO (rs : Nat → Nat → Nat) (q f s b : Nat) : Nat → Nat → Nat → Nat
  | 0, _, c => c
  | k + 1, o, c => lfO rs q f s b k (o + 1) (lfI rs q f s b o (q ^ (3 - s)) 0 c)
/-- how many lines of one shape meet each told rod -/
def lfr (rs : Nat → Nat → Nat) (q f s b : Nat) : Nat := lfO rs q f s b (q ^ (2 - f)) 0 0
/-- an answer, and cells that differ in the probe alone -/
def qoff (r : Option Value) (G : Nat → Nat → Int32) (L : Nat → Nat → Int64) : Option Value → fv_F → Option Nat → Prop := fun r2 f2 al2 => ∃ G2, r2 = r ∧ f2 = fw cT G2 L ∧ al2 = none ∧ offp G G2

set_option maxRecDepth 4000 in
set_option maxHeartbeats 1000000 in
theorem C9_linesFrom  (G : Nat → Nat → Int32) (L : Nat → Nat → Int64) (q : Nat) (th : Nat → Bool) (rs : Nat → Nat → Nat) (hS : spc G q th rs) (b : Nat) (hb : b < 256) (hth : ∀ r, r < 8 → btd b r = true → th r = true) (f s : Nat) (hf : f ≤ 2) (hs : s ≤ 3) : fv_M Y9_linesFrom 4 0 0 [.ref 31, .int (nI f), .int (nI s), .int (nI b)] (fw cT G L) none (qoff (some (.int (nI (lfr rs q f s b)))) G L) := by
  refine fv_enter rfl (Nat.le_of_ble_eq_true rfl) ?_
  obtain ⟨Q, hQ⟩ : ∃ Q : Option Value → fv_F → Option Nat → Prop, Q = (qoff (some (.int (nI (lfr rs q f s b)))) G L) := ⟨_, rfl⟩
  rw [← hQ]
  show fv_At Y9_linesFrom 4 0 0 Q 0 [(0, .ref 31), (1, .int (nI f)), (2, .int (nI s)), (3, .int (nI b))] [] (fw cT G L) none 0 0
  have hq5 := spc_q hS
  refine fx_iconst (v := (nI 0)) dX9_linesFrom_0 (by decide) ?_
  refine fx_istore (lv2 := [(0, .ref 31), (1, .int (nI f)), (2, .int (nI s)), (3, .int (nI b)), (4, .int (nI 0))]) dX9_linesFrom_1 (by decide) rfl ?_
  refine fx_aload_n dX9_linesFrom_3 rfl (i := 0) rfl ?_
  refine fw_geti dX9_linesFrom_4 fd9_22 rfl rfl ?_
  refine fn_to (show _ = (nI q) from hS.1) ?_
  refine fx_iconst (v := (nI 2)) dX9_linesFrom_7 (by decide) ?_
  refine fx_iload_n dX9_linesFrom_8 rfl (i := 1) rfl ?_
  refine fn_isub dX9_linesFrom_9 (by omega) ?_
  refine fn_cS dX9_linesFrom_10 lk9_32 (C3_power (b := q) (k := 2 - f) (by omega) (f := (fw cT G L))) rfl rfl (by decide) (Nat.le_of_ble_eq_true rfl) ?_
  show fv_At Y9_linesFrom 4 0 0 Q 13 [(0, .ref 31), (1, .int (nI f)), (2, .int (nI s)), (3, .int (nI b)), (4, .int (nI 0))] [.int (nI (q ^ (2 - f)))] (fw cT G L) none 0 0
  have hpw1 := powq hq5 (e := 2 - f) (by omega)
  refine fx_istore (lv2 := [(0, .ref 31), (1, .int (nI f)), (2, .int (nI s)), (3, .int (nI b)), (4, .int (nI 0)), (5, .int (nI (q ^ (2 - f))))]) dX9_linesFrom_13 (by decide) rfl ?_
  refine fx_aload_n dX9_linesFrom_15 rfl (i := 0) rfl ?_
  refine fw_geti dX9_linesFrom_16 fd9_22 rfl rfl ?_
  refine fn_to (show _ = (nI q) from hS.1) ?_
  refine fx_iconst (v := (nI 3)) dX9_linesFrom_19 (by decide) ?_
  refine fx_iload_n dX9_linesFrom_20 rfl (i := 2) rfl ?_
  refine fn_isub dX9_linesFrom_21 (by omega) ?_
  refine fn_cS dX9_linesFrom_22 lk9_32 (C3_power (b := q) (k := 3 - s) (by omega) (f := (fw cT G L))) rfl rfl (by decide) (Nat.le_of_ble_eq_true rfl) ?_
  show fv_At Y9_linesFrom 4 0 0 Q 25 [(0, .ref 31), (1, .int (nI f)), (2, .int (nI s)), (3, .int (nI b)), (4, .int (nI 0)), (5, .int (nI (q ^ (2 - f))))] [.int (nI (q ^ (3 - s)))] (fw cT G L) none 0 0
  have hpw2 := powq hq5 (e := 3 - s) (by omega)
  refine fx_istore (lv2 := [(0, .ref 31), (1, .int (nI f)), (2, .int (nI s)), (3, .int (nI b)), (4, .int (nI 0)), (5, .int (nI (q ^ (2 - f)))), (6, .int (nI (q ^ (3 - s))))]) dX9_linesFrom_25 (by decide) rfl ?_
  refine fx_iconst (v := (nI 0)) dX9_linesFrom_27 (by decide) ?_
  refine fx_istore (lv2 := [(0, .ref 31), (1, .int (nI f)), (2, .int (nI s)), (3, .int (nI b)), (4, .int (nI 0)), (5, .int (nI (q ^ (2 - f)))), (6, .int (nI (q ^ (3 - s)))), (7, .int (nI 0))]) dX9_linesFrom_28 (by decide) rfl ?_
  have L30 : ∀ (k : Nat) (c : Nat) (o : Nat) (G1 : Nat → Nat → Int32), (o + k = q ^ (2 - f)) → (lfO rs q f s b k o c = lfr rs q f s b) → (offp G G1) → fv_At Y9_linesFrom 4 0 0 Q 30 [(0, .ref 31), (1, .int (nI f)), (2, .int (nI s)), (3, .int (nI b)), (4, .int (nI c)), (5, .int (nI (q ^ (2 - f)))), (6, .int (nI (q ^ (3 - s)))), (7, .int (nI o))] [] (fw cT G1 L) none 0 0 := by
    intro k
    induction k with
    | zero =>
      intro c o G1 ho hR ho1
      refine fx_iload dX9_linesFrom_30 rfl ?_
      refine fx_iload dX9_linesFrom_32 rfl ?_
      have hS1 := spc_off hS ho1
      refine fn_icmp_ge (tgt := 98) dX9_linesFrom_34 (by decide) (by omega) (by omega) (fun c34 => ?_) (fun c34 => ?_)
      · skip
        refine fx_iload dX9_linesFrom_98 rfl ?_
        exact fx_iret dX9_linesFrom_100 rfl rfl rfl (by rw [hQ]; exact ⟨G1, by rw [← hR]; rfl, rfl, rfl, ho1⟩)
      · exfalso; omega
    | succ k ih30 =>
      intro c o G1 ho hR ho1
      refine fx_iload dX9_linesFrom_30 rfl ?_
      refine fx_iload dX9_linesFrom_32 rfl ?_
      have hS1 := spc_off hS ho1
      refine fn_icmp_ge (tgt := 98) dX9_linesFrom_34 (by decide) (by omega) (by omega) (fun c34 => ?_) (fun c34 => ?_)
      · exfalso; omega
      · skip
        refine fx_iconst (v := (nI 0)) dX9_linesFrom_37 (by decide) ?_
        refine fx_istore (lv2 := [(0, .ref 31), (1, .int (nI f)), (2, .int (nI s)), (3, .int (nI b)), (4, .int (nI c)), (5, .int (nI (q ^ (2 - f)))), (6, .int (nI (q ^ (3 - s)))), (7, .int (nI o)), (8, .int (nI 0))]) dX9_linesFrom_38 (by decide) rfl ?_
        have L40 : ∀ (k2 : Nat) (c2 : Nat) (x : Nat) (G2 : Nat → Nat → Int32), (x + k2 = q ^ (3 - s)) → (lfI rs q f s b o k2 x c2 = lfI rs q f s b o (q ^ (3 - s)) 0 c) → (offp G G2) → fv_At Y9_linesFrom 4 0 0 Q 40 [(0, .ref 31), (1, .int (nI f)), (2, .int (nI s)), (3, .int (nI b)), (4, .int (nI c2)), (5, .int (nI (q ^ (2 - f)))), (6, .int (nI (q ^ (3 - s)))), (7, .int (nI o)), (8, .int (nI x))] [] (fw cT G2 L) none 0 0 := by
          intro k2
          induction k2 with
          | zero =>
            intro c2 x G2 hx hR2 ho2
            refine fx_iload dX9_linesFrom_40 rfl ?_
            refine fx_iload dX9_linesFrom_42 rfl ?_
            refine fn_icmp_ge (tgt := 92) dX9_linesFrom_44 (by decide) (by omega) (by omega) (fun c44 => ?_) (fun c44 => ?_)
            · skip
              refine fn_iinc (c := 1) (lv2 := [(0, .ref 31), (1, .int (nI f)), (2, .int (nI s)), (3, .int (nI b)), (4, .int (nI c2)), (5, .int (nI (q ^ (2 - f)))), (6, .int (nI (q ^ (3 - s)))), (7, .int (nI (o + 1))), (8, .int (nI x))]) dX9_linesFrom_92 (by decide) rfl (by decide) rfl ?_
              refine fx_goto (tgt := 30) dX9_linesFrom_95 (by decide) ?_
              exact fn_sub [0, 1, 2, 3, 4, 5, 6, 7] rfl (ih30 c2 (o + 1) G2 (by omega) (by rw [← hR, lfO]; exact congrArg _ hR2) ho2)
            · exfalso; omega
          | succ k2 ih40 =>
            intro c2 x G2 hx hR2 ho2
            refine fx_iload dX9_linesFrom_40 rfl ?_
            refine fx_iload dX9_linesFrom_42 rfl ?_
            refine fn_icmp_ge (tgt := 92) dX9_linesFrom_44 (by decide) (by omega) (by omega) (fun c44 => ?_) (fun c44 => ?_)
            · exfalso; omega
            · skip
              have hS2 := spc_off hS ho2
              refine fx_aload_n dX9_linesFrom_47 rfl (i := 0) rfl ?_
              refine fw_getr dX9_linesFrom_48 fd9_18 rfl rfl ?_
              refine fx_aload_n dX9_linesFrom_51 rfl (i := 0) rfl ?_
              refine fx_iload_n dX9_linesFrom_52 rfl (i := 1) rfl ?_
              refine fx_iload_n dX9_linesFrom_53 rfl (i := 2) rfl ?_
              refine fx_iload dX9_linesFrom_54 rfl ?_
              refine fn_cV dX9_linesFrom_56 lk9_73 fv_c6 rfl (fw_at (show cT 31 = some (3, 6, 3, [some 32, some 33, none]) from rfl)) (C9_pointFrom G2 L q th rs hS2 (f) (o) (((s : Nat) : Int)) (by omega) (by omega) (by omega) (by omega)) rfl rfl (by decide) (Nat.le_of_ble_eq_true rfl) ?_
              show fv_At Y9_linesFrom 4 0 0 Q 59 [(0, .ref 31), (1, .int (nI f)), (2, .int (nI s)), (3, .int (nI b)), (4, .int (nI c2)), (5, .int (nI (q ^ (2 - f)))), (6, .int (nI (q ^ (3 - s)))), (7, .int (nI o)), (8, .int (nI x))] [.int (nI (pfr q f (((s : Nat) : Int)) o)), .ref 33] (fw cT G2 L) none 0 0
              refine fx_aload_n dX9_linesFrom_59 rfl (i := 0) rfl ?_
              refine fx_iload_n dX9_linesFrom_60 rfl (i := 2) rfl ?_
              refine fx_iconst (v := (iI (-1))) dX9_linesFrom_61 (by decide) ?_
              refine fx_iload dX9_linesFrom_62 rfl ?_
              refine fn_cV dX9_linesFrom_64 lk9_73 fv_c6 rfl (fw_at (show cT 31 = some (3, 6, 3, [some 32, some 33, none]) from rfl)) (C9_pointFrom G2 L q th rs hS2 (s) (x) (-1) (by omega) (by omega) (by omega) (by omega)) rfl rfl (by decide) (Nat.le_of_ble_eq_true rfl) ?_
              show fv_At Y9_linesFrom 4 0 0 Q 67 [(0, .ref 31), (1, .int (nI f)), (2, .int (nI s)), (3, .int (nI b)), (4, .int (nI c2)), (5, .int (nI (q ^ (2 - f)))), (6, .int (nI (q ^ (3 - s)))), (7, .int (nI o)), (8, .int (nI x))] [.int (nI (pfr q s (-1) x)), .int (nI (pfr q f (((s : Nat) : Int)) o)), .ref 33] (fw cT G2 L) none 0 0
              refine fx_aload_n dX9_linesFrom_67 rfl (i := 0) rfl ?_
              refine fw_geti dX9_linesFrom_68 fd9_22 rfl rfl ?_
              refine fn_to (show _ = (nI q) from hS2.1) ?_
              refine fn_cV dX9_linesFrom_71 lk9_45 fv_c3 rfl (fw_at (show cT 33 = some (3, 3, 2, [some 34, none]) from rfl)) (C5_span cT 33 rfl rfl G2 L (pfr q f (((s : Nat) : Int)) o) (pfr q s (-1) x) q (by have := pfr_b (q := q) (f := f) (s : Int) o hq5; omega) (by have := pfr_b (q := q) (f := s) (-1) x hq5; omega) hq5.1 (by omega)) rfl rfl (by decide) (Nat.le_of_ble_eq_true rfl) ?_
              show fv_At Y9_linesFrom 4 0 0 Q 74 [(0, .ref 31), (1, .int (nI f)), (2, .int (nI s)), (3, .int (nI b)), (4, .int (nI c2)), (5, .int (nI (q ^ (2 - f)))), (6, .int (nI (q ^ (3 - s)))), (7, .int (nI o)), (8, .int (nI x))] [.int (bI (decide (ldf (plk (pfr q f (((s : Nat) : Int)) o) (pfr q s (-1) x) q) ≠ 0)))] (fw cT (g2 (w6 G2 (33 + 1) 6 (pln (pfr q f (((s : Nat) : Int)) o) (pfr q s (-1) x) q)) 33 1 (bI (decide (ldf (plk (pfr q f (((s : Nat) : Int)) o) (pfr q s (-1) x) q) ≠ 0)))) L) none 0 0
              have hoL := offp_tr ho2 (offp_ln G2 (pln (pfr q f (s : Int) o) (pfr q s (-1) x) q) (bI (decide (ldf (plk (pfr q f (s : Int) o) (pfr q s (-1) x) q) ≠ 0))))
              have hS3 := spc_off hS hoL
              refine fx_pop dX9_linesFrom_74 rfl ?_
              refine fx_aload_n dX9_linesFrom_75 rfl (i := 0) rfl ?_
              refine fx_iload_n dX9_linesFrom_76 rfl (i := 3) rfl ?_
              refine fn_cV dX9_linesFrom_77 lk9_76 fv_c6 rfl (fw_at (show cT 31 = some (3, 6, 3, [some 32, some 33, none]) from rfl)) (C9_crossesAll (g2 (w6 G2 (33 + 1) 6 (pln (pfr q f (((s : Nat) : Int)) o) (pfr q s (-1) x) q)) 33 1 (bI (decide (ldf (plk (pfr q f (((s : Nat) : Int)) o) (pfr q s (-1) x) q) ≠ 0)))) L q th rs hS3 b hb hth (pln (pfr q f (s : Int) o) (pfr q s (-1) x) q) (fun j hj => by rw [g2_ne _ _ (fun h => absurd h.1 (by decide)), w6_at hj]) (fun j hj => Nat.lt_of_lt_of_le (pln_lt hq5.1 _ _ j) hq5.2)) rfl rfl (by decide) (Nat.le_of_ble_eq_true rfl) ?_
              show fv_At Y9_linesFrom 4 0 0 Q 80 [(0, .ref 31), (1, .int (nI f)), (2, .int (nI s)), (3, .int (nI b)), (4, .int (nI c2)), (5, .int (nI (q ^ (2 - f)))), (6, .int (nI (q ^ (3 - s)))), (7, .int (nI o)), (8, .int (nI x))] [.int (bI (cal rs q (pln (pfr q f (s : Int) o) (pfr q s (-1) x) q) b 8 0))] (fw cT (g2 (w6 G2 (33 + 1) 6 (pln (pfr q f (((s : Nat) : Int)) o) (pfr q s (-1) x) q)) 33 1 (bI (decide (ldf (plk (pfr q f (((s : Nat) : Int)) o) (pfr q s (-1) x) q) ≠ 0)))) L) none 0 0
              refine fn_if_eqB (tgt := 86) dX9_linesFrom_80 (by decide) (fun c80 => ?_) (fun c80 => ?_)
              · skip
                refine fn_iinc (c := 1) (lv2 := [(0, .ref 31), (1, .int (nI f)), (2, .int (nI s)), (3, .int (nI b)), (4, .int (nI c2)), (5, .int (nI (q ^ (2 - f)))), (6, .int (nI (q ^ (3 - s)))), (7, .int (nI o)), (8, .int (nI (x + 1)))]) dX9_linesFrom_86 (by decide) rfl (by decide) rfl ?_
                refine fx_goto (tgt := 40) dX9_linesFrom_89 (by decide) ?_
                exact (ih40 c2 (x + 1) (g2 (w6 G2 (33 + 1) 6 (pln (pfr q f (((s : Nat) : Int)) o) (pfr q s (-1) x) q)) 33 1 (bI (decide (ldf (plk (pfr q f (((s : Nat) : Int)) o) (pfr q s (-1) x) q) ≠ 0)))) (by omega) (by rw [← hR2, lfI]; first | rw [if_pos c80] | rw [if_neg (by simp_all)]) hoL)
              · skip
                refine fn_iinc (c := 1) (lv2 := [(0, .ref 31), (1, .int (nI f)), (2, .int (nI s)), (3, .int (nI b)), (4, .int (nI (c2 + 1))), (5, .int (nI (q ^ (2 - f)))), (6, .int (nI (q ^ (3 - s)))), (7, .int (nI o)), (8, .int (nI x))]) dX9_linesFrom_83 (by decide) rfl (by decide) rfl ?_
                refine fn_iinc (c := 1) (lv2 := [(0, .ref 31), (1, .int (nI f)), (2, .int (nI s)), (3, .int (nI b)), (4, .int (nI (c2 + 1))), (5, .int (nI (q ^ (2 - f)))), (6, .int (nI (q ^ (3 - s)))), (7, .int (nI o)), (8, .int (nI (x + 1)))]) dX9_linesFrom_86 (by decide) rfl (by decide) rfl ?_
                refine fx_goto (tgt := 40) dX9_linesFrom_89 (by decide) ?_
                exact (ih40 (c2 + 1) (x + 1) (g2 (w6 G2 (33 + 1) 6 (pln (pfr q f (((s : Nat) : Int)) o) (pfr q s (-1) x) q)) 33 1 (bI (decide (ldf (plk (pfr q f (((s : Nat) : Int)) o) (pfr q s (-1) x) q) ≠ 0)))) (by omega) (by rw [← hR2, lfI]; first | rw [if_pos c80] | rw [if_neg (by simp_all)]) hoL)
        exact (L40 (q ^ (3 - s)) c 0 G1 (by omega) rfl ho1)
  exact (L30 (q ^ (2 - f)) 0 0 G (by omega) rfl (offp_rf G))

/-- how many lines meet each told rod -/
def lnm (rs : Nat → Nat → Nat) (q b : Nat) : Nat := 0 + lfr rs q 0 1 b + lfr rs q 0 2 b + lfr rs q 0 3 b + lfr rs q 1 2 b + lfr rs q 1 3 b + lfr rs q 2 3 b

set_option maxRecDepth 4000 in
set_option maxHeartbeats 1000000 in
theorem C9_linesMeeting  (G : Nat → Nat → Int32) (L : Nat → Nat → Int64) (q : Nat) (th : Nat → Bool) (rs : Nat → Nat → Nat) (hS : spc G q th rs) (b : Nat) (hb : b < 256) (hth : ∀ r, r < 8 → btd b r = true → th r = true) : fv_M Y9_linesMeeting 5 0 0 [.ref 31, .int (nI b)] (fw cT G L) none (qoff (some (.int (nI (lnm rs q b)))) G L) := by
  refine fv_enter rfl (Nat.le_of_ble_eq_true rfl) ?_
  obtain ⟨Q, hQ⟩ : ∃ Q : Option Value → fv_F → Option Nat → Prop, Q = (qoff (some (.int (nI (lnm rs q b)))) G L) := ⟨_, rfl⟩
  rw [← hQ]
  show fv_At Y9_linesMeeting 5 0 0 Q 0 [(0, .ref 31), (1, .int (nI b))] [] (fw cT G L) none 0 0
  have ho0 := offp_rf G
  refine fx_iconst (v := (nI 0)) dX9_linesMeeting_0 (by decide) ?_
  refine fx_istore_n (lv2 := [(0, .ref 31), (1, .int (nI b)), (2, .int (nI 0))]) dX9_linesMeeting_1 (i := 2) rfl (by decide) rfl ?_
  refine fx_iconst (v := (nI 0)) dX9_linesMeeting_2 (by decide) ?_
  refine fx_istore_n (lv2 := [(0, .ref 31), (1, .int (nI b)), (2, .int (nI 0)), (3, .int (nI 0))]) dX9_linesMeeting_3 (i := 3) rfl (by decide) rfl ?_
  refine fx_iload_n dX9_linesMeeting_4 rfl (i := 3) rfl ?_
  refine fx_iconst (v := (nI 3)) dX9_linesMeeting_5 (by decide) ?_
  refine fn_icmp_ge (tgt := 43) dX9_linesMeeting_6 (by decide) (by omega) (by omega) (fun c6 => ?_) (fun c6 => ?_)
  · exfalso; omega
  · skip
    refine fx_iload_n dX9_linesMeeting_9 rfl (i := 3) rfl ?_
    refine fx_iconst (v := (nI 1)) dX9_linesMeeting_10 (by decide) ?_
    refine fn_iadd dX9_linesMeeting_11 ?_
    refine fx_istore (lv2 := [(0, .ref 31), (1, .int (nI b)), (2, .int (nI 0)), (3, .int (nI 0)), (4, .int (nI 1))]) dX9_linesMeeting_12 (by decide) rfl ?_
    refine fx_iload dX9_linesMeeting_14 rfl ?_
    refine fx_iconst (v := (nI 4)) dX9_linesMeeting_16 (by decide) ?_
    refine fn_icmp_ge (tgt := 37) dX9_linesMeeting_17 (by decide) (by omega) (by omega) (fun c17 => ?_) (fun c17 => ?_)
    · exfalso; omega
    · skip
      refine fx_iload_n dX9_linesMeeting_20 rfl (i := 2) rfl ?_
      refine fx_aload_n dX9_linesMeeting_21 rfl (i := 0) rfl ?_
      refine fx_iload_n dX9_linesMeeting_22 rfl (i := 3) rfl ?_
      refine fx_iload dX9_linesMeeting_23 rfl ?_
      refine fx_iload_n dX9_linesMeeting_25 rfl (i := 1) rfl ?_
      refine fx_callV dX9_linesMeeting_26 lk9_69 fv_c6 rfl (fw_at (show cT 31 = some (3, 6, 3, [some 32, some 33, none]) from rfl)) (C9_linesFrom G L q th rs (spc_off hS ho0) b hb hth 0 1 (by decide) (by decide)) rfl rfl (by decide) (Nat.le_of_ble_eq_true rfl) (by decide) (by decide) (fun r26 f26 al26 h26 => ?_)
      obtain ⟨H1, rfl, rfl, rfl, hh1⟩ := h26
      have ho1 := offp_tr ho0 hh1
      show fv_At Y9_linesMeeting 5 0 0 Q 29 [(0, .ref 31), (1, .int (nI b)), (2, .int (nI 0)), (3, .int (nI 0)), (4, .int (nI 1))] [.int (nI (lfr rs q 0 1 b)), .int (nI 0)] (fw cT H1 L) none 0 0
      refine fn_iadd dX9_linesMeeting_29 ?_
      refine fx_istore_n (lv2 := [(0, .ref 31), (1, .int (nI b)), (2, .int (nI (0 + (lfr rs q 0 1 b)))), (3, .int (nI 0)), (4, .int (nI 1))]) dX9_linesMeeting_30 (i := 2) rfl (by decide) rfl ?_
      refine fn_iinc (c := 1) (lv2 := [(0, .ref 31), (1, .int (nI b)), (2, .int (nI (0 + (lfr rs q 0 1 b)))), (3, .int (nI 0)), (4, .int (nI 2))]) dX9_linesMeeting_31 (by decide) rfl (by decide) rfl ?_
      refine fx_goto (tgt := 14) dX9_linesMeeting_34 (by decide) ?_
      refine fx_iload dX9_linesMeeting_14 rfl ?_
      refine fx_iconst (v := (nI 4)) dX9_linesMeeting_16 (by decide) ?_
      refine fn_icmp_ge (tgt := 37) dX9_linesMeeting_17 (by decide) (by omega) (by omega) (fun c17 => ?_) (fun c17 => ?_)
      · exfalso; omega
      · skip
        refine fx_iload_n dX9_linesMeeting_20 rfl (i := 2) rfl ?_
        refine fx_aload_n dX9_linesMeeting_21 rfl (i := 0) rfl ?_
        refine fx_iload_n dX9_linesMeeting_22 rfl (i := 3) rfl ?_
        refine fx_iload dX9_linesMeeting_23 rfl ?_
        refine fx_iload_n dX9_linesMeeting_25 rfl (i := 1) rfl ?_
        refine fx_callV dX9_linesMeeting_26 lk9_69 fv_c6 rfl (fw_at (show cT 31 = some (3, 6, 3, [some 32, some 33, none]) from rfl)) (C9_linesFrom H1 L q th rs (spc_off hS ho1) b hb hth 0 2 (by decide) (by decide)) rfl rfl (by decide) (Nat.le_of_ble_eq_true rfl) (by decide) (by decide) (fun r26 f26 al26 h26 => ?_)
        obtain ⟨H2, rfl, rfl, rfl, hh2⟩ := h26
        have ho2 := offp_tr ho1 hh2
        show fv_At Y9_linesMeeting 5 0 0 Q 29 [(0, .ref 31), (1, .int (nI b)), (2, .int (nI (0 + (lfr rs q 0 1 b)))), (3, .int (nI 0)), (4, .int (nI 2))] [.int (nI (lfr rs q 0 2 b)), .int (nI (0 + (lfr rs q 0 1 b)))] (fw cT H2 L) none 0 0
        refine fn_iadd dX9_linesMeeting_29 ?_
        refine fx_istore_n (lv2 := [(0, .ref 31), (1, .int (nI b)), (2, .int (nI ((0 + (lfr rs q 0 1 b)) + (lfr rs q 0 2 b)))), (3, .int (nI 0)), (4, .int (nI 2))]) dX9_linesMeeting_30 (i := 2) rfl (by decide) rfl ?_
        refine fn_iinc (c := 1) (lv2 := [(0, .ref 31), (1, .int (nI b)), (2, .int (nI ((0 + (lfr rs q 0 1 b)) + (lfr rs q 0 2 b)))), (3, .int (nI 0)), (4, .int (nI 3))]) dX9_linesMeeting_31 (by decide) rfl (by decide) rfl ?_
        refine fx_goto (tgt := 14) dX9_linesMeeting_34 (by decide) ?_
        refine fx_iload dX9_linesMeeting_14 rfl ?_
        refine fx_iconst (v := (nI 4)) dX9_linesMeeting_16 (by decide) ?_
        refine fn_icmp_ge (tgt := 37) dX9_linesMeeting_17 (by decide) (by omega) (by omega) (fun c17 => ?_) (fun c17 => ?_)
        · exfalso; omega
        · skip
          refine fx_iload_n dX9_linesMeeting_20 rfl (i := 2) rfl ?_
          refine fx_aload_n dX9_linesMeeting_21 rfl (i := 0) rfl ?_
          refine fx_iload_n dX9_linesMeeting_22 rfl (i := 3) rfl ?_
          refine fx_iload dX9_linesMeeting_23 rfl ?_
          refine fx_iload_n dX9_linesMeeting_25 rfl (i := 1) rfl ?_
          refine fx_callV dX9_linesMeeting_26 lk9_69 fv_c6 rfl (fw_at (show cT 31 = some (3, 6, 3, [some 32, some 33, none]) from rfl)) (C9_linesFrom H2 L q th rs (spc_off hS ho2) b hb hth 0 3 (by decide) (by decide)) rfl rfl (by decide) (Nat.le_of_ble_eq_true rfl) (by decide) (by decide) (fun r26 f26 al26 h26 => ?_)
          obtain ⟨H3, rfl, rfl, rfl, hh3⟩ := h26
          have ho3 := offp_tr ho2 hh3
          show fv_At Y9_linesMeeting 5 0 0 Q 29 [(0, .ref 31), (1, .int (nI b)), (2, .int (nI ((0 + (lfr rs q 0 1 b)) + (lfr rs q 0 2 b)))), (3, .int (nI 0)), (4, .int (nI 3))] [.int (nI (lfr rs q 0 3 b)), .int (nI ((0 + (lfr rs q 0 1 b)) + (lfr rs q 0 2 b)))] (fw cT H3 L) none 0 0
          refine fn_iadd dX9_linesMeeting_29 ?_
          refine fx_istore_n (lv2 := [(0, .ref 31), (1, .int (nI b)), (2, .int (nI (((0 + (lfr rs q 0 1 b)) + (lfr rs q 0 2 b)) + (lfr rs q 0 3 b)))), (3, .int (nI 0)), (4, .int (nI 3))]) dX9_linesMeeting_30 (i := 2) rfl (by decide) rfl ?_
          refine fn_iinc (c := 1) (lv2 := [(0, .ref 31), (1, .int (nI b)), (2, .int (nI (((0 + (lfr rs q 0 1 b)) + (lfr rs q 0 2 b)) + (lfr rs q 0 3 b)))), (3, .int (nI 0)), (4, .int (nI 4))]) dX9_linesMeeting_31 (by decide) rfl (by decide) rfl ?_
          refine fx_goto (tgt := 14) dX9_linesMeeting_34 (by decide) ?_
          refine fx_iload dX9_linesMeeting_14 rfl ?_
          refine fx_iconst (v := (nI 4)) dX9_linesMeeting_16 (by decide) ?_
          refine fn_icmp_ge (tgt := 37) dX9_linesMeeting_17 (by decide) (by omega) (by omega) (fun c17 => ?_) (fun c17 => ?_)
          · skip
            refine fn_iinc (c := 1) (lv2 := [(0, .ref 31), (1, .int (nI b)), (2, .int (nI (((0 + (lfr rs q 0 1 b)) + (lfr rs q 0 2 b)) + (lfr rs q 0 3 b)))), (3, .int (nI 1)), (4, .int (nI 4))]) dX9_linesMeeting_37 (by decide) rfl (by decide) rfl ?_
            refine fx_goto (tgt := 4) dX9_linesMeeting_40 (by decide) ?_
            refine fx_iload_n dX9_linesMeeting_4 rfl (i := 3) rfl ?_
            refine fx_iconst (v := (nI 3)) dX9_linesMeeting_5 (by decide) ?_
            refine fn_icmp_ge (tgt := 43) dX9_linesMeeting_6 (by decide) (by omega) (by omega) (fun c6 => ?_) (fun c6 => ?_)
            · exfalso; omega
            · skip
              refine fx_iload_n dX9_linesMeeting_9 rfl (i := 3) rfl ?_
              refine fx_iconst (v := (nI 1)) dX9_linesMeeting_10 (by decide) ?_
              refine fn_iadd dX9_linesMeeting_11 ?_
              refine fx_istore (lv2 := [(0, .ref 31), (1, .int (nI b)), (2, .int (nI (((0 + (lfr rs q 0 1 b)) + (lfr rs q 0 2 b)) + (lfr rs q 0 3 b)))), (3, .int (nI 1)), (4, .int (nI 2))]) dX9_linesMeeting_12 (by decide) rfl ?_
              refine fx_iload dX9_linesMeeting_14 rfl ?_
              refine fx_iconst (v := (nI 4)) dX9_linesMeeting_16 (by decide) ?_
              refine fn_icmp_ge (tgt := 37) dX9_linesMeeting_17 (by decide) (by omega) (by omega) (fun c17 => ?_) (fun c17 => ?_)
              · exfalso; omega
              · skip
                refine fx_iload_n dX9_linesMeeting_20 rfl (i := 2) rfl ?_
                refine fx_aload_n dX9_linesMeeting_21 rfl (i := 0) rfl ?_
                refine fx_iload_n dX9_linesMeeting_22 rfl (i := 3) rfl ?_
                refine fx_iload dX9_linesMeeting_23 rfl ?_
                refine fx_iload_n dX9_linesMeeting_25 rfl (i := 1) rfl ?_
                refine fx_callV dX9_linesMeeting_26 lk9_69 fv_c6 rfl (fw_at (show cT 31 = some (3, 6, 3, [some 32, some 33, none]) from rfl)) (C9_linesFrom H3 L q th rs (spc_off hS ho3) b hb hth 1 2 (by decide) (by decide)) rfl rfl (by decide) (Nat.le_of_ble_eq_true rfl) (by decide) (by decide) (fun r26 f26 al26 h26 => ?_)
                obtain ⟨H4, rfl, rfl, rfl, hh4⟩ := h26
                have ho4 := offp_tr ho3 hh4
                show fv_At Y9_linesMeeting 5 0 0 Q 29 [(0, .ref 31), (1, .int (nI b)), (2, .int (nI (((0 + (lfr rs q 0 1 b)) + (lfr rs q 0 2 b)) + (lfr rs q 0 3 b)))), (3, .int (nI 1)), (4, .int (nI 2))] [.int (nI (lfr rs q 1 2 b)), .int (nI (((0 + (lfr rs q 0 1 b)) + (lfr rs q 0 2 b)) + (lfr rs q 0 3 b)))] (fw cT H4 L) none 0 0
                refine fn_iadd dX9_linesMeeting_29 ?_
                refine fx_istore_n (lv2 := [(0, .ref 31), (1, .int (nI b)), (2, .int (nI ((((0 + (lfr rs q 0 1 b)) + (lfr rs q 0 2 b)) + (lfr rs q 0 3 b)) + (lfr rs q 1 2 b)))), (3, .int (nI 1)), (4, .int (nI 2))]) dX9_linesMeeting_30 (i := 2) rfl (by decide) rfl ?_
                refine fn_iinc (c := 1) (lv2 := [(0, .ref 31), (1, .int (nI b)), (2, .int (nI ((((0 + (lfr rs q 0 1 b)) + (lfr rs q 0 2 b)) + (lfr rs q 0 3 b)) + (lfr rs q 1 2 b)))), (3, .int (nI 1)), (4, .int (nI 3))]) dX9_linesMeeting_31 (by decide) rfl (by decide) rfl ?_
                refine fx_goto (tgt := 14) dX9_linesMeeting_34 (by decide) ?_
                refine fx_iload dX9_linesMeeting_14 rfl ?_
                refine fx_iconst (v := (nI 4)) dX9_linesMeeting_16 (by decide) ?_
                refine fn_icmp_ge (tgt := 37) dX9_linesMeeting_17 (by decide) (by omega) (by omega) (fun c17 => ?_) (fun c17 => ?_)
                · exfalso; omega
                · skip
                  refine fx_iload_n dX9_linesMeeting_20 rfl (i := 2) rfl ?_
                  refine fx_aload_n dX9_linesMeeting_21 rfl (i := 0) rfl ?_
                  refine fx_iload_n dX9_linesMeeting_22 rfl (i := 3) rfl ?_
                  refine fx_iload dX9_linesMeeting_23 rfl ?_
                  refine fx_iload_n dX9_linesMeeting_25 rfl (i := 1) rfl ?_
                  refine fx_callV dX9_linesMeeting_26 lk9_69 fv_c6 rfl (fw_at (show cT 31 = some (3, 6, 3, [some 32, some 33, none]) from rfl)) (C9_linesFrom H4 L q th rs (spc_off hS ho4) b hb hth 1 3 (by decide) (by decide)) rfl rfl (by decide) (Nat.le_of_ble_eq_true rfl) (by decide) (by decide) (fun r26 f26 al26 h26 => ?_)
                  obtain ⟨H5, rfl, rfl, rfl, hh5⟩ := h26
                  have ho5 := offp_tr ho4 hh5
                  show fv_At Y9_linesMeeting 5 0 0 Q 29 [(0, .ref 31), (1, .int (nI b)), (2, .int (nI ((((0 + (lfr rs q 0 1 b)) + (lfr rs q 0 2 b)) + (lfr rs q 0 3 b)) + (lfr rs q 1 2 b)))), (3, .int (nI 1)), (4, .int (nI 3))] [.int (nI (lfr rs q 1 3 b)), .int (nI ((((0 + (lfr rs q 0 1 b)) + (lfr rs q 0 2 b)) + (lfr rs q 0 3 b)) + (lfr rs q 1 2 b)))] (fw cT H5 L) none 0 0
                  refine fn_iadd dX9_linesMeeting_29 ?_
                  refine fx_istore_n (lv2 := [(0, .ref 31), (1, .int (nI b)), (2, .int (nI (((((0 + (lfr rs q 0 1 b)) + (lfr rs q 0 2 b)) + (lfr rs q 0 3 b)) + (lfr rs q 1 2 b)) + (lfr rs q 1 3 b)))), (3, .int (nI 1)), (4, .int (nI 3))]) dX9_linesMeeting_30 (i := 2) rfl (by decide) rfl ?_
                  refine fn_iinc (c := 1) (lv2 := [(0, .ref 31), (1, .int (nI b)), (2, .int (nI (((((0 + (lfr rs q 0 1 b)) + (lfr rs q 0 2 b)) + (lfr rs q 0 3 b)) + (lfr rs q 1 2 b)) + (lfr rs q 1 3 b)))), (3, .int (nI 1)), (4, .int (nI 4))]) dX9_linesMeeting_31 (by decide) rfl (by decide) rfl ?_
                  refine fx_goto (tgt := 14) dX9_linesMeeting_34 (by decide) ?_
                  refine fx_iload dX9_linesMeeting_14 rfl ?_
                  refine fx_iconst (v := (nI 4)) dX9_linesMeeting_16 (by decide) ?_
                  refine fn_icmp_ge (tgt := 37) dX9_linesMeeting_17 (by decide) (by omega) (by omega) (fun c17 => ?_) (fun c17 => ?_)
                  · skip
                    refine fn_iinc (c := 1) (lv2 := [(0, .ref 31), (1, .int (nI b)), (2, .int (nI (((((0 + (lfr rs q 0 1 b)) + (lfr rs q 0 2 b)) + (lfr rs q 0 3 b)) + (lfr rs q 1 2 b)) + (lfr rs q 1 3 b)))), (3, .int (nI 2)), (4, .int (nI 4))]) dX9_linesMeeting_37 (by decide) rfl (by decide) rfl ?_
                    refine fx_goto (tgt := 4) dX9_linesMeeting_40 (by decide) ?_
                    refine fx_iload_n dX9_linesMeeting_4 rfl (i := 3) rfl ?_
                    refine fx_iconst (v := (nI 3)) dX9_linesMeeting_5 (by decide) ?_
                    refine fn_icmp_ge (tgt := 43) dX9_linesMeeting_6 (by decide) (by omega) (by omega) (fun c6 => ?_) (fun c6 => ?_)
                    · exfalso; omega
                    · skip
                      refine fx_iload_n dX9_linesMeeting_9 rfl (i := 3) rfl ?_
                      refine fx_iconst (v := (nI 1)) dX9_linesMeeting_10 (by decide) ?_
                      refine fn_iadd dX9_linesMeeting_11 ?_
                      refine fx_istore (lv2 := [(0, .ref 31), (1, .int (nI b)), (2, .int (nI (((((0 + (lfr rs q 0 1 b)) + (lfr rs q 0 2 b)) + (lfr rs q 0 3 b)) + (lfr rs q 1 2 b)) + (lfr rs q 1 3 b)))), (3, .int (nI 2)), (4, .int (nI 3))]) dX9_linesMeeting_12 (by decide) rfl ?_
                      refine fx_iload dX9_linesMeeting_14 rfl ?_
                      refine fx_iconst (v := (nI 4)) dX9_linesMeeting_16 (by decide) ?_
                      refine fn_icmp_ge (tgt := 37) dX9_linesMeeting_17 (by decide) (by omega) (by omega) (fun c17 => ?_) (fun c17 => ?_)
                      · exfalso; omega
                      · skip
                        refine fx_iload_n dX9_linesMeeting_20 rfl (i := 2) rfl ?_
                        refine fx_aload_n dX9_linesMeeting_21 rfl (i := 0) rfl ?_
                        refine fx_iload_n dX9_linesMeeting_22 rfl (i := 3) rfl ?_
                        refine fx_iload dX9_linesMeeting_23 rfl ?_
                        refine fx_iload_n dX9_linesMeeting_25 rfl (i := 1) rfl ?_
                        refine fx_callV dX9_linesMeeting_26 lk9_69 fv_c6 rfl (fw_at (show cT 31 = some (3, 6, 3, [some 32, some 33, none]) from rfl)) (C9_linesFrom H5 L q th rs (spc_off hS ho5) b hb hth 2 3 (by decide) (by decide)) rfl rfl (by decide) (Nat.le_of_ble_eq_true rfl) (by decide) (by decide) (fun r26 f26 al26 h26 => ?_)
                        obtain ⟨H6, rfl, rfl, rfl, hh6⟩ := h26
                        have ho6 := offp_tr ho5 hh6
                        show fv_At Y9_linesMeeting 5 0 0 Q 29 [(0, .ref 31), (1, .int (nI b)), (2, .int (nI (((((0 + (lfr rs q 0 1 b)) + (lfr rs q 0 2 b)) + (lfr rs q 0 3 b)) + (lfr rs q 1 2 b)) + (lfr rs q 1 3 b)))), (3, .int (nI 2)), (4, .int (nI 3))] [.int (nI (lfr rs q 2 3 b)), .int (nI (((((0 + (lfr rs q 0 1 b)) + (lfr rs q 0 2 b)) + (lfr rs q 0 3 b)) + (lfr rs q 1 2 b)) + (lfr rs q 1 3 b)))] (fw cT H6 L) none 0 0
                        refine fn_iadd dX9_linesMeeting_29 ?_
                        refine fx_istore_n (lv2 := [(0, .ref 31), (1, .int (nI b)), (2, .int (nI ((((((0 + (lfr rs q 0 1 b)) + (lfr rs q 0 2 b)) + (lfr rs q 0 3 b)) + (lfr rs q 1 2 b)) + (lfr rs q 1 3 b)) + (lfr rs q 2 3 b)))), (3, .int (nI 2)), (4, .int (nI 3))]) dX9_linesMeeting_30 (i := 2) rfl (by decide) rfl ?_
                        refine fn_iinc (c := 1) (lv2 := [(0, .ref 31), (1, .int (nI b)), (2, .int (nI ((((((0 + (lfr rs q 0 1 b)) + (lfr rs q 0 2 b)) + (lfr rs q 0 3 b)) + (lfr rs q 1 2 b)) + (lfr rs q 1 3 b)) + (lfr rs q 2 3 b)))), (3, .int (nI 2)), (4, .int (nI 4))]) dX9_linesMeeting_31 (by decide) rfl (by decide) rfl ?_
                        refine fx_goto (tgt := 14) dX9_linesMeeting_34 (by decide) ?_
                        refine fx_iload dX9_linesMeeting_14 rfl ?_
                        refine fx_iconst (v := (nI 4)) dX9_linesMeeting_16 (by decide) ?_
                        refine fn_icmp_ge (tgt := 37) dX9_linesMeeting_17 (by decide) (by omega) (by omega) (fun c17 => ?_) (fun c17 => ?_)
                        · skip
                          refine fn_iinc (c := 1) (lv2 := [(0, .ref 31), (1, .int (nI b)), (2, .int (nI ((((((0 + (lfr rs q 0 1 b)) + (lfr rs q 0 2 b)) + (lfr rs q 0 3 b)) + (lfr rs q 1 2 b)) + (lfr rs q 1 3 b)) + (lfr rs q 2 3 b)))), (3, .int (nI 3)), (4, .int (nI 4))]) dX9_linesMeeting_37 (by decide) rfl (by decide) rfl ?_
                          refine fx_goto (tgt := 4) dX9_linesMeeting_40 (by decide) ?_
                          refine fx_iload_n dX9_linesMeeting_4 rfl (i := 3) rfl ?_
                          refine fx_iconst (v := (nI 3)) dX9_linesMeeting_5 (by decide) ?_
                          refine fn_icmp_ge (tgt := 43) dX9_linesMeeting_6 (by decide) (by omega) (by omega) (fun c6 => ?_) (fun c6 => ?_)
                          · skip
                            refine fx_iload_n dX9_linesMeeting_43 rfl (i := 2) rfl ?_
                            exact fx_iret dX9_linesMeeting_44 rfl rfl rfl (by rw [hQ]; exact ⟨H6, rfl, rfl, rfl, ho6⟩)
                          · exfalso; omega
                        · exfalso; omega
                  · exfalso; omega
          · exfalso; omega

/-- the rods from 0 on are missing -/
def vsh (G : Nat → Nat → Int32) (n : Nat) : Nat → Nat → Int32 := fun i j => if j = 1 ∧ 35 ≤ i ∧ i < 35 + 2 * n ∧ i % 2 = 1 then bI false else G i j
theorem vsh_0 (G : Nat → Nat → Int32) : vsh G 0 = G := by
  funext i j
  exact if_neg (fun h => by omega)
theorem vsh_s (G : Nat → Nat → Int32) (n : Nat) : g2 (vsh G n) (35 + 2 * n) 1 (bI false) = vsh G (n + 1) := by
  funext i j
  unfold g2 vsh
  by_cases h : i = 35 + 2 * n ∧ j = 1
  · rw [if_pos h, if_pos (by omega)]
  · rw [if_neg h]
    by_cases h2 : j = 1 ∧ 35 ≤ i ∧ i < 35 + 2 * n ∧ i % 2 = 1
    · rw [if_pos h2, if_pos (by omega)]
    · rw [if_neg h2, if_neg (fun q => by omega)]

set_option maxRecDepth 4000 in
set_option maxHeartbeats 1000000 in
theorem C9_change  (G : Nat → Nat → Int32) (L : Nat → Nat → Int64) (q : Nat) (th : Nat → Bool) (rs : Nat → Nat → Nat) (hS : spc G q th rs) (t : Nat) : fv_M Y9_change 1 0 0 [.ref 31, .int (nI t)] (fw cT G L) none (fv_eq (some (.int (nI q))) (fw cT (vsh (g2 G 31 2 (nI t)) 8) L)) := by
  refine fv_enter rfl (Nat.le_of_ble_eq_true rfl) ?_
  obtain ⟨Q, hQ⟩ : ∃ Q : Option Value → fv_F → Option Nat → Prop, Q = (fv_eq (some (.int (nI q))) (fw cT (vsh (g2 G 31 2 (nI t)) 8) L)) := ⟨_, rfl⟩
  rw [← hQ]
  show fv_At Y9_change 1 0 0 Q 0 [(0, .ref 31), (1, .int (nI t))] [] (fw cT G L) none 0 0
  refine fx_aload_n dX9_change_0 rfl (i := 0) rfl ?_
  refine fw_geti dX9_change_1 fd9_22 rfl rfl ?_
  refine fn_to (show _ = (nI q) from hS.1) ?_
  refine fx_istore_n (lv2 := [(0, .ref 31), (1, .int (nI t)), (2, .int (nI q))]) dX9_change_4 (i := 2) rfl (by decide) rfl ?_
  refine fx_aload_n dX9_change_5 rfl (i := 0) rfl ?_
  refine fx_iload_n dX9_change_6 rfl (i := 1) rfl ?_
  refine fw_puti dX9_change_7 fd9_22 rfl rfl ?_
  refine fx_iconst (v := (nI 0)) dX9_change_10 (by decide) ?_
  refine fx_istore_n (lv2 := [(0, .ref 31), (1, .int (nI t)), (2, .int (nI q)), (3, .int (nI 0))]) dX9_change_11 (i := 3) rfl (by decide) rfl ?_
  have L12 : ∀ (k : Nat) (r : Nat) (G1 : Nat → Nat → Int32), (r + k = 8) → (G1 = vsh (g2 G 31 2 (nI t)) r) → fv_At Y9_change 1 0 0 Q 12 [(0, .ref 31), (1, .int (nI t)), (2, .int (nI q)), (3, .int (nI r))] [] (fw cT G1 L) none 0 0 := by
    intro k
    induction k with
    | zero =>
      intro r G1 hr hG
      refine fx_iload_n dX9_change_12 rfl (i := 3) rfl ?_
      refine fx_bipush (v := (nI 8)) dX9_change_13 (by decide) ?_
      refine fn_icmp_ge (tgt := 33) dX9_change_15 (by decide) (by omega) (by omega) (fun c15 => ?_) (fun c15 => ?_)
      · skip
        refine fx_iload_n dX9_change_33 rfl (i := 2) rfl ?_
        exact fx_iret dX9_change_34 rfl rfl rfl (by rw [hQ]; exact ⟨rfl, by rw [hG, show r = 8 by omega], rfl⟩)
      · exfalso; omega
    | succ k ih12 =>
      intro r G1 hr hG
      refine fx_iload_n dX9_change_12 rfl (i := 3) rfl ?_
      refine fx_bipush (v := (nI 8)) dX9_change_13 (by decide) ?_
      refine fn_icmp_ge (tgt := 33) dX9_change_15 (by decide) (by omega) (by omega) (fun c15 => ?_) (fun c15 => ?_)
      · exfalso; omega
      · skip
        refine fx_aload_n dX9_change_18 rfl (i := 0) rfl ?_
        refine fw_getr dX9_change_19 fd9_13 rfl rfl ?_
        refine fx_iload_n dX9_change_22 rfl (i := 3) rfl ?_
        refine fw_aald (r := 35 + 2 * r) r dX9_change_23 rfl (by decide) rfl (by omega) (by decide) (rods_at (by omega)) ?_
        refine fn_cV dX9_change_24 lk9_38 fv_c3 rfl (fw_at (rod_lay (by omega))) (C5_vanish cT (35 + 2 * r) (rod_lay (by omega)) (rod_lay1 (by omega)) G1 L) rfl rfl (by decide) (Nat.le_of_ble_eq_true rfl) ?_
        show fv_At Y9_change 1 0 0 Q 27 [(0, .ref 31), (1, .int (nI t)), (2, .int (nI q)), (3, .int (nI r))] [] (fw cT (g2 G1 (35 + 2 * r) 1 (bI false)) L) none 0 0
        refine fn_iinc (c := 1) (lv2 := [(0, .ref 31), (1, .int (nI t)), (2, .int (nI q)), (3, .int (nI (r + 1)))]) dX9_change_27 (by decide) rfl (by decide) rfl ?_
        refine fx_goto (tgt := 12) dX9_change_30 (by decide) ?_
        exact (ih12 (r + 1) (g2 G1 (35 + 2 * r) 1 (bI false)) (by omega) (by rw [hG, vsh_s]))
  exact (L12 8 0 (g2 G 31 2 ((nI t))) (by omega) (vsh_0 _).symm)

set_option maxRecDepth 4000 in
set_option maxHeartbeats 1000000 in
theorem C9_remove  (G : Nat → Nat → Int32) (L : Nat → Nat → Int64) (q : Nat) (th : Nat → Bool) (rs : Nat → Nat → Nat) (hS : spc G q th rs) (r : Nat) (hr : r < 8) : fv_M Y9_remove 1 0 0 [.ref 31, .int (nI r)] (fw cT G L) none (fv_eq (some (.int (bI (th r)))) (if th r = true then fw cT (g2 G (35 + 2 * r) 1 (bI false)) L else fw cT G L)) := by
  refine fv_enter rfl (Nat.le_of_ble_eq_true rfl) ?_
  obtain ⟨Q, hQ⟩ : ∃ Q : Option Value → fv_F → Option Nat → Prop, Q = (fv_eq (some (.int (bI (th r)))) (if th r = true then fw cT (g2 G (35 + 2 * r) 1 (bI false)) L else fw cT G L)) := ⟨_, rfl⟩
  rw [← hQ]
  show fv_At Y9_remove 1 0 0 Q 0 [(0, .ref 31), (1, .int (nI r))] [] (fw cT G L) none 0 0
  refine fx_iload_n dX9_remove_0 rfl (i := 1) rfl ?_
  refine fn_cS dX9_remove_1 lk9_41 (C9_isRod (r := ((r : Nat) : Int)) (by omega) (by omega) (f := (fw cT G L))) rfl rfl (by decide) (Nat.le_of_ble_eq_true rfl) ?_
  show fv_At Y9_remove 1 0 0 Q 4 [(0, .ref 31), (1, .int (nI r))] [.int (bI (isRd (((r : Nat) : Int))))] (fw cT G L) none 0 0
  refine fn_to (show _ = (bI true) from (by unfold isRd; rw [decide_eq_true (by omega)])) ?_
  refine fn_if_eqB (tgt := 19) dX9_remove_4 (by decide) (fun c4 => ?_) (fun c4 => ?_)
  · exact absurd c4 (by decide)
  · skip
    refine fx_aload_n dX9_remove_7 rfl (i := 0) rfl ?_
    refine fw_getr dX9_remove_8 fd9_13 rfl rfl ?_
    refine fx_iload_n dX9_remove_11 rfl (i := 1) rfl ?_
    refine fw_aald (r := 35 + 2 * r) r dX9_remove_12 rfl (by decide) rfl (by omega) (by decide) (rods_at (by omega)) ?_
    refine fn_cV dX9_remove_13 lk9_53 fv_c3 rfl (fw_at (rod_lay (by omega))) (C5_isThere cT (35 + 2 * r) (rod_lay (by omega)) (rod_lay1 (by omega)) G L (th r) (hS.2.2.1 _ (by omega))) rfl rfl (by decide) (Nat.le_of_ble_eq_true rfl) ?_
    show fv_At Y9_remove 1 0 0 Q 16 [(0, .ref 31), (1, .int (nI r))] [.int (bI (th r))] (fw cT G L) none 0 0
    refine fn_if_neB (tgt := 21) dX9_remove_16 (by decide) (fun c16 => ?_) (fun c16 => ?_)
    · skip
      refine fx_aload_n dX9_remove_21 rfl (i := 0) rfl ?_
      refine fw_getr dX9_remove_22 fd9_13 rfl rfl ?_
      refine fx_iload_n dX9_remove_25 rfl (i := 1) rfl ?_
      refine fw_aald (r := 35 + 2 * r) r dX9_remove_26 rfl (by decide) rfl (by omega) (by decide) (rods_at (by omega)) ?_
      refine fn_cV dX9_remove_27 lk9_38 fv_c3 rfl (fw_at (rod_lay (by omega))) (C5_vanish cT (35 + 2 * r) (rod_lay (by omega)) (rod_lay1 (by omega)) G L) rfl rfl (by decide) (Nat.le_of_ble_eq_true rfl) ?_
      show fv_At Y9_remove 1 0 0 Q 30 [(0, .ref 31), (1, .int (nI r))] [] (fw cT (g2 G (35 + 2 * r) 1 (bI false)) L) none 0 0
      refine fx_iconst (v := (nI 1)) dX9_remove_30 (by decide) ?_
      refine fn_to (show _ = (bI true) from rfl) ?_
      exact fx_zret dX9_remove_31 rfl (bI_01 _) rfl rfl (by rw [hQ]; exact ⟨by rw [c16], by rw [if_pos c16], rfl⟩)
    · skip
      refine fx_iconst (v := (nI 0)) dX9_remove_19 (by decide) ?_
      refine fn_to (show _ = (bI false) from rfl) ?_
      exact fx_zret dX9_remove_20 rfl (bI_01 _) rfl rfl (by rw [hQ]; exact ⟨by rw [c16], by rw [if_neg (by simp_all)], rfl⟩)

def hmt (th : Nat → Bool) (rs : Nat → Nat → Nat) (q a b : Nat) : Int := if th a = true ∧ th b = true then (if lke (rs a) (rs b) = true then 2 else if crx (rs a) (rs b) q = true then 1 else 0) else -3

set_option maxRecDepth 4000 in
set_option maxHeartbeats 1000000 in
theorem C9_howMet  (G : Nat → Nat → Int32) (L : Nat → Nat → Int64) (q : Nat) (th : Nat → Bool) (rs : Nat → Nat → Nat) (hS : spc G q th rs) (a b : Nat) (ha : a < 8) (hb : b < 8) : fv_M Y9_howMet 3 0 0 [.ref 31, .int (nI a), .int (nI b)] (fw cT G L) none (fv_eq (some (.int (iI (hmt th rs q a b)))) (fw cT G L)) := by
  refine fv_enter rfl (Nat.le_of_ble_eq_true rfl) ?_
  obtain ⟨Q, hQ⟩ : ∃ Q : Option Value → fv_F → Option Nat → Prop, Q = (fv_eq (some (.int (iI (hmt th rs q a b)))) (fw cT G L)) := ⟨_, rfl⟩
  rw [← hQ]
  show fv_At Y9_howMet 3 0 0 Q 0 [(0, .ref 31), (1, .int (nI a)), (2, .int (nI b))] [] (fw cT G L) none 0 0
  refine fx_iload_n dX9_howMet_0 rfl (i := 1) rfl ?_
  refine fn_cS dX9_howMet_1 lk9_41 (C9_isRod (r := ((a : Nat) : Int)) (by omega) (by omega) (f := (fw cT G L))) rfl rfl (by decide) (Nat.le_of_ble_eq_true rfl) ?_
  show fv_At Y9_howMet 3 0 0 Q 4 [(0, .ref 31), (1, .int (nI a)), (2, .int (nI b))] [.int (bI (isRd (((a : Nat) : Int))))] (fw cT G L) none 0 0
  refine fn_to (show _ = (bI true) from (by unfold isRd; rw [decide_eq_true (by omega)])) ?_
  refine fn_if_eqB (tgt := 38) dX9_howMet_4 (by decide) (fun c4 => ?_) (fun c4 => ?_)
  · exact absurd c4 (by decide)
  · skip
    refine fx_iload_n dX9_howMet_7 rfl (i := 2) rfl ?_
    refine fn_cS dX9_howMet_8 lk9_41 (C9_isRod (r := ((b : Nat) : Int)) (by omega) (by omega) (f := (fw cT G L))) rfl rfl (by decide) (Nat.le_of_ble_eq_true rfl) ?_
    show fv_At Y9_howMet 3 0 0 Q 11 [(0, .ref 31), (1, .int (nI a)), (2, .int (nI b))] [.int (bI (isRd (((b : Nat) : Int))))] (fw cT G L) none 0 0
    refine fn_to (show _ = (bI true) from (by unfold isRd; rw [decide_eq_true (by omega)])) ?_
    refine fn_if_eqB (tgt := 38) dX9_howMet_11 (by decide) (fun c11 => ?_) (fun c11 => ?_)
    · exact absurd c11 (by decide)
    · skip
      refine fx_aload_n dX9_howMet_14 rfl (i := 0) rfl ?_
      refine fw_getr dX9_howMet_15 fd9_13 rfl rfl ?_
      refine fx_iload_n dX9_howMet_18 rfl (i := 1) rfl ?_
      refine fw_aald (r := 35 + 2 * a) a dX9_howMet_19 rfl (by decide) rfl (by omega) (by decide) (rods_at (by omega)) ?_
      refine fn_cV dX9_howMet_20 lk9_53 fv_c3 rfl (fw_at (rod_lay (by omega))) (C5_isThere cT (35 + 2 * a) (rod_lay (by omega)) (rod_lay1 (by omega)) G L (th a) (hS.2.2.1 _ (by omega))) rfl rfl (by decide) (Nat.le_of_ble_eq_true rfl) ?_
      show fv_At Y9_howMet 3 0 0 Q 23 [(0, .ref 31), (1, .int (nI a)), (2, .int (nI b))] [.int (bI (th a))] (fw cT G L) none 0 0
      refine fn_if_eqB (tgt := 38) dX9_howMet_23 (by decide) (fun c23 => ?_) (fun c23 => ?_)
      · skip
        refine fx_bipush (v := (iI (-3))) dX9_howMet_38 (by decide) ?_
        exact fx_iret dX9_howMet_40 rfl rfl rfl (by rw [hQ]; exact ⟨by unfold hmt; rw [if_neg (by simp_all)], rfl, rfl⟩)
      · skip
        refine fx_aload_n dX9_howMet_26 rfl (i := 0) rfl ?_
        refine fw_getr dX9_howMet_27 fd9_13 rfl rfl ?_
        refine fx_iload_n dX9_howMet_30 rfl (i := 2) rfl ?_
        refine fw_aald (r := 35 + 2 * b) b dX9_howMet_31 rfl (by decide) rfl (by omega) (by decide) (rods_at (by omega)) ?_
        refine fn_cV dX9_howMet_32 lk9_53 fv_c3 rfl (fw_at (rod_lay (by omega))) (C5_isThere cT (35 + 2 * b) (rod_lay (by omega)) (rod_lay1 (by omega)) G L (th b) (hS.2.2.1 _ (by omega))) rfl rfl (by decide) (Nat.le_of_ble_eq_true rfl) ?_
        show fv_At Y9_howMet 3 0 0 Q 35 [(0, .ref 31), (1, .int (nI a)), (2, .int (nI b))] [.int (bI (th b))] (fw cT G L) none 0 0
        refine fn_if_neB (tgt := 41) dX9_howMet_35 (by decide) (fun c35 => ?_) (fun c35 => ?_)
        · skip
          refine fx_aload_n dX9_howMet_41 rfl (i := 0) rfl ?_
          refine fw_getr dX9_howMet_42 fd9_13 rfl rfl ?_
          refine fx_iload_n dX9_howMet_45 rfl (i := 1) rfl ?_
          refine fw_aald (r := 35 + 2 * a) a dX9_howMet_46 rfl (by decide) rfl (by omega) (by decide) (rods_at (by omega)) ?_
          refine fx_aload_n dX9_howMet_47 rfl (i := 0) rfl ?_
          refine fw_getr dX9_howMet_48 fd9_13 rfl rfl ?_
          refine fx_iload_n dX9_howMet_51 rfl (i := 2) rfl ?_
          refine fw_aald (r := 35 + 2 * b) b dX9_howMet_52 rfl (by decide) rfl (by omega) (by decide) (rods_at (by omega)) ?_
          refine fn_cV dX9_howMet_53 lk9_57 fv_c3 rfl (fw_at (rod_lay (by omega))) (C5_isLike cT (35 + 2 * a) (rod_lay (by omega)) (rod_lay1 (by omega)) (35 + 2 * b) (rod_lay (by omega)) (rod_lay1 (by omega)) G L (rs a) (fun j hj => (hS.2.2.2 a (by omega) (by assumption) j hj).1) (rs b) (fun j hj => (hS.2.2.2 b (by omega) (by assumption) j hj).1) (fun j hj => (hS.2.2.2 a (by omega) (by assumption) j hj).2) (fun j hj => (hS.2.2.2 b (by omega) (by assumption) j hj).2)) rfl rfl (by decide) (Nat.le_of_ble_eq_true rfl) ?_
          show fv_At Y9_howMet 3 0 0 Q 56 [(0, .ref 31), (1, .int (nI a)), (2, .int (nI b))] [.int (bI (lke (rs a) (rs b)))] (fw cT G L) none 0 0
          refine fn_if_eqB (tgt := 61) dX9_howMet_56 (by decide) (fun c56 => ?_) (fun c56 => ?_)
          · skip
            refine fx_aload_n dX9_howMet_61 rfl (i := 0) rfl ?_
            refine fw_getr dX9_howMet_62 fd9_13 rfl rfl ?_
            refine fx_iload_n dX9_howMet_65 rfl (i := 1) rfl ?_
            refine fw_aald (r := 35 + 2 * a) a dX9_howMet_66 rfl (by decide) rfl (by omega) (by decide) (rods_at (by omega)) ?_
            refine fx_aload_n dX9_howMet_67 rfl (i := 0) rfl ?_
            refine fw_getr dX9_howMet_68 fd9_13 rfl rfl ?_
            refine fx_iload_n dX9_howMet_71 rfl (i := 2) rfl ?_
            refine fw_aald (r := 35 + 2 * b) b dX9_howMet_72 rfl (by decide) rfl (by omega) (by decide) (rods_at (by omega)) ?_
            refine fx_aload_n dX9_howMet_73 rfl (i := 0) rfl ?_
            refine fw_geti dX9_howMet_74 fd9_22 rfl rfl ?_
            refine fn_to (show _ = (nI q) from hS.1) ?_
            refine fn_cV dX9_howMet_77 lk9_61 fv_c3 rfl (fw_at (rod_lay (by omega))) (C5_crosses cT (35 + 2 * a) (rod_lay (by omega)) (rod_lay1 (by omega)) (35 + 2 * b) (rod_lay (by omega)) (rod_lay1 (by omega)) G L (rs a) (fun j hj => (hS.2.2.2 a (by omega) (by assumption) j hj).1) (rs b) (fun j hj => (hS.2.2.2 b (by omega) (by assumption) j hj).1) (fun j hj => (hS.2.2.2 a (by omega) (by assumption) j hj).2) (fun j hj => (hS.2.2.2 b (by omega) (by assumption) j hj).2) q (spc_q hS).1 (by have := spc_q hS; omega)) rfl rfl (by decide) (Nat.le_of_ble_eq_true rfl) ?_
            show fv_At Y9_howMet 3 0 0 Q 80 [(0, .ref 31), (1, .int (nI a)), (2, .int (nI b))] [.int (bI (crx (rs a) (rs b) q))] (fw cT G L) none 0 0
            refine fn_if_eqB (tgt := 87) dX9_howMet_80 (by decide) (fun c80 => ?_) (fun c80 => ?_)
            · skip
              refine fx_iconst (v := (nI 0)) dX9_howMet_87 (by decide) ?_
              exact fx_iret dX9_howMet_88 rfl rfl rfl (by rw [hQ]; exact ⟨by unfold hmt; rw [if_pos (by simp_all), if_neg (by simp_all)]; first | rw [if_pos (by simp_all)]; rfl | rw [if_neg (by simp_all)]; rfl, rfl, rfl⟩)
            · skip
              refine fx_iconst (v := (nI 1)) dX9_howMet_83 (by decide) ?_
              refine fx_goto (tgt := 88) dX9_howMet_84 (by decide) ?_
              exact fx_iret dX9_howMet_88 rfl rfl rfl (by rw [hQ]; exact ⟨by unfold hmt; rw [if_pos (by simp_all), if_neg (by simp_all)]; first | rw [if_pos (by simp_all)]; rfl | rw [if_neg (by simp_all)]; rfl, rfl, rfl⟩)
          · skip
            refine fx_iconst (v := (nI 2)) dX9_howMet_59 (by decide) ?_
            exact fx_iret dX9_howMet_60 rfl rfl rfl (by rw [hQ]; exact ⟨by unfold hmt; rw [if_pos (by simp_all), if_pos (by simp_all)]; rfl, rfl, rfl⟩)
        · skip
          refine fx_bipush (v := (iI (-3))) dX9_howMet_38 (by decide) ?_
          exact fx_iret dX9_howMet_40 rfl rfl rfl (by rw [hQ]; exact ⟨by unfold hmt; rw [if_neg (by simp_all)], rfl, rfl⟩)

/-- a rod is the line through two points: the probe, and the rod where they are two -/
def lyp (G : Nat → Nat → Int32) (q a b : Nat) : Nat → Nat → Int32 := g2 (w6 G (33 + 1) 6 (pln a b q)) 33 1 (bI (decide (ldf (plk a b q) ≠ 0)))
def lyr (G : Nat → Nat → Int32) (q r a b : Nat) : Nat → Nat → Int32 := g2 (w6 (lyp G q a b) (35 + 2 * r + 1) 6 (pln a b q)) (35 + 2 * r) 1 (bI (decide (ldf (plk a b q) ≠ 0)))

set_option maxRecDepth 4000 in
set_option maxHeartbeats 1000000 in
theorem C9_lay  (G : Nat → Nat → Int32) (L : Nat → Nat → Int64) (q : Nat) (th : Nat → Bool) (rs : Nat → Nat → Nat) (hS : spc G q th rs) (r a b : Nat) (hr : r < 8) (ha : a < 10000) (hb : b < 10000) : fv_M Y9_lay 4 0 0 [.ref 31, .int (nI r), .int (nI a), .int (nI b)] (fw cT G L) none (fv_eq (some (.int (bI (decide (ldf (plk a b q) ≠ 0))))) (if ldf (plk a b q) ≠ 0 then fw cT (lyr G q r a b) L else fw cT (lyp G q a b) L)) := by
  refine fv_enter rfl (Nat.le_of_ble_eq_true rfl) ?_
  obtain ⟨Q, hQ⟩ : ∃ Q : Option Value → fv_F → Option Nat → Prop, Q = (fv_eq (some (.int (bI (decide (ldf (plk a b q) ≠ 0))))) (if ldf (plk a b q) ≠ 0 then fw cT (lyr G q r a b) L else fw cT (lyp G q a b) L)) := ⟨_, rfl⟩
  rw [← hQ]
  show fv_At Y9_lay 4 0 0 Q 0 [(0, .ref 31), (1, .int (nI r)), (2, .int (nI a)), (3, .int (nI b))] [] (fw cT G L) none 0 0
  have hq5 := spc_q hS
  refine fx_iload_n dX9_lay_0 rfl (i := 1) rfl ?_
  refine fn_cS dX9_lay_1 lk9_41 (C9_isRod (r := ((r : Nat) : Int)) (by omega) (by omega) (f := (fw cT G L))) rfl rfl (by decide) (Nat.le_of_ble_eq_true rfl) ?_
  show fv_At Y9_lay 4 0 0 Q 4 [(0, .ref 31), (1, .int (nI r)), (2, .int (nI a)), (3, .int (nI b))] [.int (bI (isRd (((r : Nat) : Int))))] (fw cT G L) none 0 0
  refine fn_to (show _ = (bI true) from (by unfold isRd; rw [decide_eq_true (by omega)])) ?_
  refine fn_if_eqB (tgt := 23) dX9_lay_4 (by decide) (fun c4 => ?_) (fun c4 => ?_)
  · exact absurd c4 (by decide)
  · skip
    refine fx_aload_n dX9_lay_7 rfl (i := 0) rfl ?_
    refine fw_getr dX9_lay_8 fd9_18 rfl rfl ?_
    refine fx_iload_n dX9_lay_11 rfl (i := 2) rfl ?_
    refine fx_iload_n dX9_lay_12 rfl (i := 3) rfl ?_
    refine fx_aload_n dX9_lay_13 rfl (i := 0) rfl ?_
    refine fw_geti dX9_lay_14 fd9_22 rfl rfl ?_
    refine fn_to (show _ = (nI q) from hS.1) ?_
    refine fn_cV dX9_lay_17 lk9_45 fv_c3 rfl (fw_at (show cT 33 = some (3, 3, 2, [some 34, none]) from rfl)) (C5_span cT 33 rfl rfl G L (a) (b) q (by omega) (by omega) hq5.1 (by omega)) rfl rfl (by decide) (Nat.le_of_ble_eq_true rfl) ?_
    show fv_At Y9_lay 4 0 0 Q 20 [(0, .ref 31), (1, .int (nI r)), (2, .int (nI a)), (3, .int (nI b))] [.int (bI (decide (ldf (plk a b q) ≠ 0)))] (fw cT (g2 (w6 G (33 + 1) 6 (pln a b q)) 33 1 (bI (decide (ldf (plk a b q) ≠ 0)))) L) none 0 0
    refine fn_if_neB (tgt := 25) dX9_lay_20 (by decide) (fun c20 => ?_) (fun c20 => ?_)
    · skip
      refine fx_aload_n dX9_lay_25 rfl (i := 0) rfl ?_
      refine fw_getr dX9_lay_26 fd9_13 rfl rfl ?_
      refine fx_iload_n dX9_lay_29 rfl (i := 1) rfl ?_
      refine fw_aald (r := 35 + 2 * r) r dX9_lay_30 rfl (by decide) rfl (by omega) (by decide) (rods_at (by omega)) ?_
      refine fx_aload_n dX9_lay_31 rfl (i := 0) rfl ?_
      refine fw_getr dX9_lay_32 fd9_18 rfl rfl ?_
      refine fn_cV dX9_lay_35 lk9_49 fv_c3 rfl (fw_at (rod_lay (by omega))) (C5_copy cT (35 + 2 * r) (rod_lay (by omega)) (rod_lay1 (by omega)) 33 rfl rfl (g2 (w6 G (33 + 1) 6 (pln a b q)) 33 1 (bI (decide (ldf (plk a b q) ≠ 0)))) L (pln a b q) (fun j hj => by rw [g2_ne _ _ (fun h => absurd h.1 (by decide)), w6_at hj]) (by omega) (by omega) (bI (decide (ldf (plk a b q) ≠ 0))) (g2_eq _ _ _ _) (bI_01 _)) rfl rfl (by decide) (Nat.le_of_ble_eq_true rfl) ?_
      show fv_At Y9_lay 4 0 0 Q 38 [(0, .ref 31), (1, .int (nI r)), (2, .int (nI a)), (3, .int (nI b))] [] (fw cT (g2 (w6 (g2 (w6 G (33 + 1) 6 (pln a b q)) 33 1 (bI (decide (ldf (plk a b q) ≠ 0)))) (35 + 2 * r + 1) 6 (pln a b q)) (35 + 2 * r) 1 (bI (decide (ldf (plk a b q) ≠ 0)))) L) none 0 0
      refine fx_iconst (v := (nI 1)) dX9_lay_38 (by decide) ?_
      refine fn_to (show _ = (bI true) from rfl) ?_
      exact fx_zret dX9_lay_39 rfl (bI_01 _) rfl rfl (by rw [hQ]; exact ⟨by rw [c20], by rw [if_pos (of_decide_eq_true c20)]; rfl, rfl⟩)
    · skip
      refine fx_iconst (v := (nI 0)) dX9_lay_23 (by decide) ?_
      refine fn_to (show _ = (bI false) from rfl) ?_
      exact fx_zret dX9_lay_24 rfl (bI_01 _) rfl rfl (by rw [hQ]; exact ⟨by rw [c20], by rw [if_neg (of_decide_eq_false c20)]; rfl, rfl⟩)
