/-- figures, counted from 1 -/
def sh1 (h : Nat → Nat) (r : Nat) : Nat := h (r - 1)
def ce0 (_ _ : Nat) : Nat := 0
def us0 (_ : Nat) : Nat := 0
/-- how many fillings -/
def xFil (k : Nat) (hA hB hC : Nat → Nat) : Nat := if plc hA k 0 0 + plc hB k 0 0 = plc hC k 0 0 ∧ (∀ p, p < k → hA p ≤ hC p) then fiL k (sh1 hA) (sh1 hB) (sh1 hC) (rsP k (sh1 hA) (sh1 hC) 1 (hC 0)) ce0 us0 else 0
theorem rowP_len (r : Nat) : ∀ n c, (rowP r c n).length = n
  | 0, _ => rfl
  | n + 1, c => by
    show (rowP r (c - 1) n).length + 1 = n + 1
    rw [rowP_len r n]
theorem plR_len {A C : Nat → Nat} : ∀ j r, (∀ q, r ≤ q → q < r + j → C q ≤ 4) → (plR A C j r).length ≤ 4 * j
  | 0, _, _ => Nat.le_refl _
  | j + 1, r, h => by
    have h1 := h r (Nat.le_refl _) (by omega)
    have ih := plR_len (A := A) j (r + 1) (fun q a b => h q (by omega) (by omega))
    show (rowP r (C r) (C r - A r) ++ plR A C j (r + 1)).length ≤ _
    rw [List.length_append, rowP_len]
    omega
theorem rsP_len {k : Nat} {A C : Nat → Nat} (hk : k ≤ 4) (h : ∀ q, 1 ≤ q → q ≤ k → C q ≤ 4) {c : Nat} (hc : c ≤ 4) : (rsP k A C 1 c).length + (k + 1 - 1) ≤ 24 := by
  have q := plR_len (A := A) (C := C) (k - 1) 2 (fun q a b => h q (by omega) (by omega))
  unfold rsP
  rw [List.length_append, rowP_len]
  show c - A 1 + (plR A C (k - 1) 2).length + (k + 1 - 1) ≤ 24
  omega
theorem fbx_of {k m : Nat} {hA hB hC : Nat → Nat} (hk : k ≤ 4) (hm : m ≤ 4) (vC : bxv hC k m) (h9 : ∀ p, hB p < 10) (hAC : ∀ p, p < k → hA p ≤ hC p) : fbx k (sh1 hA) (sh1 hB) (sh1 hC) := by
  refine ⟨hk, fun r a b => ?_, fun r a b => ?_, fun v a b => ?_⟩
  · have q := (rmo_le vC (r - 1) (by omega)).1
    exact ⟨hAC (r - 1) (by omega), by unfold sh1; omega⟩
  · have q := vC r (by omega)
    rw [if_neg (by omega)] at q
    exact q
  · have q := h9 (v - 1)
    unfold sh1
    omega
/-- but for the filler -/
def off2 (G G2 : Nat → Nat → Int32) : Prop := ∀ i, (i < 17 ∨ 26 < i) → G2 i = G i
def qhm (G : Nat → Nat → Int32) (L : Nat → Nat → Int64) (v : Nat) : Option Value → fv_F → Option Nat → Prop := fun r2 f2 al2 => ∃ G2 : Nat → Nat → Int32, r2 = some (.int (nI v)) ∧ f2 = fw cT G2 L ∧ al2 = none ∧ off2 G G2

set_option maxRecDepth 4000 in
set_option maxHeartbeats 1000000 in
theorem C4_howMany  (G : Nat → Nat → Int32) (L : Nat → Nat → Int64) (k m a b c : Nat) (hk1 : 1 ≤ k) (hk : k ≤ 4) (hm : m ≤ 4) (ha : a < 2147483648) (hb : b < 2147483648) (hc : c < 2147483648) (va : bxv (dgt a k) k m) (vb : bxv (dgt b k) k m) (vc : bxv (dgt c k) k m)  : fv_M Y4_howMany 26 0 0 [.ref 16, .int (nI k), .int (nI a), .int (nI b), .int (nI c)] (fw cT G L) none (qhm G L (xFil k (dgt a k) (dgt b k) (dgt c k))) := by
  refine fv_enter rfl (Nat.le_of_ble_eq_true rfl) ?_
  obtain ⟨Q, hQ⟩ : ∃ Q : Option Value → fv_F → Option Nat → Prop, Q = (qhm G L (xFil k (dgt a k) (dgt b k) (dgt c k))) := ⟨_, rfl⟩
  rw [← hQ]
  show fv_At Y4_howMany 26 0 0 Q 0 [(0, .ref 16), (1, .int (nI k)), (2, .int (nI a)), (3, .int (nI b)), (4, .int (nI c))] [] (fw cT G L) none 0 0
  refine fx_iload_n dX4_howMany_0 rfl (i := 1) rfl ?_
  refine fx_iconst (v := (nI 4)) dX4_howMany_1 (by decide) ?_
  refine fn_icmp_gt (tgt := 25) dX4_howMany_2 (by decide) (by omega) (by omega) (fun c2 => ?_) (fun c2 => ?_)
  · exfalso; omega
  · skip
    refine fx_iload_n dX4_howMany_5 rfl (i := 1) rfl ?_
    refine fx_iload_n dX4_howMany_6 rfl (i := 2) rfl ?_
    refine fn_cS dX4_howMany_7 lk4_29 (C1_places (k := k) (a := a) (by omega) (by omega) (f := (fw cT G L))) rfl rfl (by decide) (Nat.le_of_ble_eq_true rfl) ?_
    show fv_At Y4_howMany 26 0 0 Q 10 [(0, .ref 16), (1, .int (nI k)), (2, .int (nI a)), (3, .int (nI b)), (4, .int (nI c))] [.int (nI (plc (dgt a k) k 0 0))] (fw cT G L) none 0 0
    refine fx_iload_n dX4_howMany_10 rfl (i := 1) rfl ?_
    refine fx_iload_n dX4_howMany_11 rfl (i := 3) rfl ?_
    have pa := plc_9 (dgt_lt a k) k 0
    have pb := plc_9 (dgt_lt b k) k 0
    have pc := plc_9 (dgt_lt c k) k 0
    refine fn_cS dX4_howMany_12 lk4_29 (C1_places (k := k) (a := b) (by omega) (by omega) (f := (fw cT G L))) rfl rfl (by decide) (Nat.le_of_ble_eq_true rfl) ?_
    show fv_At Y4_howMany 26 0 0 Q 15 [(0, .ref 16), (1, .int (nI k)), (2, .int (nI a)), (3, .int (nI b)), (4, .int (nI c))] [.int (nI (plc (dgt b k) k 0 0)), .int (nI (plc (dgt a k) k 0 0))] (fw cT G L) none 0 0
    refine fn_iadd dX4_howMany_15 ?_
    refine fx_iload_n dX4_howMany_16 rfl (i := 1) rfl ?_
    refine fx_iload dX4_howMany_17 rfl ?_
    refine fn_cS dX4_howMany_19 lk4_29 (C1_places (k := k) (a := c) (by omega) (by omega) (f := (fw cT G L))) rfl rfl (by decide) (Nat.le_of_ble_eq_true rfl) ?_
    show fv_At Y4_howMany 26 0 0 Q 22 [(0, .ref 16), (1, .int (nI k)), (2, .int (nI a)), (3, .int (nI b)), (4, .int (nI c))] [.int (nI (plc (dgt c k) k 0 0)), .int (nI ((plc (dgt a k) k 0 0) + (plc (dgt b k) k 0 0)))] (fw cT G L) none 0 0
    refine fn_icmp_eq (tgt := 27) dX4_howMany_22 (by decide) (by omega) (by omega) (fun c22 => ?_) (fun c22 => ?_)
    · skip
      refine fx_iconst (v := (nI 1)) dX4_howMany_27 (by decide) ?_
      refine fx_istore (lv2 := [(0, .ref 16), (1, .int (nI k)), (2, .int (nI a)), (3, .int (nI b)), (4, .int (nI c)), (5, .int (nI 1))]) dX4_howMany_28 (by decide) rfl ?_
      have L30 : ∀ (j : Nat) (p : Nat) (G1 : Nat → Nat → Int32), (p + j = k) → (∀ q, q < p → G1 17 (q + 1) = nI (dgt a k q) ∧ G1 18 (q + 1) = nI (dgt c k q) ∧ G1 19 (q + 1) = nI (dgt b k q) ∧ G1 20 (q + 1) = nI 0) → (∀ q, q < p → dgt a k q ≤ dgt c k q) → (off2 G G1) → fv_At Y4_howMany 26 0 0 Q 30 [(0, .ref 16), (1, .int (nI k)), (2, .int (nI a)), (3, .int (nI b)), (4, .int (nI c)), (5, .int (nI (p + 1)))] [] (fw cT G1 L) none 0 0 := by
        intro j
        induction j with
        | zero =>
          intro p G1 hp hpc hAC hoG
          refine fx_iload dX4_howMany_30 rfl ?_
          refine fx_iload_n dX4_howMany_32 rfl (i := 1) rfl ?_
          refine fn_icmp_gt (tgt := 120) dX4_howMany_33 (by decide) (by omega) (by omega) (fun c33 => ?_) (fun c33 => ?_)
          · skip
            have hbx := fbx_of (hB := (dgt b k)) hk hm vc (dgt_lt b k) (fun q hq => hAC q (by omega))
            have rc0 := (rmo_le vc 0 (by omega)).1
            have hih3 := C4_fill k (sh1 (dgt a k)) (sh1 (dgt b k)) (sh1 (dgt c k)) hbx L 24 1 (dgt c k 0) ce0 us0 G1 (by decide) (by omega) (fun _ => ⟨hAC 0 (by omega), Nat.le_refl _⟩) (fun h => by omega) (rsP_len hk (fun q q1 q2 => (hbx.2.1 q q1 q2).2) (by omega)) ⟨fun r r1 r2 => (by have w := hpc (r - 1) (by omega); rw [show r - 1 + 1 = r by omega] at w; exact ⟨w.1, w.2.1⟩), fun v v1 v2 => (by have w := hpc (v - 1) (by omega); rw [show v - 1 + 1 = v by omega] at w; exact ⟨w.2.2.1, Nat.zero_le _, w.2.2.2⟩), fun r c2 r1 hg => (by unfold gon at hg; have e : sh1 (dgt c k) 1 = dgt c k 0 := rfl; by_cases z : r = 1; (subst z; omega); omega)⟩
            refine fx_aload_n dX4_howMany_120 rfl (i := 0) rfl ?_
            refine fx_iload_n dX4_howMany_121 rfl (i := 1) rfl ?_
            refine fx_iconst (v := (nI 1)) dX4_howMany_122 (by decide) ?_
            refine fx_aload_n dX4_howMany_123 rfl (i := 0) rfl ?_
            refine fw_getr dX4_howMany_124 fd4_15 rfl rfl ?_
            refine fx_iconst (v := (nI 1)) dX4_howMany_127 (by decide) ?_
            refine fw_iald 1 dX4_howMany_128 rfl rfl (by omega) (by decide) ?_
            refine fn_to (show _ = (nI (dgt c k 0)) from (hpc 0 (by omega)).2.1) ?_
            refine fx_callS dX4_howMany_129 lk4_44 hih3 rfl rfl (by decide) (Nat.le_of_ble_eq_true rfl) (by decide) (by decide) (fun r129 f129 al129 h129 => ?_)
            obtain ⟨G129, rfl, rfl, rfl, hp129, ho129⟩ := h129
            show fv_At Y4_howMany 26 0 0 Q 132 [(0, .ref 16), (1, .int (nI k)), (2, .int (nI a)), (3, .int (nI b)), (4, .int (nI c)), (5, .int (nI (p + 1)))] [.int (nI (fiL k (sh1 (dgt a k)) (sh1 (dgt b k)) (sh1 (dgt c k)) (rsP k (sh1 (dgt a k)) (sh1 (dgt c k)) 1 (dgt c k 0)) ce0 us0))] (fw cT G129 L) none 0 0
            exact fx_iret dX4_howMany_132 rfl rfl rfl (by rw [hQ]; exact ⟨G129, by unfold xFil; rw [if_pos ⟨by omega, fun q hq => hAC q (by omega)⟩], rfl, rfl, fun i h => (ho129 i (by omega) (by omega) (by omega)).trans (hoG i h)⟩)
          · exfalso; omega
        | succ j ih30 =>
          intro p G1 hp hpc hAC hoG
          refine fx_iload dX4_howMany_30 rfl ?_
          refine fx_iload_n dX4_howMany_32 rfl (i := 1) rfl ?_
          refine fn_icmp_gt (tgt := 120) dX4_howMany_33 (by decide) (by omega) (by omega) (fun c33 => ?_) (fun c33 => ?_)
          · exfalso; omega
          · skip
            have ra := (rmo_le va p (by omega)).1
            have rb := (rmo_le vb p (by omega)).1
            have rc := (rmo_le vc p (by omega)).1
            refine fx_aload_n dX4_howMany_36 rfl (i := 0) rfl ?_
            refine fw_getr dX4_howMany_37 fd4_9 rfl rfl ?_
            refine fx_iload dX4_howMany_40 rfl ?_
            refine fx_iload_n dX4_howMany_42 rfl (i := 1) rfl ?_
            refine fx_iload_n dX4_howMany_43 rfl (i := 2) rfl ?_
            refine fx_iload dX4_howMany_44 rfl ?_
            refine fn_cS dX4_howMany_46 lk4_35 (C1_figure (a := a) (k := k) (p := p) (by omega) (by omega) (by omega) (f := (fw cT G1 L))) rfl rfl (by decide) (Nat.le_of_ble_eq_true rfl) ?_
            show fv_At Y4_howMany 26 0 0 Q 49 [(0, .ref 16), (1, .int (nI k)), (2, .int (nI a)), (3, .int (nI b)), (4, .int (nI c)), (5, .int (nI (p + 1)))] [.int (nI (dgt a k p)), .int (nI (p + 1)), .ref 17] (fw cT G1 L) none 0 0
            refine fx_iconst (v := (nI 4)) dX4_howMany_49 (by decide) ?_
            refine fx_mmin dX4_howMany_50 lk4_39 (by omega) (by omega) (by decide) (Nat.le_of_ble_eq_true rfl) ?_
            refine fn_to (show _ = (nI (dgt a k p)) from (congrArg nI (by omega))) ?_
            refine fw_iast (p + 1) dX4_howMany_53 rfl rfl (by omega) (by decide) ?_
            refine fx_aload_n dX4_howMany_54 rfl (i := 0) rfl ?_
            refine fw_getr dX4_howMany_55 fd4_15 rfl rfl ?_
            refine fx_iload dX4_howMany_58 rfl ?_
            refine fx_iload_n dX4_howMany_60 rfl (i := 1) rfl ?_
            refine fx_iload dX4_howMany_61 rfl ?_
            refine fx_iload dX4_howMany_63 rfl ?_
            refine fn_cS dX4_howMany_65 lk4_35 (C1_figure (a := c) (k := k) (p := p) (by omega) (by omega) (by omega) (f := (fw cT (g2 G1 17 (p + 1) ((nI (dgt a k p)))) L))) rfl rfl (by decide) (Nat.le_of_ble_eq_true rfl) ?_
            show fv_At Y4_howMany 26 0 0 Q 68 [(0, .ref 16), (1, .int (nI k)), (2, .int (nI a)), (3, .int (nI b)), (4, .int (nI c)), (5, .int (nI (p + 1)))] [.int (nI (dgt c k p)), .int (nI (p + 1)), .ref 18] (fw cT (g2 G1 17 (p + 1) ((nI (dgt a k p)))) L) none 0 0
            refine fx_iconst (v := (nI 4)) dX4_howMany_68 (by decide) ?_
            refine fx_mmin dX4_howMany_69 lk4_39 (by omega) (by omega) (by decide) (Nat.le_of_ble_eq_true rfl) ?_
            refine fn_to (show _ = (nI (dgt c k p)) from (congrArg nI (by omega))) ?_
            refine fw_iast (p + 1) dX4_howMany_72 rfl rfl (by omega) (by decide) ?_
            refine fx_aload_n dX4_howMany_73 rfl (i := 0) rfl ?_
            refine fw_getr dX4_howMany_74 fd4_18 rfl rfl ?_
            refine fx_iload dX4_howMany_77 rfl ?_
            refine fx_iload_n dX4_howMany_79 rfl (i := 1) rfl ?_
            refine fx_iload_n dX4_howMany_80 rfl (i := 3) rfl ?_
            refine fx_iload dX4_howMany_81 rfl ?_
            refine fn_cS dX4_howMany_83 lk4_35 (C1_figure (a := b) (k := k) (p := p) (by omega) (by omega) (by omega) (f := (fw cT (g2 (g2 G1 17 (p + 1) ((nI (dgt a k p)))) 18 (p + 1) ((nI (dgt c k p)))) L))) rfl rfl (by decide) (Nat.le_of_ble_eq_true rfl) ?_
            show fv_At Y4_howMany 26 0 0 Q 86 [(0, .ref 16), (1, .int (nI k)), (2, .int (nI a)), (3, .int (nI b)), (4, .int (nI c)), (5, .int (nI (p + 1)))] [.int (nI (dgt b k p)), .int (nI (p + 1)), .ref 19] (fw cT (g2 (g2 G1 17 (p + 1) ((nI (dgt a k p)))) 18 (p + 1) ((nI (dgt c k p)))) L) none 0 0
            refine fw_iast (p + 1) dX4_howMany_86 rfl rfl (by omega) (by decide) ?_
            refine fx_aload_n dX4_howMany_87 rfl (i := 0) rfl ?_
            refine fw_getr dX4_howMany_88 fd4_21 rfl rfl ?_
            refine fx_iload dX4_howMany_91 rfl ?_
            refine fx_iconst (v := (nI 0)) dX4_howMany_93 (by decide) ?_
            refine fw_iast (p + 1) dX4_howMany_94 rfl rfl (by omega) (by decide) ?_
            refine fx_aload_n dX4_howMany_95 rfl (i := 0) rfl ?_
            refine fw_getr dX4_howMany_96 fd4_9 rfl rfl ?_
            refine fx_iload dX4_howMany_99 rfl ?_
            refine fw_iald (p + 1) dX4_howMany_101 rfl rfl (by omega) (by decide) ?_
            refine fn_to (show _ = (nI (dgt a k p)) from (by rw [g2_ne _ _ (by omega), g2_ne _ _ (by omega), g2_ne _ _ (by omega), g2_eq])) ?_
            refine fx_aload_n dX4_howMany_102 rfl (i := 0) rfl ?_
            refine fw_getr dX4_howMany_103 fd4_15 rfl rfl ?_
            refine fx_iload dX4_howMany_106 rfl ?_
            refine fw_iald (p + 1) dX4_howMany_108 rfl rfl (by omega) (by decide) ?_
            refine fn_to (show _ = (nI (dgt c k p)) from (by rw [g2_ne _ _ (by omega), g2_ne _ _ (by omega), g2_eq])) ?_
            refine fn_icmp_le (tgt := 114) dX4_howMany_109 (by decide) (by omega) (by omega) (fun c109 => ?_) (fun c109 => ?_)
            · skip
              refine fn_iinc (c := 1) (lv2 := [(0, .ref 16), (1, .int (nI k)), (2, .int (nI a)), (3, .int (nI b)), (4, .int (nI c)), (5, .int (nI (p + 1 + 1)))]) dX4_howMany_114 (by decide) rfl (by decide) rfl ?_
              refine fx_goto (tgt := 30) dX4_howMany_117 (by decide) ?_
              exact (ih30 (p + 1) (g2 (g2 (g2 (g2 G1 17 (p + 1) ((nI (dgt a k p)))) 18 (p + 1) ((nI (dgt c k p)))) 19 (p + 1) ((nI (dgt b k p)))) 20 (p + 1) ((nI 0))) (by omega) (fun q h => by by_cases z : q = p; (subst z; exact ⟨by rw [g2_ne _ _ (by omega), g2_ne _ _ (by omega), g2_ne _ _ (by omega), g2_eq], by rw [g2_ne _ _ (by omega), g2_ne _ _ (by omega), g2_eq], by rw [g2_ne _ _ (by omega), g2_eq], g2_eq _ _ _ _⟩); rw [g2_ne _ _ (by omega), g2_ne _ _ (by omega), g2_ne _ _ (by omega), g2_ne _ _ (by omega), g2_ne _ _ (by omega), g2_ne _ _ (by omega), g2_ne _ _ (by omega), g2_ne _ _ (by omega), g2_ne _ _ (by omega), g2_ne _ _ (by omega), g2_ne _ _ (by omega), g2_ne _ _ (by omega), g2_ne _ _ (by omega), g2_ne _ _ (by omega), g2_ne _ _ (by omega), g2_ne _ _ (by omega)]; exact hpc q (by omega)) (fun q h => by by_cases z : q = p; (subst z; omega); exact hAC q (by omega)) (fun i h => by rw [g2_row _ _ (by omega), g2_row _ _ (by omega), g2_row _ _ (by omega), g2_row _ _ (by omega)]; exact hoG i h))
            · skip
              refine fx_iconst (v := (nI 0)) dX4_howMany_112 (by decide) ?_
              exact fx_iret dX4_howMany_113 rfl rfl rfl (by rw [hQ]; exact ⟨_, by unfold xFil; rw [if_neg (fun w => by have := w.2 p (by omega); omega)], rfl, rfl, fun i h => by rw [g2_row _ _ (by omega), g2_row _ _ (by omega), g2_row _ _ (by omega), g2_row _ _ (by omega)]; exact hoG i h⟩)
      exact (L30 k 0 G (by omega) (fun q h => absurd h (Nat.not_lt_zero _)) (fun q h => absurd h (Nat.not_lt_zero _)) (fun _ _ => rfl))
    · skip
      refine fx_iconst (v := (nI 0)) dX4_howMany_25 (by decide) ?_
      exact fx_iret dX4_howMany_26 rfl rfl rfl (by rw [hQ]; exact ⟨G, by unfold xFil; rw [if_neg (fun w => by omega)], rfl, rfl, fun _ _ => rfl⟩)

def xFls (k m a b c : Int) : Int := if isBx k m a = true ∧ isBx k m b = true ∧ isBx k m c = true then ((xFil k.toNat (dgt a.toNat k.toNat) (dgt b.toNat k.toNat) (dgt c.toNat k.toNat) : Nat) : Int) else -2

set_option maxRecDepth 4000 in
set_option maxHeartbeats 1000000 in
theorem C2_filler  (G : Nat → Nat → Int32) (L : Nat → Nat → Int64)  : fv_M Y2_filler 0 0 0 [.ref 15] (fw cT G L) none (fv_eq (some (.ref 16)) (fw cT G L)) := by
  refine fv_enter rfl (Nat.le_of_ble_eq_true rfl) ?_
  obtain ⟨Q, hQ⟩ : ∃ Q : Option Value → fv_F → Option Nat → Prop, Q = (fv_eq (some (.ref 16)) (fw cT G L)) := ⟨_, rfl⟩
  rw [← hQ]
  show fv_At Y2_filler 0 0 0 Q 0 [(0, .ref 15)] [] (fw cT G L) none 0 0
  refine fx_aload_n dX2_filler_0 rfl (i := 0) rfl ?_
  refine fw_getr dX2_filler_1 fd2_12 rfl rfl ?_
  exact fx_aret dX2_filler_4 rfl rfl rfl (by rw [hQ]; exact ⟨rfl, rfl, rfl⟩)

def qhm2 (G : Nat → Nat → Int32) (L : Nat → Nat → Int64) (v : Int) : Option Value → fv_F → Option Nat → Prop := fun r2 f2 al2 => ∃ G2 : Nat → Nat → Int32, r2 = some (.int (iI v)) ∧ f2 = fw cT G2 L ∧ al2 = none ∧ off2 G G2
/-- what a condition brings: of the numbers so far -/
def ptN (o : Nat → Int64) (F : Nat → Nat) : Nat → Nat → Int64 → Int64
  | 0, _, x => x
  | n + 1, a, x => ptN o F n (a + 1) (if o a = 0 then x else x + o a * (nI (F a)).toInt64)
theorem ptN_s (o : Nat → Int64) (F : Nat → Nat) (n a : Nat) (x : Int64) : ptN o F (n + 1) a x = ptN o F n (a + 1) (if o a = 0 then x else x + o a * (nI (F a)).toInt64) := rfl
def ptO (k : Nat) (al : List Nat) (b : Nat) (o : Nat → Int64) (c : Nat) : Int64 := ptN o (fun a => xFil k (dgt (al.getD a 0) k) (dgt b k) (dgt (al.getD c 0) k)) al.length 0 0

set_option maxRecDepth 4000 in
set_option maxHeartbeats 1000000 in
theorem C10_fillings  (G : Nat → Nat → Int32) (L : Nat → Nat → Int64) (k m a b c : Int) (k1 : -2147483648 ≤ k) (k2 : k < 2147483648) (m1 : -2147483648 ≤ m) (m2 : m < 2147483648) (a1 : -2147483648 ≤ a) (a2 : a < 2147483648) (b1 : -2147483648 ≤ b) (b2 : b < 2147483648) (c1 : -2147483648 ≤ c) (c2 : c < 2147483648) : fv_M Y10_fillings 27 0 0 [.ref 0, .int (iI k), .int (iI m), .int (iI a), .int (iI b), .int (iI c)] (fw cT G L) none (qhm2 G L (xFls k m a b c)) := by
  refine fv_enter rfl (Nat.le_of_ble_eq_true rfl) ?_
  obtain ⟨Q, hQ⟩ : ∃ Q : Option Value → fv_F → Option Nat → Prop, Q = (qhm2 G L (xFls k m a b c)) := ⟨_, rfl⟩
  rw [← hQ]
  show fv_At Y10_fillings 27 0 0 Q 0 [(0, .ref 0), (1, .int (iI k)), (2, .int (iI m)), (3, .int (iI a)), (4, .int (iI b)), (5, .int (iI c))] [] (fw cT G L) none 0 0
  refine fx_iload_n dX10_fillings_0 rfl (i := 1) rfl ?_
  refine fx_iload_n dX10_fillings_1 rfl (i := 2) rfl ?_
  refine fx_iload_n dX10_fillings_2 rfl (i := 3) rfl ?_
  refine fn_cS dX10_fillings_3 lk10_131 (C1_isBox k m a (by omega) (by omega) (by omega) (by omega) (by omega) (by omega) (fw cT G L)) rfl rfl (by decide) (Nat.le_of_ble_eq_true rfl) ?_
  show fv_At Y10_fillings 27 0 0 Q 6 [(0, .ref 0), (1, .int (iI k)), (2, .int (iI m)), (3, .int (iI a)), (4, .int (iI b)), (5, .int (iI c))] [.int (bI (isBx k m a))] (fw cT G L) none 0 0
  refine fn_if_eqB (tgt := 29) dX10_fillings_6 (by decide) (fun c6 => ?_) (fun c6 => ?_)
  · skip
    refine fx_bipush (v := (iI (-2))) dX10_fillings_29 (by decide) ?_
    exact fx_iret dX10_fillings_31 rfl rfl rfl (by rw [hQ]; exact ⟨G, by unfold xFls; rw [if_neg (fun q => by simp_all)], rfl, rfl, fun _ _ => rfl⟩)
  · skip
    refine fx_iload_n dX10_fillings_9 rfl (i := 1) rfl ?_
    refine fx_iload_n dX10_fillings_10 rfl (i := 2) rfl ?_
    refine fx_iload dX10_fillings_11 rfl ?_
    refine fn_cS dX10_fillings_13 lk10_131 (C1_isBox k m b (by omega) (by omega) (by omega) (by omega) (by omega) (by omega) (fw cT G L)) rfl rfl (by decide) (Nat.le_of_ble_eq_true rfl) ?_
    show fv_At Y10_fillings 27 0 0 Q 16 [(0, .ref 0), (1, .int (iI k)), (2, .int (iI m)), (3, .int (iI a)), (4, .int (iI b)), (5, .int (iI c))] [.int (bI (isBx k m b))] (fw cT G L) none 0 0
    refine fn_if_eqB (tgt := 29) dX10_fillings_16 (by decide) (fun c16 => ?_) (fun c16 => ?_)
    · skip
      refine fx_bipush (v := (iI (-2))) dX10_fillings_29 (by decide) ?_
      exact fx_iret dX10_fillings_31 rfl rfl rfl (by rw [hQ]; exact ⟨G, by unfold xFls; rw [if_neg (fun q => by simp_all)], rfl, rfl, fun _ _ => rfl⟩)
    · skip
      refine fx_iload_n dX10_fillings_19 rfl (i := 1) rfl ?_
      refine fx_iload_n dX10_fillings_20 rfl (i := 2) rfl ?_
      refine fx_iload dX10_fillings_21 rfl ?_
      refine fn_cS dX10_fillings_23 lk10_131 (C1_isBox k m c (by omega) (by omega) (by omega) (by omega) (by omega) (by omega) (fw cT G L)) rfl rfl (by decide) (Nat.le_of_ble_eq_true rfl) ?_
      show fv_At Y10_fillings 27 0 0 Q 26 [(0, .ref 0), (1, .int (iI k)), (2, .int (iI m)), (3, .int (iI a)), (4, .int (iI b)), (5, .int (iI c))] [.int (bI (isBx k m c))] (fw cT G L) none 0 0
      refine fn_if_neB (tgt := 32) dX10_fillings_26 (by decide) (fun c26 => ?_) (fun c26 => ?_)
      · skip
        have hin : isBx k m a = true ∧ isBx k m b = true ∧ isBx k m c = true := ⟨c6, c16, c26⟩
        have ha5 := isBx_s c6
        have hb5 := isBx_s c16
        have hc5 := isBx_s c26
        have hva := isBx_v c6
        have hvb := isBx_v c16
        have hvc := isBx_v c26
        obtain ⟨k0, rfl⟩ : ∃ z : Nat, k = (z : Int) := ⟨k.toNat, by omega⟩
        obtain ⟨m0, rfl⟩ : ∃ z : Nat, m = (z : Int) := ⟨m.toNat, by omega⟩
        obtain ⟨a0, rfl⟩ : ∃ z : Nat, a = (z : Int) := ⟨a.toNat, by omega⟩
        obtain ⟨b0, rfl⟩ : ∃ z : Nat, b = (z : Int) := ⟨b.toNat, by omega⟩
        obtain ⟨c0, rfl⟩ : ∃ z : Nat, c = (z : Int) := ⟨c.toNat, by omega⟩
        show fv_At Y10_fillings 27 0 0 Q 32 [(0, .ref 0), (1, .int (nI k0)), (2, .int (nI m0)), (3, .int (nI a0)), (4, .int (nI b0)), (5, .int (nI c0))] [] (fw cT G L) none 0 0
        refine fx_aload_n dX10_fillings_32 rfl (i := 0) rfl ?_
        refine fw_getr dX10_fillings_33 fd10_25 rfl rfl ?_
        refine fn_cV dX10_fillings_36 lk10_141 fv_c1 rfl (fw_at (show cT 15 = some (3, 1, 8, [some 16, some 27, some 28, some 29, some 30, none, none, none]) from rfl)) (C2_filler G L) rfl rfl (by decide) (Nat.le_of_ble_eq_true rfl) ?_
        show fv_At Y10_fillings 27 0 0 Q 39 [(0, .ref 0), (1, .int (nI k0)), (2, .int (nI m0)), (3, .int (nI a0)), (4, .int (nI b0)), (5, .int (nI c0))] [.ref 16] (fw cT G L) none 0 0
        refine fx_iload_n dX10_fillings_39 rfl (i := 1) rfl ?_
        refine fx_iload_n dX10_fillings_40 rfl (i := 3) rfl ?_
        refine fx_iload dX10_fillings_41 rfl ?_
        refine fx_iload dX10_fillings_43 rfl ?_
        refine fx_callV dX10_fillings_45 lk10_145 fv_c2 rfl (fw_at (show cT 16 = some (3, 2, 5, [some 17, some 18, some 19, some 20, some 21]) from rfl)) (C4_howMany G L k0 m0 a0 b0 c0 (by omega) (by omega) (by omega) (by omega) (by omega) (by omega) hva hvb hvc) rfl rfl (by decide) (Nat.le_of_ble_eq_true rfl) (by decide) (by decide) (fun r45 f45 al45 h45 => ?_)
        obtain ⟨G45, rfl, rfl, rfl, ho45⟩ := h45
        show fv_At Y10_fillings 27 0 0 Q 48 [(0, .ref 0), (1, .int (nI k0)), (2, .int (nI m0)), (3, .int (nI a0)), (4, .int (nI b0)), (5, .int (nI c0))] [.int (nI (xFil k0 (dgt a0 k0) (dgt b0 k0) (dgt c0 k0)))] (fw cT G45 L) none 0 0
        exact fx_iret dX10_fillings_48 rfl rfl rfl (by rw [hQ]; exact ⟨G45, by unfold xFls; rw [if_pos hin]; rfl, rfl, rfl, ho45⟩)
      · skip
        refine fx_bipush (v := (iI (-2))) dX10_fillings_29 (by decide) ?_
        exact fx_iret dX10_fillings_31 rfl rfl rfl (by rw [hQ]; exact ⟨G, by unfold xFls; rw [if_neg (fun q => by simp_all)], rfl, rfl, fun _ _ => rfl⟩)

set_option maxRecDepth 4000 in
set_option maxHeartbeats 1000000 in
theorem C2_putOn  (G : Nat → Nat → Int32) (L : Nat → Nat → Int64) (k m : Nat) (bs : List Nat) (hl : lsp G k m bs) (hk1 : 1 ≤ k) (hk : k ≤ 4) (hm : m ≤ 4) (al : List Nat) (hal : al.length ≤ 70) (hG : ∀ j, j < al.length → G 28 j = nI (al.getD j 0)) (hav : ∀ j, j < al.length → al.getD j 0 < 10000 ∧ bxv (dgt (al.getD j 0) k) k m) (n : Nat) (hn : n = al.length) (b : Nat) (hb : b < 10000) (vb : bxv (dgt b k) k m) (o : Nat → Int64) (ho : ∀ j, j < n → L 29 j = o j) : fv_M Y2_putOn 27 0 0 [.ref 15, .int (nI b), .int (nI n)] (fw cT G L) none (fun r2 f2 al2 => ∃ (G2 : Nat → Nat → Int32) (L2 : Nat → Nat → Int64), r2 = none ∧ f2 = fw cT G2 L2 ∧ al2 = none ∧ off2 G G2 ∧ (∀ i, i ≠ 29 → i ≠ 30 → L2 i = L i) ∧ ∀ j, j < n → L2 29 j = ptO k al b o j) := by
  refine fv_enter rfl (Nat.le_of_ble_eq_true rfl) ?_
  obtain ⟨Q, hQ⟩ : ∃ Q : Option Value → fv_F → Option Nat → Prop, Q = (fun r2 f2 al2 => ∃ (G2 : Nat → Nat → Int32) (L2 : Nat → Nat → Int64), r2 = none ∧ f2 = fw cT G2 L2 ∧ al2 = none ∧ off2 G G2 ∧ (∀ i, i ≠ 29 → i ≠ 30 → L2 i = L i) ∧ ∀ j, j < n → L2 29 j = ptO k al b o j) := ⟨_, rfl⟩
  rw [← hQ]
  show fv_At Y2_putOn 27 0 0 Q 0 [(0, .ref 15), (1, .int (nI b)), (2, .int (nI n))] [] (fw cT G L) none 0 0
  refine fx_iconst (v := (nI 0)) dX2_putOn_0 (by decide) ?_
  refine fx_istore_n (lv2 := [(0, .ref 15), (1, .int (nI b)), (2, .int (nI n)), (3, .int (nI 0))]) dX2_putOn_1 (i := 3) rfl (by decide) rfl ?_
  have L2 : ∀ (k1 : Nat) (c : Nat) (G1 : Nat → Nat → Int32) (L1 : Nat → Nat → Int64), (c + k1 = n) → (off2 G G1) → (∀ i, i ≠ 30 → L1 i = L i) → (∀ j, j < c → L1 30 j = ptO k al b o j) → fv_At Y2_putOn 27 0 0 Q 2 [(0, .ref 15), (1, .int (nI b)), (2, .int (nI n)), (3, .int (nI c))] [] (fw cT G1 L1) none 0 0 := by
    intro k1
    induction k1 with
    | zero =>
      intro c G1 L1 hc hoG hoL hN
      refine fx_iload_n dX2_putOn_2 rfl (i := 3) rfl ?_
      refine fx_iload_n dX2_putOn_3 rfl (i := 2) rfl ?_
      refine fn_icmp_ge (tgt := 90) dX2_putOn_4 (by decide) (by omega) (by omega) (fun c4 => ?_) (fun c4 => ?_)
      · skip
        refine fx_iconst (v := (nI 0)) dX2_putOn_90 (by decide) ?_
        refine fx_istore_n (lv2 := [(0, .ref 15), (1, .int (nI b)), (2, .int (nI n)), (3, .int (nI 0))]) dX2_putOn_91 (i := 3) rfl (by decide) rfl ?_
        have L92 : ∀ (k3 : Nat) (j2 : Nat) (L3 : Nat → Nat → Int64), (j2 + k3 = n) → (∀ i, i ≠ 29 → i ≠ 30 → L3 i = L i) → (∀ j, j < n → L3 30 j = ptO k al b o j) → (∀ j, j < j2 → L3 29 j = ptO k al b o j) → fv_At Y2_putOn 27 0 0 Q 92 [(0, .ref 15), (1, .int (nI b)), (2, .int (nI n)), (3, .int (nI j2))] [] (fw cT G1 L3) none 0 0 := by
          intro k3
          induction k3 with
          | zero =>
            intro j2 L3 hj2 hoL3 hN3 hD3
            refine fx_iload_n dX2_putOn_92 rfl (i := 3) rfl ?_
            refine fx_iload_n dX2_putOn_93 rfl (i := 2) rfl ?_
            refine fn_icmp_ge (tgt := 115) dX2_putOn_94 (by decide) (by omega) (by omega) (fun c94 => ?_) (fun c94 => ?_)
            · skip
              exact fx_vret dX2_putOn_115 rfl rfl rfl (by rw [hQ]; exact ⟨G1, L3, rfl, rfl, rfl, hoG, hoL3, fun j h => hD3 j (by omega)⟩)
            · exfalso; omega
          | succ k3 ih92 =>
            intro j2 L3 hj2 hoL3 hN3 hD3
            refine fx_iload_n dX2_putOn_92 rfl (i := 3) rfl ?_
            refine fx_iload_n dX2_putOn_93 rfl (i := 2) rfl ?_
            refine fn_icmp_ge (tgt := 115) dX2_putOn_94 (by decide) (by omega) (by omega) (fun c94 => ?_) (fun c94 => ?_)
            · exfalso; omega
            · skip
              refine fx_aload_n dX2_putOn_97 rfl (i := 0) rfl ?_
              refine fw_getr dX2_putOn_98 fd2_25 rfl rfl ?_
              refine fx_iload_n dX2_putOn_101 rfl (i := 3) rfl ?_
              refine fx_aload_n dX2_putOn_102 rfl (i := 0) rfl ?_
              refine fw_getr dX2_putOn_103 fd2_29 rfl rfl ?_
              refine fx_iload_n dX2_putOn_106 rfl (i := 3) rfl ?_
              refine fw_lald j2 dX2_putOn_107 rfl rfl (by omega) (by decide) ?_
              refine fn_toL (show _ = (ptO k al b o j2) from (hN3 j2 (by omega))) ?_
              refine fw_last j2 dX2_putOn_108 rfl rfl (by omega) (by decide) ?_
              refine fn_iinc (c := 1) (lv2 := [(0, .ref 15), (1, .int (nI b)), (2, .int (nI n)), (3, .int (nI (j2 + 1)))]) dX2_putOn_109 (by decide) rfl (by decide) rfl ?_
              refine fx_goto (tgt := 92) dX2_putOn_112 (by decide) ?_
              exact (ih92 (j2 + 1) (g2 L3 29 j2 ((ptO k al b o j2))) (by omega) (fun i h h2 => (g2_rowL h).trans (hoL3 i h h2)) (fun j h => (g2_ne _ _ (by omega)).trans (hN3 j h)) (fun j h => by by_cases z : j = j2; (rw [z]; exact g2_eq _ _ _ _); exact (g2_ne _ _ (by omega)).trans (hD3 j (by omega))))
        exact (L92 n 0 L1 (by omega) (fun i _ h => hoL i h) (fun j h => hN j (by omega)) (fun j h => absurd h (Nat.not_lt_zero _)))
      · exfalso; omega
    | succ k1 ih2 =>
      intro c G1 L1 hc hoG hoL hN
      refine fx_iload_n dX2_putOn_2 rfl (i := 3) rfl ?_
      refine fx_iload_n dX2_putOn_3 rfl (i := 2) rfl ?_
      refine fn_icmp_ge (tgt := 90) dX2_putOn_4 (by decide) (by omega) (by omega) (fun c4 => ?_) (fun c4 => ?_)
      · exfalso; omega
      · skip
        refine fx_aload_n dX2_putOn_7 rfl (i := 0) rfl ?_
        refine fw_getr dX2_putOn_8 fd2_29 rfl rfl ?_
        refine fx_iload_n dX2_putOn_11 rfl (i := 3) rfl ?_
        refine fx_lconst (v := 0) dX2_putOn_12 (by decide) ?_
        refine fw_last c dX2_putOn_13 rfl rfl (by omega) (by decide) ?_
        refine fx_iconst (v := (nI 0)) dX2_putOn_14 (by decide) ?_
        refine fx_istore (lv2 := [(0, .ref 15), (1, .int (nI b)), (2, .int (nI n)), (3, .int (nI c)), (4, .int (nI 0))]) dX2_putOn_15 (by decide) rfl ?_
        have L17 : ∀ (k2 : Nat) (a : Nat) (x : Int64) (G2 : Nat → Nat → Int32) (L2 : Nat → Nat → Int64), (a + k2 = n) → (off2 G G2) → (∀ i, i ≠ 30 → L2 i = L i) → (∀ j, j < c → L2 30 j = ptO k al b o j) → (L2 30 c = x) → (ptN o (fun a => xFil k (dgt (al.getD a 0) k) (dgt b k) (dgt (al.getD c 0) k)) k2 a x = ptO k al b o c) → fv_At Y2_putOn 27 0 0 Q 17 [(0, .ref 15), (1, .int (nI b)), (2, .int (nI n)), (3, .int (nI c)), (4, .int (nI a))] [] (fw cT G2 L2) none 0 0 := by
          intro k2
          induction k2 with
          | zero =>
            intro a x G2 L2 ha hoG2 hoL2 hN2 hx hR
            refine fx_iload dX2_putOn_17 rfl ?_
            refine fx_iload_n dX2_putOn_19 rfl (i := 2) rfl ?_
            refine fn_icmp_ge (tgt := 84) dX2_putOn_20 (by decide) (by omega) (by omega) (fun c20 => ?_) (fun c20 => ?_)
            · skip
              refine fn_iinc (c := 1) (lv2 := [(0, .ref 15), (1, .int (nI b)), (2, .int (nI n)), (3, .int (nI (c + 1))), (4, .int (nI a))]) dX2_putOn_84 (by decide) rfl (by decide) rfl ?_
              refine fx_goto (tgt := 2) dX2_putOn_87 (by decide) ?_
              exact fn_sub [0, 1, 2, 3] rfl (ih2 (c + 1) G2 L2 (by omega) hoG2 hoL2 (fun j h => by by_cases z : j = c; (rw [z, hx]; exact hR); exact hN2 j (by omega)))
            · exfalso; omega
          | succ k2 ih17 =>
            intro a x G2 L2 ha hoG2 hoL2 hN2 hx hR
            refine fx_iload dX2_putOn_17 rfl ?_
            refine fx_iload_n dX2_putOn_19 rfl (i := 2) rfl ?_
            refine fn_icmp_ge (tgt := 84) dX2_putOn_20 (by decide) (by omega) (by omega) (fun c20 => ?_) (fun c20 => ?_)
            · exfalso; omega
            · skip
              have ha4 := hav a (by omega)
              have hc4 := hav c (by omega)
              refine fx_aload_n dX2_putOn_23 rfl (i := 0) rfl ?_
              refine fw_getr dX2_putOn_24 fd2_25 rfl rfl ?_
              refine fx_iload dX2_putOn_27 rfl ?_
              refine fw_lald a dX2_putOn_29 rfl rfl (by omega) (by decide) ?_
              refine fn_toL (show _ = (o a) from (by rw [hoL2 29 (by decide)]; exact ho a (by omega))) ?_
              refine fx_lconst (v := 0) dX2_putOn_30 (by decide) ?_
              refine fx_lcmp dX2_putOn_31 ?_
              refine fn_if_eqC (tgt := 78) dX2_putOn_32 (by decide) (fun c32 => ?_) (fun c32 => ?_)
              · skip
                refine fn_iinc (c := 1) (lv2 := [(0, .ref 15), (1, .int (nI b)), (2, .int (nI n)), (3, .int (nI c)), (4, .int (nI (a + 1)))]) dX2_putOn_78 (by decide) rfl (by decide) rfl ?_
                refine fx_goto (tgt := 17) dX2_putOn_81 (by decide) ?_
                exact (ih17 (a + 1) x G2 L2 (by omega) hoG2 hoL2 hN2 hx (by rw [← hR, ptN_s, if_pos c32]))
              · skip
                refine fx_aload_n dX2_putOn_35 rfl (i := 0) rfl ?_
                refine fw_getr dX2_putOn_36 fd2_29 rfl rfl ?_
                refine fx_iload_n dX2_putOn_39 rfl (i := 3) rfl ?_
                refine fx_dup2 dX2_putOn_40 rfl rfl ?_
                refine fw_lald c dX2_putOn_41 rfl rfl (by omega) (by decide) ?_
                refine fn_toL (show _ = x from hx) ?_
                refine fx_aload_n dX2_putOn_42 rfl (i := 0) rfl ?_
                refine fw_getr dX2_putOn_43 fd2_25 rfl rfl ?_
                refine fx_iload dX2_putOn_46 rfl ?_
                refine fw_lald a dX2_putOn_48 rfl rfl (by omega) (by decide) ?_
                refine fn_toL (show _ = (o a) from (by rw [hoL2 29 (by decide)]; exact ho a (by omega))) ?_
                refine fx_aload_n dX2_putOn_49 rfl (i := 0) rfl ?_
                refine fw_getr dX2_putOn_50 fd2_12 rfl rfl ?_
                refine fx_aload_n dX2_putOn_53 rfl (i := 0) rfl ?_
                refine fw_geti dX2_putOn_54 fd2_32 rfl rfl ?_
                refine fn_to (show _ = (nI k) from (by rw [hoG2 15 (by decide)]; exact hl.1)) ?_
                refine fx_aload_n dX2_putOn_57 rfl (i := 0) rfl ?_
                refine fw_getr dX2_putOn_58 fd2_22 rfl rfl ?_
                refine fx_iload dX2_putOn_61 rfl ?_
                refine fw_iald a dX2_putOn_63 rfl rfl (by omega) (by decide) ?_
                refine fn_to (show _ = (nI (al.getD a 0)) from (by rw [hoG2 28 (by decide)]; exact hG a (by omega))) ?_
                refine fx_iload_n dX2_putOn_64 rfl (i := 1) rfl ?_
                refine fx_aload_n dX2_putOn_65 rfl (i := 0) rfl ?_
                refine fw_getr dX2_putOn_66 fd2_22 rfl rfl ?_
                refine fx_iload_n dX2_putOn_69 rfl (i := 3) rfl ?_
                refine fw_iald c dX2_putOn_70 rfl rfl (by omega) (by decide) ?_
                refine fn_to (show _ = (nI (al.getD c 0)) from (by rw [hoG2 28 (by decide)]; exact hG c (by omega))) ?_
                refine fx_callV dX2_putOn_71 lk2_58 fv_c2 rfl (fw_at (show cT 16 = some (3, 2, 5, [some 17, some 18, some 19, some 20, some 21]) from rfl)) (C4_howMany G2 L2 k m (al.getD a 0) b (al.getD c 0) (by omega) (by omega) (by omega) (by omega) (by omega) (by omega) (hav a (by omega)).2 vb (hav c (by omega)).2) rfl rfl (by decide) (Nat.le_of_ble_eq_true rfl) (by decide) (by decide) (fun r71 f71 al71 h71 => ?_)
                obtain ⟨G71, rfl, rfl, rfl, ho71⟩ := h71
                show fv_At Y2_putOn 27 0 0 Q 74 [(0, .ref 15), (1, .int (nI b)), (2, .int (nI n)), (3, .int (nI c)), (4, .int (nI a))] [.int (nI (xFil k (dgt (al.getD a 0) k) (dgt b k) (dgt (al.getD c 0) k))), .long (o a), .long x, .int (nI c), .ref 30] (fw cT G71 L2) none 0 0
                refine fx_i2l dX2_putOn_74 ?_
                refine fx_lmul dX2_putOn_75 ?_
                refine fx_ladd dX2_putOn_76 ?_
                refine fw_last c dX2_putOn_77 rfl rfl (by omega) (by decide) ?_
                refine fn_iinc (c := 1) (lv2 := [(0, .ref 15), (1, .int (nI b)), (2, .int (nI n)), (3, .int (nI c)), (4, .int (nI (a + 1)))]) dX2_putOn_78 (by decide) rfl (by decide) rfl ?_
                refine fx_goto (tgt := 17) dX2_putOn_81 (by decide) ?_
                exact (ih17 (a + 1) (x + o a * (nI (xFil k (dgt (al.getD a 0) k) (dgt b k) (dgt (al.getD c 0) k))).toInt64) G71 (g2 L2 30 c ((x + ((((o a)) * ((((nI (xFil k (dgt (al.getD a 0) k) (dgt b k) (dgt (al.getD c 0) k)))).toInt64))))))) (by omega) (fun i h => (ho71 i h).trans (hoG2 i h)) (fun i h => (g2_rowL h).trans (hoL2 i h)) (fun j h => (g2_ne _ _ (by omega)).trans (hN2 j h)) (g2_eq _ _ _ _) (by rw [← hR, ptN_s, if_neg c32]))
        exact (L17 n 0 0 G1 (g2 L1 30 c 0) (by omega) hoG (fun i h => (g2_rowL h).trans (hoL i h)) (fun j h => (g2_ne _ _ (by omega)).trans (hN j h)) (g2_eq _ _ _ _) (by rw [hn]; rfl))
  exact (L2 n 0 G L (by omega) (fun _ _ => rfl) (fun _ _ => rfl) (fun j h => absurd h (Nat.not_lt_zero _)))
