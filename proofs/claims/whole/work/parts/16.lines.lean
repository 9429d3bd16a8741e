theorem iI_neg (a : Int) : -iI a = iI (-a) := by
  have h := iI_sub 0 a
  rw [Int.zero_sub] at h
  rw [← h, show iI 0 = 0 from rfl, Int32.zero_sub]
/-- a row of ints is put -/
def w6 (G : Nat → Nat → Int32) (a n : Nat) (r : Nat → Nat) : Nat → Nat → Int32 := fun i j => if i = a ∧ j < n then nI (r j) else G i j
theorem w6_0 (G : Nat → Nat → Int32) (a : Nat) (r : Nat → Nat) : w6 G a 0 r = G := by
  funext i j
  exact if_neg (fun h => Nat.not_lt_zero _ h.2)
theorem w6_s (G : Nat → Nat → Int32) (a n : Nat) (r : Nat → Nat) : g2 (w6 G a n r) a n (nI (r n)) = w6 G a (n + 1) r := by
  funext i j
  unfold g2 w6
  by_cases h : i = a ∧ j = n
  · rw [if_pos h, if_pos ⟨h.1, by omega⟩, h.2]
  · rw [if_neg h]
    by_cases h2 : i = a ∧ j < n
    · rw [if_pos h2, if_pos ⟨h2.1, by omega⟩]
    · rw [if_neg h2, if_neg (fun q => by omega)]
theorem w6_at {G : Nat → Nat → Int32} {a n j : Nat} {r : Nat → Nat} (h : j < n) : w6 G a n r a j = nI (r j) := if_pos ⟨rfl, h⟩
theorem w6_ge {G : Nat → Nat → Int32} {a n j : Nat} {r : Nat → Nat} (h : n ≤ j) : w6 G a n r a j = G a j := if_neg (fun q => by omega)
theorem w6_ne {G : Nat → Nat → Int32} {a n i j : Nat} {r : Nat → Nat} (h : i ≠ a) : w6 G a n r i j = G i j := if_neg (fun q => h q.1)
theorem w6_6 (G : Nat → Nat → Int32) (a : Nat) (r : Nat → Nat) : g2 (g2 (g2 (g2 (g2 (g2 G a 0 (nI (r 0))) a 1 (nI (r 1))) a 2 (nI (r 2))) a 3 (nI (r 3))) a 4 (nI (r 4))) a 5 (nI (r 5)) = w6 G a 6 r := by
  have h := w6_0 G a r
  have h1 := w6_s G a 0 r
  rw [h] at h1
  rw [h1, w6_s, w6_s, w6_s, w6_s, w6_s]

def pix (i j : Nat) : Nat := if i = 0 then j - 1 else i + j
set_option maxRecDepth 4000 in
set_option maxHeartbeats 1000000 in
theorem C5_pair (T : fw_T) (p : Nat) (hp : T p = some (3, 3, 2, [some (p + 1), none])) (hp1 : T (p + 1) = some (0, 0, 6, [])) (G : Nat → Nat → Int32) (L : Nat → Nat → Int64)(r : Nat → Nat) (hr : ∀ j, j < 6 → G (p + 1) j = nI (r j)) (i j : Nat) (hj : 1 ≤ j) (hij : pix i j < 6) (hi6 : i < 6) (hj6 : j < 6) : fv_M Y5_pair 0 0 0 [.ref p, .int (nI i), .int (nI j)] (fw T G L) none (fv_eq (some (.int (nI (r (pix i j))))) (fw T G L)) := by
  refine fv_enter rfl (Nat.le_of_ble_eq_true rfl) ?_
  obtain ⟨Q, hQ⟩ : ∃ Q : Option Value → fv_F → Option Nat → Prop, Q = (fv_eq (some (.int (nI (r (pix i j))))) (fw T G L)) := ⟨_, rfl⟩
  rw [← hQ]
  show fv_At Y5_pair 0 0 0 Q 0 [(0, .ref p), (1, .int (nI i)), (2, .int (nI j))] [] (fw T G L) none 0 0
  refine fx_iload_n dX5_pair_0 rfl (i := 1) rfl ?_
  refine fn_if_ne (tgt := 10) dX5_pair_1 (by decide) (by omega) (fun c1 => ?_) (fun c1 => ?_)
  · skip
    refine fx_iload_n dX5_pair_10 rfl (i := 1) rfl ?_
    refine fx_iload_n dX5_pair_11 rfl (i := 2) rfl ?_
    refine fn_iadd dX5_pair_12 ?_
    refine fn_to (show _ = (nI (pix i j)) from congrArg nI (show i + j = pix i j by unfold pix; rw [if_neg (by omega)])) ?_
    refine fx_istore_n (lv2 := [(0, .ref p), (1, .int (nI i)), (2, .int (nI j)), (3, .int (nI (pix i j)))]) dX5_pair_13 (i := 3) rfl (by decide) rfl ?_
    refine fx_iload_n dX5_pair_14 rfl (i := 3) rfl ?_
    refine fn_if_lt (tgt := 33) dX5_pair_15 (by decide) (by omega) (fun c15 => ?_) (fun c15 => ?_)
    · exfalso; omega
    · skip
      refine fx_iload_n dX5_pair_18 rfl (i := 3) rfl ?_
      refine fx_bipush (v := (nI 6)) dX5_pair_19 (by decide) ?_
      refine fn_icmp_ge (tgt := 33) dX5_pair_21 (by decide) (by omega) (by omega) (fun c21 => ?_) (fun c21 => ?_)
      · exfalso; omega
      · skip
        refine fx_aload_n dX5_pair_24 rfl (i := 0) rfl ?_
        refine fw_getr dX5_pair_25 fd5_9 hp rfl ?_
        refine fx_iload_n dX5_pair_28 rfl (i := 3) rfl ?_
        refine fw_iald (pix i j) dX5_pair_29 hp1 rfl (by omega) (by decide) ?_
        refine fn_to (show _ = (nI (r (pix i j))) from hr (pix i j) (by omega)) ?_
        refine fx_goto (tgt := 34) dX5_pair_30 (by decide) ?_
        exact fx_iret dX5_pair_34 rfl rfl rfl (by rw [hQ]; exact ⟨rfl, rfl, rfl⟩)
  · skip
    refine fx_iload_n dX5_pair_4 rfl (i := 2) rfl ?_
    refine fx_iconst (v := (nI 1)) dX5_pair_5 (by decide) ?_
    refine fn_isub dX5_pair_6 (by omega) ?_
    refine fn_to (show _ = (nI (pix i j)) from congrArg nI (show j - 1 = pix i j by unfold pix; rw [if_pos c1])) ?_
    refine fx_goto (tgt := 13) dX5_pair_7 (by decide) ?_
    refine fx_istore_n (lv2 := [(0, .ref p), (1, .int (nI i)), (2, .int (nI j)), (3, .int (nI (pix i j)))]) dX5_pair_13 (i := 3) rfl (by decide) rfl ?_
    refine fx_iload_n dX5_pair_14 rfl (i := 3) rfl ?_
    refine fn_if_lt (tgt := 33) dX5_pair_15 (by decide) (by omega) (fun c15 => ?_) (fun c15 => ?_)
    · exfalso; omega
    · skip
      refine fx_iload_n dX5_pair_18 rfl (i := 3) rfl ?_
      refine fx_bipush (v := (nI 6)) dX5_pair_19 (by decide) ?_
      refine fn_icmp_ge (tgt := 33) dX5_pair_21 (by decide) (by omega) (by omega) (fun c21 => ?_) (fun c21 => ?_)
      · exfalso; omega
      · skip
        refine fx_aload_n dX5_pair_24 rfl (i := 0) rfl ?_
        refine fw_getr dX5_pair_25 fd5_9 hp rfl ?_
        refine fx_iload_n dX5_pair_28 rfl (i := 3) rfl ?_
        refine fw_iald (pix i j) dX5_pair_29 hp1 rfl (by omega) (by decide) ?_
        refine fn_to (show _ = (nI (r (pix i j))) from hr (pix i j) (by omega)) ?_
        refine fx_goto (tgt := 34) dX5_pair_30 (by decide) ?_
        exact fx_iret dX5_pair_34 rfl rfl rfl (by rw [hQ]; exact ⟨rfl, rfl, rfl⟩)

/-- the determinants that are 0 where a point is on a line -/
def hdt (r : Nat → Nat) (pt i j k : Nat) : Int := ((pfg pt i * r (pix j k) : Nat) : Int) - ((pfg pt j * r (pix i k) : Nat) : Int) + ((pfg pt k * r (pix i j) : Nat) : Int)
def hld (r : Nat → Nat) (q pt : Nat) : Bool := decide (md (hdt r pt 1 2 3) q = 0 ∧ md (hdt r pt 0 2 3) q = 0 ∧ md (hdt r pt 0 1 3) q = 0 ∧ md (hdt r pt 0 1 2) q = 0)
theorem hdt_b {r : Nat → Nat} (hb : ∀ j, j < 6 → r j < 5) {pt i j k : Nat} (h1 : pix j k < 6) (h2 : pix i k < 6) (h3 : pix i j < 6) : -1000 < hdt r pt i j k ∧ hdt r pt i j k < 1000 := by
  have e : ∀ a x, x < 6 → pfg pt a * r x ≤ 9 * 4 := fun a x hx => Nat.mul_le_mul (Nat.le_of_lt_succ (pfg_lt pt a)) (Nat.le_of_lt_succ (hb x hx))
  have h4 := e i _ h1
  have h5 := e j _ h2
  have h6 := e k _ h3
  unfold hdt
  omega

set_option maxRecDepth 4000 in
set_option maxHeartbeats 1000000 in
theorem C5_holds (T : fw_T) (p : Nat) (hp : T p = some (3, 3, 2, [some (p + 1), none])) (hp1 : T (p + 1) = some (0, 0, 6, [])) (G : Nat → Nat → Int32) (L : Nat → Nat → Int64)(r : Nat → Nat) (hr : ∀ j, j < 6 → G (p + 1) j = nI (r j)) (hb : ∀ j, j < 6 → r j < 5) (pt q : Nat) (hpt : pt < 2147483648) (hq0 : 0 < q) (hq : q < 100) : fv_M Y5_holds 2 0 0 [.ref p, .int (nI pt), .int (nI q)] (fw T G L) none (fv_eq (some (.int (bI (hld r q pt)))) (fw T G L)) := by
  refine fv_enter rfl (Nat.le_of_ble_eq_true rfl) ?_
  obtain ⟨Q, hQ⟩ : ∃ Q : Option Value → fv_F → Option Nat → Prop, Q = (fv_eq (some (.int (bI (hld r q pt)))) (fw T G L)) := ⟨_, rfl⟩
  rw [← hQ]
  show fv_At Y5_holds 2 0 0 Q 0 [(0, .ref p), (1, .int (nI pt)), (2, .int (nI q))] [] (fw T G L) none 0 0
  refine fx_iconst (v := (nI 0)) dX5_holds_0 (by decide) ?_
  refine fx_istore_n (lv2 := [(0, .ref p), (1, .int (nI pt)), (2, .int (nI q)), (3, .int (nI 0))]) dX5_holds_1 (i := 3) rfl (by decide) rfl ?_
  refine fx_iload_n dX5_holds_2 rfl (i := 3) rfl ?_
  refine fx_iconst (v := (nI 4)) dX5_holds_3 (by decide) ?_
  refine fn_icmp_ge (tgt := 108) dX5_holds_4 (by decide) (by omega) (by omega) (fun c4 => ?_) (fun c4 => ?_)
  · exfalso; omega
  · skip
    refine fx_iload_n dX5_holds_7 rfl (i := 3) rfl ?_
    refine fn_if_ne (tgt := 15) dX5_holds_8 (by decide) (by omega) (fun c8 => ?_) (fun c8 => ?_)
    · exfalso; omega
    · skip
      refine fx_iconst (v := (nI 1)) dX5_holds_11 (by decide) ?_
      refine fx_goto (tgt := 16) dX5_holds_12 (by decide) ?_
      refine fx_istore (lv2 := [(0, .ref p), (1, .int (nI pt)), (2, .int (nI q)), (3, .int (nI 0)), (4, .int (nI 1))]) dX5_holds_16 (by decide) rfl ?_
      refine fx_iload_n dX5_holds_18 rfl (i := 3) rfl ?_
      refine fx_iconst (v := (nI 1)) dX5_holds_19 (by decide) ?_
      refine fn_icmp_gt (tgt := 27) dX5_holds_20 (by decide) (by omega) (by omega) (fun c20 => ?_) (fun c20 => ?_)
      · exfalso; omega
      · skip
        refine fx_iconst (v := (nI 2)) dX5_holds_23 (by decide) ?_
        refine fx_goto (tgt := 28) dX5_holds_24 (by decide) ?_
        refine fx_istore (lv2 := [(0, .ref p), (1, .int (nI pt)), (2, .int (nI q)), (3, .int (nI 0)), (4, .int (nI 1)), (5, .int (nI 2))]) dX5_holds_28 (by decide) rfl ?_
        refine fx_iload_n dX5_holds_30 rfl (i := 3) rfl ?_
        refine fx_iconst (v := (nI 2)) dX5_holds_31 (by decide) ?_
        refine fn_icmp_gt (tgt := 39) dX5_holds_32 (by decide) (by omega) (by omega) (fun c32 => ?_) (fun c32 => ?_)
        · exfalso; omega
        · skip
          refine fx_iconst (v := (nI 3)) dX5_holds_35 (by decide) ?_
          refine fx_goto (tgt := 40) dX5_holds_36 (by decide) ?_
          refine fx_istore (lv2 := [(0, .ref p), (1, .int (nI pt)), (2, .int (nI q)), (3, .int (nI 0)), (4, .int (nI 1)), (5, .int (nI 2)), (6, .int (nI 3))]) dX5_holds_40 (by decide) rfl ?_
          refine fx_iload_n dX5_holds_42 rfl (i := 1) rfl ?_
          refine fx_iload dX5_holds_43 rfl ?_
          refine fn_cS dX5_holds_45 lk5_17 (C9_figure (p := pt) (i := 1) (by omega) (by omega) (f := (fw T G L))) rfl rfl (by decide) (Nat.le_of_ble_eq_true rfl) ?_
          show fv_At Y5_holds 2 0 0 Q 48 [(0, .ref p), (1, .int (nI pt)), (2, .int (nI q)), (3, .int (nI 0)), (4, .int (nI 1)), (5, .int (nI 2)), (6, .int (nI 3))] [.int (nI (pfg pt 1))] (fw T G L) none 0 0
          refine fx_aload_n dX5_holds_48 rfl (i := 0) rfl ?_
          refine fx_iload dX5_holds_49 rfl ?_
          refine fx_iload dX5_holds_51 rfl ?_
          refine fn_cV dX5_holds_53 lk5_30 fv_c3 rfl (fw_at hp) (C5_pair T p hp hp1 G L r hr 2 3 (by decide) (by decide) (by decide) (by decide)) rfl rfl (by decide) (Nat.le_of_ble_eq_true rfl) ?_
          show fv_At Y5_holds 2 0 0 Q 56 [(0, .ref p), (1, .int (nI pt)), (2, .int (nI q)), (3, .int (nI 0)), (4, .int (nI 1)), (5, .int (nI 2)), (6, .int (nI 3))] [.int (nI (r (pix 2 3))), .int (nI (pfg pt 1))] (fw T G L) none 0 0
          refine fn_imul dX5_holds_56 ?_
          refine fx_iload_n dX5_holds_57 rfl (i := 1) rfl ?_
          refine fx_iload dX5_holds_58 rfl ?_
          refine fn_cS dX5_holds_60 lk5_17 (C9_figure (p := pt) (i := 2) (by omega) (by omega) (f := (fw T G L))) rfl rfl (by decide) (Nat.le_of_ble_eq_true rfl) ?_
          show fv_At Y5_holds 2 0 0 Q 63 [(0, .ref p), (1, .int (nI pt)), (2, .int (nI q)), (3, .int (nI 0)), (4, .int (nI 1)), (5, .int (nI 2)), (6, .int (nI 3))] [.int (nI (pfg pt 2)), .int (nI ((pfg pt 1) * (r (pix 2 3))))] (fw T G L) none 0 0
          refine fx_aload_n dX5_holds_63 rfl (i := 0) rfl ?_
          refine fx_iload dX5_holds_64 rfl ?_
          refine fx_iload dX5_holds_66 rfl ?_
          refine fn_cV dX5_holds_68 lk5_30 fv_c3 rfl (fw_at hp) (C5_pair T p hp hp1 G L r hr 1 3 (by decide) (by decide) (by decide) (by decide)) rfl rfl (by decide) (Nat.le_of_ble_eq_true rfl) ?_
          show fv_At Y5_holds 2 0 0 Q 71 [(0, .ref p), (1, .int (nI pt)), (2, .int (nI q)), (3, .int (nI 0)), (4, .int (nI 1)), (5, .int (nI 2)), (6, .int (nI 3))] [.int (nI (r (pix 1 3))), .int (nI (pfg pt 2)), .int (nI ((pfg pt 1) * (r (pix 2 3))))] (fw T G L) none 0 0
          refine fn_imul dX5_holds_71 ?_
          refine fn_isubZ (a := (((pfg pt 1) * (r (pix 2 3)) : Nat) : Int)) (b := (((pfg pt 2) * (r (pix 1 3)) : Nat) : Int)) dX5_holds_72 ?_
          refine fx_iload_n dX5_holds_73 rfl (i := 1) rfl ?_
          refine fx_iload dX5_holds_74 rfl ?_
          refine fn_cS dX5_holds_76 lk5_17 (C9_figure (p := pt) (i := 3) (by omega) (by omega) (f := (fw T G L))) rfl rfl (by decide) (Nat.le_of_ble_eq_true rfl) ?_
          show fv_At Y5_holds 2 0 0 Q 79 [(0, .ref p), (1, .int (nI pt)), (2, .int (nI q)), (3, .int (nI 0)), (4, .int (nI 1)), (5, .int (nI 2)), (6, .int (nI 3))] [.int (nI (pfg pt 3)), .int (iI (((((pfg pt 1) * (r (pix 2 3)) : Nat) : Int)) - ((((pfg pt 2) * (r (pix 1 3)) : Nat) : Int))))] (fw T G L) none 0 0
          refine fx_aload_n dX5_holds_79 rfl (i := 0) rfl ?_
          refine fx_iload dX5_holds_80 rfl ?_
          refine fx_iload dX5_holds_82 rfl ?_
          refine fn_cV dX5_holds_84 lk5_30 fv_c3 rfl (fw_at hp) (C5_pair T p hp hp1 G L r hr 1 2 (by decide) (by decide) (by decide) (by decide)) rfl rfl (by decide) (Nat.le_of_ble_eq_true rfl) ?_
          show fv_At Y5_holds 2 0 0 Q 87 [(0, .ref p), (1, .int (nI pt)), (2, .int (nI q)), (3, .int (nI 0)), (4, .int (nI 1)), (5, .int (nI 2)), (6, .int (nI 3))] [.int (nI (r (pix 1 2))), .int (nI (pfg pt 3)), .int (iI (((((pfg pt 1) * (r (pix 2 3)) : Nat) : Int)) - ((((pfg pt 2) * (r (pix 1 3)) : Nat) : Int))))] (fw T G L) none 0 0
          refine fn_imul dX5_holds_87 ?_
          refine fn_iaddZ (a := ((((pfg pt 1) * (r (pix 2 3)) : Nat) : Int)) - ((((pfg pt 2) * (r (pix 1 3)) : Nat) : Int))) (b := (((pfg pt 3) * (r (pix 1 2)) : Nat) : Int)) dX5_holds_88 ?_
          refine fn_to (show _ = (iI (hdt r pt 1 2 3)) from rfl) ?_
          refine fx_istore (lv2 := [(0, .ref p), (1, .int (nI pt)), (2, .int (nI q)), (3, .int (nI 0)), (4, .int (nI 1)), (5, .int (nI 2)), (6, .int (nI 3)), (7, .int (iI (hdt r pt 1 2 3)))]) dX5_holds_89 (by decide) rfl ?_
          refine fx_iload dX5_holds_91 rfl ?_
          have hz := hdt_b (pt := pt) hb (i := 1) (j := 2) (k := 3) (by decide) (by decide) (by decide)
          refine fx_iload_n dX5_holds_93 rfl (i := 2) rfl ?_
          refine fn_cS dX5_holds_94 lk5_23 (C5_rest (a := hdt r pt 1 2 3) (b := q) (by omega) (by omega) (by omega) (by omega) (f := (fw T G L))) rfl rfl (by decide) (Nat.le_of_ble_eq_true rfl) ?_
          show fv_At Y5_holds 2 0 0 Q 97 [(0, .ref p), (1, .int (nI pt)), (2, .int (nI q)), (3, .int (nI 0)), (4, .int (nI 1)), (5, .int (nI 2)), (6, .int (nI 3)), (7, .int (iI (hdt r pt 1 2 3)))] [.int (nI (md (hdt r pt 1 2 3) q))] (fw T G L) none 0 0
          have hmd := md_lt (hdt r pt 1 2 3) hq0
          refine fn_if_eq (tgt := 102) dX5_holds_97 (by decide) (by omega) (fun c97 => ?_) (fun c97 => ?_)
          · skip
            refine fn_iinc (c := 1) (lv2 := [(0, .ref p), (1, .int (nI pt)), (2, .int (nI q)), (3, .int (nI 1)), (4, .int (nI 1)), (5, .int (nI 2)), (6, .int (nI 3)), (7, .int (iI (hdt r pt 1 2 3)))]) dX5_holds_102 (by decide) rfl (by decide) rfl ?_
            refine fx_goto (tgt := 2) dX5_holds_105 (by decide) ?_
            refine fx_iload_n dX5_holds_2 rfl (i := 3) rfl ?_
            refine fx_iconst (v := (nI 4)) dX5_holds_3 (by decide) ?_
            refine fn_icmp_ge (tgt := 108) dX5_holds_4 (by decide) (by omega) (by omega) (fun c4 => ?_) (fun c4 => ?_)
            · exfalso; omega
            · skip
              refine fx_iload_n dX5_holds_7 rfl (i := 3) rfl ?_
              refine fn_if_ne (tgt := 15) dX5_holds_8 (by decide) (by omega) (fun c8 => ?_) (fun c8 => ?_)
              · skip
                refine fx_iconst (v := (nI 0)) dX5_holds_15 (by decide) ?_
                refine fx_istore (lv2 := [(0, .ref p), (1, .int (nI pt)), (2, .int (nI q)), (3, .int (nI 1)), (4, .int (nI 0)), (5, .int (nI 2)), (6, .int (nI 3)), (7, .int (iI (hdt r pt 1 2 3)))]) dX5_holds_16 (by decide) rfl ?_
                refine fx_iload_n dX5_holds_18 rfl (i := 3) rfl ?_
                refine fx_iconst (v := (nI 1)) dX5_holds_19 (by decide) ?_
                refine fn_icmp_gt (tgt := 27) dX5_holds_20 (by decide) (by omega) (by omega) (fun c20 => ?_) (fun c20 => ?_)
                · exfalso; omega
                · skip
                  refine fx_iconst (v := (nI 2)) dX5_holds_23 (by decide) ?_
                  refine fx_goto (tgt := 28) dX5_holds_24 (by decide) ?_
                  refine fx_istore (lv2 := [(0, .ref p), (1, .int (nI pt)), (2, .int (nI q)), (3, .int (nI 1)), (4, .int (nI 0)), (5, .int (nI 2)), (6, .int (nI 3)), (7, .int (iI (hdt r pt 1 2 3)))]) dX5_holds_28 (by decide) rfl ?_
                  refine fx_iload_n dX5_holds_30 rfl (i := 3) rfl ?_
                  refine fx_iconst (v := (nI 2)) dX5_holds_31 (by decide) ?_
                  refine fn_icmp_gt (tgt := 39) dX5_holds_32 (by decide) (by omega) (by omega) (fun c32 => ?_) (fun c32 => ?_)
                  · exfalso; omega
                  · skip
                    refine fx_iconst (v := (nI 3)) dX5_holds_35 (by decide) ?_
                    refine fx_goto (tgt := 40) dX5_holds_36 (by decide) ?_
                    refine fx_istore (lv2 := [(0, .ref p), (1, .int (nI pt)), (2, .int (nI q)), (3, .int (nI 1)), (4, .int (nI 0)), (5, .int (nI 2)), (6, .int (nI 3)), (7, .int (iI (hdt r pt 1 2 3)))]) dX5_holds_40 (by decide) rfl ?_
                    refine fx_iload_n dX5_holds_42 rfl (i := 1) rfl ?_
                    refine fx_iload dX5_holds_43 rfl ?_
                    refine fn_cS dX5_holds_45 lk5_17 (C9_figure (p := pt) (i := 0) (by omega) (by omega) (f := (fw T G L))) rfl rfl (by decide) (Nat.le_of_ble_eq_true rfl) ?_
                    show fv_At Y5_holds 2 0 0 Q 48 [(0, .ref p), (1, .int (nI pt)), (2, .int (nI q)), (3, .int (nI 1)), (4, .int (nI 0)), (5, .int (nI 2)), (6, .int (nI 3)), (7, .int (iI (hdt r pt 1 2 3)))] [.int (nI (pfg pt 0))] (fw T G L) none 0 0
                    refine fx_aload_n dX5_holds_48 rfl (i := 0) rfl ?_
                    refine fx_iload dX5_holds_49 rfl ?_
                    refine fx_iload dX5_holds_51 rfl ?_
                    refine fn_cV dX5_holds_53 lk5_30 fv_c3 rfl (fw_at hp) (C5_pair T p hp hp1 G L r hr 2 3 (by decide) (by decide) (by decide) (by decide)) rfl rfl (by decide) (Nat.le_of_ble_eq_true rfl) ?_
                    show fv_At Y5_holds 2 0 0 Q 56 [(0, .ref p), (1, .int (nI pt)), (2, .int (nI q)), (3, .int (nI 1)), (4, .int (nI 0)), (5, .int (nI 2)), (6, .int (nI 3)), (7, .int (iI (hdt r pt 1 2 3)))] [.int (nI (r (pix 2 3))), .int (nI (pfg pt 0))] (fw T G L) none 0 0
                    refine fn_imul dX5_holds_56 ?_
                    refine fx_iload_n dX5_holds_57 rfl (i := 1) rfl ?_
                    refine fx_iload dX5_holds_58 rfl ?_
                    refine fn_cS dX5_holds_60 lk5_17 (C9_figure (p := pt) (i := 2) (by omega) (by omega) (f := (fw T G L))) rfl rfl (by decide) (Nat.le_of_ble_eq_true rfl) ?_
                    show fv_At Y5_holds 2 0 0 Q 63 [(0, .ref p), (1, .int (nI pt)), (2, .int (nI q)), (3, .int (nI 1)), (4, .int (nI 0)), (5, .int (nI 2)), (6, .int (nI 3)), (7, .int (iI (hdt r pt 1 2 3)))] [.int (nI (pfg pt 2)), .int (nI ((pfg pt 0) * (r (pix 2 3))))] (fw T G L) none 0 0
                    refine fx_aload_n dX5_holds_63 rfl (i := 0) rfl ?_
                    refine fx_iload dX5_holds_64 rfl ?_
                    refine fx_iload dX5_holds_66 rfl ?_
                    refine fn_cV dX5_holds_68 lk5_30 fv_c3 rfl (fw_at hp) (C5_pair T p hp hp1 G L r hr 0 3 (by decide) (by decide) (by decide) (by decide)) rfl rfl (by decide) (Nat.le_of_ble_eq_true rfl) ?_
                    show fv_At Y5_holds 2 0 0 Q 71 [(0, .ref p), (1, .int (nI pt)), (2, .int (nI q)), (3, .int (nI 1)), (4, .int (nI 0)), (5, .int (nI 2)), (6, .int (nI 3)), (7, .int (iI (hdt r pt 1 2 3)))] [.int (nI (r (pix 0 3))), .int (nI (pfg pt 2)), .int (nI ((pfg pt 0) * (r (pix 2 3))))] (fw T G L) none 0 0
                    refine fn_imul dX5_holds_71 ?_
                    refine fn_isubZ (a := (((pfg pt 0) * (r (pix 2 3)) : Nat) : Int)) (b := (((pfg pt 2) * (r (pix 0 3)) : Nat) : Int)) dX5_holds_72 ?_
                    refine fx_iload_n dX5_holds_73 rfl (i := 1) rfl ?_
                    refine fx_iload dX5_holds_74 rfl ?_
                    refine fn_cS dX5_holds_76 lk5_17 (C9_figure (p := pt) (i := 3) (by omega) (by omega) (f := (fw T G L))) rfl rfl (by decide) (Nat.le_of_ble_eq_true rfl) ?_
                    show fv_At Y5_holds 2 0 0 Q 79 [(0, .ref p), (1, .int (nI pt)), (2, .int (nI q)), (3, .int (nI 1)), (4, .int (nI 0)), (5, .int (nI 2)), (6, .int (nI 3)), (7, .int (iI (hdt r pt 1 2 3)))] [.int (nI (pfg pt 3)), .int (iI (((((pfg pt 0) * (r (pix 2 3)) : Nat) : Int)) - ((((pfg pt 2) * (r (pix 0 3)) : Nat) : Int))))] (fw T G L) none 0 0
                    refine fx_aload_n dX5_holds_79 rfl (i := 0) rfl ?_
                    refine fx_iload dX5_holds_80 rfl ?_
                    refine fx_iload dX5_holds_82 rfl ?_
                    refine fn_cV dX5_holds_84 lk5_30 fv_c3 rfl (fw_at hp) (C5_pair T p hp hp1 G L r hr 0 2 (by decide) (by decide) (by decide) (by decide)) rfl rfl (by decide) (Nat.le_of_ble_eq_true rfl) ?_
                    show fv_At Y5_holds 2 0 0 Q 87 [(0, .ref p), (1, .int (nI pt)), (2, .int (nI q)), (3, .int (nI 1)), (4, .int (nI 0)), (5, .int (nI 2)), (6, .int (nI 3)), (7, .int (iI (hdt r pt 1 2 3)))] [.int (nI (r (pix 0 2))), .int (nI (pfg pt 3)), .int (iI (((((pfg pt 0) * (r (pix 2 3)) : Nat) : Int)) - ((((pfg pt 2) * (r (pix 0 3)) : Nat) : Int))))] (fw T G L) none 0 0
                    refine fn_imul dX5_holds_87 ?_
                    refine fn_iaddZ (a := ((((pfg pt 0) * (r (pix 2 3)) : Nat) : Int)) - ((((pfg pt 2) * (r (pix 0 3)) : Nat) : Int))) (b := (((pfg pt 3) * (r (pix 0 2)) : Nat) : Int)) dX5_holds_88 ?_
                    refine fn_to (show _ = (iI (hdt r pt 0 2 3)) from rfl) ?_
                    refine fx_istore (lv2 := [(0, .ref p), (1, .int (nI pt)), (2, .int (nI q)), (3, .int (nI 1)), (4, .int (nI 0)), (5, .int (nI 2)), (6, .int (nI 3)), (7, .int (iI (hdt r pt 0 2 3)))]) dX5_holds_89 (by decide) rfl ?_
                    refine fx_iload dX5_holds_91 rfl ?_
                    have hz := hdt_b (pt := pt) hb (i := 0) (j := 2) (k := 3) (by decide) (by decide) (by decide)
                    refine fx_iload_n dX5_holds_93 rfl (i := 2) rfl ?_
                    refine fn_cS dX5_holds_94 lk5_23 (C5_rest (a := hdt r pt 0 2 3) (b := q) (by omega) (by omega) (by omega) (by omega) (f := (fw T G L))) rfl rfl (by decide) (Nat.le_of_ble_eq_true rfl) ?_
                    show fv_At Y5_holds 2 0 0 Q 97 [(0, .ref p), (1, .int (nI pt)), (2, .int (nI q)), (3, .int (nI 1)), (4, .int (nI 0)), (5, .int (nI 2)), (6, .int (nI 3)), (7, .int (iI (hdt r pt 0 2 3)))] [.int (nI (md (hdt r pt 0 2 3) q))] (fw T G L) none 0 0
                    have hmd := md_lt (hdt r pt 0 2 3) hq0
                    refine fn_if_eq (tgt := 102) dX5_holds_97 (by decide) (by omega) (fun c97 => ?_) (fun c97 => ?_)
                    · skip
                      refine fn_iinc (c := 1) (lv2 := [(0, .ref p), (1, .int (nI pt)), (2, .int (nI q)), (3, .int (nI 2)), (4, .int (nI 0)), (5, .int (nI 2)), (6, .int (nI 3)), (7, .int (iI (hdt r pt 0 2 3)))]) dX5_holds_102 (by decide) rfl (by decide) rfl ?_
                      refine fx_goto (tgt := 2) dX5_holds_105 (by decide) ?_
                      refine fx_iload_n dX5_holds_2 rfl (i := 3) rfl ?_
                      refine fx_iconst (v := (nI 4)) dX5_holds_3 (by decide) ?_
                      refine fn_icmp_ge (tgt := 108) dX5_holds_4 (by decide) (by omega) (by omega) (fun c4 => ?_) (fun c4 => ?_)
                      · exfalso; omega
                      · skip
                        refine fx_iload_n dX5_holds_7 rfl (i := 3) rfl ?_
                        refine fn_if_ne (tgt := 15) dX5_holds_8 (by decide) (by omega) (fun c8 => ?_) (fun c8 => ?_)
                        · skip
                          refine fx_iconst (v := (nI 0)) dX5_holds_15 (by decide) ?_
                          refine fx_istore (lv2 := [(0, .ref p), (1, .int (nI pt)), (2, .int (nI q)), (3, .int (nI 2)), (4, .int (nI 0)), (5, .int (nI 2)), (6, .int (nI 3)), (7, .int (iI (hdt r pt 0 2 3)))]) dX5_holds_16 (by decide) rfl ?_
                          refine fx_iload_n dX5_holds_18 rfl (i := 3) rfl ?_
                          refine fx_iconst (v := (nI 1)) dX5_holds_19 (by decide) ?_
                          refine fn_icmp_gt (tgt := 27) dX5_holds_20 (by decide) (by omega) (by omega) (fun c20 => ?_) (fun c20 => ?_)
                          · skip
                            refine fx_iconst (v := (nI 1)) dX5_holds_27 (by decide) ?_
                            refine fx_istore (lv2 := [(0, .ref p), (1, .int (nI pt)), (2, .int (nI q)), (3, .int (nI 2)), (4, .int (nI 0)), (5, .int (nI 1)), (6, .int (nI 3)), (7, .int (iI (hdt r pt 0 2 3)))]) dX5_holds_28 (by decide) rfl ?_
                            refine fx_iload_n dX5_holds_30 rfl (i := 3) rfl ?_
                            refine fx_iconst (v := (nI 2)) dX5_holds_31 (by decide) ?_
                            refine fn_icmp_gt (tgt := 39) dX5_holds_32 (by decide) (by omega) (by omega) (fun c32 => ?_) (fun c32 => ?_)
                            · exfalso; omega
                            · skip
                              refine fx_iconst (v := (nI 3)) dX5_holds_35 (by decide) ?_
                              refine fx_goto (tgt := 40) dX5_holds_36 (by decide) ?_
                              refine fx_istore (lv2 := [(0, .ref p), (1, .int (nI pt)), (2, .int (nI q)), (3, .int (nI 2)), (4, .int (nI 0)), (5, .int (nI 1)), (6, .int (nI 3)), (7, .int (iI (hdt r pt 0 2 3)))]) dX5_holds_40 (by decide) rfl ?_
                              refine fx_iload_n dX5_holds_42 rfl (i := 1) rfl ?_
                              refine fx_iload dX5_holds_43 rfl ?_
                              refine fn_cS dX5_holds_45 lk5_17 (C9_figure (p := pt) (i := 0) (by omega) (by omega) (f := (fw T G L))) rfl rfl (by decide) (Nat.le_of_ble_eq_true rfl) ?_
                              show fv_At Y5_holds 2 0 0 Q 48 [(0, .ref p), (1, .int (nI pt)), (2, .int (nI q)), (3, .int (nI 2)), (4, .int (nI 0)), (5, .int (nI 1)), (6, .int (nI 3)), (7, .int (iI (hdt r pt 0 2 3)))] [.int (nI (pfg pt 0))] (fw T G L) none 0 0
                              refine fx_aload_n dX5_holds_48 rfl (i := 0) rfl ?_
                              refine fx_iload dX5_holds_49 rfl ?_
                              refine fx_iload dX5_holds_51 rfl ?_
                              refine fn_cV dX5_holds_53 lk5_30 fv_c3 rfl (fw_at hp) (C5_pair T p hp hp1 G L r hr 1 3 (by decide) (by decide) (by decide) (by decide)) rfl rfl (by decide) (Nat.le_of_ble_eq_true rfl) ?_
                              show fv_At Y5_holds 2 0 0 Q 56 [(0, .ref p), (1, .int (nI pt)), (2, .int (nI q)), (3, .int (nI 2)), (4, .int (nI 0)), (5, .int (nI 1)), (6, .int (nI 3)), (7, .int (iI (hdt r pt 0 2 3)))] [.int (nI (r (pix 1 3))), .int (nI (pfg pt 0))] (fw T G L) none 0 0
                              refine fn_imul dX5_holds_56 ?_
                              refine fx_iload_n dX5_holds_57 rfl (i := 1) rfl ?_
                              refine fx_iload dX5_holds_58 rfl ?_
                              refine fn_cS dX5_holds_60 lk5_17 (C9_figure (p := pt) (i := 1) (by omega) (by omega) (f := (fw T G L))) rfl rfl (by decide) (Nat.le_of_ble_eq_true rfl) ?_
                              show fv_At Y5_holds 2 0 0 Q 63 [(0, .ref p), (1, .int (nI pt)), (2, .int (nI q)), (3, .int (nI 2)), (4, .int (nI 0)), (5, .int (nI 1)), (6, .int (nI 3)), (7, .int (iI (hdt r pt 0 2 3)))] [.int (nI (pfg pt 1)), .int (nI ((pfg pt 0) * (r (pix 1 3))))] (fw T G L) none 0 0
                              refine fx_aload_n dX5_holds_63 rfl (i := 0) rfl ?_
                              refine fx_iload dX5_holds_64 rfl ?_
                              refine fx_iload dX5_holds_66 rfl ?_
                              refine fn_cV dX5_holds_68 lk5_30 fv_c3 rfl (fw_at hp) (C5_pair T p hp hp1 G L r hr 0 3 (by decide) (by decide) (by decide) (by decide)) rfl rfl (by decide) (Nat.le_of_ble_eq_true rfl) ?_
                              show fv_At Y5_holds 2 0 0 Q 71 [(0, .ref p), (1, .int (nI pt)), (2, .int (nI q)), (3, .int (nI 2)), (4, .int (nI 0)), (5, .int (nI 1)), (6, .int (nI 3)), (7, .int (iI (hdt r pt 0 2 3)))] [.int (nI (r (pix 0 3))), .int (nI (pfg pt 1)), .int (nI ((pfg pt 0) * (r (pix 1 3))))] (fw T G L) none 0 0
                              refine fn_imul dX5_holds_71 ?_
                              refine fn_isubZ (a := (((pfg pt 0) * (r (pix 1 3)) : Nat) : Int)) (b := (((pfg pt 1) * (r (pix 0 3)) : Nat) : Int)) dX5_holds_72 ?_
                              refine fx_iload_n dX5_holds_73 rfl (i := 1) rfl ?_
                              refine fx_iload dX5_holds_74 rfl ?_
                              refine fn_cS dX5_holds_76 lk5_17 (C9_figure (p := pt) (i := 3) (by omega) (by omega) (f := (fw T G L))) rfl rfl (by decide) (Nat.le_of_ble_eq_true rfl) ?_
                              show fv_At Y5_holds 2 0 0 Q 79 [(0, .ref p), (1, .int (nI pt)), (2, .int (nI q)), (3, .int (nI 2)), (4, .int (nI 0)), (5, .int (nI 1)), (6, .int (nI 3)), (7, .int (iI (hdt r pt 0 2 3)))] [.int (nI (pfg pt 3)), .int (iI (((((pfg pt 0) * (r (pix 1 3)) : Nat) : Int)) - ((((pfg pt 1) * (r (pix 0 3)) : Nat) : Int))))] (fw T G L) none 0 0
                              refine fx_aload_n dX5_holds_79 rfl (i := 0) rfl ?_
                              refine fx_iload dX5_holds_80 rfl ?_
                              refine fx_iload dX5_holds_82 rfl ?_
                              refine fn_cV dX5_holds_84 lk5_30 fv_c3 rfl (fw_at hp) (C5_pair T p hp hp1 G L r hr 0 1 (by decide) (by decide) (by decide) (by decide)) rfl rfl (by decide) (Nat.le_of_ble_eq_true rfl) ?_
                              show fv_At Y5_holds 2 0 0 Q 87 [(0, .ref p), (1, .int (nI pt)), (2, .int (nI q)), (3, .int (nI 2)), (4, .int (nI 0)), (5, .int (nI 1)), (6, .int (nI 3)), (7, .int (iI (hdt r pt 0 2 3)))] [.int (nI (r (pix 0 1))), .int (nI (pfg pt 3)), .int (iI (((((pfg pt 0) * (r (pix 1 3)) : Nat) : Int)) - ((((pfg pt 1) * (r (pix 0 3)) : Nat) : Int))))] (fw T G L) none 0 0
                              refine fn_imul dX5_holds_87 ?_
                              refine fn_iaddZ (a := ((((pfg pt 0) * (r (pix 1 3)) : Nat) : Int)) - ((((pfg pt 1) * (r (pix 0 3)) : Nat) : Int))) (b := (((pfg pt 3) * (r (pix 0 1)) : Nat) : Int)) dX5_holds_88 ?_
                              refine fn_to (show _ = (iI (hdt r pt 0 1 3)) from rfl) ?_
                              refine fx_istore (lv2 := [(0, .ref p), (1, .int (nI pt)), (2, .int (nI q)), (3, .int (nI 2)), (4, .int (nI 0)), (5, .int (nI 1)), (6, .int (nI 3)), (7, .int (iI (hdt r pt 0 1 3)))]) dX5_holds_89 (by decide) rfl ?_
                              refine fx_iload dX5_holds_91 rfl ?_
                              have hz := hdt_b (pt := pt) hb (i := 0) (j := 1) (k := 3) (by decide) (by decide) (by decide)
                              refine fx_iload_n dX5_holds_93 rfl (i := 2) rfl ?_
                              refine fn_cS dX5_holds_94 lk5_23 (C5_rest (a := hdt r pt 0 1 3) (b := q) (by omega) (by omega) (by omega) (by omega) (f := (fw T G L))) rfl rfl (by decide) (Nat.le_of_ble_eq_true rfl) ?_
                              show fv_At Y5_holds 2 0 0 Q 97 [(0, .ref p), (1, .int (nI pt)), (2, .int (nI q)), (3, .int (nI 2)), (4, .int (nI 0)), (5, .int (nI 1)), (6, .int (nI 3)), (7, .int (iI (hdt r pt 0 1 3)))] [.int (nI (md (hdt r pt 0 1 3) q))] (fw T G L) none 0 0
                              have hmd := md_lt (hdt r pt 0 1 3) hq0
                              refine fn_if_eq (tgt := 102) dX5_holds_97 (by decide) (by omega) (fun c97 => ?_) (fun c97 => ?_)
                              · skip
                                refine fn_iinc (c := 1) (lv2 := [(0, .ref p), (1, .int (nI pt)), (2, .int (nI q)), (3, .int (nI 3)), (4, .int (nI 0)), (5, .int (nI 1)), (6, .int (nI 3)), (7, .int (iI (hdt r pt 0 1 3)))]) dX5_holds_102 (by decide) rfl (by decide) rfl ?_
                                refine fx_goto (tgt := 2) dX5_holds_105 (by decide) ?_
                                refine fx_iload_n dX5_holds_2 rfl (i := 3) rfl ?_
                                refine fx_iconst (v := (nI 4)) dX5_holds_3 (by decide) ?_
                                refine fn_icmp_ge (tgt := 108) dX5_holds_4 (by decide) (by omega) (by omega) (fun c4 => ?_) (fun c4 => ?_)
                                · exfalso; omega
                                · skip
                                  refine fx_iload_n dX5_holds_7 rfl (i := 3) rfl ?_
                                  refine fn_if_ne (tgt := 15) dX5_holds_8 (by decide) (by omega) (fun c8 => ?_) (fun c8 => ?_)
                                  · skip
                                    refine fx_iconst (v := (nI 0)) dX5_holds_15 (by decide) ?_
                                    refine fx_istore (lv2 := [(0, .ref p), (1, .int (nI pt)), (2, .int (nI q)), (3, .int (nI 3)), (4, .int (nI 0)), (5, .int (nI 1)), (6, .int (nI 3)), (7, .int (iI (hdt r pt 0 1 3)))]) dX5_holds_16 (by decide) rfl ?_
                                    refine fx_iload_n dX5_holds_18 rfl (i := 3) rfl ?_
                                    refine fx_iconst (v := (nI 1)) dX5_holds_19 (by decide) ?_
                                    refine fn_icmp_gt (tgt := 27) dX5_holds_20 (by decide) (by omega) (by omega) (fun c20 => ?_) (fun c20 => ?_)
                                    · skip
                                      refine fx_iconst (v := (nI 1)) dX5_holds_27 (by decide) ?_
                                      refine fx_istore (lv2 := [(0, .ref p), (1, .int (nI pt)), (2, .int (nI q)), (3, .int (nI 3)), (4, .int (nI 0)), (5, .int (nI 1)), (6, .int (nI 3)), (7, .int (iI (hdt r pt 0 1 3)))]) dX5_holds_28 (by decide) rfl ?_
                                      refine fx_iload_n dX5_holds_30 rfl (i := 3) rfl ?_
                                      refine fx_iconst (v := (nI 2)) dX5_holds_31 (by decide) ?_
                                      refine fn_icmp_gt (tgt := 39) dX5_holds_32 (by decide) (by omega) (by omega) (fun c32 => ?_) (fun c32 => ?_)
                                      · skip
                                        refine fx_iconst (v := (nI 2)) dX5_holds_39 (by decide) ?_
                                        refine fx_istore (lv2 := [(0, .ref p), (1, .int (nI pt)), (2, .int (nI q)), (3, .int (nI 3)), (4, .int (nI 0)), (5, .int (nI 1)), (6, .int (nI 2)), (7, .int (iI (hdt r pt 0 1 3)))]) dX5_holds_40 (by decide) rfl ?_
                                        refine fx_iload_n dX5_holds_42 rfl (i := 1) rfl ?_
                                        refine fx_iload dX5_holds_43 rfl ?_
                                        refine fn_cS dX5_holds_45 lk5_17 (C9_figure (p := pt) (i := 0) (by omega) (by omega) (f := (fw T G L))) rfl rfl (by decide) (Nat.le_of_ble_eq_true rfl) ?_
                                        show fv_At Y5_holds 2 0 0 Q 48 [(0, .ref p), (1, .int (nI pt)), (2, .int (nI q)), (3, .int (nI 3)), (4, .int (nI 0)), (5, .int (nI 1)), (6, .int (nI 2)), (7, .int (iI (hdt r pt 0 1 3)))] [.int (nI (pfg pt 0))] (fw T G L) none 0 0
                                        refine fx_aload_n dX5_holds_48 rfl (i := 0) rfl ?_
                                        refine fx_iload dX5_holds_49 rfl ?_
                                        refine fx_iload dX5_holds_51 rfl ?_
                                        refine fn_cV dX5_holds_53 lk5_30 fv_c3 rfl (fw_at hp) (C5_pair T p hp hp1 G L r hr 1 2 (by decide) (by decide) (by decide) (by decide)) rfl rfl (by decide) (Nat.le_of_ble_eq_true rfl) ?_
                                        show fv_At Y5_holds 2 0 0 Q 56 [(0, .ref p), (1, .int (nI pt)), (2, .int (nI q)), (3, .int (nI 3)), (4, .int (nI 0)), (5, .int (nI 1)), (6, .int (nI 2)), (7, .int (iI (hdt r pt 0 1 3)))] [.int (nI (r (pix 1 2))), .int (nI (pfg pt 0))] (fw T G L) none 0 0
                                        refine fn_imul dX5_holds_56 ?_
                                        refine fx_iload_n dX5_holds_57 rfl (i := 1) rfl ?_
                                        refine fx_iload dX5_holds_58 rfl ?_
                                        refine fn_cS dX5_holds_60 lk5_17 (C9_figure (p := pt) (i := 1) (by omega) (by omega) (f := (fw T G L))) rfl rfl (by decide) (Nat.le_of_ble_eq_true rfl) ?_
                                        show fv_At Y5_holds 2 0 0 Q 63 [(0, .ref p), (1, .int (nI pt)), (2, .int (nI q)), (3, .int (nI 3)), (4, .int (nI 0)), (5, .int (nI 1)), (6, .int (nI 2)), (7, .int (iI (hdt r pt 0 1 3)))] [.int (nI (pfg pt 1)), .int (nI ((pfg pt 0) * (r (pix 1 2))))] (fw T G L) none 0 0
                                        refine fx_aload_n dX5_holds_63 rfl (i := 0) rfl ?_
                                        refine fx_iload dX5_holds_64 rfl ?_
                                        refine fx_iload dX5_holds_66 rfl ?_
                                        refine fn_cV dX5_holds_68 lk5_30 fv_c3 rfl (fw_at hp) (C5_pair T p hp hp1 G L r hr 0 2 (by decide) (by decide) (by decide) (by decide)) rfl rfl (by decide) (Nat.le_of_ble_eq_true rfl) ?_
                                        show fv_At Y5_holds 2 0 0 Q 71 [(0, .ref p), (1, .int (nI pt)), (2, .int (nI q)), (3, .int (nI 3)), (4, .int (nI 0)), (5, .int (nI 1)), (6, .int (nI 2)), (7, .int (iI (hdt r pt 0 1 3)))] [.int (nI (r (pix 0 2))), .int (nI (pfg pt 1)), .int (nI ((pfg pt 0) * (r (pix 1 2))))] (fw T G L) none 0 0
                                        refine fn_imul dX5_holds_71 ?_
                                        refine fn_isubZ (a := (((pfg pt 0) * (r (pix 1 2)) : Nat) : Int)) (b := (((pfg pt 1) * (r (pix 0 2)) : Nat) : Int)) dX5_holds_72 ?_
                                        refine fx_iload_n dX5_holds_73 rfl (i := 1) rfl ?_
                                        refine fx_iload dX5_holds_74 rfl ?_
                                        refine fn_cS dX5_holds_76 lk5_17 (C9_figure (p := pt) (i := 2) (by omega) (by omega) (f := (fw T G L))) rfl rfl (by decide) (Nat.le_of_ble_eq_true rfl) ?_
                                        show fv_At Y5_holds 2 0 0 Q 79 [(0, .ref p), (1, .int (nI pt)), (2, .int (nI q)), (3, .int (nI 3)), (4, .int (nI 0)), (5, .int (nI 1)), (6, .int (nI 2)), (7, .int (iI (hdt r pt 0 1 3)))] [.int (nI (pfg pt 2)), .int (iI (((((pfg pt 0) * (r (pix 1 2)) : Nat) : Int)) - ((((pfg pt 1) * (r (pix 0 2)) : Nat) : Int))))] (fw T G L) none 0 0
                                        refine fx_aload_n dX5_holds_79 rfl (i := 0) rfl ?_
                                        refine fx_iload dX5_holds_80 rfl ?_
                                        refine fx_iload dX5_holds_82 rfl ?_
                                        refine fn_cV dX5_holds_84 lk5_30 fv_c3 rfl (fw_at hp) (C5_pair T p hp hp1 G L r hr 0 1 (by decide) (by decide) (by decide) (by decide)) rfl rfl (by decide) (Nat.le_of_ble_eq_true rfl) ?_
                                        show fv_At Y5_holds 2 0 0 Q 87 [(0, .ref p), (1, .int (nI pt)), (2, .int (nI q)), (3, .int (nI 3)), (4, .int (nI 0)), (5, .int (nI 1)), (6, .int (nI 2)), (7, .int (iI (hdt r pt 0 1 3)))] [.int (nI (r (pix 0 1))), .int (nI (pfg pt 2)), .int (iI (((((pfg pt 0) * (r (pix 1 2)) : Nat) : Int)) - ((((pfg pt 1) * (r (pix 0 2)) : Nat) : Int))))] (fw T G L) none 0 0
                                        refine fn_imul dX5_holds_87 ?_
                                        refine fn_iaddZ (a := ((((pfg pt 0) * (r (pix 1 2)) : Nat) : Int)) - ((((pfg pt 1) * (r (pix 0 2)) : Nat) : Int))) (b := (((pfg pt 2) * (r (pix 0 1)) : Nat) : Int)) dX5_holds_88 ?_
                                        refine fn_to (show _ = (iI (hdt r pt 0 1 2)) from rfl) ?_
                                        refine fx_istore (lv2 := [(0, .ref p), (1, .int (nI pt)), (2, .int (nI q)), (3, .int (nI 3)), (4, .int (nI 0)), (5, .int (nI 1)), (6, .int (nI 2)), (7, .int (iI (hdt r pt 0 1 2)))]) dX5_holds_89 (by decide) rfl ?_
                                        refine fx_iload dX5_holds_91 rfl ?_
                                        have hz := hdt_b (pt := pt) hb (i := 0) (j := 1) (k := 2) (by decide) (by decide) (by decide)
                                        refine fx_iload_n dX5_holds_93 rfl (i := 2) rfl ?_
                                        refine fn_cS dX5_holds_94 lk5_23 (C5_rest (a := hdt r pt 0 1 2) (b := q) (by omega) (by omega) (by omega) (by omega) (f := (fw T G L))) rfl rfl (by decide) (Nat.le_of_ble_eq_true rfl) ?_
                                        show fv_At Y5_holds 2 0 0 Q 97 [(0, .ref p), (1, .int (nI pt)), (2, .int (nI q)), (3, .int (nI 3)), (4, .int (nI 0)), (5, .int (nI 1)), (6, .int (nI 2)), (7, .int (iI (hdt r pt 0 1 2)))] [.int (nI (md (hdt r pt 0 1 2) q))] (fw T G L) none 0 0
                                        have hmd := md_lt (hdt r pt 0 1 2) hq0
                                        refine fn_if_eq (tgt := 102) dX5_holds_97 (by decide) (by omega) (fun c97 => ?_) (fun c97 => ?_)
                                        · skip
                                          refine fn_iinc (c := 1) (lv2 := [(0, .ref p), (1, .int (nI pt)), (2, .int (nI q)), (3, .int (nI 4)), (4, .int (nI 0)), (5, .int (nI 1)), (6, .int (nI 2)), (7, .int (iI (hdt r pt 0 1 2)))]) dX5_holds_102 (by decide) rfl (by decide) rfl ?_
                                          refine fx_goto (tgt := 2) dX5_holds_105 (by decide) ?_
                                          refine fx_iload_n dX5_holds_2 rfl (i := 3) rfl ?_
                                          refine fx_iconst (v := (nI 4)) dX5_holds_3 (by decide) ?_
                                          refine fn_icmp_ge (tgt := 108) dX5_holds_4 (by decide) (by omega) (by omega) (fun c4 => ?_) (fun c4 => ?_)
                                          · skip
                                            refine fx_iconst (v := (nI 1)) dX5_holds_108 (by decide) ?_
                                            refine fn_to (show _ = (bI true) from rfl) ?_
                                            exact fx_zret dX5_holds_109 rfl (bI_01 _) rfl rfl (by rw [hQ]; exact ⟨by unfold hld; first | rw [decide_eq_true (by omega)] | rw [decide_eq_false (by omega)], rfl, rfl⟩)
                                          · exfalso; omega
                                        · skip
                                          refine fx_iconst (v := (nI 0)) dX5_holds_100 (by decide) ?_
                                          refine fn_to (show _ = (bI false) from rfl) ?_
                                          exact fx_zret dX5_holds_101 rfl (bI_01 _) rfl rfl (by rw [hQ]; exact ⟨by unfold hld; first | rw [decide_eq_true (by omega)] | rw [decide_eq_false (by omega)], rfl, rfl⟩)
                                      · exfalso; omega
                                    · exfalso; omega
                                  · exfalso; omega
                              · skip
                                refine fx_iconst (v := (nI 0)) dX5_holds_100 (by decide) ?_
                                refine fn_to (show _ = (bI false) from rfl) ?_
                                exact fx_zret dX5_holds_101 rfl (bI_01 _) rfl rfl (by rw [hQ]; exact ⟨by unfold hld; first | rw [decide_eq_true (by omega)] | rw [decide_eq_false (by omega)], rfl, rfl⟩)
                          · exfalso; omega
                        · exfalso; omega
                    · skip
                      refine fx_iconst (v := (nI 0)) dX5_holds_100 (by decide) ?_
                      refine fn_to (show _ = (bI false) from rfl) ?_
                      exact fx_zret dX5_holds_101 rfl (bI_01 _) rfl rfl (by rw [hQ]; exact ⟨by unfold hld; first | rw [decide_eq_true (by omega)] | rw [decide_eq_false (by omega)], rfl, rfl⟩)
              · exfalso; omega
          · skip
            refine fx_iconst (v := (nI 0)) dX5_holds_100 (by decide) ?_
            refine fn_to (show _ = (bI false) from rfl) ?_
            exact fx_zret dX5_holds_101 rfl (bI_01 _) rfl rfl (by rw [hQ]; exact ⟨by unfold hld; first | rw [decide_eq_true (by omega)] | rw [decide_eq_false (by omega)], rfl, rfl⟩)

def crs (r r2 : Nat → Nat) : Int := 0 + ((r 0 * r2 5 : Nat) : Int) + -((r 1 * r2 4 : Nat) : Int) + ((r 2 * r2 3 : Nat) : Int) + ((r 3 * r2 2 : Nat) : Int) + -((r 4 * r2 1 : Nat) : Int) + ((r 5 * r2 0 : Nat) : Int)
/-- two lines meet -/
def crx (r r2 : Nat → Nat) (q : Nat) : Bool := decide (md (crs r r2) q = 0)
theorem crs_b {r r2 : Nat → Nat} (hb : ∀ j, j < 6 → r j < 5) (hb2 : ∀ j, j < 6 → r2 j < 5) : -1000 < crs r r2 ∧ crs r r2 < 1000 := by
  have e : ∀ a x, a < 6 → x < 6 → r a * r2 x ≤ 4 * 4 := fun a x ha hx => Nat.mul_le_mul (Nat.le_of_lt_succ (hb a ha)) (Nat.le_of_lt_succ (hb2 x hx))
  have h0 := e 0 5 (by decide) (by decide)
  have h1 := e 1 4 (by decide) (by decide)
  have h2 := e 2 3 (by decide) (by decide)
  have h3 := e 3 2 (by decide) (by decide)
  have h4 := e 4 1 (by decide) (by decide)
  have h5 := e 5 0 (by decide) (by decide)
  unfold crs
  omega
def lke (r r2 : Nat → Nat) : Bool := decide (r 0 = r2 0 ∧ r 1 = r2 1 ∧ r 2 = r2 2 ∧ r 3 = r2 3 ∧ r 4 = r2 4 ∧ r 5 = r2 5)

set_option maxRecDepth 4000 in
set_option maxHeartbeats 1000000 in
theorem C5_crosses (T : fw_T) (p : Nat) (hp : T p = some (3, 3, 2, [some (p + 1), none])) (hp1 : T (p + 1) = some (0, 0, 6, [])) (p2 : Nat) (hp2 : T p2 = some (3, 3, 2, [some (p2 + 1), none])) (hp3 : T (p2 + 1) = some (0, 0, 6, [])) (G : Nat → Nat → Int32) (L : Nat → Nat → Int64)(r : Nat → Nat) (hr : ∀ j, j < 6 → G (p + 1) j = nI (r j)) (r2 : Nat → Nat) (hr2 : ∀ j, j < 6 → G (p2 + 1) j = nI (r2 j)) (hb : ∀ j, j < 6 → r j < 5) (hb2 : ∀ j, j < 6 → r2 j < 5) (q : Nat) (hq0 : 0 < q) (hq : q < 100) : fv_M Y5_crosses 2 0 0 [.ref p, .ref p2, .int (nI q)] (fw T G L) none (fv_eq (some (.int (bI (crx r r2 q)))) (fw T G L)) := by
  refine fv_enter rfl (Nat.le_of_ble_eq_true rfl) ?_
  obtain ⟨Q, hQ⟩ : ∃ Q : Option Value → fv_F → Option Nat → Prop, Q = (fv_eq (some (.int (bI (crx r r2 q)))) (fw T G L)) := ⟨_, rfl⟩
  rw [← hQ]
  show fv_At Y5_crosses 2 0 0 Q 0 [(0, .ref p), (1, .ref p2), (2, .int (nI q))] [] (fw T G L) none 0 0
  refine fx_iconst (v := (nI 0)) dX5_crosses_0 (by decide) ?_
  refine fn_to (show _ = (iI 0) from rfl) ?_
  refine fx_istore_n (lv2 := [(0, .ref p), (1, .ref p2), (2, .int (nI q)), (3, .int (iI 0))]) dX5_crosses_1 (i := 3) rfl (by decide) rfl ?_
  refine fx_iconst (v := (nI 0)) dX5_crosses_2 (by decide) ?_
  refine fx_istore (lv2 := [(0, .ref p), (1, .ref p2), (2, .int (nI q)), (3, .int (iI 0)), (4, .int (nI 0))]) dX5_crosses_3 (by decide) rfl ?_
  refine fx_iload dX5_crosses_5 rfl ?_
  refine fx_bipush (v := (nI 6)) dX5_crosses_7 (by decide) ?_
  refine fn_icmp_ge (tgt := 60) dX5_crosses_9 (by decide) (by omega) (by omega) (fun c9 => ?_) (fun c9 => ?_)
  · exfalso; omega
  · skip
    refine fx_aload_n dX5_crosses_12 rfl (i := 0) rfl ?_
    refine fw_getr dX5_crosses_13 fd5_9 hp rfl ?_
    refine fx_iload dX5_crosses_16 rfl ?_
    refine fw_iald 0 dX5_crosses_18 hp1 rfl (by omega) (by decide) ?_
    refine fn_to (show _ = (nI (r 0)) from hr 0 (by omega)) ?_
    refine fx_aload_n dX5_crosses_19 rfl (i := 1) rfl ?_
    refine fw_getr dX5_crosses_20 fd5_9 hp2 rfl ?_
    refine fx_iconst (v := (nI 5)) dX5_crosses_23 (by decide) ?_
    refine fx_iload dX5_crosses_24 rfl ?_
    refine fn_isub dX5_crosses_26 (by omega) ?_
    refine fw_iald 5 dX5_crosses_27 hp3 rfl (by omega) (by decide) ?_
    refine fn_to (show _ = (nI (r2 5)) from hr2 5 (by omega)) ?_
    refine fn_imul dX5_crosses_28 ?_
    refine fx_istore (lv2 := [(0, .ref p), (1, .ref p2), (2, .int (nI q)), (3, .int (iI 0)), (4, .int (nI 0)), (5, .int (nI ((r 0) * (r2 5))))]) dX5_crosses_29 (by decide) rfl ?_
    refine fx_iload_n dX5_crosses_31 rfl (i := 3) rfl ?_
    refine fx_iload dX5_crosses_32 rfl ?_
    refine fx_iconst (v := (nI 1)) dX5_crosses_34 (by decide) ?_
    refine fn_icmp_eq (tgt := 44) dX5_crosses_35 (by decide) (by omega) (by omega) (fun c35 => ?_) (fun c35 => ?_)
    · exfalso; omega
    · skip
      refine fx_iload dX5_crosses_38 rfl ?_
      refine fx_iconst (v := (nI 4)) dX5_crosses_40 (by decide) ?_
      refine fn_icmp_ne (tgt := 50) dX5_crosses_41 (by decide) (by omega) (by omega) (fun c41 => ?_) (fun c41 => ?_)
      · skip
        refine fx_iload dX5_crosses_50 rfl ?_
        refine fn_iaddZ (a := 0) (b := (((r 0) * (r2 5) : Nat) : Int)) dX5_crosses_52 ?_
        refine fx_istore_n (lv2 := [(0, .ref p), (1, .ref p2), (2, .int (nI q)), (3, .int (iI (0 + ((((r 0) * (r2 5) : Nat) : Int))))), (4, .int (nI 0)), (5, .int (nI ((r 0) * (r2 5))))]) dX5_crosses_53 (i := 3) rfl (by decide) rfl ?_
        refine fn_iinc (c := 1) (lv2 := [(0, .ref p), (1, .ref p2), (2, .int (nI q)), (3, .int (iI (0 + ((((r 0) * (r2 5) : Nat) : Int))))), (4, .int (nI 1)), (5, .int (nI ((r 0) * (r2 5))))]) dX5_crosses_54 (by decide) rfl (by decide) rfl ?_
        refine fx_goto (tgt := 5) dX5_crosses_57 (by decide) ?_
        refine fx_iload dX5_crosses_5 rfl ?_
        refine fx_bipush (v := (nI 6)) dX5_crosses_7 (by decide) ?_
        refine fn_icmp_ge (tgt := 60) dX5_crosses_9 (by decide) (by omega) (by omega) (fun c9 => ?_) (fun c9 => ?_)
        · exfalso; omega
        · skip
          refine fx_aload_n dX5_crosses_12 rfl (i := 0) rfl ?_
          refine fw_getr dX5_crosses_13 fd5_9 hp rfl ?_
          refine fx_iload dX5_crosses_16 rfl ?_
          refine fw_iald 1 dX5_crosses_18 hp1 rfl (by omega) (by decide) ?_
          refine fn_to (show _ = (nI (r 1)) from hr 1 (by omega)) ?_
          refine fx_aload_n dX5_crosses_19 rfl (i := 1) rfl ?_
          refine fw_getr dX5_crosses_20 fd5_9 hp2 rfl ?_
          refine fx_iconst (v := (nI 5)) dX5_crosses_23 (by decide) ?_
          refine fx_iload dX5_crosses_24 rfl ?_
          refine fn_isub dX5_crosses_26 (by omega) ?_
          refine fw_iald 4 dX5_crosses_27 hp3 rfl (by omega) (by decide) ?_
          refine fn_to (show _ = (nI (r2 4)) from hr2 4 (by omega)) ?_
          refine fn_imul dX5_crosses_28 ?_
          refine fx_istore (lv2 := [(0, .ref p), (1, .ref p2), (2, .int (nI q)), (3, .int (iI (0 + ((((r 0) * (r2 5) : Nat) : Int))))), (4, .int (nI 1)), (5, .int (nI ((r 1) * (r2 4))))]) dX5_crosses_29 (by decide) rfl ?_
          refine fx_iload_n dX5_crosses_31 rfl (i := 3) rfl ?_
          refine fx_iload dX5_crosses_32 rfl ?_
          refine fx_iconst (v := (nI 1)) dX5_crosses_34 (by decide) ?_
          refine fn_icmp_eq (tgt := 44) dX5_crosses_35 (by decide) (by omega) (by omega) (fun c35 => ?_) (fun c35 => ?_)
          · skip
            refine fx_iload dX5_crosses_44 rfl ?_
            refine fx_ineg dX5_crosses_46 (fn_to (show _ = iI (-((((r 1) * (r2 4) : Nat) : Int))) from iI_neg ((((r 1) * (r2 4) : Nat) : Int))) ?_)
            refine fx_goto (tgt := 52) dX5_crosses_47 (by decide) ?_
            refine fn_iaddZ (a := 0 + ((((r 0) * (r2 5) : Nat) : Int))) (b := -((((r 1) * (r2 4) : Nat) : Int))) dX5_crosses_52 ?_
            refine fx_istore_n (lv2 := [(0, .ref p), (1, .ref p2), (2, .int (nI q)), (3, .int (iI ((0 + ((((r 0) * (r2 5) : Nat) : Int))) + (-((((r 1) * (r2 4) : Nat) : Int)))))), (4, .int (nI 1)), (5, .int (nI ((r 1) * (r2 4))))]) dX5_crosses_53 (i := 3) rfl (by decide) rfl ?_
            refine fn_iinc (c := 1) (lv2 := [(0, .ref p), (1, .ref p2), (2, .int (nI q)), (3, .int (iI ((0 + ((((r 0) * (r2 5) : Nat) : Int))) + (-((((r 1) * (r2 4) : Nat) : Int)))))), (4, .int (nI 2)), (5, .int (nI ((r 1) * (r2 4))))]) dX5_crosses_54 (by decide) rfl (by decide) rfl ?_
            refine fx_goto (tgt := 5) dX5_crosses_57 (by decide) ?_
            refine fx_iload dX5_crosses_5 rfl ?_
            refine fx_bipush (v := (nI 6)) dX5_crosses_7 (by decide) ?_
            refine fn_icmp_ge (tgt := 60) dX5_crosses_9 (by decide) (by omega) (by omega) (fun c9 => ?_) (fun c9 => ?_)
            · exfalso; omega
            · skip
              refine fx_aload_n dX5_crosses_12 rfl (i := 0) rfl ?_
              refine fw_getr dX5_crosses_13 fd5_9 hp rfl ?_
              refine fx_iload dX5_crosses_16 rfl ?_
              refine fw_iald 2 dX5_crosses_18 hp1 rfl (by omega) (by decide) ?_
              refine fn_to (show _ = (nI (r 2)) from hr 2 (by omega)) ?_
              refine fx_aload_n dX5_crosses_19 rfl (i := 1) rfl ?_
              refine fw_getr dX5_crosses_20 fd5_9 hp2 rfl ?_
              refine fx_iconst (v := (nI 5)) dX5_crosses_23 (by decide) ?_
              refine fx_iload dX5_crosses_24 rfl ?_
              refine fn_isub dX5_crosses_26 (by omega) ?_
              refine fw_iald 3 dX5_crosses_27 hp3 rfl (by omega) (by decide) ?_
              refine fn_to (show _ = (nI (r2 3)) from hr2 3 (by omega)) ?_
              refine fn_imul dX5_crosses_28 ?_
              refine fx_istore (lv2 := [(0, .ref p), (1, .ref p2), (2, .int (nI q)), (3, .int (iI ((0 + ((((r 0) * (r2 5) : Nat) : Int))) + (-((((r 1) * (r2 4) : Nat) : Int)))))), (4, .int (nI 2)), (5, .int (nI ((r 2) * (r2 3))))]) dX5_crosses_29 (by decide) rfl ?_
              refine fx_iload_n dX5_crosses_31 rfl (i := 3) rfl ?_
              refine fx_iload dX5_crosses_32 rfl ?_
              refine fx_iconst (v := (nI 1)) dX5_crosses_34 (by decide) ?_
              refine fn_icmp_eq (tgt := 44) dX5_crosses_35 (by decide) (by omega) (by omega) (fun c35 => ?_) (fun c35 => ?_)
              · exfalso; omega
              · skip
                refine fx_iload dX5_crosses_38 rfl ?_
                refine fx_iconst (v := (nI 4)) dX5_crosses_40 (by decide) ?_
                refine fn_icmp_ne (tgt := 50) dX5_crosses_41 (by decide) (by omega) (by omega) (fun c41 => ?_) (fun c41 => ?_)
                · skip
                  refine fx_iload dX5_crosses_50 rfl ?_
                  refine fn_iaddZ (a := (0 + ((((r 0) * (r2 5) : Nat) : Int))) + (-((((r 1) * (r2 4) : Nat) : Int)))) (b := (((r 2) * (r2 3) : Nat) : Int)) dX5_crosses_52 ?_
                  refine fx_istore_n (lv2 := [(0, .ref p), (1, .ref p2), (2, .int (nI q)), (3, .int (iI (((0 + ((((r 0) * (r2 5) : Nat) : Int))) + (-((((r 1) * (r2 4) : Nat) : Int)))) + ((((r 2) * (r2 3) : Nat) : Int))))), (4, .int (nI 2)), (5, .int (nI ((r 2) * (r2 3))))]) dX5_crosses_53 (i := 3) rfl (by decide) rfl ?_
                  refine fn_iinc (c := 1) (lv2 := [(0, .ref p), (1, .ref p2), (2, .int (nI q)), (3, .int (iI (((0 + ((((r 0) * (r2 5) : Nat) : Int))) + (-((((r 1) * (r2 4) : Nat) : Int)))) + ((((r 2) * (r2 3) : Nat) : Int))))), (4, .int (nI 3)), (5, .int (nI ((r 2) * (r2 3))))]) dX5_crosses_54 (by decide) rfl (by decide) rfl ?_
                  refine fx_goto (tgt := 5) dX5_crosses_57 (by decide) ?_
                  refine fx_iload dX5_crosses_5 rfl ?_
                  refine fx_bipush (v := (nI 6)) dX5_crosses_7 (by decide) ?_
                  refine fn_icmp_ge (tgt := 60) dX5_crosses_9 (by decide) (by omega) (by omega) (fun c9 => ?_) (fun c9 => ?_)
                  · exfalso; omega
                  · skip
                    refine fx_aload_n dX5_crosses_12 rfl (i := 0) rfl ?_
                    refine fw_getr dX5_crosses_13 fd5_9 hp rfl ?_
                    refine fx_iload dX5_crosses_16 rfl ?_
                    refine fw_iald 3 dX5_crosses_18 hp1 rfl (by omega) (by decide) ?_
                    refine fn_to (show _ = (nI (r 3)) from hr 3 (by omega)) ?_
                    refine fx_aload_n dX5_crosses_19 rfl (i := 1) rfl ?_
                    refine fw_getr dX5_crosses_20 fd5_9 hp2 rfl ?_
                    refine fx_iconst (v := (nI 5)) dX5_crosses_23 (by decide) ?_
                    refine fx_iload dX5_crosses_24 rfl ?_
                    refine fn_isub dX5_crosses_26 (by omega) ?_
                    refine fw_iald 2 dX5_crosses_27 hp3 rfl (by omega) (by decide) ?_
                    refine fn_to (show _ = (nI (r2 2)) from hr2 2 (by omega)) ?_
                    refine fn_imul dX5_crosses_28 ?_
                    refine fx_istore (lv2 := [(0, .ref p), (1, .ref p2), (2, .int (nI q)), (3, .int (iI (((0 + ((((r 0) * (r2 5) : Nat) : Int))) + (-((((r 1) * (r2 4) : Nat) : Int)))) + ((((r 2) * (r2 3) : Nat) : Int))))), (4, .int (nI 3)), (5, .int (nI ((r 3) * (r2 2))))]) dX5_crosses_29 (by decide) rfl ?_
                    refine fx_iload_n dX5_crosses_31 rfl (i := 3) rfl ?_
                    refine fx_iload dX5_crosses_32 rfl ?_
                    refine fx_iconst (v := (nI 1)) dX5_crosses_34 (by decide) ?_
                    refine fn_icmp_eq (tgt := 44) dX5_crosses_35 (by decide) (by omega) (by omega) (fun c35 => ?_) (fun c35 => ?_)
                    · exfalso; omega
                    · skip
                      refine fx_iload dX5_crosses_38 rfl ?_
                      refine fx_iconst (v := (nI 4)) dX5_crosses_40 (by decide) ?_
                      refine fn_icmp_ne (tgt := 50) dX5_crosses_41 (by decide) (by omega) (by omega) (fun c41 => ?_) (fun c41 => ?_)
                      · skip
                        refine fx_iload dX5_crosses_50 rfl ?_
                        refine fn_iaddZ (a := ((0 + ((((r 0) * (r2 5) : Nat) : Int))) + (-((((r 1) * (r2 4) : Nat) : Int)))) + ((((r 2) * (r2 3) : Nat) : Int))) (b := (((r 3) * (r2 2) : Nat) : Int)) dX5_crosses_52 ?_
                        refine fx_istore_n (lv2 := [(0, .ref p), (1, .ref p2), (2, .int (nI q)), (3, .int (iI ((((0 + ((((r 0) * (r2 5) : Nat) : Int))) + (-((((r 1) * (r2 4) : Nat) : Int)))) + ((((r 2) * (r2 3) : Nat) : Int))) + ((((r 3) * (r2 2) : Nat) : Int))))), (4, .int (nI 3)), (5, .int (nI ((r 3) * (r2 2))))]) dX5_crosses_53 (i := 3) rfl (by decide) rfl ?_
                        refine fn_iinc (c := 1) (lv2 := [(0, .ref p), (1, .ref p2), (2, .int (nI q)), (3, .int (iI ((((0 + ((((r 0) * (r2 5) : Nat) : Int))) + (-((((r 1) * (r2 4) : Nat) : Int)))) + ((((r 2) * (r2 3) : Nat) : Int))) + ((((r 3) * (r2 2) : Nat) : Int))))), (4, .int (nI 4)), (5, .int (nI ((r 3) * (r2 2))))]) dX5_crosses_54 (by decide) rfl (by decide) rfl ?_
                        refine fx_goto (tgt := 5) dX5_crosses_57 (by decide) ?_
                        refine fx_iload dX5_crosses_5 rfl ?_
                        refine fx_bipush (v := (nI 6)) dX5_crosses_7 (by decide) ?_
                        refine fn_icmp_ge (tgt := 60) dX5_crosses_9 (by decide) (by omega) (by omega) (fun c9 => ?_) (fun c9 => ?_)
                        · exfalso; omega
                        · skip
                          refine fx_aload_n dX5_crosses_12 rfl (i := 0) rfl ?_
                          refine fw_getr dX5_crosses_13 fd5_9 hp rfl ?_
                          refine fx_iload dX5_crosses_16 rfl ?_
                          refine fw_iald 4 dX5_crosses_18 hp1 rfl (by omega) (by decide) ?_
                          refine fn_to (show _ = (nI (r 4)) from hr 4 (by omega)) ?_
                          refine fx_aload_n dX5_crosses_19 rfl (i := 1) rfl ?_
                          refine fw_getr dX5_crosses_20 fd5_9 hp2 rfl ?_
                          refine fx_iconst (v := (nI 5)) dX5_crosses_23 (by decide) ?_
                          refine fx_iload dX5_crosses_24 rfl ?_
                          refine fn_isub dX5_crosses_26 (by omega) ?_
                          refine fw_iald 1 dX5_crosses_27 hp3 rfl (by omega) (by decide) ?_
                          refine fn_to (show _ = (nI (r2 1)) from hr2 1 (by omega)) ?_
                          refine fn_imul dX5_crosses_28 ?_
                          refine fx_istore (lv2 := [(0, .ref p), (1, .ref p2), (2, .int (nI q)), (3, .int (iI ((((0 + ((((r 0) * (r2 5) : Nat) : Int))) + (-((((r 1) * (r2 4) : Nat) : Int)))) + ((((r 2) * (r2 3) : Nat) : Int))) + ((((r 3) * (r2 2) : Nat) : Int))))), (4, .int (nI 4)), (5, .int (nI ((r 4) * (r2 1))))]) dX5_crosses_29 (by decide) rfl ?_
                          refine fx_iload_n dX5_crosses_31 rfl (i := 3) rfl ?_
                          refine fx_iload dX5_crosses_32 rfl ?_
                          refine fx_iconst (v := (nI 1)) dX5_crosses_34 (by decide) ?_
                          refine fn_icmp_eq (tgt := 44) dX5_crosses_35 (by decide) (by omega) (by omega) (fun c35 => ?_) (fun c35 => ?_)
                          · exfalso; omega
                          · skip
                            refine fx_iload dX5_crosses_38 rfl ?_
                            refine fx_iconst (v := (nI 4)) dX5_crosses_40 (by decide) ?_
                            refine fn_icmp_ne (tgt := 50) dX5_crosses_41 (by decide) (by omega) (by omega) (fun c41 => ?_) (fun c41 => ?_)
                            · exfalso; omega
                            · skip
                              refine fx_iload dX5_crosses_44 rfl ?_
                              refine fx_ineg dX5_crosses_46 (fn_to (show _ = iI (-((((r 4) * (r2 1) : Nat) : Int))) from iI_neg ((((r 4) * (r2 1) : Nat) : Int))) ?_)
                              refine fx_goto (tgt := 52) dX5_crosses_47 (by decide) ?_
                              refine fn_iaddZ (a := (((0 + ((((r 0) * (r2 5) : Nat) : Int))) + (-((((r 1) * (r2 4) : Nat) : Int)))) + ((((r 2) * (r2 3) : Nat) : Int))) + ((((r 3) * (r2 2) : Nat) : Int))) (b := -((((r 4) * (r2 1) : Nat) : Int))) dX5_crosses_52 ?_
                              refine fx_istore_n (lv2 := [(0, .ref p), (1, .ref p2), (2, .int (nI q)), (3, .int (iI (((((0 + ((((r 0) * (r2 5) : Nat) : Int))) + (-((((r 1) * (r2 4) : Nat) : Int)))) + ((((r 2) * (r2 3) : Nat) : Int))) + ((((r 3) * (r2 2) : Nat) : Int))) + (-((((r 4) * (r2 1) : Nat) : Int)))))), (4, .int (nI 4)), (5, .int (nI ((r 4) * (r2 1))))]) dX5_crosses_53 (i := 3) rfl (by decide) rfl ?_
                              refine fn_iinc (c := 1) (lv2 := [(0, .ref p), (1, .ref p2), (2, .int (nI q)), (3, .int (iI (((((0 + ((((r 0) * (r2 5) : Nat) : Int))) + (-((((r 1) * (r2 4) : Nat) : Int)))) + ((((r 2) * (r2 3) : Nat) : Int))) + ((((r 3) * (r2 2) : Nat) : Int))) + (-((((r 4) * (r2 1) : Nat) : Int)))))), (4, .int (nI 5)), (5, .int (nI ((r 4) * (r2 1))))]) dX5_crosses_54 (by decide) rfl (by decide) rfl ?_
                              refine fx_goto (tgt := 5) dX5_crosses_57 (by decide) ?_
                              refine fx_iload dX5_crosses_5 rfl ?_
                              refine fx_bipush (v := (nI 6)) dX5_crosses_7 (by decide) ?_
                              refine fn_icmp_ge (tgt := 60) dX5_crosses_9 (by decide) (by omega) (by omega) (fun c9 => ?_) (fun c9 => ?_)
                              · exfalso; omega
                              · skip
                                refine fx_aload_n dX5_crosses_12 rfl (i := 0) rfl ?_
                                refine fw_getr dX5_crosses_13 fd5_9 hp rfl ?_
                                refine fx_iload dX5_crosses_16 rfl ?_
                                refine fw_iald 5 dX5_crosses_18 hp1 rfl (by omega) (by decide) ?_
                                refine fn_to (show _ = (nI (r 5)) from hr 5 (by omega)) ?_
                                refine fx_aload_n dX5_crosses_19 rfl (i := 1) rfl ?_
                                refine fw_getr dX5_crosses_20 fd5_9 hp2 rfl ?_
                                refine fx_iconst (v := (nI 5)) dX5_crosses_23 (by decide) ?_
                                refine fx_iload dX5_crosses_24 rfl ?_
                                refine fn_isub dX5_crosses_26 (by omega) ?_
                                refine fw_iald 0 dX5_crosses_27 hp3 rfl (by omega) (by decide) ?_
                                refine fn_to (show _ = (nI (r2 0)) from hr2 0 (by omega)) ?_
                                refine fn_imul dX5_crosses_28 ?_
                                refine fx_istore (lv2 := [(0, .ref p), (1, .ref p2), (2, .int (nI q)), (3, .int (iI (((((0 + ((((r 0) * (r2 5) : Nat) : Int))) + (-((((r 1) * (r2 4) : Nat) : Int)))) + ((((r 2) * (r2 3) : Nat) : Int))) + ((((r 3) * (r2 2) : Nat) : Int))) + (-((((r 4) * (r2 1) : Nat) : Int)))))), (4, .int (nI 5)), (5, .int (nI ((r 5) * (r2 0))))]) dX5_crosses_29 (by decide) rfl ?_
                                refine fx_iload_n dX5_crosses_31 rfl (i := 3) rfl ?_
                                refine fx_iload dX5_crosses_32 rfl ?_
                                refine fx_iconst (v := (nI 1)) dX5_crosses_34 (by decide) ?_
                                refine fn_icmp_eq (tgt := 44) dX5_crosses_35 (by decide) (by omega) (by omega) (fun c35 => ?_) (fun c35 => ?_)
                                · exfalso; omega
                                · skip
                                  refine fx_iload dX5_crosses_38 rfl ?_
                                  refine fx_iconst (v := (nI 4)) dX5_crosses_40 (by decide) ?_
                                  refine fn_icmp_ne (tgt := 50) dX5_crosses_41 (by decide) (by omega) (by omega) (fun c41 => ?_) (fun c41 => ?_)
                                  · skip
                                    refine fx_iload dX5_crosses_50 rfl ?_
                                    refine fn_iaddZ (a := ((((0 + ((((r 0) * (r2 5) : Nat) : Int))) + (-((((r 1) * (r2 4) : Nat) : Int)))) + ((((r 2) * (r2 3) : Nat) : Int))) + ((((r 3) * (r2 2) : Nat) : Int))) + (-((((r 4) * (r2 1) : Nat) : Int)))) (b := (((r 5) * (r2 0) : Nat) : Int)) dX5_crosses_52 ?_
                                    refine fx_istore_n (lv2 := [(0, .ref p), (1, .ref p2), (2, .int (nI q)), (3, .int (iI ((((((0 + ((((r 0) * (r2 5) : Nat) : Int))) + (-((((r 1) * (r2 4) : Nat) : Int)))) + ((((r 2) * (r2 3) : Nat) : Int))) + ((((r 3) * (r2 2) : Nat) : Int))) + (-((((r 4) * (r2 1) : Nat) : Int)))) + ((((r 5) * (r2 0) : Nat) : Int))))), (4, .int (nI 5)), (5, .int (nI ((r 5) * (r2 0))))]) dX5_crosses_53 (i := 3) rfl (by decide) rfl ?_
                                    refine fn_iinc (c := 1) (lv2 := [(0, .ref p), (1, .ref p2), (2, .int (nI q)), (3, .int (iI ((((((0 + ((((r 0) * (r2 5) : Nat) : Int))) + (-((((r 1) * (r2 4) : Nat) : Int)))) + ((((r 2) * (r2 3) : Nat) : Int))) + ((((r 3) * (r2 2) : Nat) : Int))) + (-((((r 4) * (r2 1) : Nat) : Int)))) + ((((r 5) * (r2 0) : Nat) : Int))))), (4, .int (nI 6)), (5, .int (nI ((r 5) * (r2 0))))]) dX5_crosses_54 (by decide) rfl (by decide) rfl ?_
                                    refine fx_goto (tgt := 5) dX5_crosses_57 (by decide) ?_
                                    refine fx_iload dX5_crosses_5 rfl ?_
                                    refine fx_bipush (v := (nI 6)) dX5_crosses_7 (by decide) ?_
                                    refine fn_icmp_ge (tgt := 60) dX5_crosses_9 (by decide) (by omega) (by omega) (fun c9 => ?_) (fun c9 => ?_)
                                    · skip
                                      have hz := crs_b hb hb2
                                      show fv_At Y5_crosses 2 0 0 Q 60 [(0, .ref p), (1, .ref p2), (2, .int (nI q)), (3, .int (iI (crs r r2))), (4, .int (nI 6)), (5, .int (nI ((r 5) * (r2 0))))] [] (fw T G L) none 0 0
                                      refine fx_iload_n dX5_crosses_60 rfl (i := 3) rfl ?_
                                      refine fx_iload_n dX5_crosses_61 rfl (i := 2) rfl ?_
                                      refine fn_cS dX5_crosses_62 lk5_23 (C5_rest (a := crs r r2) (b := q) (by omega) (by omega) (by omega) (by omega) (f := (fw T G L))) rfl rfl (by decide) (Nat.le_of_ble_eq_true rfl) ?_
                                      show fv_At Y5_crosses 2 0 0 Q 65 [(0, .ref p), (1, .ref p2), (2, .int (nI q)), (3, .int (iI (crs r r2))), (4, .int (nI 6)), (5, .int (nI ((r 5) * (r2 0))))] [.int (nI (md (crs r r2) q))] (fw T G L) none 0 0
                                      have hmd := md_lt (crs r r2) hq0
                                      refine fn_if_ne (tgt := 72) dX5_crosses_65 (by decide) (by omega) (fun c65 => ?_) (fun c65 => ?_)
                                      · skip
                                        refine fx_iconst (v := (nI 0)) dX5_crosses_72 (by decide) ?_
                                        refine fn_to (show _ = (bI false) from rfl) ?_
                                        exact fx_zret dX5_crosses_73 rfl (bI_01 _) rfl rfl (by rw [hQ]; exact ⟨by unfold crx; first | rw [decide_eq_true (by omega)] | rw [decide_eq_false (by omega)], rfl, rfl⟩)
                                      · skip
                                        refine fx_iconst (v := (nI 1)) dX5_crosses_68 (by decide) ?_
                                        refine fn_to (show _ = (bI true) from rfl) ?_
                                        refine fx_goto (tgt := 73) dX5_crosses_69 (by decide) ?_
                                        exact fx_zret dX5_crosses_73 rfl (bI_01 _) rfl rfl (by rw [hQ]; exact ⟨by unfold crx; first | rw [decide_eq_true (by omega)] | rw [decide_eq_false (by omega)], rfl, rfl⟩)
                                    · exfalso; omega
                                  · exfalso; omega
                      · exfalso; omega
                · exfalso; omega
          · exfalso; omega
      · exfalso; omega

set_option maxRecDepth 4000 in
set_option maxHeartbeats 1000000 in
theorem C5_isLike (T : fw_T) (p : Nat) (hp : T p = some (3, 3, 2, [some (p + 1), none])) (hp1 : T (p + 1) = some (0, 0, 6, [])) (p2 : Nat) (hp2 : T p2 = some (3, 3, 2, [some (p2 + 1), none])) (hp3 : T (p2 + 1) = some (0, 0, 6, [])) (G : Nat → Nat → Int32) (L : Nat → Nat → Int64)(r : Nat → Nat) (hr : ∀ j, j < 6 → G (p + 1) j = nI (r j)) (r2 : Nat → Nat) (hr2 : ∀ j, j < 6 → G (p2 + 1) j = nI (r2 j)) (hb : ∀ j, j < 6 → r j < 5) (hb2 : ∀ j, j < 6 → r2 j < 5) : fv_M Y5_isLike 0 0 0 [.ref p, .ref p2] (fw T G L) none (fv_eq (some (.int (bI (lke r r2)))) (fw T G L)) := by
  refine fv_enter rfl (Nat.le_of_ble_eq_true rfl) ?_
  obtain ⟨Q, hQ⟩ : ∃ Q : Option Value → fv_F → Option Nat → Prop, Q = (fv_eq (some (.int (bI (lke r r2)))) (fw T G L)) := ⟨_, rfl⟩
  rw [← hQ]
  show fv_At Y5_isLike 0 0 0 Q 0 [(0, .ref p), (1, .ref p2)] [] (fw T G L) none 0 0
  refine fx_iconst (v := (nI 0)) dX5_isLike_0 (by decide) ?_
  refine fx_istore_n (lv2 := [(0, .ref p), (1, .ref p2), (2, .int (nI 0))]) dX5_isLike_1 (i := 2) rfl (by decide) rfl ?_
  refine fx_iload_n dX5_isLike_2 rfl (i := 2) rfl ?_
  refine fx_bipush (v := (nI 6)) dX5_isLike_3 (by decide) ?_
  refine fn_icmp_ge (tgt := 31) dX5_isLike_5 (by decide) (by omega) (by omega) (fun c5 => ?_) (fun c5 => ?_)
  · exfalso; omega
  · skip
    refine fx_aload_n dX5_isLike_8 rfl (i := 0) rfl ?_
    refine fw_getr dX5_isLike_9 fd5_9 hp rfl ?_
    refine fx_iload_n dX5_isLike_12 rfl (i := 2) rfl ?_
    refine fw_iald 0 dX5_isLike_13 hp1 rfl (by omega) (by decide) ?_
    refine fn_to (show _ = (nI (r 0)) from hr 0 (by omega)) ?_
    refine fx_aload_n dX5_isLike_14 rfl (i := 1) rfl ?_
    refine fw_getr dX5_isLike_15 fd5_9 hp2 rfl ?_
    refine fx_iload_n dX5_isLike_18 rfl (i := 2) rfl ?_
    refine fw_iald 0 dX5_isLike_19 hp3 rfl (by omega) (by decide) ?_
    refine fn_to (show _ = (nI (r2 0)) from hr2 0 (by omega)) ?_
    have hba := hb 0 (by decide)
    have hbb := hb2 0 (by decide)
    refine fn_icmp_eq (tgt := 25) dX5_isLike_20 (by decide) (by omega) (by omega) (fun c20 => ?_) (fun c20 => ?_)
    · skip
      refine fn_iinc (c := 1) (lv2 := [(0, .ref p), (1, .ref p2), (2, .int (nI 1))]) dX5_isLike_25 (by decide) rfl (by decide) rfl ?_
      refine fx_goto (tgt := 2) dX5_isLike_28 (by decide) ?_
      refine fx_iload_n dX5_isLike_2 rfl (i := 2) rfl ?_
      refine fx_bipush (v := (nI 6)) dX5_isLike_3 (by decide) ?_
      refine fn_icmp_ge (tgt := 31) dX5_isLike_5 (by decide) (by omega) (by omega) (fun c5 => ?_) (fun c5 => ?_)
      · exfalso; omega
      · skip
        refine fx_aload_n dX5_isLike_8 rfl (i := 0) rfl ?_
        refine fw_getr dX5_isLike_9 fd5_9 hp rfl ?_
        refine fx_iload_n dX5_isLike_12 rfl (i := 2) rfl ?_
        refine fw_iald 1 dX5_isLike_13 hp1 rfl (by omega) (by decide) ?_
        refine fn_to (show _ = (nI (r 1)) from hr 1 (by omega)) ?_
        refine fx_aload_n dX5_isLike_14 rfl (i := 1) rfl ?_
        refine fw_getr dX5_isLike_15 fd5_9 hp2 rfl ?_
        refine fx_iload_n dX5_isLike_18 rfl (i := 2) rfl ?_
        refine fw_iald 1 dX5_isLike_19 hp3 rfl (by omega) (by decide) ?_
        refine fn_to (show _ = (nI (r2 1)) from hr2 1 (by omega)) ?_
        have hba := hb 1 (by decide)
        have hbb := hb2 1 (by decide)
        refine fn_icmp_eq (tgt := 25) dX5_isLike_20 (by decide) (by omega) (by omega) (fun c20 => ?_) (fun c20 => ?_)
        · skip
          refine fn_iinc (c := 1) (lv2 := [(0, .ref p), (1, .ref p2), (2, .int (nI 2))]) dX5_isLike_25 (by decide) rfl (by decide) rfl ?_
          refine fx_goto (tgt := 2) dX5_isLike_28 (by decide) ?_
          refine fx_iload_n dX5_isLike_2 rfl (i := 2) rfl ?_
          refine fx_bipush (v := (nI 6)) dX5_isLike_3 (by decide) ?_
          refine fn_icmp_ge (tgt := 31) dX5_isLike_5 (by decide) (by omega) (by omega) (fun c5 => ?_) (fun c5 => ?_)
          · exfalso; omega
          · skip
            refine fx_aload_n dX5_isLike_8 rfl (i := 0) rfl ?_
            refine fw_getr dX5_isLike_9 fd5_9 hp rfl ?_
            refine fx_iload_n dX5_isLike_12 rfl (i := 2) rfl ?_
            refine fw_iald 2 dX5_isLike_13 hp1 rfl (by omega) (by decide) ?_
            refine fn_to (show _ = (nI (r 2)) from hr 2 (by omega)) ?_
            refine fx_aload_n dX5_isLike_14 rfl (i := 1) rfl ?_
            refine fw_getr dX5_isLike_15 fd5_9 hp2 rfl ?_
            refine fx_iload_n dX5_isLike_18 rfl (i := 2) rfl ?_
            refine fw_iald 2 dX5_isLike_19 hp3 rfl (by omega) (by decide) ?_
            refine fn_to (show _ = (nI (r2 2)) from hr2 2 (by omega)) ?_
            have hba := hb 2 (by decide)
            have hbb := hb2 2 (by decide)
            refine fn_icmp_eq (tgt := 25) dX5_isLike_20 (by decide) (by omega) (by omega) (fun c20 => ?_) (fun c20 => ?_)
            · skip
              refine fn_iinc (c := 1) (lv2 := [(0, .ref p), (1, .ref p2), (2, .int (nI 3))]) dX5_isLike_25 (by decide) rfl (by decide) rfl ?_
              refine fx_goto (tgt := 2) dX5_isLike_28 (by decide) ?_
              refine fx_iload_n dX5_isLike_2 rfl (i := 2) rfl ?_
              refine fx_bipush (v := (nI 6)) dX5_isLike_3 (by decide) ?_
              refine fn_icmp_ge (tgt := 31) dX5_isLike_5 (by decide) (by omega) (by omega) (fun c5 => ?_) (fun c5 => ?_)
              · exfalso; omega
              · skip
                refine fx_aload_n dX5_isLike_8 rfl (i := 0) rfl ?_
                refine fw_getr dX5_isLike_9 fd5_9 hp rfl ?_
                refine fx_iload_n dX5_isLike_12 rfl (i := 2) rfl ?_
                refine fw_iald 3 dX5_isLike_13 hp1 rfl (by omega) (by decide) ?_
                refine fn_to (show _ = (nI (r 3)) from hr 3 (by omega)) ?_
                refine fx_aload_n dX5_isLike_14 rfl (i := 1) rfl ?_
                refine fw_getr dX5_isLike_15 fd5_9 hp2 rfl ?_
                refine fx_iload_n dX5_isLike_18 rfl (i := 2) rfl ?_
                refine fw_iald 3 dX5_isLike_19 hp3 rfl (by omega) (by decide) ?_
                refine fn_to (show _ = (nI (r2 3)) from hr2 3 (by omega)) ?_
                have hba := hb 3 (by decide)
                have hbb := hb2 3 (by decide)
                refine fn_icmp_eq (tgt := 25) dX5_isLike_20 (by decide) (by omega) (by omega) (fun c20 => ?_) (fun c20 => ?_)
                · skip
                  refine fn_iinc (c := 1) (lv2 := [(0, .ref p), (1, .ref p2), (2, .int (nI 4))]) dX5_isLike_25 (by decide) rfl (by decide) rfl ?_
                  refine fx_goto (tgt := 2) dX5_isLike_28 (by decide) ?_
                  refine fx_iload_n dX5_isLike_2 rfl (i := 2) rfl ?_
                  refine fx_bipush (v := (nI 6)) dX5_isLike_3 (by decide) ?_
                  refine fn_icmp_ge (tgt := 31) dX5_isLike_5 (by decide) (by omega) (by omega) (fun c5 => ?_) (fun c5 => ?_)
                  · exfalso; omega
                  · skip
                    refine fx_aload_n dX5_isLike_8 rfl (i := 0) rfl ?_
                    refine fw_getr dX5_isLike_9 fd5_9 hp rfl ?_
                    refine fx_iload_n dX5_isLike_12 rfl (i := 2) rfl ?_
                    refine fw_iald 4 dX5_isLike_13 hp1 rfl (by omega) (by decide) ?_
                    refine fn_to (show _ = (nI (r 4)) from hr 4 (by omega)) ?_
                    refine fx_aload_n dX5_isLike_14 rfl (i := 1) rfl ?_
                    refine fw_getr dX5_isLike_15 fd5_9 hp2 rfl ?_
                    refine fx_iload_n dX5_isLike_18 rfl (i := 2) rfl ?_
                    refine fw_iald 4 dX5_isLike_19 hp3 rfl (by omega) (by decide) ?_
                    refine fn_to (show _ = (nI (r2 4)) from hr2 4 (by omega)) ?_
                    have hba := hb 4 (by decide)
                    have hbb := hb2 4 (by decide)
                    refine fn_icmp_eq (tgt := 25) dX5_isLike_20 (by decide) (by omega) (by omega) (fun c20 => ?_) (fun c20 => ?_)
                    · skip
                      refine fn_iinc (c := 1) (lv2 := [(0, .ref p), (1, .ref p2), (2, .int (nI 5))]) dX5_isLike_25 (by decide) rfl (by decide) rfl ?_
                      refine fx_goto (tgt := 2) dX5_isLike_28 (by decide) ?_
                      refine fx_iload_n dX5_isLike_2 rfl (i := 2) rfl ?_
                      refine fx_bipush (v := (nI 6)) dX5_isLike_3 (by decide) ?_
                      refine fn_icmp_ge (tgt := 31) dX5_isLike_5 (by decide) (by omega) (by omega) (fun c5 => ?_) (fun c5 => ?_)
                      · exfalso; omega
                      · skip
                        refine fx_aload_n dX5_isLike_8 rfl (i := 0) rfl ?_
                        refine fw_getr dX5_isLike_9 fd5_9 hp rfl ?_
                        refine fx_iload_n dX5_isLike_12 rfl (i := 2) rfl ?_
                        refine fw_iald 5 dX5_isLike_13 hp1 rfl (by omega) (by decide) ?_
                        refine fn_to (show _ = (nI (r 5)) from hr 5 (by omega)) ?_
                        refine fx_aload_n dX5_isLike_14 rfl (i := 1) rfl ?_
                        refine fw_getr dX5_isLike_15 fd5_9 hp2 rfl ?_
                        refine fx_iload_n dX5_isLike_18 rfl (i := 2) rfl ?_
                        refine fw_iald 5 dX5_isLike_19 hp3 rfl (by omega) (by decide) ?_
                        refine fn_to (show _ = (nI (r2 5)) from hr2 5 (by omega)) ?_
                        have hba := hb 5 (by decide)
                        have hbb := hb2 5 (by decide)
                        refine fn_icmp_eq (tgt := 25) dX5_isLike_20 (by decide) (by omega) (by omega) (fun c20 => ?_) (fun c20 => ?_)
                        · skip
                          refine fn_iinc (c := 1) (lv2 := [(0, .ref p), (1, .ref p2), (2, .int (nI 6))]) dX5_isLike_25 (by decide) rfl (by decide) rfl ?_
                          refine fx_goto (tgt := 2) dX5_isLike_28 (by decide) ?_
                          refine fx_iload_n dX5_isLike_2 rfl (i := 2) rfl ?_
                          refine fx_bipush (v := (nI 6)) dX5_isLike_3 (by decide) ?_
                          refine fn_icmp_ge (tgt := 31) dX5_isLike_5 (by decide) (by omega) (by omega) (fun c5 => ?_) (fun c5 => ?_)
                          · skip
                            refine fx_iconst (v := (nI 1)) dX5_isLike_31 (by decide) ?_
                            refine fn_to (show _ = (bI true) from rfl) ?_
                            exact fx_zret dX5_isLike_32 rfl (bI_01 _) rfl rfl (by rw [hQ]; exact ⟨by unfold lke; first | rw [decide_eq_true (by omega)] | rw [decide_eq_false (by omega)], rfl, rfl⟩)
                          · exfalso; omega
                        · skip
                          refine fx_iconst (v := (nI 0)) dX5_isLike_23 (by decide) ?_
                          refine fn_to (show _ = (bI false) from rfl) ?_
                          exact fx_zret dX5_isLike_24 rfl (bI_01 _) rfl rfl (by rw [hQ]; exact ⟨by unfold lke; first | rw [decide_eq_true (by omega)] | rw [decide_eq_false (by omega)], rfl, rfl⟩)
                    · skip
                      refine fx_iconst (v := (nI 0)) dX5_isLike_23 (by decide) ?_
                      refine fn_to (show _ = (bI false) from rfl) ?_
                      exact fx_zret dX5_isLike_24 rfl (bI_01 _) rfl rfl (by rw [hQ]; exact ⟨by unfold lke; first | rw [decide_eq_true (by omega)] | rw [decide_eq_false (by omega)], rfl, rfl⟩)
                · skip
                  refine fx_iconst (v := (nI 0)) dX5_isLike_23 (by decide) ?_
                  refine fn_to (show _ = (bI false) from rfl) ?_
                  exact fx_zret dX5_isLike_24 rfl (bI_01 _) rfl rfl (by rw [hQ]; exact ⟨by unfold lke; first | rw [decide_eq_true (by omega)] | rw [decide_eq_false (by omega)], rfl, rfl⟩)
            · skip
              refine fx_iconst (v := (nI 0)) dX5_isLike_23 (by decide) ?_
              refine fn_to (show _ = (bI false) from rfl) ?_
              exact fx_zret dX5_isLike_24 rfl (bI_01 _) rfl rfl (by rw [hQ]; exact ⟨by unfold lke; first | rw [decide_eq_true (by omega)] | rw [decide_eq_false (by omega)], rfl, rfl⟩)
        · skip
          refine fx_iconst (v := (nI 0)) dX5_isLike_23 (by decide) ?_
          refine fn_to (show _ = (bI false) from rfl) ?_
          exact fx_zret dX5_isLike_24 rfl (bI_01 _) rfl rfl (by rw [hQ]; exact ⟨by unfold lke; first | rw [decide_eq_true (by omega)] | rw [decide_eq_false (by omega)], rfl, rfl⟩)
    · skip
      refine fx_iconst (v := (nI 0)) dX5_isLike_23 (by decide) ?_
      refine fn_to (show _ = (bI false) from rfl) ?_
      exact fx_zret dX5_isLike_24 rfl (bI_01 _) rfl rfl (by rw [hQ]; exact ⟨by unfold lke; first | rw [decide_eq_true (by omega)] | rw [decide_eq_false (by omega)], rfl, rfl⟩)

set_option maxRecDepth 4000 in
set_option maxHeartbeats 1000000 in
theorem C5_copy (T : fw_T) (p : Nat) (hp : T p = some (3, 3, 2, [some (p + 1), none])) (hp1 : T (p + 1) = some (0, 0, 6, [])) (p2 : Nat) (hp2 : T p2 = some (3, 3, 2, [some (p2 + 1), none])) (hp3 : T (p2 + 1) = some (0, 0, 6, [])) (G : Nat → Nat → Int32) (L : Nat → Nat → Int64) (r2 : Nat → Nat) (hr2 : ∀ j, j < 6 → G (p2 + 1) j = nI (r2 j)) (hne : p2 ≠ p) (hn1 : p2 ≠ p + 1) (t : Int32) (ht : G p2 1 = t) (ht01 : t = 0 ∨ t = 1) : fv_M Y5_copy 0 0 0 [.ref p, .ref p2] (fw T G L) none (fv_eq none (fw T (g2 (w6 G (p + 1) 6 r2) p 1 t) L)) := by
  refine fv_enter rfl (Nat.le_of_ble_eq_true rfl) ?_
  obtain ⟨Q, hQ⟩ : ∃ Q : Option Value → fv_F → Option Nat → Prop, Q = (fv_eq none (fw T (g2 (w6 G (p + 1) 6 r2) p 1 t) L)) := ⟨_, rfl⟩
  rw [← hQ]
  show fv_At Y5_copy 0 0 0 Q 0 [(0, .ref p), (1, .ref p2)] [] (fw T G L) none 0 0
  refine fx_iconst (v := (nI 0)) dX5_copy_0 (by decide) ?_
  refine fx_istore_n (lv2 := [(0, .ref p), (1, .ref p2), (2, .int (nI 0))]) dX5_copy_1 (i := 2) rfl (by decide) rfl ?_
  have L2 : ∀ (k : Nat) (a : Nat) (G1 : Nat → Nat → Int32), (a + k = 6) → (G1 = w6 G (p + 1) a r2) → fv_At Y5_copy 0 0 0 Q 2 [(0, .ref p), (1, .ref p2), (2, .int (nI a))] [] (fw T G1 L) none 0 0 := by
    intro k
    induction k with
    | zero =>
      intro a G1 ha hG
      refine fx_iload_n dX5_copy_2 rfl (i := 2) rfl ?_
      refine fx_bipush (v := (nI 6)) dX5_copy_3 (by decide) ?_
      refine fn_icmp_ge (tgt := 26) dX5_copy_5 (by decide) (by omega) (by omega) (fun c5 => ?_) (fun c5 => ?_)
      · skip
        refine fx_aload_n dX5_copy_26 rfl (i := 0) rfl ?_
        refine fx_aload_n dX5_copy_27 rfl (i := 1) rfl ?_
        refine fw_geti dX5_copy_28 fd5_13 hp2 rfl ?_
        refine fn_to (show _ = t from (by rw [hG, w6_ne (by omega)]; exact ht)) ?_
        refine fw_putz dX5_copy_31 fd5_13 ht01 hp rfl ?_
        exact fx_vret dX5_copy_34 rfl rfl rfl (by rw [hQ]; exact ⟨rfl, by rw [hG, show a = 6 by omega], rfl⟩)
      · exfalso; omega
    | succ k ih2 =>
      intro a G1 ha hG
      refine fx_iload_n dX5_copy_2 rfl (i := 2) rfl ?_
      refine fx_bipush (v := (nI 6)) dX5_copy_3 (by decide) ?_
      refine fn_icmp_ge (tgt := 26) dX5_copy_5 (by decide) (by omega) (by omega) (fun c5 => ?_) (fun c5 => ?_)
      · exfalso; omega
      · skip
        refine fx_aload_n dX5_copy_8 rfl (i := 0) rfl ?_
        refine fw_getr dX5_copy_9 fd5_9 hp rfl ?_
        refine fx_iload_n dX5_copy_12 rfl (i := 2) rfl ?_
        refine fx_aload_n dX5_copy_13 rfl (i := 1) rfl ?_
        refine fw_getr dX5_copy_14 fd5_9 hp2 rfl ?_
        refine fx_iload_n dX5_copy_17 rfl (i := 2) rfl ?_
        refine fw_iald a dX5_copy_18 hp3 rfl (by omega) (by decide) ?_
        refine fn_to (show _ = (nI (r2 a)) from (by rw [hG, w6_ne (by omega)]; exact hr2 a (by omega))) ?_
        refine fw_iast a dX5_copy_19 hp1 rfl (by omega) (by decide) ?_
        refine fn_iinc (c := 1) (lv2 := [(0, .ref p), (1, .ref p2), (2, .int (nI (a + 1)))]) dX5_copy_20 (by decide) rfl (by decide) rfl ?_
        refine fx_goto (tgt := 2) dX5_copy_23 (by decide) ?_
        exact (ih2 (a + 1) (g2 G1 (p + 1) a ((nI (r2 a)))) (by omega) (by rw [hG, w6_s]))
  exact (L2 6 0 G (by omega) (w6_0 _ _ _).symm)
