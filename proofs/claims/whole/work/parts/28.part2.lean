theorem figl_le : ∀ k n s r, (figl k n s r).1 ≤ n + k
  | 0, _, _, _ => Nat.le_refl _
  | k + 1, n, s, r => by
    have := figl_le k (n + 1) (s ||| 2 ^ (r % 10)) (r / 10)
    unfold figl
    split
    · omega
    · show n ≤ _; omega
theorem figs_le (o : Int) : figs o ≤ 5 := by
  have h := figl_le 5 0 0 o.toNat
  unfold figs
  split
  · exact Nat.zero_le _
  · unfold figN
    split
    · omega
    · exact Nat.zero_le _
theorem figs_b {o : Int} (h : figs o ≠ 0) : 1 ≤ o ∧ o ≤ 54321 := by
  unfold figs at h
  split at h
  · exact absurd rfl h
  · omega
/-- the part of a product -/
def ppr (u v w : Nat) : Int64 := if thi (cpo (figs u) u) (cpo (figs v) v) = true then rfs (-4) else if stl (pml (cpo (figs v) v) (cpo (figs u) u) zS) < 0 then rfs (stl (pml (cpo (figs v) v) (cpo (figs u) u) zS)) else pfq (figs w) 10 w (trm (pml (cpo (figs v) v) (cpo (figs u) u) zS))
/-- an answer; the pot is empty again; left and right are at work -/
def qlr (G : Nat → Nat → Int32) (L : Nat → Nat → Int64) (v : Int64) : Option Value → fv_F → Option Nat → Prop := fun r2 f2 al2 => ∃ (G2 : Nat → Nat → Int32) (L2 : Nat → Nat → Int64), r2 = some (.long v) ∧ f2 = fw cT G2 L2 ∧ al2 = none ∧ emp G2 L2 ∧ (∀ i, i ≠ 4 → L2 i = L i) ∧
  (∀ i, i ≠ 3 → i ≠ 5 → i ≠ 6 → i ≠ 7 → i ≠ 8 → i ≠ 9 → i ≠ 10 → i ≠ 11 → i ≠ 12 → i ≠ 13 → i ≠ 14 → G2 i = G i)

set_option maxRecDepth 4000 in
set_option maxHeartbeats 1000000 in
theorem C0_partOf  (G : Nat → Nat → Int32) (L : Nat → Nat → Int64) (hem : emp G L) (p2 : Nat) (hq : cT p2 = some (3, 4, 4, [some (p2 + 1), some (p2 + 2), none, none])) (hq1 : cT (p2 + 1) = some (0, 0, 600, [])) (hq2 : cT (p2 + 2) = some (0, 0, 600, [])) (hne2 : 12 ≤ p2) (ts : tms) (t : Bool) (hP : pat G p2 ts t) (hv : pvd ts) (o n : Nat) (ho : o < 100000) (hn1 : 1 ≤ n) (hn : n ≤ 5) : fv_M Y0_partOf 6 0 0 [.ref 2, .ref p2, .int (nI o), .int (nI n)] (fw cT G L) none (qlp G L (pfq n 10 o ts)) := by
  refine fv_enter rfl (Nat.le_of_ble_eq_true rfl) ?_
  obtain ⟨Q, hQ⟩ : ∃ Q : Option Value → fv_F → Option Nat → Prop, Q = (qlp G L (pfq n 10 o ts)) := ⟨_, rfl⟩
  rw [← hQ]
  show fv_At Y0_partOf 6 0 0 Q 0 [(0, .ref 2), (1, .ref p2), (2, .int (nI o)), (3, .int (nI n))] [] (fw cT G L) none 0 0
  refine fx_aload_n dX0_partOf_0 rfl (i := 0) rfl ?_
  refine fw_getr dX0_partOf_1 fd0_21 rfl rfl ?_
  refine fx_aload_n dX0_partOf_4 rfl (i := 1) rfl ?_
  refine fn_cV dX0_partOf_5 lk0_105 fv_c4 rfl (fw_at (show cT 9 = some (3, 4, 4, [some 10, some 11, none, none]) from rfl)) (C7_copy cT 9 rfl rfl rfl p2 hq hq1 hq2 G L ts t hP (by omega)) rfl rfl (by decide) (Nat.le_of_ble_eq_true rfl) ?_
  show fv_At Y0_partOf 6 0 0 Q 8 [(0, .ref 2), (1, .ref p2), (2, .int (nI o)), (3, .int (nI n))] [] (fw cT (pL G 9 ts true) L) none 0 0
  have z1 : pat (pL G 9 ts true) 9 ts true := pat_pL hP.1 (fun j hj => (hP.2.2.2 j hj).2.2)
  have z2 : emp (pL G 9 ts true) L := ⟨hem.1, fun b hb => by rw [pL_row (by decide) (by decide) (by decide)]; exact hem.2 b hb⟩
  refine fx_aload_n dX0_partOf_8 rfl (i := 0) rfl ?_
  refine fx_iload_n dX0_partOf_9 rfl (i := 2) rfl ?_
  refine fx_iload_n dX0_partOf_10 rfl (i := 3) rfl ?_
  refine fx_callV dX0_partOf_11 lk0_109 fv_c0 rfl (fw_at (show cT 2 = some (3, 0, 3, [some 3, some 9, some 12]) from rfl)) (C0_partOfLeft (pL G 9 ts true) L z2 o n ho hn1 hn ts z1 hv) rfl rfl (by decide) (Nat.le_of_ble_eq_true rfl) (by decide) (by decide) (fun r11 f11 al11 h11 => ?_)
  obtain ⟨G9, L9, rfl, rfl, rfl, he9, hl9, hg9⟩ := h11
  show fv_At Y0_partOf 6 0 0 Q 14 [(0, .ref 2), (1, .ref p2), (2, .int (nI o)), (3, .int (nI n))] [.long (pfq n 10 o ts)] (fw cT G9 L9) none 0 0
  exact fx_lret dX0_partOf_14 rfl rfl rfl (by rw [hQ]; exact ⟨G9, L9, rfl, rfl, rfl, he9, hl9, fun i a1 a2 a3 a4 a5 a6 a7 a8 => by rw [hg9 i a1 a2 a3 a4 a5 a6 a7 a8, pL_row a6 a7 a8]⟩)

set_option maxRecDepth 4000 in
set_option maxHeartbeats 1000000 in
theorem C0_partOfProduct  (G : Nat → Nat → Int32) (L : Nat → Nat → Int64) (hem : emp G L) (u v w : Nat) (hu : figs u ≠ 0) (hv : figs v ≠ 0) (hw : figs w ≠ 0) : fv_M Y0_partOfProduct 6 0 0 [.ref 2, .int (nI u), .int (nI v), .int (nI w)] (fw cT G L) none (qlr G L (ppr u v w)) := by
  refine fv_enter rfl (Nat.le_of_ble_eq_true rfl) ?_
  obtain ⟨Q, hQ⟩ : ∃ Q : Option Value → fv_F → Option Nat → Prop, Q = (qlr G L (ppr u v w)) := ⟨_, rfl⟩
  rw [← hQ]
  show fv_At Y0_partOfProduct 6 0 0 Q 0 [(0, .ref 2), (1, .int (nI u)), (2, .int (nI v)), (3, .int (nI w))] [] (fw cT G L) none 0 0
  have bu := figs_b hu
  have bv := figs_b hv
  have bw := figs_b hw
  have fu := figs_le u
  have fv := figs_le v
  have fw5 := figs_le w
  refine fx_aload_n dX0_partOfProduct_0 rfl (i := 0) rfl ?_
  refine fx_aload_n dX0_partOfProduct_1 rfl (i := 0) rfl ?_
  refine fw_getr dX0_partOfProduct_2 fd0_21 rfl rfl ?_
  refine fx_iload_n dX0_partOfProduct_5 rfl (i := 1) rfl ?_
  refine fx_iload_n dX0_partOfProduct_6 rfl (i := 1) rfl ?_
  refine fn_cS dX0_partOfProduct_7 lk0_113 (C6_figures (o := ((u : Nat) : Int)) (by omega) (by omega) (f := (fw cT G L))) rfl rfl (by decide) (Nat.le_of_ble_eq_true rfl) ?_
  show fv_At Y0_partOfProduct 6 0 0 Q 10 [(0, .ref 2), (1, .int (nI u)), (2, .int (nI v)), (3, .int (nI w))] [.int (nI (figs u)), .int (nI u), .ref 9, .ref 2] (fw cT G L) none 0 0
  refine fx_callV dX0_partOfProduct_10 lk0_116 fv_c0 rfl (fw_at (show cT 2 = some (3, 0, 3, [some 3, some 9, some 12]) from rfl)) (C0_compose G L hem 9 rfl rfl rfl (by decide) u (figs u) (by omega) (by omega) (by omega)) rfl rfl (by decide) (Nat.le_of_ble_eq_true rfl) (by decide) (by decide) (fun r10 f10 al10 h10 => ?_)
  obtain ⟨G1, L1, rfl, rfl, rfl, e1, l1, g1, p1, v1⟩ := h10
  show fv_At Y0_partOfProduct 6 0 0 Q 13 [(0, .ref 2), (1, .int (nI u)), (2, .int (nI v)), (3, .int (nI w))] [.int (nI ((cpo (figs u) u).length))] (fw cT G1 L1) none 0 0
  refine fx_pop dX0_partOfProduct_13 rfl ?_
  refine fx_aload_n dX0_partOfProduct_14 rfl (i := 0) rfl ?_
  refine fx_aload_n dX0_partOfProduct_15 rfl (i := 0) rfl ?_
  refine fw_getr dX0_partOfProduct_16 fd0_25 rfl rfl ?_
  refine fx_iload_n dX0_partOfProduct_19 rfl (i := 2) rfl ?_
  refine fx_iload_n dX0_partOfProduct_20 rfl (i := 2) rfl ?_
  refine fn_cS dX0_partOfProduct_21 lk0_113 (C6_figures (o := ((v : Nat) : Int)) (by omega) (by omega) (f := (fw cT G1 L1))) rfl rfl (by decide) (Nat.le_of_ble_eq_true rfl) ?_
  show fv_At Y0_partOfProduct 6 0 0 Q 24 [(0, .ref 2), (1, .int (nI u)), (2, .int (nI v)), (3, .int (nI w))] [.int (nI (figs v)), .int (nI v), .ref 12, .ref 2] (fw cT G1 L1) none 0 0
  refine fx_callV dX0_partOfProduct_24 lk0_116 fv_c0 rfl (fw_at (show cT 2 = some (3, 0, 3, [some 3, some 9, some 12]) from rfl)) (C0_compose G1 L1 e1 12 rfl rfl rfl (by decide) v (figs v) (by omega) (by omega) (by omega)) rfl rfl (by decide) (Nat.le_of_ble_eq_true rfl) (by decide) (by decide) (fun r24 f24 al24 h24 => ?_)
  obtain ⟨G2, L2, rfl, rfl, rfl, e2, l2, g2, p2, v2⟩ := h24
  show fv_At Y0_partOfProduct 6 0 0 Q 27 [(0, .ref 2), (1, .int (nI u)), (2, .int (nI v)), (3, .int (nI w))] [.int (nI ((cpo (figs v) v).length))] (fw cT G2 L2) none 0 0
  refine fx_pop dX0_partOfProduct_27 rfl ?_
  have p1b : pat G2 9 (cpo (figs u) u) true := pat_row p1 (g2 9 (by decide) (by decide) (by decide) (by decide) (by decide) (by decide) (by decide) (by decide)) (g2 (9 + 1) (by decide) (by decide) (by decide) (by decide) (by decide) (by decide) (by decide) (by decide)) (g2 (9 + 2) (by decide) (by decide) (by decide) (by decide) (by decide) (by decide) (by decide) (by decide))
  refine fx_aload_n dX0_partOfProduct_28 rfl (i := 0) rfl ?_
  refine fx_aload_n dX0_partOfProduct_29 rfl (i := 0) rfl ?_
  refine fw_getr dX0_partOfProduct_30 fd0_21 rfl rfl ?_
  refine fx_aload_n dX0_partOfProduct_33 rfl (i := 0) rfl ?_
  refine fw_getr dX0_partOfProduct_34 fd0_21 rfl rfl ?_
  refine fx_aload_n dX0_partOfProduct_37 rfl (i := 0) rfl ?_
  refine fw_getr dX0_partOfProduct_38 fd0_25 rfl rfl ?_
  refine fx_callV dX0_partOfProduct_41 lk0_120 fv_c0 rfl (fw_at (show cT 2 = some (3, 0, 3, [some 3, some 9, some 12]) from rfl)) (C0_multiply G2 L2 e2 9 rfl rfl rfl (by decide) 9 rfl rfl rfl 12 rfl rfl rfl (cpo (figs u) u) true p1b (cpo (figs v) v) true p2 (fun h i hi j hj => okc_le (thi_ok v1 v2 h i hi j hj))) rfl rfl (by decide) (Nat.le_of_ble_eq_true rfl) (by decide) (by decide) (fun r41 f41 al41 h41 => ?_)
  obtain ⟨G3, L3, rfl, rfl, rfl, e3, l3, g3, g3b, g3c⟩ := h41
  show fv_At Y0_partOfProduct 6 0 0 Q 44 [(0, .ref 2), (1, .int (nI u)), (2, .int (nI v)), (3, .int (nI w))] [.int (iI (if thi (cpo (figs u) u) (cpo (figs v) v) = true then -4 else stl (pml (cpo (figs v) v) (cpo (figs u) u) zS)))] (fw cT G3 L3) none 0 0
  obtain ⟨z, hz⟩ : ∃ z, z = (if thi (cpo (figs u) u) (cpo (figs v) v) = true then -4 else stl (pml (cpo (figs v) v) (cpo (figs u) u) zS)) := ⟨_, rfl⟩
  rw [← hz]
  rw [← hz] at g3b g3c
  have hzb : -6 ≤ z ∧ z ≤ 600 := by
    rw [hz]
    have := stl_b (pml (cpo (figs v) v) (cpo (figs u) u) zS)
    split
    · decide
    · exact this
  have gg : ∀ i, i ≠ 3 → i ≠ 5 → i ≠ 6 → i ≠ 7 → i ≠ 8 → i ≠ 9 → i ≠ 10 → i ≠ 11 → i ≠ 12 → i ≠ 13 → i ≠ 14 → G3 i = G i := fun i a1 a2 a3 a4 a5 a6 a7 a8 a9 b1 b2 => ((g3 i a1 a2 a3 a4 a5 a6 a7 a8).trans (g2 i a1 a2 a3 a4 a5 a9 b1 b2)).trans (g1 i a1 a2 a3 a4 a5 a6 a7 a8)
  have ll : ∀ i, i ≠ 4 → L3 i = L i := fun i h => ((l3 i h).trans (l2 i h)).trans (l1 i h)
  show fv_At Y0_partOfProduct 6 0 0 Q 44 [(0, .ref 2), (1, .int (nI u)), (2, .int (nI v)), (3, .int (nI w))] [.int (iI z)] (fw cT G3 L3) none 0 0
  refine fx_istore (lv2 := [(0, .ref 2), (1, .int (nI u)), (2, .int (nI v)), (3, .int (nI w)), (4, .int (iI z))]) dX0_partOfProduct_44 (by decide) rfl ?_
  refine fx_iload dX0_partOfProduct_46 rfl ?_
  refine fn_if_geZ (tgt := 59) dX0_partOfProduct_48 (by decide) (by omega) (by omega) (fun c48 => ?_) (fun c48 => ?_)
  · skip
    have nt : thi (cpo (figs u) u) (cpo (figs v) v) = false := by
      cases e : thi (cpo (figs u) u) (cpo (figs v) v) with
      | true => rw [e, if_pos rfl] at hz; omega
      | false => rfl
    have zs : z = stl (pml (cpo (figs v) v) (cpo (figs u) u) zS) := by rw [hz, nt]; rfl
    have pv3 := pvd_trm (sok_pml (ts := cpo (figs u) u) sok_z (thi_ok v1 v2 nt))
    refine fx_aload_n dX0_partOfProduct_59 rfl (i := 0) rfl ?_
    refine fx_iload_n dX0_partOfProduct_60 rfl (i := 3) rfl ?_
    refine fx_iload_n dX0_partOfProduct_61 rfl (i := 3) rfl ?_
    refine fn_cS dX0_partOfProduct_62 lk0_113 (C6_figures (o := ((w : Nat) : Int)) (by omega) (by omega) (f := (fw cT G3 L3))) rfl rfl (by decide) (Nat.le_of_ble_eq_true rfl) ?_
    show fv_At Y0_partOfProduct 6 0 0 Q 65 [(0, .ref 2), (1, .int (nI u)), (2, .int (nI v)), (3, .int (nI w)), (4, .int (iI z))] [.int (nI (figs w)), .int (nI w), .ref 2] (fw cT G3 L3) none 0 0
    refine fx_callV dX0_partOfProduct_65 lk0_109 fv_c0 rfl (fw_at (show cT 2 = some (3, 0, 3, [some 3, some 9, some 12]) from rfl)) (C0_partOfLeft G3 L3 e3 w (figs w) (by omega) (by omega) (by omega) (trm (pml (cpo (figs v) v) (cpo (figs u) u) zS)) (g3c (by omega)) pv3) rfl rfl (by decide) (Nat.le_of_ble_eq_true rfl) (by decide) (by decide) (fun r65 f65 al65 h65 => ?_)
    obtain ⟨G9, L9, rfl, rfl, rfl, he9, hl9, hg9⟩ := h65
    show fv_At Y0_partOfProduct 6 0 0 Q 68 [(0, .ref 2), (1, .int (nI u)), (2, .int (nI v)), (3, .int (nI w)), (4, .int (iI z))] [.long (pfq (figs w) 10 w (trm (pml (cpo (figs v) v) (cpo (figs u) u) zS)))] (fw cT G9 L9) none 0 0
    exact fx_lret dX0_partOfProduct_68 rfl rfl rfl (by rw [hQ]; exact (by rw [show ppr u v w = pfq (figs w) 10 w (trm (pml (cpo (figs v) v) (cpo (figs u) u) zS)) from by unfold ppr; rw [nt, if_neg (by decide), if_neg (by omega)]]; exact ⟨G9, L9, rfl, rfl, rfl, he9, fun i h => (hl9 i h).trans (ll i h), fun i a1 a2 a3 a4 a5 a6 a7 a8 a9 b1 b2 => (hg9 i a1 a2 a3 a4 a5 a6 a7 a8).trans (gg i a1 a2 a3 a4 a5 a6 a7 a8 a9 b1 b2)⟩))
  · skip
    refine fx_iload dX0_partOfProduct_51 rfl ?_
    refine fn_cSN dX0_partOfProduct_53 lk0_124 (C10_refusal (c := z)  (f := (fw cT G3 L3))) rfl rfl (by decide) (Nat.le_of_ble_eq_true rfl) ?_
    show fv_At Y0_partOfProduct 6 0 0 Q 56 [(0, .ref 2), (1, .int (nI u)), (2, .int (nI v)), (3, .int (nI w)), (4, .int (iI z))] [.long (rfs z)] (fw cT G3 L3) none 0 0
    refine fx_goto (tgt := 68) dX0_partOfProduct_56 (by decide) ?_
    exact fx_lret dX0_partOfProduct_68 rfl rfl rfl (by rw [hQ]; exact (by rw [show ppr u v w = rfs z from by unfold ppr; rw [hz] at c48 ⊢; by_cases q : thi (cpo (figs u) u) (cpo (figs v) v) = true; (rw [if_pos q, if_pos q]); (rw [if_neg q] at c48; rw [if_neg q, if_neg q, if_pos c48])]; exact ⟨G3, L3, rfl, rfl, rfl, e3, ll, gg⟩))
