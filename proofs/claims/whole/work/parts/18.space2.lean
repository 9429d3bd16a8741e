theorem rods_at : ∀ {r : Nat}, r < 8 → ([some 35, some 37, some 39, some 41, some 43, some 45, some 47, some 49] : List (Option Nat)).getD r none = some (35 + 2 * r) := by
  have h : ∀ r, r < 8 → ([some 35, some 37, some 39, some 41, some 43, some 45, some 47, some 49] : List (Option Nat)).getD r none = some (35 + 2 * r) := by decide +kernel
  exact fun {r} hr => h r hr
theorem rod_lay {r : Nat} (hr : r < 8) : cT (35 + 2 * r) = some (3, 3, 2, [some (35 + 2 * r + 1), none]) := by
  match r, hr with
  | 0, _ => rfl
  | 1, _ => rfl
  | 2, _ => rfl
  | 3, _ => rfl
  | 4, _ => rfl
  | 5, _ => rfl
  | 6, _ => rfl
  | 7, _ => rfl
theorem rod_lay1 {r : Nat} (hr : r < 8) : cT (35 + 2 * r + 1) = some (0, 0, 6, []) := by
  match r, hr with
  | 0, _ => rfl
  | 1, _ => rfl
  | 2, _ => rfl
  | 3, _ => rfl
  | 4, _ => rfl
  | 5, _ => rfl
  | 6, _ => rfl
  | 7, _ => rfl
theorem sheets_at : ∀ {r : Nat}, r < 12 → ([some 51, some 54, some 57, some 60, some 63, some 66, some 69, some 72, some 75, some 78, some 81, some 84] : List (Option Nat)).getD r none = some (51 + 3 * r) := by
  have h : ∀ r, r < 12 → ([some 51, some 54, some 57, some 60, some 63, some 66, some 69, some 72, some 75, some 78, some 81, some 84] : List (Option Nat)).getD r none = some (51 + 3 * r) := by decide +kernel
  exact fun {r} hr => h r hr
theorem sht_lay {r : Nat} (hr : r < 12) : cT (51 + 3 * r) = some (3, 4, 4, [some (51 + 3 * r + 1), some (51 + 3 * r + 2), none, none]) := by
  match r, hr with
  | 0, _ => rfl
  | 1, _ => rfl
  | 2, _ => rfl
  | 3, _ => rfl
  | 4, _ => rfl
  | 5, _ => rfl
  | 6, _ => rfl
  | 7, _ => rfl
  | 8, _ => rfl
  | 9, _ => rfl
  | 10, _ => rfl
  | 11, _ => rfl
theorem sht_lay1 {r : Nat} (hr : r < 12) : cT (51 + 3 * r + 1) = some (0, 0, 600, []) := by
  match r, hr with
  | 0, _ => rfl
  | 1, _ => rfl
  | 2, _ => rfl
  | 3, _ => rfl
  | 4, _ => rfl
  | 5, _ => rfl
  | 6, _ => rfl
  | 7, _ => rfl
  | 8, _ => rfl
  | 9, _ => rfl
  | 10, _ => rfl
  | 11, _ => rfl
theorem sht_lay2 {r : Nat} (hr : r < 12) : cT (51 + 3 * r + 2) = some (0, 0, 600, []) := by
  match r, hr with
  | 0, _ => rfl
  | 1, _ => rfl
  | 2, _ => rfl
  | 3, _ => rfl
  | 4, _ => rfl
  | 5, _ => rfl
  | 6, _ => rfl
  | 7, _ => rfl
  | 8, _ => rfl
  | 9, _ => rfl
  | 10, _ => rfl
  | 11, _ => rfl
/-- space: the field, which rods are there, their rests -/
def spc (G : Nat → Nat → Int32) (q : Nat) (th : Nat → Bool) (rs : Nat → Nat → Nat) : Prop := G 31 2 = nI q ∧ (q = 2 ∨ q = 3 ∨ q = 5) ∧ (∀ r, r < 8 → G (35 + 2 * r) 1 = bI (th r)) ∧ ∀ r, r < 8 → th r = true → ∀ j, j < 6 → G (35 + 2 * r + 1) j = nI (rs r j) ∧ rs r j < 5
/-- but for the probe -/
def offp (G G2 : Nat → Nat → Int32) : Prop := ∀ i, i ≠ 33 → i ≠ 34 → G2 i = G i
theorem offp_rf (G : Nat → Nat → Int32) : offp G G := fun _ _ _ => rfl
theorem offp_tr {G G1 G2 : Nat → Nat → Int32} (h1 : offp G G1) (h2 : offp G1 G2) : offp G G2 := fun i a b => (h2 i a b).trans (h1 i a b)
theorem offp_ln (G : Nat → Nat → Int32) (r : Nat → Nat) (x : Int32) : offp G (g2 (w6 G (33 + 1) 6 r) 33 1 x) := by
  intro i a b
  funext j
  rw [g2_ne _ _ (fun h => a h.1), w6_ne b]
theorem spc_off {G G2 : Nat → Nat → Int32} {q : Nat} {th : Nat → Bool} {rs : Nat → Nat → Nat} (h : spc G q th rs) (ho : offp G G2) : spc G2 q th rs := by
  obtain ⟨h1, h2, h3, h4⟩ := h
  refine ⟨by rw [ho 31 (by decide) (by decide)]; exact h1, h2, fun r hr => by rw [ho _ (by omega) (by omega)]; exact h3 r hr, fun r hr ht j hj => by rw [ho _ (by omega) (by omega)]; exact h4 r hr ht j hj⟩
theorem spc_q {G : Nat → Nat → Int32} {q : Nat} {th : Nat → Bool} {rs : Nat → Nat → Nat} (h : spc G q th rs) : 0 < q ∧ q ≤ 5 := by
  have := h.2.1
  omega
def btd (b r : Nat) : Bool := decide (b / 2 ^ r % 2 = 1)

set_option maxRecDepth 4000 in
set_option maxHeartbeats 1000000 in
theorem C5_isThere (T : fw_T) (p : Nat) (hp : T p = some (3, 3, 2, [some (p + 1), none])) (hp1 : T (p + 1) = some (0, 0, 6, [])) (G : Nat → Nat → Int32) (L : Nat → Nat → Int64) (b : Bool) (hb : G p 1 = bI b) : fv_M Y5_isThere 0 0 0 [.ref p] (fw T G L) none (fv_eq (some (.int (bI b))) (fw T G L)) := by
  refine fv_enter rfl (Nat.le_of_ble_eq_true rfl) ?_
  obtain ⟨Q, hQ⟩ : ∃ Q : Option Value → fv_F → Option Nat → Prop, Q = (fv_eq (some (.int (bI b))) (fw T G L)) := ⟨_, rfl⟩
  rw [← hQ]
  show fv_At Y5_isThere 0 0 0 Q 0 [(0, .ref p)] [] (fw T G L) none 0 0
  refine fx_aload_n dX5_isThere_0 rfl (i := 0) rfl ?_
  refine fw_geti dX5_isThere_1 fd5_13 hp rfl ?_
  refine fn_to (show _ = (bI b) from hb) ?_
  exact fx_zret dX5_isThere_4 rfl (bI_01 _) rfl rfl (by rw [hQ]; exact ⟨rfl, rfl, rfl⟩)

set_option maxRecDepth 4000 in
set_option maxHeartbeats 1000000 in
theorem C5_vanish (T : fw_T) (p : Nat) (hp : T p = some (3, 3, 2, [some (p + 1), none])) (hp1 : T (p + 1) = some (0, 0, 6, [])) (G : Nat → Nat → Int32) (L : Nat → Nat → Int64) : fv_M Y5_vanish 0 0 0 [.ref p] (fw T G L) none (fv_eq none (fw T (g2 G p 1 (bI false)) L)) := by
  refine fv_enter rfl (Nat.le_of_ble_eq_true rfl) ?_
  obtain ⟨Q, hQ⟩ : ∃ Q : Option Value → fv_F → Option Nat → Prop, Q = (fv_eq none (fw T (g2 G p 1 (bI false)) L)) := ⟨_, rfl⟩
  rw [← hQ]
  show fv_At Y5_vanish 0 0 0 Q 0 [(0, .ref p)] [] (fw T G L) none 0 0
  refine fx_aload_n dX5_vanish_0 rfl (i := 0) rfl ?_
  refine fx_iconst (v := (nI 0)) dX5_vanish_1 (by decide) ?_
  refine fn_to (show _ = (bI false) from rfl) ?_
  refine fw_putz dX5_vanish_2 fd5_13 (bI_01 _) hp rfl ?_
  exact fx_vret dX5_vanish_5 rfl rfl rfl (by rw [hQ]; exact ⟨rfl, rfl, rfl⟩)

set_option maxRecDepth 4000 in
set_option maxHeartbeats 1000000 in
theorem C9_order  (G : Nat → Nat → Int32) (L : Nat → Nat → Int64) (q : Nat) (th : Nat → Bool) (rs : Nat → Nat → Nat) (hS : spc G q th rs) : fv_M Y9_order 0 0 0 [.ref 31] (fw cT G L) none (fv_eq (some (.int (nI q))) (fw cT G L)) := by
  refine fv_enter rfl (Nat.le_of_ble_eq_true rfl) ?_
  obtain ⟨Q, hQ⟩ : ∃ Q : Option Value → fv_F → Option Nat → Prop, Q = (fv_eq (some (.int (nI q))) (fw cT G L)) := ⟨_, rfl⟩
  rw [← hQ]
  show fv_At Y9_order 0 0 0 Q 0 [(0, .ref 31)] [] (fw cT G L) none 0 0
  refine fx_aload_n dX9_order_0 rfl (i := 0) rfl ?_
  refine fw_geti dX9_order_1 fd9_22 rfl rfl ?_
  refine fn_to (show _ = (nI q) from hS.1) ?_
  exact fx_iret dX9_order_4 rfl rfl rfl (by rw [hQ]; exact ⟨rfl, rfl, rfl⟩)

/-- a point told as four figures -/
def ptl (q p : Nat) : Nat → Nat → Bool
  | 0, _ => true
  | k + 1, i => if pfg p i < q then ptl q p k (i + 1) else false
def isPt (q : Nat) (p : Int) : Bool := decide (1 ≤ p ∧ p < 10000) && ptl q p.toNat 4 0

set_option maxRecDepth 4000 in
set_option maxHeartbeats 1000000 in
theorem C9_isPoint  (G : Nat → Nat → Int32) (L : Nat → Nat → Int64) (q : Nat) (th : Nat → Bool) (rs : Nat → Nat → Nat) (hS : spc G q th rs) (p : Int) (p1 : -2147483648 ≤ p) (p2 : p < 2147483648) : fv_M Y9_isPoint 2 0 0 [.ref 31, .int (iI p)] (fw cT G L) none (fv_eq (some (.int (bI (isPt q p)))) (fw cT G L)) := by
  refine fv_enter rfl (Nat.le_of_ble_eq_true rfl) ?_
  obtain ⟨Q, hQ⟩ : ∃ Q : Option Value → fv_F → Option Nat → Prop, Q = (fv_eq (some (.int (bI (isPt q p)))) (fw cT G L)) := ⟨_, rfl⟩
  rw [← hQ]
  show fv_At Y9_isPoint 2 0 0 Q 0 [(0, .ref 31), (1, .int (iI p))] [] (fw cT G L) none 0 0
  refine fx_iload_n dX9_isPoint_0 rfl (i := 1) rfl ?_
  refine fx_iconst (v := (nI 1)) dX9_isPoint_1 (by decide) ?_
  refine fn_icmp_ltZ (a := p) (b := ((1 : Nat) : Int)) (tgt := 15) dX9_isPoint_2 (by decide) (by omega) (by omega) (by omega) (by omega) (fun c2 => ?_) (fun c2 => ?_)
  · skip
    refine fx_iconst (v := (nI 0)) dX9_isPoint_15 (by decide) ?_
    refine fn_to (show _ = (bI false) from rfl) ?_
    exact fx_zret dX9_isPoint_16 rfl (bI_01 _) rfl rfl (by rw [hQ]; exact ⟨by unfold isPt; rw [decide_eq_false (by omega)]; rfl, rfl, rfl⟩)
  · skip
    refine fx_iload_n dX9_isPoint_5 rfl (i := 1) rfl ?_
    refine fx_bipush (v := (nI 10)) dX9_isPoint_6 (by decide) ?_
    refine fx_iconst (v := (nI 4)) dX9_isPoint_8 (by decide) ?_
    refine fn_cS dX9_isPoint_9 lk9_32 (C3_power (b := 10) (k := 4) (by omega) (f := (fw cT G L))) rfl rfl (by decide) (Nat.le_of_ble_eq_true rfl) ?_
    show fv_At Y9_isPoint 2 0 0 Q 12 [(0, .ref 31), (1, .int (iI p))] [.int (nI (10 ^ 4)), .int (iI p)] (fw cT G L) none 0 0
    refine fn_to (show _ = (nI 10000) from rfl) ?_
    refine fn_icmp_ltZ (a := p) (b := ((10000 : Nat) : Int)) (tgt := 17) dX9_isPoint_12 (by decide) (by omega) (by omega) (by omega) (by omega) (fun c12 => ?_) (fun c12 => ?_)
    · skip
      obtain ⟨w, rfl⟩ : ∃ w : Nat, p = (w : Int) := ⟨p.toNat, by omega⟩
      have hip : isPt q (w : Int) = ptl q w 4 0 := by unfold isPt; rw [decide_eq_true (by omega)]; rfl
      have hq5 := spc_q hS
      show fv_At Y9_isPoint 2 0 0 Q 17 [(0, .ref 31), (1, .int (nI w))] [] (fw cT G L) none 0 0
      refine fx_iconst (v := (nI 0)) dX9_isPoint_17 (by decide) ?_
      refine fx_istore_n (lv2 := [(0, .ref 31), (1, .int (nI w)), (2, .int (nI 0))]) dX9_isPoint_18 (i := 2) rfl (by decide) rfl ?_
      have L19 : ∀ (k : Nat) (i : Nat), (i + k = 4) → (ptl q w k i = isPt q (w : Int)) → fv_At Y9_isPoint 2 0 0 Q 19 [(0, .ref 31), (1, .int (nI w)), (2, .int (nI i))] [] (fw cT G L) none 0 0 := by
        intro k
        induction k with
        | zero =>
          intro i hi hR
          refine fx_iload_n dX9_isPoint_19 rfl (i := 2) rfl ?_
          refine fx_iconst (v := (nI 4)) dX9_isPoint_20 (by decide) ?_
          refine fn_icmp_ge (tgt := 44) dX9_isPoint_21 (by decide) (by omega) (by omega) (fun c21 => ?_) (fun c21 => ?_)
          · skip
            refine fx_iconst (v := (nI 1)) dX9_isPoint_44 (by decide) ?_
            refine fn_to (show _ = (bI true) from rfl) ?_
            exact fx_zret dX9_isPoint_45 rfl (bI_01 _) rfl rfl (by rw [hQ]; exact ⟨by rw [← hR]; rfl, rfl, rfl⟩)
          · exfalso; omega
        | succ k ih19 =>
          intro i hi hR
          refine fx_iload_n dX9_isPoint_19 rfl (i := 2) rfl ?_
          refine fx_iconst (v := (nI 4)) dX9_isPoint_20 (by decide) ?_
          refine fn_icmp_ge (tgt := 44) dX9_isPoint_21 (by decide) (by omega) (by omega) (fun c21 => ?_) (fun c21 => ?_)
          · exfalso; omega
          · skip
            refine fx_iload_n dX9_isPoint_24 rfl (i := 1) rfl ?_
            refine fx_iload_n dX9_isPoint_25 rfl (i := 2) rfl ?_
            refine fn_cS dX9_isPoint_26 lk9_35 (C9_figure (p := w) (i := i) (by omega) (by omega) (f := (fw cT G L))) rfl rfl (by decide) (Nat.le_of_ble_eq_true rfl) ?_
            show fv_At Y9_isPoint 2 0 0 Q 29 [(0, .ref 31), (1, .int (nI w)), (2, .int (nI i))] [.int (nI (pfg w i))] (fw cT G L) none 0 0
            refine fx_aload_n dX9_isPoint_29 rfl (i := 0) rfl ?_
            refine fw_geti dX9_isPoint_30 fd9_22 rfl rfl ?_
            refine fn_to (show _ = (nI q) from hS.1) ?_
            have hpf := pfg_lt w i
            refine fn_icmp_lt (tgt := 38) dX9_isPoint_33 (by decide) (by omega) (by omega) (fun c33 => ?_) (fun c33 => ?_)
            · skip
              refine fn_iinc (c := 1) (lv2 := [(0, .ref 31), (1, .int (nI w)), (2, .int (nI (i + 1)))]) dX9_isPoint_38 (by decide) rfl (by decide) rfl ?_
              refine fx_goto (tgt := 19) dX9_isPoint_41 (by decide) ?_
              exact (ih19 (i + 1) (by omega) (by rw [← hR, ptl, if_pos (by omega)]))
            · skip
              refine fx_iconst (v := (nI 0)) dX9_isPoint_36 (by decide) ?_
              refine fn_to (show _ = (bI false) from rfl) ?_
              exact fx_zret dX9_isPoint_37 rfl (bI_01 _) rfl rfl (by rw [hQ]; exact ⟨by rw [← hR, ptl, if_neg (by omega)], rfl, rfl⟩)
      exact (L19 4 0 (by omega) hip.symm)
    · skip
      refine fx_iconst (v := (nI 0)) dX9_isPoint_15 (by decide) ?_
      refine fn_to (show _ = (bI false) from rfl) ?_
      exact fx_zret dX9_isPoint_16 rfl (bI_01 _) rfl rfl (by rw [hQ]; exact ⟨by unfold isPt; rw [decide_eq_false (by omega)]; rfl, rfl, rfl⟩)

def rct (th : Nat → Bool) : Nat → Nat → Nat → Nat
  | 0, _, c => c
  | k + 1, r, c => rct th k (r + 1) (if th r then c + 1 else c + 0)
def att (th : Nat → Bool) (b : Nat) : Nat → Nat → Bool
  | 0, _ => true
  | k + 1, r => if btd b r = true ∧ th r = false then false else att th b k (r + 1)
def ono (rs : Nat → Nat → Nat) (q pt b : Nat) : Nat → Nat → Bool
  | 0, _ => false
  | k + 1, r => if btd b r = true ∧ hld (rs r) q pt = true then true else ono rs q pt b k (r + 1)
def cal (rs : Nat → Nat → Nat) (q : Nat) (rp : Nat → Nat) (b : Nat) : Nat → Nat → Bool
  | 0, _ => true
  | k + 1, r => if btd b r = true ∧ crx rp (rs r) q = false then false else cal rs q rp b k (r + 1)

set_option maxRecDepth 4000 in
set_option maxHeartbeats 1000000 in
theorem C9_rodsThere  (G : Nat → Nat → Int32) (L : Nat → Nat → Int64) (q : Nat) (th : Nat → Bool) (rs : Nat → Nat → Nat) (hS : spc G q th rs) : fv_M Y9_rodsThere 1 0 0 [.ref 31] (fw cT G L) none (fv_eq (some (.int (nI (rct th 8 0 0)))) (fw cT G L)) := by
  refine fv_enter rfl (Nat.le_of_ble_eq_true rfl) ?_
  obtain ⟨Q, hQ⟩ : ∃ Q : Option Value → fv_F → Option Nat → Prop, Q = (fv_eq (some (.int (nI (rct th 8 0 0)))) (fw cT G L)) := ⟨_, rfl⟩
  rw [← hQ]
  show fv_At Y9_rodsThere 1 0 0 Q 0 [(0, .ref 31)] [] (fw cT G L) none 0 0
  refine fx_iconst (v := (nI 0)) dX9_rodsThere_0 (by decide) ?_
  refine fx_istore_n (lv2 := [(0, .ref 31), (1, .int (nI 0))]) dX9_rodsThere_1 (i := 1) rfl (by decide) rfl ?_
  refine fx_iconst (v := (nI 0)) dX9_rodsThere_2 (by decide) ?_
  refine fx_istore_n (lv2 := [(0, .ref 31), (1, .int (nI 0)), (2, .int (nI 0))]) dX9_rodsThere_3 (i := 2) rfl (by decide) rfl ?_
  have L4 : ∀ (k : Nat) (c : Nat) (r : Nat), (r + k = 8) → (rct th k r c = rct th 8 0 0) → fv_At Y9_rodsThere 1 0 0 Q 4 [(0, .ref 31), (1, .int (nI c)), (2, .int (nI r))] [] (fw cT G L) none 0 0 := by
    intro k
    induction k with
    | zero =>
      intro c r hr hR
      refine fx_iload_n dX9_rodsThere_4 rfl (i := 2) rfl ?_
      refine fx_bipush (v := (nI 8)) dX9_rodsThere_5 (by decide) ?_
      refine fn_icmp_ge (tgt := 36) dX9_rodsThere_7 (by decide) (by omega) (by omega) (fun c7 => ?_) (fun c7 => ?_)
      · skip
        refine fx_iload_n dX9_rodsThere_36 rfl (i := 1) rfl ?_
        exact fx_iret dX9_rodsThere_37 rfl rfl rfl (by rw [hQ]; exact ⟨by rw [← hR]; rfl, rfl, rfl⟩)
      · exfalso; omega
    | succ k ih4 =>
      intro c r hr hR
      refine fx_iload_n dX9_rodsThere_4 rfl (i := 2) rfl ?_
      refine fx_bipush (v := (nI 8)) dX9_rodsThere_5 (by decide) ?_
      refine fn_icmp_ge (tgt := 36) dX9_rodsThere_7 (by decide) (by omega) (by omega) (fun c7 => ?_) (fun c7 => ?_)
      · exfalso; omega
      · skip
        refine fx_iload_n dX9_rodsThere_10 rfl (i := 1) rfl ?_
        refine fx_aload_n dX9_rodsThere_11 rfl (i := 0) rfl ?_
        refine fw_getr dX9_rodsThere_12 fd9_13 rfl rfl ?_
        refine fx_iload_n dX9_rodsThere_15 rfl (i := 2) rfl ?_
        refine fw_aald (r := 35 + 2 * r) r dX9_rodsThere_16 rfl (by decide) rfl (by omega) (by decide) (rods_at (by omega)) ?_
        refine fn_cV dX9_rodsThere_17 lk9_53 fv_c3 rfl (fw_at (rod_lay (by omega))) (C5_isThere cT (35 + 2 * r) (rod_lay (by omega)) (rod_lay1 (by omega)) G L (th r) (hS.2.2.1 _ (by omega))) rfl rfl (by decide) (Nat.le_of_ble_eq_true rfl) ?_
        show fv_At Y9_rodsThere 1 0 0 Q 20 [(0, .ref 31), (1, .int (nI c)), (2, .int (nI r))] [.int (bI (th r)), .int (nI c)] (fw cT G L) none 0 0
        refine fn_if_eqB (tgt := 27) dX9_rodsThere_20 (by decide) (fun c20 => ?_) (fun c20 => ?_)
        · skip
          refine fx_iconst (v := (nI 0)) dX9_rodsThere_27 (by decide) ?_
          refine fn_iadd dX9_rodsThere_28 ?_
          refine fx_istore_n (lv2 := [(0, .ref 31), (1, .int (nI (c + 0))), (2, .int (nI r))]) dX9_rodsThere_29 (i := 1) rfl (by decide) rfl ?_
          refine fn_iinc (c := 1) (lv2 := [(0, .ref 31), (1, .int (nI (c + 0))), (2, .int (nI (r + 1)))]) dX9_rodsThere_30 (by decide) rfl (by decide) rfl ?_
          refine fx_goto (tgt := 4) dX9_rodsThere_33 (by decide) ?_
          exact (ih4 (c + 0) (r + 1) (by omega) (by rw [← hR, rct]; simp only [c20]; rfl))
        · skip
          refine fx_iconst (v := (nI 1)) dX9_rodsThere_23 (by decide) ?_
          refine fx_goto (tgt := 28) dX9_rodsThere_24 (by decide) ?_
          refine fn_iadd dX9_rodsThere_28 ?_
          refine fx_istore_n (lv2 := [(0, .ref 31), (1, .int (nI (c + 1))), (2, .int (nI r))]) dX9_rodsThere_29 (i := 1) rfl (by decide) rfl ?_
          refine fn_iinc (c := 1) (lv2 := [(0, .ref 31), (1, .int (nI (c + 1))), (2, .int (nI (r + 1)))]) dX9_rodsThere_30 (by decide) rfl (by decide) rfl ?_
          refine fx_goto (tgt := 4) dX9_rodsThere_33 (by decide) ?_
          exact (ih4 (c + 1) (r + 1) (by omega) (by rw [← hR, rct]; simp only [c20]; rfl))
  exact (L4 8 0 0 (by omega) rfl)

set_option maxRecDepth 4000 in
set_option maxHeartbeats 1000000 in
theorem C9_areThere  (G : Nat → Nat → Int32) (L : Nat → Nat → Int64) (q : Nat) (th : Nat → Bool) (rs : Nat → Nat → Nat) (hS : spc G q th rs) (b : Nat) (hb : b < 256) : fv_M Y9_areThere 1 0 0 [.ref 31, .int (nI b)] (fw cT G L) none (fv_eq (some (.int (bI (att th b 8 0)))) (fw cT G L)) := by
  refine fv_enter rfl (Nat.le_of_ble_eq_true rfl) ?_
  obtain ⟨Q, hQ⟩ : ∃ Q : Option Value → fv_F → Option Nat → Prop, Q = (fv_eq (some (.int (bI (att th b 8 0)))) (fw cT G L)) := ⟨_, rfl⟩
  rw [← hQ]
  show fv_At Y9_areThere 1 0 0 Q 0 [(0, .ref 31), (1, .int (nI b))] [] (fw cT G L) none 0 0
  refine fx_iconst (v := (nI 0)) dX9_areThere_0 (by decide) ?_
  refine fx_istore_n (lv2 := [(0, .ref 31), (1, .int (nI b)), (2, .int (nI 0))]) dX9_areThere_1 (i := 2) rfl (by decide) rfl ?_
  have L2 : ∀ (k : Nat) (r : Nat), (r + k = 8) → (att th b k r = att th b 8 0) → fv_At Y9_areThere 1 0 0 Q 2 [(0, .ref 31), (1, .int (nI b)), (2, .int (nI r))] [] (fw cT G L) none 0 0 := by
    intro k
    induction k with
    | zero =>
      intro r hr hR
      refine fx_iload_n dX9_areThere_2 rfl (i := 2) rfl ?_
      refine fx_bipush (v := (nI 8)) dX9_areThere_3 (by decide) ?_
      refine fn_icmp_ge (tgt := 36) dX9_areThere_5 (by decide) (by omega) (by omega) (fun c5 => ?_) (fun c5 => ?_)
      · skip
        refine fx_iconst (v := (nI 1)) dX9_areThere_36 (by decide) ?_
        refine fn_to (show _ = (bI true) from rfl) ?_
        exact fx_zret dX9_areThere_37 rfl (bI_01 _) rfl rfl (by rw [hQ]; exact ⟨by rw [← hR]; rfl, rfl, rfl⟩)
      · exfalso; omega
    | succ k ih2 =>
      intro r hr hR
      refine fx_iload_n dX9_areThere_2 rfl (i := 2) rfl ?_
      refine fx_bipush (v := (nI 8)) dX9_areThere_3 (by decide) ?_
      refine fn_icmp_ge (tgt := 36) dX9_areThere_5 (by decide) (by omega) (by omega) (fun c5 => ?_) (fun c5 => ?_)
      · exfalso; omega
      · skip
        refine fx_iload_n dX9_areThere_8 rfl (i := 1) rfl ?_
        refine fx_iload_n dX9_areThere_9 rfl (i := 2) rfl ?_
        refine fn_cS dX9_areThere_10 lk9_65 (C9_isTold (b := b) (r := r) (by omega) (by omega) (f := (fw cT G L))) rfl rfl (by decide) (Nat.le_of_ble_eq_true rfl) ?_
        show fv_At Y9_areThere 1 0 0 Q 13 [(0, .ref 31), (1, .int (nI b)), (2, .int (nI r))] [.int (bI (btd b r))] (fw cT G L) none 0 0
        refine fn_if_eqB (tgt := 30) dX9_areThere_13 (by decide) (fun c13 => ?_) (fun c13 => ?_)
        · skip
          refine fn_iinc (c := 1) (lv2 := [(0, .ref 31), (1, .int (nI b)), (2, .int (nI (r + 1)))]) dX9_areThere_30 (by decide) rfl (by decide) rfl ?_
          refine fx_goto (tgt := 2) dX9_areThere_33 (by decide) ?_
          exact (ih2 (r + 1) (by omega) (by rw [← hR, att, if_neg (by simp_all)]))
        · skip
          refine fx_aload_n dX9_areThere_16 rfl (i := 0) rfl ?_
          refine fw_getr dX9_areThere_17 fd9_13 rfl rfl ?_
          refine fx_iload_n dX9_areThere_20 rfl (i := 2) rfl ?_
          refine fw_aald (r := 35 + 2 * r) r dX9_areThere_21 rfl (by decide) rfl (by omega) (by decide) (rods_at (by omega)) ?_
          refine fn_cV dX9_areThere_22 lk9_53 fv_c3 rfl (fw_at (rod_lay (by omega))) (C5_isThere cT (35 + 2 * r) (rod_lay (by omega)) (rod_lay1 (by omega)) G L (th r) (hS.2.2.1 _ (by omega))) rfl rfl (by decide) (Nat.le_of_ble_eq_true rfl) ?_
          show fv_At Y9_areThere 1 0 0 Q 25 [(0, .ref 31), (1, .int (nI b)), (2, .int (nI r))] [.int (bI (th r))] (fw cT G L) none 0 0
          refine fn_if_neB (tgt := 30) dX9_areThere_25 (by decide) (fun c25 => ?_) (fun c25 => ?_)
          · skip
            refine fn_iinc (c := 1) (lv2 := [(0, .ref 31), (1, .int (nI b)), (2, .int (nI (r + 1)))]) dX9_areThere_30 (by decide) rfl (by decide) rfl ?_
            refine fx_goto (tgt := 2) dX9_areThere_33 (by decide) ?_
            exact (ih2 (r + 1) (by omega) (by rw [← hR, att, if_neg (by simp_all)]))
          · skip
            refine fx_iconst (v := (nI 0)) dX9_areThere_28 (by decide) ?_
            refine fn_to (show _ = (bI false) from rfl) ?_
            exact fx_zret dX9_areThere_29 rfl (bI_01 _) rfl rfl (by rw [hQ]; exact ⟨by rw [← hR, att, if_pos (by simp_all)], rfl, rfl⟩)
  exact (L2 8 0 (by omega) rfl)

set_option maxRecDepth 4000 in
set_option maxHeartbeats 1000000 in
theorem C9_isOnOne  (G : Nat → Nat → Int32) (L : Nat → Nat → Int64) (q : Nat) (th : Nat → Bool) (rs : Nat → Nat → Nat) (hS : spc G q th rs) (b : Nat) (hb : b < 256) (hth : ∀ r, r < 8 → btd b r = true → th r = true) (pt : Nat) (hpt : pt < 2147483648) : fv_M Y9_isOnOne 3 0 0 [.ref 31, .int (nI pt), .int (nI b)] (fw cT G L) none (fv_eq (some (.int (bI (ono rs q pt b 8 0)))) (fw cT G L)) := by
  refine fv_enter rfl (Nat.le_of_ble_eq_true rfl) ?_
  obtain ⟨Q, hQ⟩ : ∃ Q : Option Value → fv_F → Option Nat → Prop, Q = (fv_eq (some (.int (bI (ono rs q pt b 8 0)))) (fw cT G L)) := ⟨_, rfl⟩
  rw [← hQ]
  show fv_At Y9_isOnOne 3 0 0 Q 0 [(0, .ref 31), (1, .int (nI pt)), (2, .int (nI b))] [] (fw cT G L) none 0 0
  refine fx_iconst (v := (nI 0)) dX9_isOnOne_0 (by decide) ?_
  refine fx_istore_n (lv2 := [(0, .ref 31), (1, .int (nI pt)), (2, .int (nI b)), (3, .int (nI 0))]) dX9_isOnOne_1 (i := 3) rfl (by decide) rfl ?_
  have L2 : ∀ (k : Nat) (r : Nat), (r + k = 8) → (ono rs q pt b k r = ono rs q pt b 8 0) → fv_At Y9_isOnOne 3 0 0 Q 2 [(0, .ref 31), (1, .int (nI pt)), (2, .int (nI b)), (3, .int (nI r))] [] (fw cT G L) none 0 0 := by
    intro k
    induction k with
    | zero =>
      intro r hr hR
      refine fx_iload_n dX9_isOnOne_2 rfl (i := 3) rfl ?_
      refine fx_bipush (v := (nI 8)) dX9_isOnOne_3 (by decide) ?_
      refine fn_icmp_ge (tgt := 41) dX9_isOnOne_5 (by decide) (by omega) (by omega) (fun c5 => ?_) (fun c5 => ?_)
      · skip
        refine fx_iconst (v := (nI 0)) dX9_isOnOne_41 (by decide) ?_
        refine fn_to (show _ = (bI false) from rfl) ?_
        exact fx_zret dX9_isOnOne_42 rfl (bI_01 _) rfl rfl (by rw [hQ]; exact ⟨by rw [← hR]; rfl, rfl, rfl⟩)
      · exfalso; omega
    | succ k ih2 =>
      intro r hr hR
      refine fx_iload_n dX9_isOnOne_2 rfl (i := 3) rfl ?_
      refine fx_bipush (v := (nI 8)) dX9_isOnOne_3 (by decide) ?_
      refine fn_icmp_ge (tgt := 41) dX9_isOnOne_5 (by decide) (by omega) (by omega) (fun c5 => ?_) (fun c5 => ?_)
      · exfalso; omega
      · skip
        refine fx_iload_n dX9_isOnOne_8 rfl (i := 2) rfl ?_
        refine fx_iload_n dX9_isOnOne_9 rfl (i := 3) rfl ?_
        refine fn_cS dX9_isOnOne_10 lk9_65 (C9_isTold (b := b) (r := r) (by omega) (by omega) (f := (fw cT G L))) rfl rfl (by decide) (Nat.le_of_ble_eq_true rfl) ?_
        show fv_At Y9_isOnOne 3 0 0 Q 13 [(0, .ref 31), (1, .int (nI pt)), (2, .int (nI b)), (3, .int (nI r))] [.int (bI (btd b r))] (fw cT G L) none 0 0
        refine fn_if_eqB (tgt := 35) dX9_isOnOne_13 (by decide) (fun c13 => ?_) (fun c13 => ?_)
        · skip
          refine fn_iinc (c := 1) (lv2 := [(0, .ref 31), (1, .int (nI pt)), (2, .int (nI b)), (3, .int (nI (r + 1)))]) dX9_isOnOne_35 (by decide) rfl (by decide) rfl ?_
          refine fx_goto (tgt := 2) dX9_isOnOne_38 (by decide) ?_
          exact (ih2 (r + 1) (by omega) (by rw [← hR, ono, if_neg (by simp_all)]))
        · skip
          refine fx_aload_n dX9_isOnOne_16 rfl (i := 0) rfl ?_
          refine fw_getr dX9_isOnOne_17 fd9_13 rfl rfl ?_
          refine fx_iload_n dX9_isOnOne_20 rfl (i := 3) rfl ?_
          refine fw_aald (r := 35 + 2 * r) r dX9_isOnOne_21 rfl (by decide) rfl (by omega) (by decide) (rods_at (by omega)) ?_
          refine fx_iload_n dX9_isOnOne_22 rfl (i := 1) rfl ?_
          refine fx_aload_n dX9_isOnOne_23 rfl (i := 0) rfl ?_
          refine fw_geti dX9_isOnOne_24 fd9_22 rfl rfl ?_
          refine fn_to (show _ = (nI q) from hS.1) ?_
          refine fn_cV dX9_isOnOne_27 lk9_82 fv_c3 rfl (fw_at (rod_lay (by omega))) (C5_holds cT (35 + 2 * r) (rod_lay (by omega)) (rod_lay1 (by omega)) G L (rs r) (fun j hj => (hS.2.2.2 r (by omega) (hth r (by omega) (by assumption)) j hj).1) (fun j hj => (hS.2.2.2 r (by omega) (hth r (by omega) (by assumption)) j hj).2) pt q (by omega) (spc_q hS).1 (by have := spc_q hS; omega)) rfl rfl (by decide) (Nat.le_of_ble_eq_true rfl) ?_
          show fv_At Y9_isOnOne 3 0 0 Q 30 [(0, .ref 31), (1, .int (nI pt)), (2, .int (nI b)), (3, .int (nI r))] [.int (bI (hld (rs r) q pt))] (fw cT G L) none 0 0
          refine fn_if_eqB (tgt := 35) dX9_isOnOne_30 (by decide) (fun c30 => ?_) (fun c30 => ?_)
          · skip
            refine fn_iinc (c := 1) (lv2 := [(0, .ref 31), (1, .int (nI pt)), (2, .int (nI b)), (3, .int (nI (r + 1)))]) dX9_isOnOne_35 (by decide) rfl (by decide) rfl ?_
            refine fx_goto (tgt := 2) dX9_isOnOne_38 (by decide) ?_
            exact (ih2 (r + 1) (by omega) (by rw [← hR, ono, if_neg (by simp_all)]))
          · skip
            refine fx_iconst (v := (nI 1)) dX9_isOnOne_33 (by decide) ?_
            refine fn_to (show _ = (bI true) from rfl) ?_
            exact fx_zret dX9_isOnOne_34 rfl (bI_01 _) rfl rfl (by rw [hQ]; exact ⟨by rw [← hR, ono, if_pos (by simp_all)], rfl, rfl⟩)
  exact (L2 8 0 (by omega) rfl)

set_option maxRecDepth 4000 in
set_option maxHeartbeats 1000000 in
theorem C9_crossesAll  (G : Nat → Nat → Int32) (L : Nat → Nat → Int64) (q : Nat) (th : Nat → Bool) (rs : Nat → Nat → Nat) (hS : spc G q th rs) (b : Nat) (hb : b < 256) (hth : ∀ r, r < 8 → btd b r = true → th r = true) (rp : Nat → Nat) (hrp : ∀ j, j < 6 → G (33 + 1) j = nI (rp j)) (hrb : ∀ j, j < 6 → rp j < 5) : fv_M Y9_crossesAll 3 0 0 [.ref 31, .int (nI b)] (fw cT G L) none (fv_eq (some (.int (bI (cal rs q rp b 8 0)))) (fw cT G L)) := by
  refine fv_enter rfl (Nat.le_of_ble_eq_true rfl) ?_
  obtain ⟨Q, hQ⟩ : ∃ Q : Option Value → fv_F → Option Nat → Prop, Q = (fv_eq (some (.int (bI (cal rs q rp b 8 0)))) (fw cT G L)) := ⟨_, rfl⟩
  rw [← hQ]
  show fv_At Y9_crossesAll 3 0 0 Q 0 [(0, .ref 31), (1, .int (nI b))] [] (fw cT G L) none 0 0
  refine fx_iconst (v := (nI 0)) dX9_crossesAll_0 (by decide) ?_
  refine fx_istore_n (lv2 := [(0, .ref 31), (1, .int (nI b)), (2, .int (nI 0))]) dX9_crossesAll_1 (i := 2) rfl (by decide) rfl ?_
  have L2 : ∀ (k : Nat) (r : Nat), (r + k = 8) → (cal rs q rp b k r = cal rs q rp b 8 0) → fv_At Y9_crossesAll 3 0 0 Q 2 [(0, .ref 31), (1, .int (nI b)), (2, .int (nI r))] [] (fw cT G L) none 0 0 := by
    intro k
    induction k with
    | zero =>
      intro r hr hR
      refine fx_iload_n dX9_crossesAll_2 rfl (i := 2) rfl ?_
      refine fx_bipush (v := (nI 8)) dX9_crossesAll_3 (by decide) ?_
      refine fn_icmp_ge (tgt := 44) dX9_crossesAll_5 (by decide) (by omega) (by omega) (fun c5 => ?_) (fun c5 => ?_)
      · skip
        refine fx_iconst (v := (nI 1)) dX9_crossesAll_44 (by decide) ?_
        refine fn_to (show _ = (bI true) from rfl) ?_
        exact fx_zret dX9_crossesAll_45 rfl (bI_01 _) rfl rfl (by rw [hQ]; exact ⟨by rw [← hR]; rfl, rfl, rfl⟩)
      · exfalso; omega
    | succ k ih2 =>
      intro r hr hR
      refine fx_iload_n dX9_crossesAll_2 rfl (i := 2) rfl ?_
      refine fx_bipush (v := (nI 8)) dX9_crossesAll_3 (by decide) ?_
      refine fn_icmp_ge (tgt := 44) dX9_crossesAll_5 (by decide) (by omega) (by omega) (fun c5 => ?_) (fun c5 => ?_)
      · exfalso; omega
      · skip
        refine fx_iload_n dX9_crossesAll_8 rfl (i := 1) rfl ?_
        refine fx_iload_n dX9_crossesAll_9 rfl (i := 2) rfl ?_
        refine fn_cS dX9_crossesAll_10 lk9_65 (C9_isTold (b := b) (r := r) (by omega) (by omega) (f := (fw cT G L))) rfl rfl (by decide) (Nat.le_of_ble_eq_true rfl) ?_
        show fv_At Y9_crossesAll 3 0 0 Q 13 [(0, .ref 31), (1, .int (nI b)), (2, .int (nI r))] [.int (bI (btd b r))] (fw cT G L) none 0 0
        refine fn_if_eqB (tgt := 38) dX9_crossesAll_13 (by decide) (fun c13 => ?_) (fun c13 => ?_)
        · skip
          refine fn_iinc (c := 1) (lv2 := [(0, .ref 31), (1, .int (nI b)), (2, .int (nI (r + 1)))]) dX9_crossesAll_38 (by decide) rfl (by decide) rfl ?_
          refine fx_goto (tgt := 2) dX9_crossesAll_41 (by decide) ?_
          exact (ih2 (r + 1) (by omega) (by rw [← hR, cal, if_neg (by simp_all)]))
        · skip
          refine fx_aload_n dX9_crossesAll_16 rfl (i := 0) rfl ?_
          refine fw_getr dX9_crossesAll_17 fd9_18 rfl rfl ?_
          refine fx_aload_n dX9_crossesAll_20 rfl (i := 0) rfl ?_
          refine fw_getr dX9_crossesAll_21 fd9_13 rfl rfl ?_
          refine fx_iload_n dX9_crossesAll_24 rfl (i := 2) rfl ?_
          refine fw_aald (r := 35 + 2 * r) r dX9_crossesAll_25 rfl (by decide) rfl (by omega) (by decide) (rods_at (by omega)) ?_
          refine fx_aload_n dX9_crossesAll_26 rfl (i := 0) rfl ?_
          refine fw_geti dX9_crossesAll_27 fd9_22 rfl rfl ?_
          refine fn_to (show _ = (nI q) from hS.1) ?_
          refine fn_cV dX9_crossesAll_30 lk9_61 fv_c3 rfl (fw_at (show cT 33 = some (3, 3, 2, [some 34, none]) from rfl)) (C5_crosses cT 33 rfl rfl (35 + 2 * r) (rod_lay (by omega)) (rod_lay1 (by omega)) G L rp hrp (rs r) (fun j hj => (hS.2.2.2 r (by omega) (hth r (by omega) (by assumption)) j hj).1) hrb (fun j hj => (hS.2.2.2 r (by omega) (hth r (by omega) (by assumption)) j hj).2) q (spc_q hS).1 (by have := spc_q hS; omega)) rfl rfl (by decide) (Nat.le_of_ble_eq_true rfl) ?_
          show fv_At Y9_crossesAll 3 0 0 Q 33 [(0, .ref 31), (1, .int (nI b)), (2, .int (nI r))] [.int (bI (crx rp (rs r) q))] (fw cT G L) none 0 0
          refine fn_if_neB (tgt := 38) dX9_crossesAll_33 (by decide) (fun c33 => ?_) (fun c33 => ?_)
          · skip
            refine fn_iinc (c := 1) (lv2 := [(0, .ref 31), (1, .int (nI b)), (2, .int (nI (r + 1)))]) dX9_crossesAll_38 (by decide) rfl (by decide) rfl ?_
            refine fx_goto (tgt := 2) dX9_crossesAll_41 (by decide) ?_
            exact (ih2 (r + 1) (by omega) (by rw [← hR, cal, if_neg (by simp_all)]))
          · skip
            refine fx_iconst (v := (nI 0)) dX9_crossesAll_36 (by decide) ?_
            refine fn_to (show _ = (bI false) from rfl) ?_
            exact fx_zret dX9_crossesAll_37 rfl (bI_01 _) rfl rfl (by rw [hQ]; exact ⟨by rw [← hR, cal, if_pos (by simp_all)], rfl, rfl⟩)
  exact (L2 8 0 (by omega) rfl)
