
theorem nI_shr : ∀ {f s : Nat}, f < 31 → s < 2147483648 → nI s >>> (nI f &&& 31) = nI (s / 2 ^ f) := by
  intro f s hf hs
  have h1 : ∀ f, f < 31 → nI f &&& 31 = nI f := by decide +kernel
  have h2 : ∀ f, f < 31 → ((nI f).toBitVec.smod 32).toNat = f := by decide +kernel
  rw [h1 f hf]
  exact pk_shrN hs (nI f) f (h2 f hf)
def isSh (k m : Int) : Bool := decide (1 ≤ k ∧ k ≤ 4 ∧ 1 ≤ m ∧ m ≤ 4)
/-- figures none above the one ahead -/
def bxl (h : Nat → Nat) : Nat → Nat → Nat → Bool
  | 0, _, _ => true
  | k + 1, p, a => if a < h p then false else bxl h k (p + 1) (h p)
def isBx (k m b : Int) : Bool := isSh k m && (decide (0 ≤ b ∧ b < 10 ^ k.toNat) && bxl (dgt b.toNat k.toNat) k.toNat 0 m.toNat)
theorem isBx_0 {k m b : Int} (h : isSh k m = false) : isBx k m b = false := by unfold isBx; rw [h]; rfl
theorem isBx_1 {k m b : Int} (h : ¬ (0 ≤ b ∧ b < 10 ^ k.toNat)) : isBx k m b = false := by unfold isBx; rw [decide_eq_false h, Bool.false_and, Bool.and_false]
theorem isBx_2 {k m b : Int} (h : isSh k m = true) (h2 : 0 ≤ b ∧ b < 10 ^ k.toNat) : isBx k m b = bxl (dgt b.toNat k.toNat) k.toNat 0 m.toNat := by unfold isBx; rw [h, decide_eq_true h2]; rfl
theorem isSh_1 {k m : Int} (h : isSh k m = true) : 1 ≤ k ∧ k ≤ 4 ∧ 1 ≤ m ∧ m ≤ 4 := of_decide_eq_true h

set_option maxRecDepth 4000 in
set_option maxHeartbeats 1000000 in
theorem C1_isShape (k m : Int) (k1 : -2147483648 ≤ k) (k2 : k < 2147483648) (m1 : -2147483648 ≤ m) (m2 : m < 2147483648) (f : fv_F) : fv_M Y1_isShape 0 0 0 [.int (iI k), .int (iI m)] f none (fv_eq (some (.int (bI (isSh k m)))) f) := by
  refine fv_enter rfl (Nat.le_of_ble_eq_true rfl) ?_
  obtain ⟨Q, hQ⟩ : ∃ Q : Option Value → fv_F → Option Nat → Prop, Q = (fv_eq (some (.int (bI (isSh k m)))) f) := ⟨_, rfl⟩
  rw [← hQ]
  show fv_At Y1_isShape 0 0 0 Q 0 [(0, .int (iI k)), (1, .int (iI m))] [] f none 0 0
  refine fx_iload_n dX1_isShape_0 rfl (i := 0) rfl ?_
  refine fx_iconst (v := (nI 1)) dX1_isShape_1 (by decide) ?_
  refine fn_icmp_ltZ (a := k) (b := ((1 : Nat) : Int)) (tgt := 24) dX1_isShape_2 (by decide) (by omega) (by omega) (by omega) (by omega) (fun c2 => ?_) (fun c2 => ?_)
  · skip
    refine fx_iconst (v := (nI 0)) dX1_isShape_24 (by decide) ?_
    refine fn_to (show _ = (bI false) from rfl) ?_
    exact fx_zret dX1_isShape_25 rfl (bI_01 _) rfl rfl (by rw [hQ]; exact ⟨by unfold isSh; first | rw [decide_eq_true (by omega)] | rw [decide_eq_false (by omega)], rfl, rfl⟩)
  · skip
    refine fx_iload_n dX1_isShape_5 rfl (i := 0) rfl ?_
    refine fx_iconst (v := (nI 4)) dX1_isShape_6 (by decide) ?_
    refine fn_icmp_gtZ (a := k) (b := ((4 : Nat) : Int)) (tgt := 24) dX1_isShape_7 (by decide) (by omega) (by omega) (by omega) (by omega) (fun c7 => ?_) (fun c7 => ?_)
    · skip
      refine fx_iconst (v := (nI 0)) dX1_isShape_24 (by decide) ?_
      refine fn_to (show _ = (bI false) from rfl) ?_
      exact fx_zret dX1_isShape_25 rfl (bI_01 _) rfl rfl (by rw [hQ]; exact ⟨by unfold isSh; first | rw [decide_eq_true (by omega)] | rw [decide_eq_false (by omega)], rfl, rfl⟩)
    · skip
      refine fx_iload_n dX1_isShape_10 rfl (i := 1) rfl ?_
      refine fx_iconst (v := (nI 1)) dX1_isShape_11 (by decide) ?_
      refine fn_icmp_ltZ (a := m) (b := ((1 : Nat) : Int)) (tgt := 24) dX1_isShape_12 (by decide) (by omega) (by omega) (by omega) (by omega) (fun c12 => ?_) (fun c12 => ?_)
      · skip
        refine fx_iconst (v := (nI 0)) dX1_isShape_24 (by decide) ?_
        refine fn_to (show _ = (bI false) from rfl) ?_
        exact fx_zret dX1_isShape_25 rfl (bI_01 _) rfl rfl (by rw [hQ]; exact ⟨by unfold isSh; first | rw [decide_eq_true (by omega)] | rw [decide_eq_false (by omega)], rfl, rfl⟩)
      · skip
        refine fx_iload_n dX1_isShape_15 rfl (i := 1) rfl ?_
        refine fx_iconst (v := (nI 4)) dX1_isShape_16 (by decide) ?_
        refine fn_icmp_gtZ (a := m) (b := ((4 : Nat) : Int)) (tgt := 24) dX1_isShape_17 (by decide) (by omega) (by omega) (by omega) (by omega) (fun c17 => ?_) (fun c17 => ?_)
        · skip
          refine fx_iconst (v := (nI 0)) dX1_isShape_24 (by decide) ?_
          refine fn_to (show _ = (bI false) from rfl) ?_
          exact fx_zret dX1_isShape_25 rfl (bI_01 _) rfl rfl (by rw [hQ]; exact ⟨by unfold isSh; first | rw [decide_eq_true (by omega)] | rw [decide_eq_false (by omega)], rfl, rfl⟩)
        · skip
          refine fx_iconst (v := (nI 1)) dX1_isShape_20 (by decide) ?_
          refine fn_to (show _ = (bI true) from rfl) ?_
          refine fx_goto (tgt := 25) dX1_isShape_21 (by decide) ?_
          exact fx_zret dX1_isShape_25 rfl (bI_01 _) rfl rfl (by rw [hQ]; exact ⟨by unfold isSh; first | rw [decide_eq_true (by omega)] | rw [decide_eq_false (by omega)], rfl, rfl⟩)

set_option maxRecDepth 4000 in
set_option maxHeartbeats 1000000 in
theorem C1_figure (k a p : Nat) (ha : a < 2147483648) (hk : k < 2147483648) (hp : p < k) (f : fv_F) : fv_M Y1_figure 1 0 0 [.int (nI k), .int (nI a), .int (nI (p + 1))] f none (fv_eq (some (.int (nI (dgt a k p)))) f) := by
  refine fv_enter rfl (Nat.le_of_ble_eq_true rfl) ?_
  obtain ⟨Q, hQ⟩ : ∃ Q : Option Value → fv_F → Option Nat → Prop, Q = (fv_eq (some (.int (nI (dgt a k p)))) f) := ⟨_, rfl⟩
  rw [← hQ]
  show fv_At Y1_figure 1 0 0 Q 0 [(0, .int (nI k)), (1, .int (nI a)), (2, .int (nI (p + 1)))] [] f none 0 0
  refine fx_iload_n dX1_figure_0 rfl (i := 1) rfl ?_
  refine fx_iload_n dX1_figure_1 rfl (i := 0) rfl ?_
  refine fx_iload_n dX1_figure_2 rfl (i := 2) rfl ?_
  refine fn_isub dX1_figure_3 (by omega) ?_
  refine fn_cS dX1_figure_4 lk1_25 (C3_at (a := a) (k := k - (p + 1)) (by omega) (by omega) (f := f)) rfl rfl (by decide) (Nat.le_of_ble_eq_true rfl) ?_
  show fv_At Y1_figure 1 0 0 Q 7 [(0, .int (nI k)), (1, .int (nI a)), (2, .int (nI (p + 1)))] [.int (nI (fat a (k - (p + 1))))] f none 0 0
  exact fx_iret dX1_figure_7 rfl rfl rfl (by rw [hQ]; exact ⟨by rw [fat_dgt], rfl, rfl⟩)

set_option maxRecDepth 4000 in
set_option maxHeartbeats 1000000 in
theorem C1_isBox (k m b : Int) (k1 : -2147483648 ≤ k) (k2 : k < 2147483648) (m1 : -2147483648 ≤ m) (m2 : m < 2147483648) (b1 : -2147483648 ≤ b) (b2 : b < 2147483648) (f : fv_F) : fv_M Y1_isBox 2 0 0 [.int (iI k), .int (iI m), .int (iI b)] f none (fv_eq (some (.int (bI (isBx k m b)))) f) := by
  refine fv_enter rfl (Nat.le_of_ble_eq_true rfl) ?_
  obtain ⟨Q, hQ⟩ : ∃ Q : Option Value → fv_F → Option Nat → Prop, Q = (fv_eq (some (.int (bI (isBx k m b)))) f) := ⟨_, rfl⟩
  rw [← hQ]
  show fv_At Y1_isBox 2 0 0 Q 0 [(0, .int (iI k)), (1, .int (iI m)), (2, .int (iI b))] [] f none 0 0
  refine fx_iload_n dX1_isBox_0 rfl (i := 0) rfl ?_
  refine fx_iload_n dX1_isBox_1 rfl (i := 1) rfl ?_
  refine fn_cS dX1_isBox_2 lk1_9 (C1_isShape (k := k) (m := m) (by omega) (by omega) (by omega) (by omega) (f := f)) rfl rfl (by decide) (Nat.le_of_ble_eq_true rfl) ?_
  show fv_At Y1_isBox 2 0 0 Q 5 [(0, .int (iI k)), (1, .int (iI m)), (2, .int (iI b))] [.int (bI (isSh k m))] f none 0 0
  refine fn_if_eqB (tgt := 22) dX1_isBox_5 (by decide) (fun c5 => ?_) (fun c5 => ?_)
  · skip
    refine fx_iconst (v := (nI 0)) dX1_isBox_22 (by decide) ?_
    refine fn_to (show _ = (bI false) from rfl) ?_
    exact fx_zret dX1_isBox_23 rfl (bI_01 _) rfl rfl (by rw [hQ]; exact ⟨by first | rw [isBx_0 c5] | rw [isBx_1 (fun h => absurd h.1 (Int.not_le.mpr c9))] | rw [isBx_1 (fun h => absurd (show bn < 10 ^ kn by exact_mod_cast h.2) (Nat.not_lt.mpr c19))], rfl, rfl⟩)
  · skip
    have hsh := isSh_1 c5
    obtain ⟨kn, rfl⟩ : ∃ w : Nat, k = (w : Int) := ⟨k.toNat, by omega⟩
    obtain ⟨mn, rfl⟩ : ∃ w : Nat, m = (w : Int) := ⟨m.toNat, by omega⟩
    show fv_At Y1_isBox 2 0 0 Q 8 [(0, .int (nI kn)), (1, .int (nI mn)), (2, .int (iI b))] [] f none 0 0
    refine fx_iload_n dX1_isBox_8 rfl (i := 2) rfl ?_
    refine fn_if_ltZ (tgt := 22) dX1_isBox_9 (by decide) (by omega) (by omega) (fun c9 => ?_) (fun c9 => ?_)
    · skip
      refine fx_iconst (v := (nI 0)) dX1_isBox_22 (by decide) ?_
      refine fn_to (show _ = (bI false) from rfl) ?_
      exact fx_zret dX1_isBox_23 rfl (bI_01 _) rfl rfl (by rw [hQ]; exact ⟨by first | rw [isBx_0 c5] | rw [isBx_1 (fun h => absurd h.1 (Int.not_le.mpr c9))] | rw [isBx_1 (fun h => absurd (show bn < 10 ^ kn by exact_mod_cast h.2) (Nat.not_lt.mpr c19))], rfl, rfl⟩)
    · skip
      obtain ⟨bn, rfl⟩ : ∃ w : Nat, b = (w : Int) := ⟨b.toNat, by omega⟩
      have hpw : 10 ^ kn ≤ 10 ^ 4 := Nat.pow_le_pow_right (by decide) (by omega)
      show fv_At Y1_isBox 2 0 0 Q 12 [(0, .int (nI kn)), (1, .int (nI mn)), (2, .int (nI bn))] [] f none 0 0
      refine fx_iload_n dX1_isBox_12 rfl (i := 2) rfl ?_
      refine fx_bipush (v := (nI 10)) dX1_isBox_13 (by decide) ?_
      refine fx_iload_n dX1_isBox_15 rfl (i := 0) rfl ?_
      refine fn_cS dX1_isBox_16 lk1_15 (C3_power (b := 10) (k := kn) (by omega) (f := f)) rfl rfl (by decide) (Nat.le_of_ble_eq_true rfl) ?_
      show fv_At Y1_isBox 2 0 0 Q 19 [(0, .int (nI kn)), (1, .int (nI mn)), (2, .int (nI bn))] [.int (nI (10 ^ kn)), .int (nI bn)] f none 0 0
      refine fn_icmp_lt (tgt := 24) dX1_isBox_19 (by decide) (by omega) (by omega) (fun c19 => ?_) (fun c19 => ?_)
      · skip
        have hbx := isBx_2 c5 (b := (bn : Int)) ⟨by omega, by show (bn : Int) < 10 ^ kn; exact_mod_cast c19⟩
        refine fx_iload_n dX1_isBox_24 rfl (i := 1) rfl ?_
        refine fx_istore_n (lv2 := [(0, .int (nI kn)), (1, .int (nI mn)), (2, .int (nI bn)), (3, .int (nI mn))]) dX1_isBox_25 (i := 3) rfl (by decide) rfl ?_
        refine fx_iconst (v := (nI 1)) dX1_isBox_26 (by decide) ?_
        refine fx_istore (lv2 := [(0, .int (nI kn)), (1, .int (nI mn)), (2, .int (nI bn)), (3, .int (nI mn)), (4, .int (nI 1))]) dX1_isBox_27 (by decide) rfl ?_
        have L29 : ∀ (j : Nat) (a : Nat) (p : Nat), (p + j = kn) → (a < 10) → (bxl (dgt bn kn) j p a = isBx kn mn bn) → fv_At Y1_isBox 2 0 0 Q 29 [(0, .int (nI kn)), (1, .int (nI mn)), (2, .int (nI bn)), (3, .int (nI a)), (4, .int (nI (p + 1)))] [] f none 0 0 := by
          intro j
          induction j with
          | zero =>
            intro a p hp ha hR
            refine fx_iload dX1_isBox_29 rfl ?_
            refine fx_iload_n dX1_isBox_31 rfl (i := 0) rfl ?_
            refine fn_icmp_gt (tgt := 61) dX1_isBox_32 (by decide) (by omega) (by omega) (fun c32 => ?_) (fun c32 => ?_)
            · skip
              refine fx_iconst (v := (nI 1)) dX1_isBox_61 (by decide) ?_
              refine fn_to (show _ = (bI true) from rfl) ?_
              exact fx_zret dX1_isBox_62 rfl (bI_01 _) rfl rfl (by rw [hQ]; exact ⟨by rw [← hR]; rfl, rfl, rfl⟩)
            · exfalso; omega
          | succ j ih29 =>
            intro a p hp ha hR
            refine fx_iload dX1_isBox_29 rfl ?_
            refine fx_iload_n dX1_isBox_31 rfl (i := 0) rfl ?_
            refine fn_icmp_gt (tgt := 61) dX1_isBox_32 (by decide) (by omega) (by omega) (fun c32 => ?_) (fun c32 => ?_)
            · exfalso; omega
            · skip
              refine fx_iload_n dX1_isBox_35 rfl (i := 0) rfl ?_
              refine fx_iload_n dX1_isBox_36 rfl (i := 2) rfl ?_
              refine fx_iload dX1_isBox_37 rfl ?_
              refine fn_cS dX1_isBox_39 lk1_21 (C1_figure (a := bn) (k := kn) (p := p) (by omega) (by omega) (by omega) (f := f)) rfl rfl (by decide) (Nat.le_of_ble_eq_true rfl) ?_
              show fv_At Y1_isBox 2 0 0 Q 42 [(0, .int (nI kn)), (1, .int (nI mn)), (2, .int (nI bn)), (3, .int (nI a)), (4, .int (nI (p + 1)))] [.int (nI (dgt bn kn p))] f none 0 0
              refine fx_istore (lv2 := [(0, .int (nI kn)), (1, .int (nI mn)), (2, .int (nI bn)), (3, .int (nI a)), (4, .int (nI (p + 1))), (5, .int (nI (dgt bn kn p)))]) dX1_isBox_42 (by decide) rfl ?_
              refine fx_iload dX1_isBox_44 rfl ?_
              refine fx_iload_n dX1_isBox_46 rfl (i := 3) rfl ?_
              refine fn_icmp_le (tgt := 52) dX1_isBox_47 (by decide) (Nat.lt_trans (dgt_lt _ _ _) (by decide)) (by omega) (fun c47 => ?_) (fun c47 => ?_)
              · skip
                refine fx_iload dX1_isBox_52 rfl ?_
                refine fx_istore_n (lv2 := [(0, .int (nI kn)), (1, .int (nI mn)), (2, .int (nI bn)), (3, .int (nI (dgt bn kn p))), (4, .int (nI (p + 1))), (5, .int (nI (dgt bn kn p)))]) dX1_isBox_54 (i := 3) rfl (by decide) rfl ?_
                refine fn_iinc (c := 1) (lv2 := [(0, .int (nI kn)), (1, .int (nI mn)), (2, .int (nI bn)), (3, .int (nI (dgt bn kn p))), (4, .int (nI (p + 1 + 1))), (5, .int (nI (dgt bn kn p)))]) dX1_isBox_55 (by decide) rfl (by decide) rfl ?_
                refine fx_goto (tgt := 29) dX1_isBox_58 (by decide) ?_
                exact fn_sub [0, 1, 2, 3, 4] rfl (ih29 (dgt bn kn p) (p + 1) (by omega) (dgt_lt _ _ _) (by rw [← hR, bxl, if_neg (by omega)]))
              · skip
                refine fx_iconst (v := (nI 0)) dX1_isBox_50 (by decide) ?_
                refine fn_to (show _ = (bI false) from rfl) ?_
                exact fx_zret dX1_isBox_51 rfl (bI_01 _) rfl rfl (by rw [hQ]; exact ⟨by rw [← hR, bxl, if_pos (by omega)], rfl, rfl⟩)
        exact (L29 kn mn 0 (by omega) (by omega) hbx.symm)
      · skip
        refine fx_iconst (v := (nI 0)) dX1_isBox_22 (by decide) ?_
        refine fn_to (show _ = (bI false) from rfl) ?_
        exact fx_zret dX1_isBox_23 rfl (bI_01 _) rfl rfl (by rw [hQ]; exact ⟨by first | rw [isBx_0 c5] | rw [isBx_1 (fun h => absurd h.1 (Int.not_le.mpr c9))] | rw [isBx_1 (fun h => absurd (show bn < 10 ^ kn by exact_mod_cast h.2) (Nat.not_lt.mpr c19))], rfl, rfl⟩)

/-- the size -/
def plc (h : Nat → Nat) : Nat → Nat → Nat → Nat
  | 0, _, c => c
  | k + 1, p, c => plc h k (p + 1) (c + h p)

set_option maxRecDepth 4000 in
set_option maxHeartbeats 1000000 in
theorem C1_places (k a : Nat) (ha : a < 2147483648) (hk : k < 100) (f : fv_F) : fv_M Y1_places 2 0 0 [.int (nI k), .int (nI a)] f none (fv_eq (some (.int (nI (plc (dgt a k) k 0 0)))) f) := by
  refine fv_enter rfl (Nat.le_of_ble_eq_true rfl) ?_
  obtain ⟨Q, hQ⟩ : ∃ Q : Option Value → fv_F → Option Nat → Prop, Q = (fv_eq (some (.int (nI (plc (dgt a k) k 0 0)))) f) := ⟨_, rfl⟩
  rw [← hQ]
  show fv_At Y1_places 2 0 0 Q 0 [(0, .int (nI k)), (1, .int (nI a))] [] f none 0 0
  refine fx_iconst (v := (nI 0)) dX1_places_0 (by decide) ?_
  refine fx_istore_n (lv2 := [(0, .int (nI k)), (1, .int (nI a)), (2, .int (nI 0))]) dX1_places_1 (i := 2) rfl (by decide) rfl ?_
  refine fx_iconst (v := (nI 1)) dX1_places_2 (by decide) ?_
  refine fx_istore_n (lv2 := [(0, .int (nI k)), (1, .int (nI a)), (2, .int (nI 0)), (3, .int (nI 1))]) dX1_places_3 (i := 3) rfl (by decide) rfl ?_
  have L4 : ∀ (j : Nat) (c : Nat) (p : Nat), (p + j = k) → (plc (dgt a k) j p c = plc (dgt a k) k 0 0) → fv_At Y1_places 2 0 0 Q 4 [(0, .int (nI k)), (1, .int (nI a)), (2, .int (nI c)), (3, .int (nI (p + 1)))] [] f none 0 0 := by
    intro j
    induction j with
    | zero =>
      intro c p hp hR
      refine fx_iload_n dX1_places_4 rfl (i := 3) rfl ?_
      refine fx_iload_n dX1_places_5 rfl (i := 0) rfl ?_
      refine fn_icmp_gt (tgt := 24) dX1_places_6 (by decide) (by omega) (by omega) (fun c6 => ?_) (fun c6 => ?_)
      · skip
        refine fx_iload_n dX1_places_24 rfl (i := 2) rfl ?_
        exact fx_iret dX1_places_25 rfl rfl rfl (by rw [hQ]; exact ⟨by rw [← hR]; rfl, rfl, rfl⟩)
      · exfalso; omega
    | succ j ih4 =>
      intro c p hp hR
      refine fx_iload_n dX1_places_4 rfl (i := 3) rfl ?_
      refine fx_iload_n dX1_places_5 rfl (i := 0) rfl ?_
      refine fn_icmp_gt (tgt := 24) dX1_places_6 (by decide) (by omega) (by omega) (fun c6 => ?_) (fun c6 => ?_)
      · exfalso; omega
      · skip
        refine fx_iload_n dX1_places_9 rfl (i := 2) rfl ?_
        refine fx_iload_n dX1_places_10 rfl (i := 0) rfl ?_
        refine fx_iload_n dX1_places_11 rfl (i := 1) rfl ?_
        refine fx_iload_n dX1_places_12 rfl (i := 3) rfl ?_
        refine fn_cS dX1_places_13 lk1_21 (C1_figure (a := a) (k := k) (p := p) (by omega) (by omega) (by omega) (f := f)) rfl rfl (by decide) (Nat.le_of_ble_eq_true rfl) ?_
        show fv_At Y1_places 2 0 0 Q 16 [(0, .int (nI k)), (1, .int (nI a)), (2, .int (nI c)), (3, .int (nI (p + 1)))] [.int (nI (dgt a k p)), .int (nI c)] f none 0 0
        refine fn_iadd dX1_places_16 ?_
        refine fx_istore_n (lv2 := [(0, .int (nI k)), (1, .int (nI a)), (2, .int (nI (c + (dgt a k p)))), (3, .int (nI (p + 1)))]) dX1_places_17 (i := 2) rfl (by decide) rfl ?_
        refine fn_iinc (c := 1) (lv2 := [(0, .int (nI k)), (1, .int (nI a)), (2, .int (nI (c + (dgt a k p)))), (3, .int (nI (p + 1 + 1)))]) dX1_places_18 (by decide) rfl (by decide) rfl ?_
        refine fx_goto (tgt := 4) dX1_places_21 (by decide) ?_
        exact (ih4 (c + (dgt a k p)) (p + 1) (by omega) hR)
  exact (L4 k 0 0 (by omega) rfl)

/-- how much a row can grow -/
def rmo (h : Nat → Nat) (m p : Nat) : Nat := (if p = 0 then m else h (p - 1)) - h p
/-- a box: figures up to m, none above the one ahead -/
def bxv (h : Nat → Nat) (k m : Nat) : Prop := ∀ p, p < k → h p ≤ (if p = 0 then m else h (p - 1))
theorem rmo_le {h : Nat → Nat} {k m : Nat} (hv : bxv h k m) : ∀ p, p < k → h p ≤ m ∧ rmo h m p ≤ m
  | 0, hp => by
    have := hv 0 hp
    rw [if_pos rfl] at this
    exact ⟨this, Nat.sub_le _ _⟩
  | p + 1, hp => by
    have h1 := hv (p + 1) hp
    have h2 := (rmo_le hv p (by omega)).1
    rw [if_neg (Nat.succ_ne_zero p), Nat.add_sub_cancel] at h1
    refine ⟨Nat.le_trans h1 h2, ?_⟩
    unfold rmo
    rw [if_neg (Nat.succ_ne_zero p), Nat.add_sub_cancel]
    omega
def stpS (g : Nat → Nat) (p : Nat) : Nat → Nat → Nat → Nat
  | 0, _, c => c
  | i + 1, e, c => stpS g p i (e + 1) (c + g (p - e))
/-- in how many ways the rows from r on grow by p -/
def stp (h : Nat → Nat) (m : Nat) : Nat → Nat → Nat → Nat
  | 0, _, p => if p = 0 then 1 else 0
  | j + 1, r, p => stpS (stp h m j (r + 1)) p (min (rmo h m r) p + 1) 0 0
theorem stpS_le {g : Nat → Nat} {p b : Nat} (hg : ∀ x, g x ≤ b) : ∀ i e c, stpS g p i e c ≤ c + i * b
  | 0, _, c => by show c ≤ c + 0 * b; omega
  | i + 1, e, c => by
    refine Nat.le_trans (stpS_le hg i (e + 1) _) ?_
    have := hg (p - e)
    rw [Nat.succ_mul]
    omega
theorem stp_le {h : Nat → Nat} {k m : Nat} (hv : bxv h k m) (hm : m ≤ 4) : ∀ j r p, r + j = k → stp h m j r p ≤ 5 ^ j
  | 0, _, p, _ => by unfold stp; split <;> decide
  | j + 1, r, p, hr => by
    refine Nat.le_trans (stpS_le (fun x => stp_le hv hm j (r + 1) x (by omega)) _ _ _) ?_
    have h1 := (rmo_le hv r (by omega)).2
    rw [Nat.pow_succ, Nat.zero_add, Nat.mul_comm (5 ^ j)]
    exact Nat.mul_le_mul_right _ (by omega)
theorem stp_b {h : Nat → Nat} {k m : Nat} (hv : bxv h k m) (hm : m ≤ 4) (hk : k ≤ 4) {j r : Nat} (p : Nat) (hr : r + j = k) : stp h m j r p ≤ 625 :=
  Nat.le_trans (stp_le hv hm j r p hr) (Nat.pow_le_pow_right (n := 5) (by decide) (show j ≤ 4 by omega))

set_option maxRecDepth 4000 in
set_option maxHeartbeats 1000000 in
theorem C1_room (k m a : Nat) (ha : a < 2147483648) (hk : k ≤ 4) (hm : m ≤ 4) (hv : bxv (dgt a k) k m) (p : Nat) (hp : p < k) (f : fv_F) : fv_M Y1_room 2 0 0 [.int (nI k), .int (nI m), .int (nI a), .int (nI (p + 1))] f none (fv_eq (some (.int (nI (rmo (dgt a k) m p)))) f) := by
  refine fv_enter rfl (Nat.le_of_ble_eq_true rfl) ?_
  obtain ⟨Q, hQ⟩ : ∃ Q : Option Value → fv_F → Option Nat → Prop, Q = (fv_eq (some (.int (nI (rmo (dgt a k) m p)))) f) := ⟨_, rfl⟩
  rw [← hQ]
  show fv_At Y1_room 2 0 0 Q 0 [(0, .int (nI k)), (1, .int (nI m)), (2, .int (nI a)), (3, .int (nI (p + 1)))] [] f none 0 0
  refine fx_iload_n dX1_room_0 rfl (i := 3) rfl ?_
  refine fx_iconst (v := (nI 1)) dX1_room_1 (by decide) ?_
  refine fn_icmp_ne (tgt := 9) dX1_room_2 (by decide) (by omega) (by omega) (fun c2 => ?_) (fun c2 => ?_)
  · skip
    refine fx_iload_n dX1_room_9 rfl (i := 0) rfl ?_
    refine fx_iload_n dX1_room_10 rfl (i := 2) rfl ?_
    refine fx_iload_n dX1_room_11 rfl (i := 3) rfl ?_
    refine fx_iconst (v := (nI 1)) dX1_room_12 (by decide) ?_
    refine fn_isub dX1_room_13 (by omega) ?_
    refine fn_to (show _ = (nI (p - 1 + 1)) from congrArg nI (by omega)) ?_
    refine fn_cS dX1_room_14 lk1_21 (C1_figure (a := a) (k := k) (p := p - 1) (by omega) (by omega) (by omega) (f := f)) rfl rfl (by decide) (Nat.le_of_ble_eq_true rfl) ?_
    show fv_At Y1_room 2 0 0 Q 17 [(0, .int (nI k)), (1, .int (nI m)), (2, .int (nI a)), (3, .int (nI (p + 1)))] [.int (nI (dgt a k (p - 1)))] f none 0 0
    refine fx_iload_n dX1_room_17 rfl (i := 0) rfl ?_
    refine fx_iload_n dX1_room_18 rfl (i := 2) rfl ?_
    refine fx_iload_n dX1_room_19 rfl (i := 3) rfl ?_
    refine fn_cS dX1_room_20 lk1_21 (C1_figure (a := a) (k := k) (p := p) (by omega) (by omega) (by omega) (f := f)) rfl rfl (by decide) (Nat.le_of_ble_eq_true rfl) ?_
    show fv_At Y1_room 2 0 0 Q 23 [(0, .int (nI k)), (1, .int (nI m)), (2, .int (nI a)), (3, .int (nI (p + 1)))] [.int (nI (dgt a k p)), .int (nI (dgt a k (p - 1)))] f none 0 0
    refine fn_isub dX1_room_23 (by have := hv p hp; split at this <;> omega) ?_
    exact fx_iret dX1_room_24 rfl rfl rfl (by rw [hQ]; exact ⟨by unfold rmo; first | rw [if_pos (by omega)] | rw [if_neg (by omega)], rfl, rfl⟩)
  · skip
    refine fx_iload_n dX1_room_5 rfl (i := 1) rfl ?_
    refine fx_goto (tgt := 17) dX1_room_6 (by decide) ?_
    refine fx_iload_n dX1_room_17 rfl (i := 0) rfl ?_
    refine fx_iload_n dX1_room_18 rfl (i := 2) rfl ?_
    refine fx_iload_n dX1_room_19 rfl (i := 3) rfl ?_
    refine fn_cS dX1_room_20 lk1_21 (C1_figure (a := a) (k := k) (p := p) (by omega) (by omega) (by omega) (f := f)) rfl rfl (by decide) (Nat.le_of_ble_eq_true rfl) ?_
    show fv_At Y1_room 2 0 0 Q 23 [(0, .int (nI k)), (1, .int (nI m)), (2, .int (nI a)), (3, .int (nI (p + 1)))] [.int (nI (dgt a k p)), .int (nI m)] f none 0 0
    refine fn_isub dX1_room_23 (by have := hv p hp; split at this <;> omega) ?_
    exact fx_iret dX1_room_24 rfl rfl rfl (by rw [hQ]; exact ⟨by unfold rmo; first | rw [if_pos (by omega)] | rw [if_neg (by omega)], rfl, rfl⟩)

set_option maxRecDepth 4000 in
set_option maxHeartbeats 1000000 in
theorem C1_strips_1 (k m a : Nat) (ha : a < 2147483648) (hk : k ≤ 4) (hm : m ≤ 4) (hv : bxv (dgt a k) k m) (j r p : Nat) (hr : r + j = k) (hp : p < 2147483648) (ih : ∀ (j2 r2 p2 : Nat) (f : fv_F), j2 < j → r2 + j2 = k → p2 < 2147483648 → fv_M Y1_strips (3 + j2) 0 0 [.int (nI k), .int (nI m), .int (nI a), .int (nI p2), .int (nI (r2 + 1))] f none (fv_eq (some (.int (nI (stp (dgt a k) m j2 r2 p2)))) f)) (f : fv_F) : fv_M Y1_strips (3 + j) 0 0 [.int (nI k), .int (nI m), .int (nI a), .int (nI p), .int (nI (r + 1))] f none (fv_eq (some (.int (nI (stp (dgt a k) m j r p)))) f) := by
  refine fv_enter rfl (Nat.le_of_ble_eq_true rfl) ?_
  obtain ⟨Q, hQ⟩ : ∃ Q : Option Value → fv_F → Option Nat → Prop, Q = (fv_eq (some (.int (nI (stp (dgt a k) m j r p)))) f) := ⟨_, rfl⟩
  rw [← hQ]
  show fv_At Y1_strips (3 + j) 0 0 Q 0 [(0, .int (nI k)), (1, .int (nI m)), (2, .int (nI a)), (3, .int (nI p)), (4, .int (nI (r + 1)))] [] f none 0 0
  refine fx_iload dX1_strips_0 rfl ?_
  refine fx_iload_n dX1_strips_2 rfl (i := 0) rfl ?_
  refine fn_icmp_le (tgt := 16) dX1_strips_3 (by decide) (by omega) (by omega) (fun c3 => ?_) (fun c3 => ?_)
  · skip
    refine fx_iconst (v := (nI 0)) dX1_strips_16 (by decide) ?_
    refine fx_istore (lv2 := [(0, .int (nI k)), (1, .int (nI m)), (2, .int (nI a)), (3, .int (nI p)), (4, .int (nI (r + 1))), (5, .int (nI 0))]) dX1_strips_17 (by decide) rfl ?_
    have hrm := (rmo_le hv r (by omega)).2
    refine fx_iload_n dX1_strips_19 rfl (i := 0) rfl ?_
    refine fx_iload_n dX1_strips_20 rfl (i := 1) rfl ?_
    refine fx_iload_n dX1_strips_21 rfl (i := 2) rfl ?_
    refine fx_iload dX1_strips_22 rfl ?_
    refine fn_cS dX1_strips_24 lk1_32 (C1_room (k := k) (m := m) (a := a) (p := r) ha hk hm hv (by omega) (f := f)) rfl rfl (by omega) (Nat.le_of_ble_eq_true rfl) ?_
    show fv_At Y1_strips (3 + j) 0 0 Q 27 [(0, .int (nI k)), (1, .int (nI m)), (2, .int (nI a)), (3, .int (nI p)), (4, .int (nI (r + 1))), (5, .int (nI 0))] [.int (nI (rmo (dgt a k) m r))] f none 0 0
    refine fx_iload_n dX1_strips_27 rfl (i := 3) rfl ?_
    refine fx_mmin dX1_strips_28 lk1_36 (by omega) (by omega) (by omega) (Nat.le_of_ble_eq_true rfl) ?_
    refine fx_istore (lv2 := [(0, .int (nI k)), (1, .int (nI m)), (2, .int (nI a)), (3, .int (nI p)), (4, .int (nI (r + 1))), (5, .int (nI 0)), (6, .int (nI (min (rmo (dgt a k) m r) p)))]) dX1_strips_31 (by decide) rfl ?_
    obtain ⟨q, hq⟩ : ∃ q, q = min (rmo (dgt a k) m r) p := ⟨_, rfl⟩
    have e0 : stp (dgt a k) m j r p = stpS (stp (dgt a k) m (k - (r + 1)) (r + 1)) p (q + 1) 0 0 := by rw [hq, show j = (k - (r + 1)) + 1 by omega]; rfl
    rw [← hq]
    show fv_At Y1_strips (3 + j) 0 0 Q 33 [(0, .int (nI k)), (1, .int (nI m)), (2, .int (nI a)), (3, .int (nI p)), (4, .int (nI (r + 1))), (5, .int (nI 0)), (6, .int (nI q))] [] f none 0 0
    refine fx_iconst (v := (nI 0)) dX1_strips_33 (by decide) ?_
    refine fx_istore (lv2 := [(0, .int (nI k)), (1, .int (nI m)), (2, .int (nI a)), (3, .int (nI p)), (4, .int (nI (r + 1))), (5, .int (nI 0)), (6, .int (nI q)), (7, .int (nI 0))]) dX1_strips_34 (by decide) rfl ?_
    have L36 : ∀ (i : Nat) (c : Nat) (e : Nat), (e + i = q + 1) → (stpS (stp (dgt a k) m (k - (r + 1)) (r + 1)) p i e c = stp (dgt a k) m j r p) → fv_At Y1_strips (3 + j) 0 0 Q 36 [(0, .int (nI k)), (1, .int (nI m)), (2, .int (nI a)), (3, .int (nI p)), (4, .int (nI (r + 1))), (5, .int (nI c)), (6, .int (nI q)), (7, .int (nI e))] [] f none 0 0 := by
      intro i
      induction i with
      | zero =>
        intro c e he hR
        refine fx_iload dX1_strips_36 rfl ?_
        refine fx_iload dX1_strips_38 rfl ?_
        refine fn_icmp_gt (tgt := 68) dX1_strips_40 (by decide) (by omega) (by omega) (fun c40 => ?_) (fun c40 => ?_)
        · skip
          refine fx_iload dX1_strips_68 rfl ?_
          exact fx_iret dX1_strips_70 rfl rfl rfl (by rw [hQ]; exact ⟨by rw [← hR]; rfl, rfl, rfl⟩)
        · exfalso; omega
      | succ i ih36 =>
        intro c e he hR
        refine fx_iload dX1_strips_36 rfl ?_
        refine fx_iload dX1_strips_38 rfl ?_
        refine fn_icmp_gt (tgt := 68) dX1_strips_40 (by decide) (by omega) (by omega) (fun c40 => ?_) (fun c40 => ?_)
        · exfalso; omega
        · skip
          refine fx_iload dX1_strips_43 rfl ?_
          refine fx_iload_n dX1_strips_45 rfl (i := 0) rfl ?_
          refine fx_iload_n dX1_strips_46 rfl (i := 1) rfl ?_
          refine fx_iload_n dX1_strips_47 rfl (i := 2) rfl ?_
          refine fx_iload_n dX1_strips_48 rfl (i := 3) rfl ?_
          refine fx_iload dX1_strips_49 rfl ?_
          refine fn_isub dX1_strips_51 (by omega) ?_
          refine fx_iload dX1_strips_52 rfl ?_
          refine fx_iconst (v := (nI 1)) dX1_strips_54 (by decide) ?_
          refine fn_iadd dX1_strips_55 ?_
          refine fn_cS dX1_strips_56 lk1_28 (ih (k - (r + 1)) (r + 1) (p - e) f (by omega) (by omega) (by omega)) rfl rfl (by omega) (Nat.le_of_ble_eq_true rfl) ?_
          show fv_At Y1_strips (3 + j) 0 0 Q 59 [(0, .int (nI k)), (1, .int (nI m)), (2, .int (nI a)), (3, .int (nI p)), (4, .int (nI (r + 1))), (5, .int (nI c)), (6, .int (nI q)), (7, .int (nI e))] [.int (nI (stp (dgt a k) m (k - (r + 1)) (r + 1) (p - e))), .int (nI c)] f none 0 0
          refine fn_iadd dX1_strips_59 ?_
          refine fx_istore (lv2 := [(0, .int (nI k)), (1, .int (nI m)), (2, .int (nI a)), (3, .int (nI p)), (4, .int (nI (r + 1))), (5, .int (nI (c + (stp (dgt a k) m (k - (r + 1)) (r + 1) (p - e))))), (6, .int (nI q)), (7, .int (nI e))]) dX1_strips_60 (by decide) rfl ?_
          refine fn_iinc (c := 1) (lv2 := [(0, .int (nI k)), (1, .int (nI m)), (2, .int (nI a)), (3, .int (nI p)), (4, .int (nI (r + 1))), (5, .int (nI (c + (stp (dgt a k) m (k - (r + 1)) (r + 1) (p - e))))), (6, .int (nI q)), (7, .int (nI (e + 1)))]) dX1_strips_62 (by decide) rfl (by decide) rfl ?_
          refine fx_goto (tgt := 36) dX1_strips_65 (by decide) ?_
          exact (ih36 (c + (stp (dgt a k) m (k - (r + 1)) (r + 1) (p - e))) (e + 1) (by omega) hR)
    exact (L36 (q + 1) 0 0 (by omega) e0.symm)
  · skip
    refine fx_iload_n dX1_strips_6 rfl (i := 3) rfl ?_
    refine fn_if_ne (tgt := 14) dX1_strips_7 (by decide) (by omega) (fun c7 => ?_) (fun c7 => ?_)
    · skip
      refine fx_iconst (v := (nI 0)) dX1_strips_14 (by decide) ?_
      exact fx_iret dX1_strips_15 rfl rfl rfl (by rw [hQ]; exact ⟨by rw [show j = 0 by omega]; unfold stp; first | rw [if_pos (by omega)] | rw [if_neg (by omega)], rfl, rfl⟩)
    · skip
      refine fx_iconst (v := (nI 1)) dX1_strips_10 (by decide) ?_
      refine fx_goto (tgt := 15) dX1_strips_11 (by decide) ?_
      exact fx_iret dX1_strips_15 rfl rfl rfl (by rw [hQ]; exact ⟨by rw [show j = 0 by omega]; unfold stp; first | rw [if_pos (by omega)] | rw [if_neg (by omega)], rfl, rfl⟩)

theorem C1_strips (k m a : Nat) (ha : a < 2147483648) (hk : k ≤ 4) (hm : m ≤ 4) (hv : bxv (dgt a k) k m) (j r p : Nat) (hr : r + j = k) (hp : p < 2147483648) (f : fv_F) : fv_M Y1_strips (3 + j) 0 0 [.int (nI k), .int (nI m), .int (nI a), .int (nI p), .int (nI (r + 1))] f none (fv_eq (some (.int (nI (stp (dgt a k) m j r p)))) f) := by
  induction j using Nat.strongRecOn generalizing r p f with
  | _ j ih => exact C1_strips_1 k m a ha hk hm hv j r p hr hp (fun j2 r2 p2 f2 h h2 h3 => ih j2 h r2 p2 h2 h3 f2) f

def stI (g : Nat → Nat) (rest : Nat) : Nat → Nat → Nat → Nat × Nat
  | 0, e, a => (e, a)
  | j + 1, e, a => if g (rest - e) ≤ a then stI g rest j (e + 1) (a - g (rest - e)) else (e, a)
def stO (h : Nat → Nat) (m : Nat) : Nat → Nat → Nat → Nat → Nat → Nat
  | 0, _, _, _, s => s
  | j + 1, r, a, rest, s => stO h m j (r + 1) (stI (stp h m j (r + 1)) rest (min (rmo h m r) rest) 0 a).2 (rest - (stI (stp h m j (r + 1)) rest (min (rmo h m r) rest) 0 a).1) (s * 10 + h r + (stI (stp h m j (r + 1)) rest (min (rmo h m r) rest) 0 a).1)
/-- the i-th strip of p -/
def stA (h : Nat → Nat) (k m p : Nat) (i : Int) : Int := if i < 0 ∨ (stp h m k 0 p : Int) ≤ i then -1 else (stO h m k 0 i.toNat p 0 : Nat)

set_option maxRecDepth 4000 in
set_option maxHeartbeats 1000000 in
theorem C1_stripAt (k m a : Nat) (ha : a < 2147483648) (hk : k ≤ 4) (hm : m ≤ 4) (hv : bxv (dgt a k) k m) (p : Nat) (i : Int) (hp : p < 2147483648) (i1 : -2147483648 ≤ i) (i2 : i < 2147483648) (f : fv_F) : fv_M Y1_stripAt 8 0 0 [.int (nI k), .int (nI m), .int (nI a), .int (nI p), .int (iI i)] f none (fv_eq (some (.int (iI (stA (dgt a k) k m p i)))) f) := by
  refine fv_enter rfl (Nat.le_of_ble_eq_true rfl) ?_
  obtain ⟨Q, hQ⟩ : ∃ Q : Option Value → fv_F → Option Nat → Prop, Q = (fv_eq (some (.int (iI (stA (dgt a k) k m p i)))) f) := ⟨_, rfl⟩
  rw [← hQ]
  show fv_At Y1_stripAt 8 0 0 Q 0 [(0, .int (nI k)), (1, .int (nI m)), (2, .int (nI a)), (3, .int (nI p)), (4, .int (iI i))] [] f none 0 0
  refine fx_iload dX1_stripAt_0 rfl ?_
  refine fn_if_ltZ (tgt := 18) dX1_stripAt_2 (by decide) (by omega) (by omega) (fun c2 => ?_) (fun c2 => ?_)
  · skip
    refine fx_iconst (v := (iI (-1))) dX1_stripAt_18 (by decide) ?_
    exact fx_iret dX1_stripAt_19 rfl rfl rfl (by rw [hQ]; exact ⟨by unfold stA; rw [if_pos (by omega)], rfl, rfl⟩)
  · skip
    obtain ⟨w, rfl⟩ : ∃ w : Nat, i = (w : Int) := ⟨i.toNat, by omega⟩
    have hsb : stp (dgt a k) m k 0 p < 2147483648 := (Nat.lt_of_le_of_lt (stp_b hv hm hk _ (Nat.zero_add k)) (by decide))
    show fv_At Y1_stripAt 8 0 0 Q 5 [(0, .int (nI k)), (1, .int (nI m)), (2, .int (nI a)), (3, .int (nI p)), (4, .int (nI w))] [] f none 0 0
    refine fx_iload dX1_stripAt_5 rfl ?_
    refine fx_iload_n dX1_stripAt_7 rfl (i := 0) rfl ?_
    refine fx_iload_n dX1_stripAt_8 rfl (i := 1) rfl ?_
    refine fx_iload_n dX1_stripAt_9 rfl (i := 2) rfl ?_
    refine fx_iload_n dX1_stripAt_10 rfl (i := 3) rfl ?_
    refine fx_iconst (v := (nI 1)) dX1_stripAt_11 (by decide) ?_
    refine fn_cS dX1_stripAt_12 lk1_28 (C1_strips k m a ha hk hm hv k 0 p (by omega) (by omega) f) rfl rfl (by omega) (Nat.le_of_ble_eq_true rfl) ?_
    show fv_At Y1_stripAt 8 0 0 Q 15 [(0, .int (nI k)), (1, .int (nI m)), (2, .int (nI a)), (3, .int (nI p)), (4, .int (nI w))] [.int (nI (stp (dgt a k) m k 0 p)), .int (nI w)] f none 0 0
    refine fn_icmp_lt (tgt := 20) dX1_stripAt_15 (by decide) (by omega) (by omega) (fun c15 => ?_) (fun c15 => ?_)
    · skip
      have hst : stA (dgt a k) k m p (w : Int) = ((stO (dgt a k) m k 0 w p 0 : Nat) : Int) := by unfold stA; rw [if_neg (by omega)]; rfl
      refine fx_iload dX1_stripAt_20 rfl ?_
      refine fx_istore (lv2 := [(0, .int (nI k)), (1, .int (nI m)), (2, .int (nI a)), (3, .int (nI p)), (4, .int (nI w)), (5, .int (nI w))]) dX1_stripAt_22 (by decide) rfl ?_
      refine fx_iload_n dX1_stripAt_24 rfl (i := 3) rfl ?_
      refine fx_istore (lv2 := [(0, .int (nI k)), (1, .int (nI m)), (2, .int (nI a)), (3, .int (nI p)), (4, .int (nI w)), (5, .int (nI w)), (6, .int (nI p))]) dX1_stripAt_25 (by decide) rfl ?_
      refine fx_iconst (v := (nI 0)) dX1_stripAt_27 (by decide) ?_
      refine fx_istore (lv2 := [(0, .int (nI k)), (1, .int (nI m)), (2, .int (nI a)), (3, .int (nI p)), (4, .int (nI w)), (5, .int (nI w)), (6, .int (nI p)), (7, .int (nI 0))]) dX1_stripAt_28 (by decide) rfl ?_
      refine fx_iconst (v := (nI 1)) dX1_stripAt_30 (by decide) ?_
      refine fx_istore (lv2 := [(0, .int (nI k)), (1, .int (nI m)), (2, .int (nI a)), (3, .int (nI p)), (4, .int (nI w)), (5, .int (nI w)), (6, .int (nI p)), (7, .int (nI 0)), (8, .int (nI 1))]) dX1_stripAt_31 (by decide) rfl ?_
      have L33 : ∀ (j : Nat) (x : Nat) (rest : Nat) (s : Nat) (r : Nat), (r + j = k) → (x < 2147483648) → (rest ≤ p) → (stO (dgt a k) m j r x rest s = stO (dgt a k) m k 0 w p 0) → fv_At Y1_stripAt 8 0 0 Q 33 [(0, .int (nI k)), (1, .int (nI m)), (2, .int (nI a)), (3, .int (nI p)), (4, .int (nI w)), (5, .int (nI x)), (6, .int (nI rest)), (7, .int (nI s)), (8, .int (nI (r + 1)))] [] f none 0 0 := by
        intro j
        induction j with
        | zero =>
          intro x rest s r hr hx hrp hR
          refine fx_iload dX1_stripAt_33 rfl ?_
          refine fx_iload_n dX1_stripAt_35 rfl (i := 0) rfl ?_
          refine fn_icmp_gt (tgt := 146) dX1_stripAt_36 (by decide) (by omega) (by omega) (fun c36 => ?_) (fun c36 => ?_)
          · skip
            refine fx_iload dX1_stripAt_146 rfl ?_
            exact fx_iret dX1_stripAt_148 rfl rfl rfl (by rw [hQ]; exact ⟨by rw [hst, ← hR]; rfl, rfl, rfl⟩)
          · exfalso; omega
        | succ j ih33 =>
          intro x rest s r hr hx hrp hR
          refine fx_iload dX1_stripAt_33 rfl ?_
          refine fx_iload_n dX1_stripAt_35 rfl (i := 0) rfl ?_
          refine fn_icmp_gt (tgt := 146) dX1_stripAt_36 (by decide) (by omega) (by omega) (fun c36 => ?_) (fun c36 => ?_)
          · exfalso; omega
          · skip
            refine fx_iconst (v := (nI 0)) dX1_stripAt_39 (by decide) ?_
            refine fx_istore (lv2 := [(0, .int (nI k)), (1, .int (nI m)), (2, .int (nI a)), (3, .int (nI p)), (4, .int (nI w)), (5, .int (nI x)), (6, .int (nI rest)), (7, .int (nI s)), (8, .int (nI (r + 1))), (9, .int (nI 0))]) dX1_stripAt_40 (by decide) rfl ?_
            refine fx_iload_n dX1_stripAt_42 rfl (i := 0) rfl ?_
            refine fx_iload_n dX1_stripAt_43 rfl (i := 1) rfl ?_
            refine fx_iload_n dX1_stripAt_44 rfl (i := 2) rfl ?_
            refine fx_iload dX1_stripAt_45 rfl ?_
            have hrm := (rmo_le hv r (by omega)).2
            refine fn_cS dX1_stripAt_47 lk1_32 (C1_room (k := k) (m := m) (a := a) (p := r) ha hk hm hv (by omega) (f := f)) rfl rfl (by decide) (Nat.le_of_ble_eq_true rfl) ?_
            show fv_At Y1_stripAt 8 0 0 Q 50 [(0, .int (nI k)), (1, .int (nI m)), (2, .int (nI a)), (3, .int (nI p)), (4, .int (nI w)), (5, .int (nI x)), (6, .int (nI rest)), (7, .int (nI s)), (8, .int (nI (r + 1))), (9, .int (nI 0))] [.int (nI (rmo (dgt a k) m r))] f none 0 0
            refine fx_iload dX1_stripAt_50 rfl ?_
            refine fx_mmin dX1_stripAt_52 lk1_36 (by omega) (by omega) (by decide) (Nat.le_of_ble_eq_true rfl) ?_
            refine fx_istore (lv2 := [(0, .int (nI k)), (1, .int (nI m)), (2, .int (nI a)), (3, .int (nI p)), (4, .int (nI w)), (5, .int (nI x)), (6, .int (nI rest)), (7, .int (nI s)), (8, .int (nI (r + 1))), (9, .int (nI 0)), (10, .int (nI (min (rmo (dgt a k) m r) rest)))]) dX1_stripAt_55 (by decide) rfl ?_
            obtain ⟨q, hq⟩ : ∃ q, q = min (rmo (dgt a k) m r) rest := ⟨_, rfl⟩
            rw [← hq]
            show fv_At Y1_stripAt 8 0 0 Q 57 [(0, .int (nI k)), (1, .int (nI m)), (2, .int (nI a)), (3, .int (nI p)), (4, .int (nI w)), (5, .int (nI x)), (6, .int (nI rest)), (7, .int (nI s)), (8, .int (nI (r + 1))), (9, .int (nI 0)), (10, .int (nI q))] [] f none 0 0
            refine fx_iload_n dX1_stripAt_57 rfl (i := 0) rfl ?_
            refine fx_iload_n dX1_stripAt_58 rfl (i := 1) rfl ?_
            refine fx_iload_n dX1_stripAt_59 rfl (i := 2) rfl ?_
            refine fx_iload dX1_stripAt_60 rfl ?_
            refine fx_iload dX1_stripAt_62 rfl ?_
            refine fx_iconst (v := (nI 1)) dX1_stripAt_64 (by decide) ?_
            refine fn_iadd dX1_stripAt_65 ?_
            refine fn_cS dX1_stripAt_66 lk1_28 (C1_strips k m a ha hk hm hv j (r + 1) rest (by omega) (by omega) f) rfl rfl (by omega) (Nat.le_of_ble_eq_true rfl) ?_
            show fv_At Y1_stripAt 8 0 0 Q 69 [(0, .int (nI k)), (1, .int (nI m)), (2, .int (nI a)), (3, .int (nI p)), (4, .int (nI w)), (5, .int (nI x)), (6, .int (nI rest)), (7, .int (nI s)), (8, .int (nI (r + 1))), (9, .int (nI 0)), (10, .int (nI q))] [.int (nI (stp (dgt a k) m j (r + 1) rest))] f none 0 0
            refine fx_istore (lv2 := [(0, .int (nI k)), (1, .int (nI m)), (2, .int (nI a)), (3, .int (nI p)), (4, .int (nI w)), (5, .int (nI x)), (6, .int (nI rest)), (7, .int (nI s)), (8, .int (nI (r + 1))), (9, .int (nI 0)), (10, .int (nI q)), (11, .int (nI (stp (dgt a k) m j (r + 1) rest)))]) dX1_stripAt_69 (by decide) rfl ?_
            have L71 : ∀ (i2 : Nat) (e : Nat) (x2 : Nat), (e + i2 = q) → (x2 < 2147483648) → (stI (stp (dgt a k) m j (r + 1)) rest i2 e x2 = stI (stp (dgt a k) m j (r + 1)) rest q 0 x) → fv_At Y1_stripAt 8 0 0 Q 71 [(0, .int (nI k)), (1, .int (nI m)), (2, .int (nI a)), (3, .int (nI p)), (4, .int (nI w)), (5, .int (nI x2)), (6, .int (nI rest)), (7, .int (nI s)), (8, .int (nI (r + 1))), (9, .int (nI e)), (10, .int (nI q)), (11, .int (nI (stp (dgt a k) m j (r + 1) (rest - e))))] [] f none 0 0 := by
              intro i2
              induction i2 with
              | zero =>
                intro e x2 he hx2 hR2
                refine fx_iload dX1_stripAt_71 rfl ?_
                refine fx_iload dX1_stripAt_73 rfl ?_
                refine fn_icmp_ge (tgt := 115) dX1_stripAt_75 (by decide) (by omega) (by omega) (fun c75 => ?_) (fun c75 => ?_)
                · skip
                  have hq2 : stI (stp (dgt a k) m j (r + 1)) rest q 0 x = (e, x2) := by first | exact hR2.symm | (rw [← hR2, stI, if_neg (by omega)])
                  refine fx_iload dX1_stripAt_115 rfl ?_
                  refine fx_iload dX1_stripAt_117 rfl ?_
                  refine fn_isub dX1_stripAt_119 (by omega) ?_
                  refine fx_istore (lv2 := [(0, .int (nI k)), (1, .int (nI m)), (2, .int (nI a)), (3, .int (nI p)), (4, .int (nI w)), (5, .int (nI x2)), (6, .int (nI (rest - e))), (7, .int (nI s)), (8, .int (nI (r + 1))), (9, .int (nI e)), (10, .int (nI q)), (11, .int (nI (stp (dgt a k) m j (r + 1) (rest - e))))]) dX1_stripAt_120 (by decide) rfl ?_
                  refine fx_iload dX1_stripAt_122 rfl ?_
                  refine fx_bipush (v := (nI 10)) dX1_stripAt_124 (by decide) ?_
                  refine fn_imul dX1_stripAt_126 ?_
                  refine fx_iload_n dX1_stripAt_127 rfl (i := 0) rfl ?_
                  refine fx_iload_n dX1_stripAt_128 rfl (i := 2) rfl ?_
                  refine fx_iload dX1_stripAt_129 rfl ?_
                  refine fn_cS dX1_stripAt_131 lk1_21 (C1_figure (a := a) (k := k) (p := r) (by omega) (by omega) (by omega) (f := f)) rfl rfl (by decide) (Nat.le_of_ble_eq_true rfl) ?_
                  show fv_At Y1_stripAt 8 0 0 Q 134 [(0, .int (nI k)), (1, .int (nI m)), (2, .int (nI a)), (3, .int (nI p)), (4, .int (nI w)), (5, .int (nI x2)), (6, .int (nI (rest - e))), (7, .int (nI s)), (8, .int (nI (r + 1))), (9, .int (nI e)), (10, .int (nI q)), (11, .int (nI (stp (dgt a k) m j (r + 1) (rest - e))))] [.int (nI (dgt a k r)), .int (nI (s * 10))] f none 0 0
                  refine fn_iadd dX1_stripAt_134 ?_
                  refine fx_iload dX1_stripAt_135 rfl ?_
                  refine fn_iadd dX1_stripAt_137 ?_
                  refine fx_istore (lv2 := [(0, .int (nI k)), (1, .int (nI m)), (2, .int (nI a)), (3, .int (nI p)), (4, .int (nI w)), (5, .int (nI x2)), (6, .int (nI (rest - e))), (7, .int (nI (((s * 10) + (dgt a k r)) + e))), (8, .int (nI (r + 1))), (9, .int (nI e)), (10, .int (nI q)), (11, .int (nI (stp (dgt a k) m j (r + 1) (rest - e))))]) dX1_stripAt_138 (by decide) rfl ?_
                  refine fn_iinc (c := 1) (lv2 := [(0, .int (nI k)), (1, .int (nI m)), (2, .int (nI a)), (3, .int (nI p)), (4, .int (nI w)), (5, .int (nI x2)), (6, .int (nI (rest - e))), (7, .int (nI (((s * 10) + (dgt a k r)) + e))), (8, .int (nI (r + 1 + 1))), (9, .int (nI e)), (10, .int (nI q)), (11, .int (nI (stp (dgt a k) m j (r + 1) (rest - e))))]) dX1_stripAt_140 (by decide) rfl (by decide) rfl ?_
                  refine fx_goto (tgt := 33) dX1_stripAt_143 (by decide) ?_
                  exact fn_sub [0, 1, 2, 3, 4, 5, 6, 7, 8] rfl (ih33 x2 (rest - e) (((s * 10) + (dgt a k r)) + e) (r + 1) (by omega) (by omega) (by omega) (by rw [← hR, stO, ← hq, hq2]))
                · exfalso; omega
              | succ i2 ih71 =>
                intro e x2 he hx2 hR2
                refine fx_iload dX1_stripAt_71 rfl ?_
                refine fx_iload dX1_stripAt_73 rfl ?_
                refine fn_icmp_ge (tgt := 115) dX1_stripAt_75 (by decide) (by omega) (by omega) (fun c75 => ?_) (fun c75 => ?_)
                · exfalso; omega
                · skip
                  refine fx_iload dX1_stripAt_78 rfl ?_
                  have hs2 : stp (dgt a k) m j (r + 1) (rest - e) < 2147483648 := (Nat.lt_of_le_of_lt (stp_b hv hm hk _ (by omega)) (by decide))
                  refine fx_iload dX1_stripAt_80 rfl ?_
                  refine fn_icmp_lt (tgt := 115) dX1_stripAt_82 (by decide) (by omega) (by omega) (fun c82 => ?_) (fun c82 => ?_)
                  · skip
                    have hq2 : stI (stp (dgt a k) m j (r + 1)) rest q 0 x = (e, x2) := by first | exact hR2.symm | (rw [← hR2, stI, if_neg (by omega)])
                    refine fx_iload dX1_stripAt_115 rfl ?_
                    refine fx_iload dX1_stripAt_117 rfl ?_
                    refine fn_isub dX1_stripAt_119 (by omega) ?_
                    refine fx_istore (lv2 := [(0, .int (nI k)), (1, .int (nI m)), (2, .int (nI a)), (3, .int (nI p)), (4, .int (nI w)), (5, .int (nI x2)), (6, .int (nI (rest - e))), (7, .int (nI s)), (8, .int (nI (r + 1))), (9, .int (nI e)), (10, .int (nI q)), (11, .int (nI (stp (dgt a k) m j (r + 1) (rest - e))))]) dX1_stripAt_120 (by decide) rfl ?_
                    refine fx_iload dX1_stripAt_122 rfl ?_
                    refine fx_bipush (v := (nI 10)) dX1_stripAt_124 (by decide) ?_
                    refine fn_imul dX1_stripAt_126 ?_
                    refine fx_iload_n dX1_stripAt_127 rfl (i := 0) rfl ?_
                    refine fx_iload_n dX1_stripAt_128 rfl (i := 2) rfl ?_
                    refine fx_iload dX1_stripAt_129 rfl ?_
                    refine fn_cS dX1_stripAt_131 lk1_21 (C1_figure (a := a) (k := k) (p := r) (by omega) (by omega) (by omega) (f := f)) rfl rfl (by decide) (Nat.le_of_ble_eq_true rfl) ?_
                    show fv_At Y1_stripAt 8 0 0 Q 134 [(0, .int (nI k)), (1, .int (nI m)), (2, .int (nI a)), (3, .int (nI p)), (4, .int (nI w)), (5, .int (nI x2)), (6, .int (nI (rest - e))), (7, .int (nI s)), (8, .int (nI (r + 1))), (9, .int (nI e)), (10, .int (nI q)), (11, .int (nI (stp (dgt a k) m j (r + 1) (rest - e))))] [.int (nI (dgt a k r)), .int (nI (s * 10))] f none 0 0
                    refine fn_iadd dX1_stripAt_134 ?_
                    refine fx_iload dX1_stripAt_135 rfl ?_
                    refine fn_iadd dX1_stripAt_137 ?_
                    refine fx_istore (lv2 := [(0, .int (nI k)), (1, .int (nI m)), (2, .int (nI a)), (3, .int (nI p)), (4, .int (nI w)), (5, .int (nI x2)), (6, .int (nI (rest - e))), (7, .int (nI (((s * 10) + (dgt a k r)) + e))), (8, .int (nI (r + 1))), (9, .int (nI e)), (10, .int (nI q)), (11, .int (nI (stp (dgt a k) m j (r + 1) (rest - e))))]) dX1_stripAt_138 (by decide) rfl ?_
                    refine fn_iinc (c := 1) (lv2 := [(0, .int (nI k)), (1, .int (nI m)), (2, .int (nI a)), (3, .int (nI p)), (4, .int (nI w)), (5, .int (nI x2)), (6, .int (nI (rest - e))), (7, .int (nI (((s * 10) + (dgt a k r)) + e))), (8, .int (nI (r + 1 + 1))), (9, .int (nI e)), (10, .int (nI q)), (11, .int (nI (stp (dgt a k) m j (r + 1) (rest - e))))]) dX1_stripAt_140 (by decide) rfl (by decide) rfl ?_
                    refine fx_goto (tgt := 33) dX1_stripAt_143 (by decide) ?_
                    exact fn_sub [0, 1, 2, 3, 4, 5, 6, 7, 8] rfl (ih33 x2 (rest - e) (((s * 10) + (dgt a k r)) + e) (r + 1) (by omega) (by omega) (by omega) (by rw [← hR, stO, ← hq, hq2]))
                  · skip
                    refine fx_iload dX1_stripAt_85 rfl ?_
                    refine fx_iload dX1_stripAt_87 rfl ?_
                    refine fn_isub dX1_stripAt_89 (by omega) ?_
                    refine fx_istore (lv2 := [(0, .int (nI k)), (1, .int (nI m)), (2, .int (nI a)), (3, .int (nI p)), (4, .int (nI w)), (5, .int (nI (x2 - (stp (dgt a k) m j (r + 1) (rest - e))))), (6, .int (nI rest)), (7, .int (nI s)), (8, .int (nI (r + 1))), (9, .int (nI e)), (10, .int (nI q)), (11, .int (nI (stp (dgt a k) m j (r + 1) (rest - e))))]) dX1_stripAt_90 (by decide) rfl ?_
                    refine fn_iinc (c := 1) (lv2 := [(0, .int (nI k)), (1, .int (nI m)), (2, .int (nI a)), (3, .int (nI p)), (4, .int (nI w)), (5, .int (nI (x2 - (stp (dgt a k) m j (r + 1) (rest - e))))), (6, .int (nI rest)), (7, .int (nI s)), (8, .int (nI (r + 1))), (9, .int (nI (e + 1))), (10, .int (nI q)), (11, .int (nI (stp (dgt a k) m j (r + 1) (rest - e))))]) dX1_stripAt_92 (by decide) rfl (by decide) rfl ?_
                    refine fx_iload_n dX1_stripAt_95 rfl (i := 0) rfl ?_
                    refine fx_iload_n dX1_stripAt_96 rfl (i := 1) rfl ?_
                    refine fx_iload_n dX1_stripAt_97 rfl (i := 2) rfl ?_
                    refine fx_iload dX1_stripAt_98 rfl ?_
                    refine fx_iload dX1_stripAt_100 rfl ?_
                    refine fn_isub dX1_stripAt_102 (by omega) ?_
                    refine fx_iload dX1_stripAt_103 rfl ?_
                    refine fx_iconst (v := (nI 1)) dX1_stripAt_105 (by decide) ?_
                    refine fn_iadd dX1_stripAt_106 ?_
                    refine fn_cS dX1_stripAt_107 lk1_28 (C1_strips k m a ha hk hm hv j (r + 1) (rest - (e + 1)) (by omega) (by omega) f) rfl rfl (by omega) (Nat.le_of_ble_eq_true rfl) ?_
                    show fv_At Y1_stripAt 8 0 0 Q 110 [(0, .int (nI k)), (1, .int (nI m)), (2, .int (nI a)), (3, .int (nI p)), (4, .int (nI w)), (5, .int (nI (x2 - (stp (dgt a k) m j (r + 1) (rest - e))))), (6, .int (nI rest)), (7, .int (nI s)), (8, .int (nI (r + 1))), (9, .int (nI (e + 1))), (10, .int (nI q)), (11, .int (nI (stp (dgt a k) m j (r + 1) (rest - e))))] [.int (nI (stp (dgt a k) m j (r + 1) (rest - (e + 1))))] f none 0 0
                    refine fx_istore (lv2 := [(0, .int (nI k)), (1, .int (nI m)), (2, .int (nI a)), (3, .int (nI p)), (4, .int (nI w)), (5, .int (nI (x2 - (stp (dgt a k) m j (r + 1) (rest - e))))), (6, .int (nI rest)), (7, .int (nI s)), (8, .int (nI (r + 1))), (9, .int (nI (e + 1))), (10, .int (nI q)), (11, .int (nI (stp (dgt a k) m j (r + 1) (rest - (e + 1)))))]) dX1_stripAt_110 (by decide) rfl ?_
                    refine fx_goto (tgt := 71) dX1_stripAt_112 (by decide) ?_
                    exact (ih71 (e + 1) (x2 - (stp (dgt a k) m j (r + 1) (rest - e))) (by omega) (by omega) (by rw [← hR2, stI, if_pos (by omega)]))
            exact (L71 q 0 x (by omega) (by omega) rfl)
      exact (L33 k w p 0 0 (by omega) (by omega) (by omega) rfl)
    · skip
      refine fx_iconst (v := (iI (-1))) dX1_stripAt_18 (by decide) ?_
      exact fx_iret dX1_stripAt_19 rfl rfl rfl (by rw [hQ]; exact ⟨by unfold stA; rw [if_pos (by omega)], rfl, rfl⟩)

def toA (h : Nat → Nat) (k : Nat) : Nat → Nat → Nat → Nat → Nat × Nat
  | 0, _, o, s => (o, s)
  | j + 1, i, o, s => toA h k j (i + 1) (o * 10 + (i + 1 + h (k - 1 - i))) (s ||| 2 ^ (i + 1 + h (k - 1 - i)))
def toB (s : Nat) : Nat → Nat → Nat → Nat
  | 0, _, o => o
  | j + 1, f, o => toB s j (f + 1) (if s / 2 ^ (f + 1) % 2 = 0 then o * 10 + (f + 1) else o)
/-- the order that goes with a box -/
def tor (h : Nat → Nat) (k m : Nat) : Nat := toB (toA h k k 0 0 0).2 (k + m) 0 (toA h k k 0 0 0).1

set_option maxRecDepth 4000 in
set_option maxHeartbeats 1000000 in
theorem C1_toOrder (k m a : Nat) (ha : a < 2147483648) (hk : k ≤ 4) (hm : m ≤ 4) (hv : bxv (dgt a k) k m) (hkm : k + m ≤ 5) (f : fv_F) : fv_M Y1_toOrder 2 0 0 [.int (nI k), .int (nI m), .int (nI a)] f none (fv_eq (some (.int (nI (tor (dgt a k) k m)))) f) := by
  refine fv_enter rfl (Nat.le_of_ble_eq_true rfl) ?_
  obtain ⟨Q, hQ⟩ : ∃ Q : Option Value → fv_F → Option Nat → Prop, Q = (fv_eq (some (.int (nI (tor (dgt a k) k m)))) f) := ⟨_, rfl⟩
  rw [← hQ]
  show fv_At Y1_toOrder 2 0 0 Q 0 [(0, .int (nI k)), (1, .int (nI m)), (2, .int (nI a))] [] f none 0 0
  refine fx_iconst (v := (nI 0)) dX1_toOrder_0 (by decide) ?_
  refine fx_istore_n (lv2 := [(0, .int (nI k)), (1, .int (nI m)), (2, .int (nI a)), (3, .int (nI 0))]) dX1_toOrder_1 (i := 3) rfl (by decide) rfl ?_
  refine fx_iconst (v := (nI 0)) dX1_toOrder_2 (by decide) ?_
  refine fx_istore (lv2 := [(0, .int (nI k)), (1, .int (nI m)), (2, .int (nI a)), (3, .int (nI 0)), (4, .int (nI 0))]) dX1_toOrder_3 (by decide) rfl ?_
  refine fx_iconst (v := (nI 1)) dX1_toOrder_5 (by decide) ?_
  refine fx_istore (lv2 := [(0, .int (nI k)), (1, .int (nI m)), (2, .int (nI a)), (3, .int (nI 0)), (4, .int (nI 0)), (5, .int (nI 1))]) dX1_toOrder_6 (by decide) rfl ?_
  have L8 : ∀ (j : Nat) (o : Nat) (s : Nat) (i : Nat), (i + j = k) → (s < 1024) → (toA (dgt a k) k j i o s = toA (dgt a k) k k 0 0 0) → fv_At Y1_toOrder 2 0 0 Q 8 [(0, .int (nI k)), (1, .int (nI m)), (2, .int (nI a)), (3, .int (nI o)), (4, .int (nI s)), (5, .int (nI (i + 1)))] [] f none 0 0 := by
    intro j
    induction j with
    | zero =>
      intro o s i hi hs hR
      refine fx_iload dX1_toOrder_8 rfl ?_
      refine fx_iload_n dX1_toOrder_10 rfl (i := 0) rfl ?_
      refine fn_icmp_gt (tgt := 53) dX1_toOrder_11 (by decide) (by omega) (by omega) (fun c11 => ?_) (fun c11 => ?_)
      · skip
        refine fx_iconst (v := (nI 1)) dX1_toOrder_53 (by decide) ?_
        refine fx_istore (lv2 := [(0, .int (nI k)), (1, .int (nI m)), (2, .int (nI a)), (3, .int (nI o)), (4, .int (nI s)), (5, .int (nI 1))]) dX1_toOrder_54 (by decide) rfl ?_
        have L56 : ∀ (j2 : Nat) (o2 : Nat) (g : Nat), (g + j2 = k + m) → (toB s j2 g o2 = toB s (k + m) 0 o) → fv_At Y1_toOrder 2 0 0 Q 56 [(0, .int (nI k)), (1, .int (nI m)), (2, .int (nI a)), (3, .int (nI o2)), (4, .int (nI s)), (5, .int (nI (g + 1)))] [] f none 0 0 := by
          intro j2
          induction j2 with
          | zero =>
            intro o2 g hg hR2
            refine fx_iload dX1_toOrder_56 rfl ?_
            refine fx_iload_n dX1_toOrder_58 rfl (i := 0) rfl ?_
            refine fx_iload_n dX1_toOrder_59 rfl (i := 1) rfl ?_
            refine fn_iadd dX1_toOrder_60 ?_
            refine fn_icmp_gt (tgt := 88) dX1_toOrder_61 (by decide) (by omega) (by omega) (fun c61 => ?_) (fun c61 => ?_)
            · skip
              refine fx_iload_n dX1_toOrder_88 rfl (i := 3) rfl ?_
              exact fx_iret dX1_toOrder_89 rfl rfl rfl (by rw [hQ]; exact ⟨by unfold tor; rw [← hR]; exact congrArg (fun z => some (Value.int (nI z))) hR2, rfl, rfl⟩)
            · exfalso; omega
          | succ j2 ih56 =>
            intro o2 g hg hR2
            refine fx_iload dX1_toOrder_56 rfl ?_
            refine fx_iload_n dX1_toOrder_58 rfl (i := 0) rfl ?_
            refine fx_iload_n dX1_toOrder_59 rfl (i := 1) rfl ?_
            refine fn_iadd dX1_toOrder_60 ?_
            refine fn_icmp_gt (tgt := 88) dX1_toOrder_61 (by decide) (by omega) (by omega) (fun c61 => ?_) (fun c61 => ?_)
            · exfalso; omega
            · skip
              refine fx_iload dX1_toOrder_64 rfl ?_
              refine fx_iload dX1_toOrder_66 rfl ?_
              refine fx_ishr dX1_toOrder_68 ?_
              refine fn_to (show _ = (nI (s / 2 ^ (g + 1))) from (nI_shr (by omega) (by omega))) ?_
              refine fx_iconst (v := (nI 1)) dX1_toOrder_69 (by decide) ?_
              refine fx_iand dX1_toOrder_70 ?_
              refine fn_to (show _ = (nI (s / 2 ^ (g + 1) % 2)) from (by rw [nI_and, Nat.and_one_is_mod])) ?_
              refine fn_if_ne (tgt := 82) dX1_toOrder_71 (by decide) (by omega) (fun c71 => ?_) (fun c71 => ?_)
              · skip
                refine fn_iinc (c := 1) (lv2 := [(0, .int (nI k)), (1, .int (nI m)), (2, .int (nI a)), (3, .int (nI o2)), (4, .int (nI s)), (5, .int (nI (g + 1 + 1)))]) dX1_toOrder_82 (by decide) rfl (by decide) rfl ?_
                refine fx_goto (tgt := 56) dX1_toOrder_85 (by decide) ?_
                exact (ih56 o2 (g + 1) (by omega) (by rw [← hR2, toB]; split <;> first | rfl | omega))
              · skip
                refine fx_iload_n dX1_toOrder_74 rfl (i := 3) rfl ?_
                refine fx_bipush (v := (nI 10)) dX1_toOrder_75 (by decide) ?_
                refine fn_imul dX1_toOrder_77 ?_
                refine fx_iload dX1_toOrder_78 rfl ?_
                refine fn_iadd dX1_toOrder_80 ?_
                refine fx_istore_n (lv2 := [(0, .int (nI k)), (1, .int (nI m)), (2, .int (nI a)), (3, .int (nI ((o2 * 10) + (g + 1)))), (4, .int (nI s)), (5, .int (nI (g + 1)))]) dX1_toOrder_81 (i := 3) rfl (by decide) rfl ?_
                refine fn_iinc (c := 1) (lv2 := [(0, .int (nI k)), (1, .int (nI m)), (2, .int (nI a)), (3, .int (nI ((o2 * 10) + (g + 1)))), (4, .int (nI s)), (5, .int (nI (g + 1 + 1)))]) dX1_toOrder_82 (by decide) rfl (by decide) rfl ?_
                refine fx_goto (tgt := 56) dX1_toOrder_85 (by decide) ?_
                exact (ih56 ((o2 * 10) + (g + 1)) (g + 1) (by omega) (by rw [← hR2, toB]; split <;> first | rfl | omega))
        exact (L56 (k + m) o 0 (by omega) rfl)
      · exfalso; omega
    | succ j ih8 =>
      intro o s i hi hs hR
      refine fx_iload dX1_toOrder_8 rfl ?_
      refine fx_iload_n dX1_toOrder_10 rfl (i := 0) rfl ?_
      refine fn_icmp_gt (tgt := 53) dX1_toOrder_11 (by decide) (by omega) (by omega) (fun c11 => ?_) (fun c11 => ?_)
      · exfalso; omega
      · skip
        have hd := (rmo_le hv (k - 1 - i) (by omega)).1
        have hp2 : 2 ^ (i + 1 + dgt a k (k - 1 - i)) < 2 ^ 10 := Nat.pow_lt_pow_right (by decide) (by omega)
        refine fx_iload dX1_toOrder_14 rfl ?_
        refine fx_iload_n dX1_toOrder_16 rfl (i := 0) rfl ?_
        refine fx_iload_n dX1_toOrder_17 rfl (i := 2) rfl ?_
        refine fx_iload_n dX1_toOrder_18 rfl (i := 0) rfl ?_
        refine fx_iconst (v := (nI 1)) dX1_toOrder_19 (by decide) ?_
        refine fn_iadd dX1_toOrder_20 ?_
        refine fx_iload dX1_toOrder_21 rfl ?_
        refine fn_isub dX1_toOrder_23 (by omega) ?_
        refine fn_to (show _ = (nI (k - 1 - i + 1)) from congrArg nI (by omega)) ?_
        refine fn_cS dX1_toOrder_24 lk1_21 (C1_figure (a := a) (k := k) (p := k - 1 - i) (by omega) (by omega) (by omega) (f := f)) rfl rfl (by decide) (Nat.le_of_ble_eq_true rfl) ?_
        show fv_At Y1_toOrder 2 0 0 Q 27 [(0, .int (nI k)), (1, .int (nI m)), (2, .int (nI a)), (3, .int (nI o)), (4, .int (nI s)), (5, .int (nI (i + 1)))] [.int (nI (dgt a k (k - 1 - i))), .int (nI (i + 1))] f none 0 0
        refine fn_iadd dX1_toOrder_27 ?_
        refine fx_istore (lv2 := [(0, .int (nI k)), (1, .int (nI m)), (2, .int (nI a)), (3, .int (nI o)), (4, .int (nI s)), (5, .int (nI (i + 1))), (6, .int (nI ((i + 1) + (dgt a k (k - 1 - i)))))]) dX1_toOrder_28 (by decide) rfl ?_
        refine fx_iload dX1_toOrder_30 rfl ?_
        refine fx_iconst (v := (nI 1)) dX1_toOrder_32 (by decide) ?_
        refine fx_iload dX1_toOrder_33 rfl ?_
        refine fx_ishl dX1_toOrder_35 ?_
        refine fn_to (show _ = (nI (2 ^ (i + 1 + dgt a k (k - 1 - i)))) from (nI_shl1 _ (by omega))) ?_
        refine fx_ior dX1_toOrder_36 ?_
        refine fn_to (show _ = (nI (s ||| 2 ^ (i + 1 + dgt a k (k - 1 - i)))) from (nI_or _ _)) ?_
        refine fx_istore (lv2 := [(0, .int (nI k)), (1, .int (nI m)), (2, .int (nI a)), (3, .int (nI o)), (4, .int (nI (s ||| 2 ^ (i + 1 + dgt a k (k - 1 - i))))), (5, .int (nI (i + 1))), (6, .int (nI ((i + 1) + (dgt a k (k - 1 - i)))))]) dX1_toOrder_37 (by decide) rfl ?_
        refine fx_iload_n dX1_toOrder_39 rfl (i := 3) rfl ?_
        refine fx_bipush (v := (nI 10)) dX1_toOrder_40 (by decide) ?_
        refine fn_imul dX1_toOrder_42 ?_
        refine fx_iload dX1_toOrder_43 rfl ?_
        refine fn_iadd dX1_toOrder_45 ?_
        refine fx_istore_n (lv2 := [(0, .int (nI k)), (1, .int (nI m)), (2, .int (nI a)), (3, .int (nI ((o * 10) + ((i + 1) + (dgt a k (k - 1 - i)))))), (4, .int (nI (s ||| 2 ^ (i + 1 + dgt a k (k - 1 - i))))), (5, .int (nI (i + 1))), (6, .int (nI ((i + 1) + (dgt a k (k - 1 - i)))))]) dX1_toOrder_46 (i := 3) rfl (by decide) rfl ?_
        refine fn_iinc (c := 1) (lv2 := [(0, .int (nI k)), (1, .int (nI m)), (2, .int (nI a)), (3, .int (nI ((o * 10) + ((i + 1) + (dgt a k (k - 1 - i)))))), (4, .int (nI (s ||| 2 ^ (i + 1 + dgt a k (k - 1 - i))))), (5, .int (nI (i + 1 + 1))), (6, .int (nI ((i + 1) + (dgt a k (k - 1 - i)))))]) dX1_toOrder_47 (by decide) rfl (by decide) rfl ?_
        refine fx_goto (tgt := 8) dX1_toOrder_50 (by decide) ?_
        exact fn_sub [0, 1, 2, 3, 4, 5] rfl (ih8 ((o * 10) + ((i + 1) + (dgt a k (k - 1 - i)))) (s ||| 2 ^ (i + 1 + dgt a k (k - 1 - i))) (i + 1) (by omega) (Nat.or_lt_two_pow (n := 10) hs hp2) hR)
  exact (L8 k 0 0 0 (by omega) (by omega) rfl)

/-- all boxes of so many rows and figures up to a limit, behind what stands -/
def gal : Nat → Nat → Nat → List Nat
  | 0, _, x => [x]
  | r + 1, l, x => (List.range (l + 1)).flatMap fun f => gal r f (x * 10 + f)
def wrl (G : Nat → Nat → Int32) (a b : Nat) (xs : List Nat) : Nat → Nat → Int32 := fun i j => if i = a ∧ b ≤ j ∧ j < b + xs.length then nI (xs.getD (j - b) 0) else G i j
theorem wrl_nil (G : Nat → Nat → Int32) (a b : Nat) : wrl G a b [] = G := by
  funext i j
  exact if_neg (fun h => by have := h.2; simp at this; omega)
theorem wrl_one (G : Nat → Nat → Int32) (a b x : Nat) : wrl G a b [x] = g2 G a b (nI x) := by
  funext i j
  unfold wrl g2
  by_cases h : i = a ∧ j = b
  · rw [if_pos h, if_pos ⟨h.1, by omega, by simp; omega⟩, h.2, Nat.sub_self]; rfl
  · rw [if_neg h, if_neg]
    intro q
    have h1 := q.2.2
    simp at h1
    exact h ⟨q.1, by omega⟩
theorem wrl_app (G : Nat → Nat → Int32) (a b : Nat) (xs ys : List Nat) : wrl (wrl G a b xs) a (b + xs.length) ys = wrl G a b (xs ++ ys) := by
  funext i j
  unfold wrl
  simp only [List.length_append]
  by_cases hi : i = a
  · by_cases h1 : b + xs.length ≤ j ∧ j < b + xs.length + ys.length
    · rw [if_pos ⟨hi, h1⟩, if_pos ⟨hi, by omega, by omega⟩, List.getD_eq_getElem?_getD, List.getD_eq_getElem?_getD, List.getElem?_append_right (by omega), show j - (b + xs.length) = j - b - xs.length by omega]
    · rw [if_neg (fun q => h1 q.2)]
      by_cases h2 : b ≤ j ∧ j < b + xs.length
      · rw [if_pos ⟨hi, h2⟩, if_pos ⟨hi, by omega, by omega⟩, List.getD_eq_getElem?_getD, List.getD_eq_getElem?_getD, List.getElem?_append_left (by omega)]
      · rw [if_neg (fun q => h2 q.2), if_neg (fun q => by omega)]
  · rw [if_neg (fun q => hi q.1), if_neg (fun q => hi q.1), if_neg (fun q => hi q.1)]
theorem gal_pre (g : Nat → List Nat) {f l : Nat} (h : f ≤ l) : ((List.range f).flatMap g).length ≤ ((List.range l).flatMap g).length := by
  induction l with
  | zero => rw [Nat.le_zero.mp h]; exact Nat.le_refl _
  | succ l ih =>
    rcases Nat.lt_or_ge l f with q | q
    · rw [show f = l + 1 by omega]; exact Nat.le_refl _
    · rw [List.range_succ, List.flatMap_append, List.length_append]
      exact Nat.le_trans (ih q) (Nat.le_add_right _ _)

set_option maxRecDepth 4000 in
set_option maxHeartbeats 1000000 in
theorem C1_gather_1 (T : fw_T) (a n : Nat) (hT : T a = some (0, 0, n, [])) (hn : n < 2147483648) (r l b x : Nat) (G : Nat → Nat → Int32) (L : Nat → Nat → Int64) (hr : r < 100) (hl : l < 100) (hb : b + (gal r l x).length ≤ n) (hbn : b < 2147483648) (ih : ∀ (r2 l2 b2 x2 : Nat) (G2 : Nat → Nat → Int32) (L2 : Nat → Nat → Int64), r2 < r → r2 < 100 → l2 < 100 → b2 + (gal r2 l2 x2).length ≤ n → b2 < 2147483648 → fv_M Y1_gather r2 0 0 [.ref a, .int (nI b2), .int (nI r2), .int (nI l2), .int (nI x2)] (fw T G2 L2) none (fv_eq (some (.int (nI (b2 + (gal r2 l2 x2).length)))) (fw T (wrl G2 a b2 (gal r2 l2 x2)) L2))) : fv_M Y1_gather r 0 0 [.ref a, .int (nI b), .int (nI r), .int (nI l), .int (nI x)] (fw T G L) none (fv_eq (some (.int (nI (b + (gal r l x).length)))) (fw T (wrl G a b (gal r l x)) L)) := by
  refine fv_enter rfl (Nat.le_of_ble_eq_true rfl) ?_
  obtain ⟨Q, hQ⟩ : ∃ Q : Option Value → fv_F → Option Nat → Prop, Q = (fv_eq (some (.int (nI (b + (gal r l x).length)))) (fw T (wrl G a b (gal r l x)) L)) := ⟨_, rfl⟩
  rw [← hQ]
  show fv_At Y1_gather r 0 0 Q 0 [(0, .ref a), (1, .int (nI b)), (2, .int (nI r)), (3, .int (nI l)), (4, .int (nI x))] [] (fw T G L) none 0 0
  refine fx_iload_n dX1_gather_0 rfl (i := 2) rfl ?_
  refine fn_if_gt (tgt := 25) dX1_gather_1 (by decide) (by omega) (fun c1 => ?_) (fun c1 => ?_)
  · skip
    have e1 : gal r l x = (List.range (l + 1)).flatMap fun f => gal (r - 1) f (x * 10 + f) := by rw [show r = (r - 1) + 1 by omega]; rfl
    refine fx_iload_n dX1_gather_25 rfl (i := 1) rfl ?_
    refine fx_istore (lv2 := [(0, .ref a), (1, .int (nI b)), (2, .int (nI r)), (3, .int (nI l)), (4, .int (nI x)), (5, .int (nI b))]) dX1_gather_26 (by decide) rfl ?_
    refine fx_iconst (v := (nI 0)) dX1_gather_28 (by decide) ?_
    refine fx_istore (lv2 := [(0, .ref a), (1, .int (nI b)), (2, .int (nI r)), (3, .int (nI l)), (4, .int (nI x)), (5, .int (nI b)), (6, .int (nI 0))]) dX1_gather_29 (by decide) rfl ?_
    have L31 : ∀ (i : Nat) (c : Nat) (f : Nat) (G1 : Nat → Nat → Int32), (f + i = l + 1) → (c = b + ((List.range f).flatMap fun f => gal (r - 1) f (x * 10 + f)).length) → (G1 = wrl G a b ((List.range f).flatMap fun f => gal (r - 1) f (x * 10 + f))) → fv_At Y1_gather r 0 0 Q 31 [(0, .ref a), (1, .int (nI b)), (2, .int (nI r)), (3, .int (nI l)), (4, .int (nI x)), (5, .int (nI c)), (6, .int (nI f))] [] (fw T G1 L) none 0 0 := by
      intro i
      induction i with
      | zero =>
        intro c f G1 hf hc hG
        refine fx_iload dX1_gather_31 rfl ?_
        refine fx_iload_n dX1_gather_33 rfl (i := 3) rfl ?_
        refine fn_icmp_gt (tgt := 64) dX1_gather_34 (by decide) (by omega) (by omega) (fun c34 => ?_) (fun c34 => ?_)
        · skip
          refine fx_iload dX1_gather_64 rfl ?_
          exact fx_iret dX1_gather_66 rfl rfl rfl (by rw [hQ]; exact ⟨by rw [e1, hc, show l + 1 = f by omega], by rw [e1, hG, show l + 1 = f by omega], rfl⟩)
        · exfalso; omega
      | succ i ih31 =>
        intro c f G1 hf hc hG
        refine fx_iload dX1_gather_31 rfl ?_
        refine fx_iload_n dX1_gather_33 rfl (i := 3) rfl ?_
        refine fn_icmp_gt (tgt := 64) dX1_gather_34 (by decide) (by omega) (by omega) (fun c34 => ?_) (fun c34 => ?_)
        · exfalso; omega
        · skip
          have hpre := gal_pre (fun f => gal (r - 1) f (x * 10 + f)) (show f + 1 ≤ l + 1 by omega)
          have e2 : ((List.range (f + 1)).flatMap fun f => gal (r - 1) f (x * 10 + f)) = ((List.range f).flatMap fun f => gal (r - 1) f (x * 10 + f)) ++ gal (r - 1) f (x * 10 + f) := by rw [List.range_succ, List.flatMap_append, List.flatMap_singleton]
          have e3 := congrArg List.length e2
          rw [List.length_append] at e3
          rw [e1] at hb
          refine fx_aload_n dX1_gather_37 rfl (i := 0) rfl ?_
          refine fx_iload dX1_gather_38 rfl ?_
          refine fx_iload_n dX1_gather_40 rfl (i := 2) rfl ?_
          refine fx_iconst (v := (nI 1)) dX1_gather_41 (by decide) ?_
          refine fn_isub dX1_gather_42 (by omega) ?_
          refine fx_iload dX1_gather_43 rfl ?_
          refine fx_iload dX1_gather_45 rfl ?_
          refine fx_bipush (v := (nI 10)) dX1_gather_47 (by decide) ?_
          refine fn_imul dX1_gather_49 ?_
          refine fx_iload dX1_gather_50 rfl ?_
          refine fn_iadd dX1_gather_52 ?_
          refine fn_cS dX1_gather_53 lk1_41 (ih (r - 1) (f) (c) ((x * 10) + f) (G1) L (by omega) (by omega) (by omega) (by omega) (by omega)) rfl rfl (by omega) (Nat.le_of_ble_eq_true rfl) ?_
          show fv_At Y1_gather r 0 0 Q 56 [(0, .ref a), (1, .int (nI b)), (2, .int (nI r)), (3, .int (nI l)), (4, .int (nI x)), (5, .int (nI c)), (6, .int (nI f))] [.int (nI (c + (gal (r - 1) (f) ((x * 10) + f)).length))] (fw T (wrl G1 a c (gal (r - 1) (f) ((x * 10) + f))) L) none 0 0
          refine fx_istore (lv2 := [(0, .ref a), (1, .int (nI b)), (2, .int (nI r)), (3, .int (nI l)), (4, .int (nI x)), (5, .int (nI (c + (gal (r - 1) (f) ((x * 10) + f)).length))), (6, .int (nI f))]) dX1_gather_56 (by decide) rfl ?_
          refine fn_iinc (c := 1) (lv2 := [(0, .ref a), (1, .int (nI b)), (2, .int (nI r)), (3, .int (nI l)), (4, .int (nI x)), (5, .int (nI (c + (gal (r - 1) (f) ((x * 10) + f)).length))), (6, .int (nI (f + 1)))]) dX1_gather_58 (by decide) rfl (by decide) rfl ?_
          refine fx_goto (tgt := 31) dX1_gather_61 (by decide) ?_
          exact (ih31 (c + (gal (r - 1) (f) ((x * 10) + f)).length) (f + 1) (wrl G1 a c (gal (r - 1) (f) ((x * 10) + f))) (by omega) (by omega) (by rw [hG, hc, wrl_app, e2]))
    exact (L31 (l + 1) b 0 G (by omega) (by simp) (wrl_nil G a b).symm)
  · skip
    have er : r = 0 := by omega
    have hg1 : (gal r l x).length = 1 := by rw [er]; rfl
    refine fx_iload_n dX1_gather_4 rfl (i := 1) rfl ?_
    refine fn_if_lt (tgt := 14) dX1_gather_5 (by decide) (by omega) (fun c5 => ?_) (fun c5 => ?_)
    · exfalso; omega
    · skip
      refine fx_iload_n dX1_gather_8 rfl (i := 1) rfl ?_
      refine fx_aload_n dX1_gather_9 rfl (i := 0) rfl ?_
      refine fw_alen dX1_gather_10 hT (by decide) (by decide) ?_
      refine fn_icmp_lt (tgt := 16) dX1_gather_11 (by decide) (by omega) (by omega) (fun c11 => ?_) (fun c11 => ?_)
      · skip
        refine fx_aload_n dX1_gather_16 rfl (i := 0) rfl ?_
        refine fx_iload_n dX1_gather_17 rfl (i := 1) rfl ?_
        refine fx_iload dX1_gather_18 rfl ?_
        refine fw_iast b dX1_gather_20 hT rfl (by omega) hn ?_
        refine fx_iload_n dX1_gather_21 rfl (i := 1) rfl ?_
        refine fx_iconst (v := (nI 1)) dX1_gather_22 (by decide) ?_
        refine fn_iadd dX1_gather_23 ?_
        exact fx_iret dX1_gather_24 rfl rfl rfl (by rw [hQ]; exact ⟨by rw [hg1], by rw [er]; exact congrArg (fun z => fw T z L) (wrl_one G a b x).symm, rfl⟩)
      · exfalso; omega

theorem C1_gather (T : fw_T) (a n : Nat) (hT : T a = some (0, 0, n, [])) (hn : n < 2147483648) (r l b x : Nat) (G : Nat → Nat → Int32) (L : Nat → Nat → Int64) (hr : r < 100) (hl : l < 100) (hb : b + (gal r l x).length ≤ n) (hbn : b < 2147483648) : fv_M Y1_gather r 0 0 [.ref a, .int (nI b), .int (nI r), .int (nI l), .int (nI x)] (fw T G L) none (fv_eq (some (.int (nI (b + (gal r l x).length)))) (fw T (wrl G a b (gal r l x)) L)) := by
  induction r using Nat.strongRecOn generalizing l b x G L with
  | _ r ih => exact C1_gather_1 T a n hT hn r l b x G L hr hl hb hbn (fun r2 l2 b2 x2 G2 L2 h h1 h2 h3 h4 => ih r2 h l2 b2 x2 G2 L2 h1 h2 h3 h4)
