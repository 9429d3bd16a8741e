theorem cel_at : ∀ {r : Nat}, r < 5 → ([some 22, some 23, some 24, some 25, some 26] : List (Option Nat)).getD r none = some (22 + r) := by
  have h : ∀ r, r < 5 → ([some 22, some 23, some 24, some 25, some 26] : List (Option Nat)).getD r none = some (22 + r) := by decide +kernel
  exact fun {r} hr => h r hr
theorem cel_lay {r : Nat} (hr : r < 5) : cT (22 + r) = some (0, 0, 5, []) := by
  match r, hr with
  | 0, _ => rfl
  | 1, _ => rfl
  | 2, _ => rfl
  | 3, _ => rfl
  | 4, _ => rfl
def uu (us : Nat → Nat) (v x : Nat) : Nat := if x = v then us x + 1 else us x
def uc (ce : Nat → Nat → Nat) (r c v x y : Nat) : Nat := if x = r ∧ y = c then v else ce x y
/-- may a number stand at a place -/
def fok (A B C : Nat → Nat) (p : Nat × Nat) (ce : Nat → Nat → Nat) (us : Nat → Nat) (v : Nat) : Bool := decide (us v < B v ∧ (v = 1 ∨ us v < us (v - 1)) ∧ (1 < p.1 ∧ A (p.1 - 1) < p.2 → ce (p.1 - 1) p.2 < v) ∧ (p.2 < C p.1 → v ≤ ce p.1 (p.2 + 1)))
def fiV (g : Nat → Nat) (ok : Nat → Bool) : Nat → Nat → Nat → Nat
  | 0, _, m => m
  | n + 1, v, m => fiV g ok n (v + 1) (if ok v = true then m + g v else m)
/-- in how many ways places are filled -/
def fiL (k : Nat) (A B C : Nat → Nat) : List (Nat × Nat) → (Nat → Nat → Nat) → (Nat → Nat) → Nat
  | [], _, _ => 1
  | p :: r, ce, us => fiV (fun v => fiL k A B C r (uc ce p.1 p.2 v) (uu us v)) (fok A B C p ce us) k 1 0
theorem fiV_s (g : Nat → Nat) (ok : Nat → Bool) (n v m : Nat) : fiV g ok (n + 1) v m = fiV g ok n (v + 1) (if ok v = true then m + g v else m) := rfl
theorem fiV_skip (g : Nat → Nat) (ok : Nat → Bool) : ∀ j n v m, (∀ x, v ≤ x → x < v + j → ok x = false) → fiV g ok (j + n) v m = fiV g ok n (v + j) m
  | 0, n, v, m, _ => by rw [Nat.zero_add]; rfl
  | j + 1, n, v, m, h => by
    rw [show j + 1 + n = (j + n) + 1 by omega, fiV_s, if_neg (by rw [h v (Nat.le_refl _) (by omega)]; decide), fiV_skip g ok j n (v + 1) m (fun x a b => h x (by omega) (by omega)), show v + 1 + j = v + (j + 1) by omega]
theorem fiV_out (g : Nat → Nat) (ok : Nat → Bool) (n v m : Nat) (h : ∀ x, v ≤ x → x < v + n → ok x = false) : fiV g ok n v m = m := by
  have q := fiV_skip g ok n 0 v m h
  rw [Nat.add_zero] at q
  exact q
def rowP (r : Nat) : Nat → Nat → List (Nat × Nat)
  | _, 0 => []
  | c, n + 1 => (r, c) :: rowP r (c - 1) n
def plR (A C : Nat → Nat) : Nat → Nat → List (Nat × Nat)
  | 0, _ => []
  | j + 1, r => rowP r (C r) (C r - A r) ++ plR A C j (r + 1)
/-- the places from one on -/
def rsP (k : Nat) (A C : Nat → Nat) (row col : Nat) : List (Nat × Nat) := rowP row col (col - A row) ++ plR A C (k - row) (row + 1)
theorem rsP_c {k : Nat} {A C : Nat → Nat} {row col : Nat} (h : A row < col) : rsP k A C row col = (row, col) :: rsP k A C row (col - 1) := by
  unfold rsP
  rw [show col - A row = (col - 1 - A row) + 1 by omega]
  rfl
theorem rsP_e (k : Nat) (A C : Nat → Nat) : rsP k A C (k + 1) 0 = [] := by
  unfold rsP
  rw [Nat.zero_sub, show k - (k + 1) = 0 by omega]
  rfl
theorem rsP_d {k : Nat} {A C : Nat → Nat} {row col : Nat} (h : col = A row) (hr : row < k) : rsP k A C row col = rsP k A C (row + 1) (C (row + 1)) := by
  unfold rsP
  rw [h, Nat.sub_self, show k - row = (k - (row + 1)) + 1 by omega]
  rfl
theorem rsP_l {k : Nat} {A C : Nat → Nat} {row col : Nat} (h : col = A row) (hr : row = k) : rsP k A C row col = rsP k A C (row + 1) 0 := by
  rw [hr, rsP_e]
  unfold rsP
  rw [h, hr, Nat.sub_self, Nat.sub_self]
  rfl
def fbx (k : Nat) (A B C : Nat → Nat) : Prop := k ≤ 4 ∧ (∀ r, 1 ≤ r → r ≤ k → A r ≤ C r ∧ C r ≤ 4) ∧ (∀ r, 1 ≤ r → r + 1 ≤ k → C (r + 1) ≤ C r) ∧ ∀ v, 1 ≤ v → v ≤ k → B v ≤ 9
def gon (A C : Nat → Nat) (row col r c : Nat) : Prop := 1 ≤ r ∧ A r < c ∧ c ≤ C r ∧ (r < row ∨ r = row ∧ col < c)
/-- the filler, gone through up to a place -/
def fpc (G : Nat → Nat → Int32) (k : Nat) (A B C : Nat → Nat) (ce : Nat → Nat → Nat) (us : Nat → Nat) (row col : Nat) : Prop :=
  (∀ r, 1 ≤ r → r ≤ k → G 17 r = nI (A r) ∧ G 18 r = nI (C r)) ∧ (∀ v, 1 ≤ v → v ≤ k → G 19 v = nI (B v - us v) ∧ us v ≤ B v ∧ G 20 v = nI (us v)) ∧ ∀ r c, r ≤ k → gon A C row col r c → G (22 + r) c = nI (ce r c) ∧ 1 ≤ ce r c ∧ ce r c ≤ k
def offf (G G2 : Nat → Nat → Int32) : Prop := ∀ i, i ≠ 19 → i ≠ 20 → ¬ (22 ≤ i ∧ i ≤ 26) → G2 i = G i
def qfi (G : Nat → Nat → Int32) (L : Nat → Nat → Int64) (k : Nat) (A B C : Nat → Nat) (ce : Nat → Nat → Nat) (us : Nat → Nat) (row col : Nat) (v : Nat) : Option Value → fv_F → Option Nat → Prop := fun r2 f2 al2 => ∃ G2 : Nat → Nat → Int32, r2 = some (.int (nI v)) ∧ f2 = fw cT G2 L ∧ al2 = none ∧ fpc G2 k A B C ce us row col ∧ offf G G2
theorem fpc_in {G : Nat → Nat → Int32} {k : Nat} {A B C : Nat → Nat} {ce : Nat → Nat → Nat} {us : Nat → Nat} {row col v : Nat} (hp : fpc G k A B C ce us row col) (hk : k ≤ 4) (h1 : 1 ≤ row) (h2 : row ≤ k) (h3 : A row < col) (h4 : col ≤ C row) (v1 : 1 ≤ v) (v2 : v ≤ k) (hu : us v < B v) : fpc (g2 (g2 (g2 G (22 + row) col (nI v)) 19 v (nI (B v - us v - 1))) 20 v (nI (us v + 1))) k A B C (uc ce row col v) (uu us v) row (col - 1) := by
  obtain ⟨a, b, c⟩ := hp
  refine ⟨fun r r1 r2 => ?_, fun x x1 x2 => ?_, fun r c2 r1 hg => ?_⟩
  · have q := a r r1 r2
    rw [g2_ne _ _ (by omega), g2_ne _ _ (by omega), g2_ne _ _ (by omega), g2_ne _ _ (by omega), g2_ne _ _ (by omega), g2_ne _ _ (by omega)]
    exact q
  · obtain ⟨q1, q2, q3⟩ := b x x1 x2
    unfold uu
    by_cases e : x = v
    · rw [e, if_pos rfl, g2_eq, g2_ne _ _ (by omega), g2_eq]
      exact ⟨congrArg nI (by omega), by omega, rfl⟩
    · rw [if_neg e, g2_ne _ _ (by omega), g2_ne _ _ (by omega), g2_ne _ _ (by omega), g2_ne _ _ (by omega), g2_ne _ _ (by omega), g2_ne _ _ (by omega)]
      exact ⟨q1, q2, q3⟩
  · rw [g2_ne _ _ (by omega), g2_ne _ _ (by omega)]
    unfold uc
    by_cases e : r = row ∧ c2 = col
    · rw [if_pos e, e.1, e.2, g2_eq]
      exact ⟨rfl, v1, v2⟩
    · rw [if_neg e, g2_ne _ _ (by omega)]
      unfold gon at hg
      exact c r c2 r1 (by unfold gon; omega)
theorem fpc_out {G : Nat → Nat → Int32} {k : Nat} {A B C : Nat → Nat} {ce : Nat → Nat → Nat} {us : Nat → Nat} {row col v : Nat} (hp : fpc G k A B C (uc ce row col v) (uu us v) row (col - 1)) (hu : us v < B v) : fpc (g2 (g2 G 19 v (nI (B v - (us v + 1) + 1))) 20 v (nI (us v + 1 - 1))) k A B C ce us row col := by
  obtain ⟨a, b, c⟩ := hp
  refine ⟨fun r r1 r2 => ?_, fun x x1 x2 => ?_, fun r c2 r1 hg => ?_⟩
  · have q := a r r1 r2
    rw [g2_ne _ _ (by omega), g2_ne _ _ (by omega), g2_ne _ _ (by omega), g2_ne _ _ (by omega)]
    exact q
  · obtain ⟨q1, q2, q3⟩ := b x x1 x2
    unfold uu at q1 q2 q3
    by_cases e : x = v
    · rw [e, g2_eq, g2_ne _ _ (by omega), g2_eq]
      exact ⟨congrArg nI (by omega), by omega, rfl⟩
    · rw [if_neg e] at q1 q2 q3
      rw [g2_ne _ _ (by omega), g2_ne _ _ (by omega), g2_ne _ _ (by omega), g2_ne _ _ (by omega)]
      exact ⟨q1, q2, q3⟩
  · rw [g2_ne _ _ (by omega), g2_ne _ _ (by omega)]
    have q := c r c2 r1 (by unfold gon at hg ⊢; omega)
    unfold uc at q
    unfold gon at hg
    rw [if_neg (by omega)] at q
    exact q

theorem fpc_n {G : Nat → Nat → Int32} {k : Nat} {A B C : Nat → Nat} {ce : Nat → Nat → Nat} {us : Nat → Nat} {row col row2 col2 : Nat} (hp : fpc G k A B C ce us row col) (h : ∀ r c, r ≤ k → gon A C row2 col2 r c → gon A C row col r c) : fpc G k A B C ce us row2 col2 := ⟨hp.1, hp.2.1, fun r c r1 hg => hp.2.2 r c r1 (h r c r1 hg)⟩

set_option maxRecDepth 4000 in
set_option maxHeartbeats 1000000 in
theorem C4_fill_1 (k : Nat) (A B C : Nat → Nat) (hb : fbx k A B C) (L : Nat → Nat → Int64) (n row col : Nat) (ce : Nat → Nat → Nat) (us : Nat → Nat) (G : Nat → Nat → Int32) (h1 : 1 ≤ row) (h2 : row ≤ k + 1) (h3 : row ≤ k → A row ≤ col ∧ col ≤ C row) (h4 : row = k + 1 → col = 0) (hn : (rsP k A C row col).length + (k + 1 - row) ≤ n) (hp : fpc G k A B C ce us row col) (ih : ∀ (n2 row2 col2 : Nat) (ce2 : Nat → Nat → Nat) (us2 : Nat → Nat) (G2 : Nat → Nat → Int32), n2 < n → 1 ≤ row2 → row2 ≤ k + 1 → (row2 ≤ k → A row2 ≤ col2 ∧ col2 ≤ C row2) → (row2 = k + 1 → col2 = 0) → (rsP k A C row2 col2).length + (k + 1 - row2) ≤ n2 → fpc G2 k A B C ce2 us2 row2 col2 → fv_M Y4_fill (1 + n2) 0 0 [.ref 16, .int (nI k), .int (nI row2), .int (nI col2)] (fw cT G2 L) none (qfi G2 L k A B C ce2 us2 row2 col2 (fiL k A B C (rsP k A C row2 col2) ce2 us2))) : fv_M Y4_fill (1 + n) 0 0 [.ref 16, .int (nI k), .int (nI row), .int (nI col)] (fw cT G L) none (qfi G L k A B C ce us row col (fiL k A B C (rsP k A C row col) ce us)) := by
  refine fv_enter rfl (Nat.le_of_ble_eq_true rfl) ?_
  obtain ⟨Q, hQ⟩ : ∃ Q : Option Value → fv_F → Option Nat → Prop, Q = (qfi G L k A B C ce us row col (fiL k A B C (rsP k A C row col) ce us)) := ⟨_, rfl⟩
  rw [← hQ]
  show fv_At Y4_fill (1 + n) 0 0 Q 0 [(0, .ref 16), (1, .int (nI k)), (2, .int (nI row)), (3, .int (nI col))] [] (fw cT G L) none 0 0
  have hk4 := hb.1
  refine fx_iload_n dX4_fill_0 rfl (i := 2) rfl ?_
  refine fx_iload_n dX4_fill_1 rfl (i := 1) rfl ?_
  refine fn_icmp_gt (tgt := 10) dX4_fill_2 (by decide) (by omega) (by omega) (fun c2 => ?_) (fun c2 => ?_)
  · skip
    refine fx_iconst (v := (nI 1)) dX4_fill_10 (by decide) ?_
    exact fx_iret dX4_fill_11 rfl rfl rfl (by rw [hQ]; exact ⟨G, by rw [show row = k + 1 by omega, h4 (by omega), rsP_e]; rfl, rfl, rfl, hp, fun _ _ _ _ => rfl⟩)
  · skip
    refine fx_iload_n dX4_fill_5 rfl (i := 2) rfl ?_
    refine fx_iconst (v := (nI 4)) dX4_fill_6 (by decide) ?_
    refine fn_icmp_le (tgt := 12) dX4_fill_7 (by decide) (by omega) (by omega) (fun c7 => ?_) (fun c7 => ?_)
    · skip
      have h5 := h3 (by omega)
      have h6 := hb.2.1 row (by omega) (by omega)
      refine fx_iload_n dX4_fill_12 rfl (i := 3) rfl ?_
      refine fx_aload_n dX4_fill_13 rfl (i := 0) rfl ?_
      refine fw_getr dX4_fill_14 fd4_9 rfl rfl ?_
      refine fx_iload_n dX4_fill_17 rfl (i := 2) rfl ?_
      refine fw_iald row dX4_fill_18 rfl rfl (by omega) (by decide) ?_
      refine fn_to (show _ = (nI (A row)) from (hp.1 row (by omega) (by omega)).1) ?_
      refine fn_icmp_le (tgt := 27) dX4_fill_19 (by decide) (by omega) (by omega) (fun c19 => ?_) (fun c19 => ?_)
      · skip
        refine fx_aload_n dX4_fill_27 rfl (i := 0) rfl ?_
        refine fx_iload_n dX4_fill_28 rfl (i := 1) rfl ?_
        refine fx_iload_n dX4_fill_29 rfl (i := 2) rfl ?_
        refine fx_iconst (v := (nI 1)) dX4_fill_30 (by decide) ?_
        refine fn_iadd dX4_fill_31 ?_
        refine fx_iload_n dX4_fill_32 rfl (i := 2) rfl ?_
        refine fx_iload_n dX4_fill_33 rfl (i := 1) rfl ?_
        refine fn_icmp_ge (tgt := 48) dX4_fill_34 (by decide) (by omega) (by omega) (fun c34 => ?_) (fun c34 => ?_)
        · skip
          refine fx_iconst (v := (nI 0)) dX4_fill_48 (by decide) ?_
          have hrs : rsP k A C row col = rsP k A C (row + 1) 0 := rsP_l (by omega) (by omega)
          skip
          have hih := ih (n - 1) (row + 1) 0 ce us G (by omega) (by omega) (by omega) (fun _ => by omega) (fun _ => by omega) (by rw [← hrs]; omega) (fpc_n hp (fun r c2 r1 hg => by unfold gon at hg ⊢; by_cases z : r = row + 1; (subst z; omega); by_cases z2 : r = row; (subst z2; omega); omega))
          refine fx_callS dX4_fill_49 lk4_44 hih rfl rfl (by omega) (Nat.le_of_ble_eq_true rfl) (by decide) (by decide) (fun r49 f49 al49 h49 => ?_)
          obtain ⟨G49, rfl, rfl, rfl, hp49, ho49⟩ := h49
          show fv_At Y4_fill (1 + n) 0 0 Q 52 [(0, .ref 16), (1, .int (nI k)), (2, .int (nI row)), (3, .int (nI col))] [.int (nI (fiL k A B C (rsP k A C (row + 1) 0) ce us))] (fw cT G49 L) none 0 0
          exact fx_iret dX4_fill_52 rfl rfl rfl (by rw [hQ]; exact ⟨G49, by rw [hrs], rfl, rfl, fpc_n hp49 (fun r c2 r1 hg => by unfold gon at hg ⊢; omega), ho49⟩)
        · skip
          refine fx_aload_n dX4_fill_37 rfl (i := 0) rfl ?_
          refine fw_getr dX4_fill_38 fd4_15 rfl rfl ?_
          refine fx_iload_n dX4_fill_41 rfl (i := 2) rfl ?_
          refine fx_iconst (v := (nI 1)) dX4_fill_42 (by decide) ?_
          refine fn_iadd dX4_fill_43 ?_
          refine fw_iald (row + 1) dX4_fill_44 rfl rfl (by omega) (by decide) ?_
          refine fn_to (show _ = (nI (C (row + 1))) from (hp.1 (row + 1) (by omega) (by omega)).2) ?_
          refine fx_goto (tgt := 49) dX4_fill_45 (by decide) ?_
          have hrs : rsP k A C row col = rsP k A C (row + 1) (C (row + 1)) := rsP_d (by omega) (by omega)
          have hbr := hb.2.1 (row + 1) (by omega)
          have hih := ih (n - 1) (row + 1) (C (row + 1)) ce us G (by omega) (by omega) (by omega) (fun _ => by have := hbr (by omega); omega) (fun _ => by omega) (by rw [← hrs]; omega) (fpc_n hp (fun r c2 r1 hg => by unfold gon at hg ⊢; by_cases z : r = row + 1; (subst z; omega); by_cases z2 : r = row; (subst z2; omega); omega))
          refine fx_callS dX4_fill_49 lk4_44 hih rfl rfl (by omega) (Nat.le_of_ble_eq_true rfl) (by decide) (by decide) (fun r49 f49 al49 h49 => ?_)
          obtain ⟨G49, rfl, rfl, rfl, hp49, ho49⟩ := h49
          show fv_At Y4_fill (1 + n) 0 0 Q 52 [(0, .ref 16), (1, .int (nI k)), (2, .int (nI row)), (3, .int (nI col))] [.int (nI (fiL k A B C (rsP k A C (row + 1) (C (row + 1))) ce us))] (fw cT G49 L) none 0 0
          exact fx_iret dX4_fill_52 rfl rfl rfl (by rw [hQ]; exact ⟨G49, by rw [hrs], rfl, rfl, fpc_n hp49 (fun r c2 r1 hg => by unfold gon at hg ⊢; omega), ho49⟩)
      · skip
        refine fx_iload_n dX4_fill_22 rfl (i := 3) rfl ?_
        refine fx_iconst (v := (nI 4)) dX4_fill_23 (by decide) ?_
        refine fn_icmp_le (tgt := 53) dX4_fill_24 (by decide) (by omega) (by omega) (fun c24 => ?_) (fun c24 => ?_)
        · skip
          obtain ⟨lo, hlo⟩ : ∃ z, z = if 1 < row ∧ A (row - 1) < col then ce (row - 1) col + 1 else 1 := ⟨_, rfl⟩
          obtain ⟨hi, hhi⟩ : ∃ z, z = if col < C row then ce row (col + 1) else k := ⟨_, rfl⟩
          have hlo1 : 1 < row → A (row - 1) < col → lo = ce (row - 1) col + 1 ∧ 1 ≤ lo ∧ lo ≤ k + 1 ∧ G (22 + (row - 1)) col = nI (ce (row - 1) col) := by
            intro w1 w2
            have w3 := hb.2.2.1 (row - 1) (by omega) (by omega)
            rw [show row - 1 + 1 = row by omega] at w3
            have w4 := hp.2.2 (row - 1) col (by omega) (by unfold gon; omega)
            rw [if_pos ⟨w1, w2⟩] at hlo
            exact ⟨hlo, by omega, by omega, w4.1⟩
          have hlo2 : ¬ (1 < row ∧ A (row - 1) < col) → lo = 1 := fun w => by rw [hlo, if_neg w]
          have hhi1 : col < C row → hi = ce row (col + 1) ∧ hi ≤ k ∧ G (22 + row) (col + 1) = nI (ce row (col + 1)) := by
            intro w1
            have w4 := hp.2.2 row (col + 1) (by omega) (by unfold gon; omega)
            rw [if_pos w1] at hhi
            exact ⟨hhi, by omega, w4.1⟩
          have hhi2 : ¬ col < C row → hi = k := fun w => by rw [hhi, if_neg w]
          have hlo3 : 1 ≤ lo ∧ lo ≤ k + 1 := by by_cases w : 1 < row ∧ A (row - 1) < col; (have := hlo1 w.1 w.2; omega); (have := hlo2 w; omega)
          have hhi3 : hi ≤ k := by by_cases w : col < C row; (have := hhi1 w; omega); (have := hhi2 w; omega)
          have hrc := rsP_c (k := k) (C := C) (show A row < col by omega)
          have hfl : fiL k A B C (rsP k A C row col) ce us = fiV (fun v => fiL k A B C (rsP k A C row (col - 1)) (uc ce row col v) (uu us v)) (fok A B C (row, col) ce us) k 1 0 := by rw [hrc]; rfl
          refine fx_iload_n dX4_fill_53 rfl (i := 2) rfl ?_
          refine fx_iconst (v := (nI 1)) dX4_fill_54 (by decide) ?_
          refine fn_icmp_le (tgt := 74) dX4_fill_55 (by decide) (by omega) (by omega) (fun c55 => ?_) (fun c55 => ?_)
          · skip
            refine fx_iconst (v := (nI 0)) dX4_fill_74 (by decide) ?_
            refine fn_to (show _ = (bI false) from rfl) ?_
            refine fx_istore (lv2 := [(0, .ref 16), (1, .int (nI k)), (2, .int (nI row)), (3, .int (nI col)), (4, .int (bI false))]) dX4_fill_75 (by decide) rfl ?_
            refine fx_iload dX4_fill_77 rfl ?_
            refine fn_if_eqB (tgt := 97) dX4_fill_79 (by decide) (fun c79 => ?_) (fun c79 => ?_)
            · skip
              refine fx_iconst (v := (nI 1)) dX4_fill_97 (by decide) ?_
              refine fn_to (show _ = (nI lo) from (congrArg nI (hlo2 (by omega)).symm)) ?_
              refine fx_istore (lv2 := [(0, .ref 16), (1, .int (nI k)), (2, .int (nI row)), (3, .int (nI col)), (4, .int (bI false)), (5, .int (nI lo))]) dX4_fill_98 (by decide) rfl ?_
              refine fx_iload_n dX4_fill_100 rfl (i := 3) rfl ?_
              refine fx_aload_n dX4_fill_101 rfl (i := 0) rfl ?_
              refine fw_getr dX4_fill_102 fd4_15 rfl rfl ?_
              refine fx_iload_n dX4_fill_105 rfl (i := 2) rfl ?_
              refine fw_iald row dX4_fill_106 rfl rfl (by omega) (by decide) ?_
              refine fn_to (show _ = (nI (C row)) from (hp.1 row (by omega) (by omega)).2) ?_
              refine fn_icmp_ge (tgt := 123) dX4_fill_107 (by decide) (by omega) (by omega) (fun c107 => ?_) (fun c107 => ?_)
              · skip
                refine fx_iload_n dX4_fill_123 rfl (i := 1) rfl ?_
                refine fn_to (show _ = (nI hi) from (congrArg nI (hhi2 (by omega)).symm)) ?_
                refine fx_istore (lv2 := [(0, .ref 16), (1, .int (nI k)), (2, .int (nI row)), (3, .int (nI col)), (4, .int (bI false)), (5, .int (nI lo)), (6, .int (nI hi))]) dX4_fill_124 (by decide) rfl ?_
                refine fx_iconst (v := (nI 0)) dX4_fill_126 (by decide) ?_
                refine fx_istore (lv2 := [(0, .ref 16), (1, .int (nI k)), (2, .int (nI row)), (3, .int (nI col)), (4, .int (bI false)), (5, .int (nI lo)), (6, .int (nI hi)), (7, .int (nI 0))]) dX4_fill_127 (by decide) rfl ?_
                refine fx_iload dX4_fill_129 rfl ?_
                refine fx_iconst (v := (nI 1)) dX4_fill_131 (by decide) ?_
                refine fx_mmax dX4_fill_132 lk4_48 (by omega) (by omega) (by omega) (Nat.le_of_ble_eq_true rfl) ?_
                refine fx_istore (lv2 := [(0, .ref 16), (1, .int (nI k)), (2, .int (nI row)), (3, .int (nI col)), (4, .int (bI false)), (5, .int (nI lo)), (6, .int (nI hi)), (7, .int (nI 0)), (8, .int (nI (max lo 1)))]) dX4_fill_135 (by decide) rfl ?_
                have L137 : ∀ (k5 : Nat) (v : Nat) (m : Nat) (G1 : Nat → Nat → Int32), (1 ≤ v) → (min hi k + 1 ≤ v + k5) → (lo ≤ v ∧ v ≤ k + 1) → (fpc G1 k A B C ce us row col) → (offf G G1) → (fiV (fun v => fiL k A B C (rsP k A C row (col - 1)) (uc ce row col v) (uu us v)) (fok A B C (row, col) ce us) (k + 1 - v) v m = fiV (fun v => fiL k A B C (rsP k A C row (col - 1)) (uc ce row col v) (uu us v)) (fok A B C (row, col) ce us) k 1 0) → fv_At Y4_fill (1 + n) 0 0 Q 137 [(0, .ref 16), (1, .int (nI k)), (2, .int (nI row)), (3, .int (nI col)), (5, .int (nI lo)), (6, .int (nI hi)), (7, .int (nI m)), (8, .int (nI v))] [] (fw cT G1 L) none 0 0 := by
                  intro k5
                  induction k5 with
                  | zero =>
                    intro v m G1 hv hM hlv hp1 ho1 hR
                    refine fx_iload dX4_fill_137 rfl ?_
                    refine fx_iload dX4_fill_139 rfl ?_
                    refine fx_iload_n dX4_fill_141 rfl (i := 1) rfl ?_
                    refine fx_mmin dX4_fill_142 lk4_39 (by omega) (by omega) (by omega) (Nat.le_of_ble_eq_true rfl) ?_
                    refine fn_icmp_gt (tgt := 257) dX4_fill_145 (by decide) (by omega) (by omega) (fun c145 => ?_) (fun c145 => ?_)
                    · skip
                      refine fx_iload dX4_fill_257 rfl ?_
                      exact fx_iret dX4_fill_259 rfl rfl rfl (by rw [hQ]; exact ⟨G1, by rw [hfl, ← hR, fiV_out _ _ _ _ _ (fun x x1 x2 => by unfold fok; refine decide_eq_false (fun w => ?_); by_cases z : col < C row; (have z1 := w.2.2.2 z; have z2 := (hhi1 z).1; dsimp only at z1; omega); (have z2 := hhi2 z; omega))], rfl, rfl, hp1, ho1⟩)
                    · exfalso; omega
                  | succ k5 ih137 =>
                    intro v m G1 hv hM hlv hp1 ho1 hR
                    refine fx_iload dX4_fill_137 rfl ?_
                    refine fx_iload dX4_fill_139 rfl ?_
                    refine fx_iload_n dX4_fill_141 rfl (i := 1) rfl ?_
                    refine fx_mmin dX4_fill_142 lk4_39 (by omega) (by omega) (by omega) (Nat.le_of_ble_eq_true rfl) ?_
                    refine fn_icmp_gt (tgt := 257) dX4_fill_145 (by decide) (by omega) (by omega) (fun c145 => ?_) (fun c145 => ?_)
                    · skip
                      refine fx_iload dX4_fill_257 rfl ?_
                      exact fx_iret dX4_fill_259 rfl rfl rfl (by rw [hQ]; exact ⟨G1, by rw [hfl, ← hR, fiV_out _ _ _ _ _ (fun x x1 x2 => by unfold fok; refine decide_eq_false (fun w => ?_); by_cases z : col < C row; (have z1 := w.2.2.2 z; have z2 := (hhi1 z).1; dsimp only at z1; omega); (have z2 := hhi2 z; omega))], rfl, rfl, hp1, ho1⟩)
                    · skip
                      have hvk : v ≤ k := by omega
                      have hus := (hp1.2.1 v (by omega) (by omega))
                      have hB9 := hb.2.2.2 v (by omega) (by omega)
                      refine fx_aload_n dX4_fill_148 rfl (i := 0) rfl ?_
                      refine fw_getr dX4_fill_149 fd4_18 rfl rfl ?_
                      refine fx_iload dX4_fill_152 rfl ?_
                      refine fw_iald v dX4_fill_154 rfl rfl (by omega) (by decide) ?_
                      refine fn_to (show _ = (nI (B v - us v)) from hus.1) ?_
                      refine fn_if_le (tgt := 251) dX4_fill_155 (by decide) (by omega) (fun c155 => ?_) (fun c155 => ?_)
                      · skip
                        refine fn_iinc (c := 1) (lv2 := [(0, .ref 16), (1, .int (nI k)), (2, .int (nI row)), (3, .int (nI col)), (5, .int (nI lo)), (6, .int (nI hi)), (7, .int (nI m)), (8, .int (nI (v + 1)))]) dX4_fill_251 (by decide) rfl (by decide) rfl ?_
                        refine fx_goto (tgt := 137) dX4_fill_254 (by decide) ?_
                        exact (ih137 (v + 1) m G1 (by omega) (by omega) (by omega) hp1 ho1 (by rw [← hR, show k + 1 - v = (k + 1 - (v + 1)) + 1 by omega, fiV_s, if_neg (by unfold fok; intro w; have w2 := of_decide_eq_true w; omega)]))
                      · skip
                        refine fx_iload dX4_fill_158 rfl ?_
                        refine fx_iconst (v := (nI 1)) dX4_fill_160 (by decide) ?_
                        refine fn_icmp_eq (tgt := 183) dX4_fill_161 (by decide) (by omega) (by omega) (fun c161 => ?_) (fun c161 => ?_)
                        · skip
                          refine fx_aload_n dX4_fill_183 rfl (i := 0) rfl ?_
                          refine fw_getr dX4_fill_184 fd4_26 rfl rfl ?_
                          refine fx_iload_n dX4_fill_187 rfl (i := 2) rfl ?_
                          refine fw_aald (r := 22 + row) row dX4_fill_188 rfl (by decide) rfl (by omega) (by decide) (cel_at (by omega)) ?_
                          refine fx_iload_n dX4_fill_189 rfl (i := 3) rfl ?_
                          refine fx_iload dX4_fill_190 rfl ?_
                          refine fw_iast col dX4_fill_192 (cel_lay (by omega)) rfl (by omega) (by decide) ?_
                          refine fx_aload_n dX4_fill_193 rfl (i := 0) rfl ?_
                          refine fw_getr dX4_fill_194 fd4_18 rfl rfl ?_
                          refine fx_iload dX4_fill_197 rfl ?_
                          refine fx_dup2 dX4_fill_199 rfl rfl ?_
                          refine fw_iald v dX4_fill_200 rfl rfl (by omega) (by decide) ?_
                          refine fn_to (show _ = (nI (B v - us v)) from (by rw [g2_ne _ _ (by omega)]; exact hus.1)) ?_
                          refine fx_iconst (v := (nI 1)) dX4_fill_201 (by decide) ?_
                          refine fn_isub dX4_fill_202 (by omega) ?_
                          refine fw_iast v dX4_fill_203 rfl rfl (by omega) (by decide) ?_
                          refine fx_aload_n dX4_fill_204 rfl (i := 0) rfl ?_
                          refine fw_getr dX4_fill_205 fd4_21 rfl rfl ?_
                          refine fx_iload dX4_fill_208 rfl ?_
                          refine fx_dup2 dX4_fill_210 rfl rfl ?_
                          refine fw_iald v dX4_fill_211 rfl rfl (by omega) (by decide) ?_
                          refine fn_to (show _ = (nI (us v)) from (by rw [g2_ne _ _ (by omega), g2_ne _ _ (by omega)]; exact hus.2.2)) ?_
                          refine fx_iconst (v := (nI 1)) dX4_fill_212 (by decide) ?_
                          refine fn_iadd dX4_fill_213 ?_
                          refine fw_iast v dX4_fill_214 rfl rfl (by omega) (by decide) ?_
                          refine fx_iload dX4_fill_215 rfl ?_
                          refine fx_aload_n dX4_fill_217 rfl (i := 0) rfl ?_
                          refine fx_iload_n dX4_fill_218 rfl (i := 1) rfl ?_
                          refine fx_iload_n dX4_fill_219 rfl (i := 2) rfl ?_
                          refine fx_iload_n dX4_fill_220 rfl (i := 3) rfl ?_
                          refine fx_iconst (v := (nI 1)) dX4_fill_221 (by decide) ?_
                          refine fn_isub dX4_fill_222 (by omega) ?_
                          have hp2 := fpc_in hp1 hk4 h1 (by omega) (show A row < col by omega) (by omega) hv hvk (show us v < B v by omega)
                          have hih2 := ih (n - 1) row (col - 1) (uc ce row col v) (uu us v) _ (by rw [hrc] at hn; rw [List.length_cons] at hn; omega) h1 (by omega) (fun _ => by omega) (fun _ => by omega) (by rw [hrc] at hn; rw [List.length_cons] at hn; omega) hp2
                          refine fx_callS dX4_fill_223 lk4_44 hih2 rfl rfl (by omega) (Nat.le_of_ble_eq_true rfl) (by decide) (by decide) (fun r223 f223 al223 h223 => ?_)
                          obtain ⟨G223, rfl, rfl, rfl, hp223, ho223⟩ := h223
                          show fv_At Y4_fill (1 + n) 0 0 Q 226 [(0, .ref 16), (1, .int (nI k)), (2, .int (nI row)), (3, .int (nI col)), (5, .int (nI lo)), (6, .int (nI hi)), (7, .int (nI m)), (8, .int (nI v))] [.int (nI (fiL k A B C (rsP k A C row (col - 1)) (uc ce row col v) (uu us v))), .int (nI m)] (fw cT G223 L) none 0 0
                          refine fn_iadd dX4_fill_226 ?_
                          refine fx_istore (lv2 := [(0, .ref 16), (1, .int (nI k)), (2, .int (nI row)), (3, .int (nI col)), (5, .int (nI lo)), (6, .int (nI hi)), (7, .int (nI (m + (fiL k A B C (rsP k A C row (col - 1)) (uc ce row col v) (uu us v))))), (8, .int (nI v))]) dX4_fill_227 (by decide) rfl ?_
                          refine fx_aload_n dX4_fill_229 rfl (i := 0) rfl ?_
                          refine fw_getr dX4_fill_230 fd4_18 rfl rfl ?_
                          refine fx_iload dX4_fill_233 rfl ?_
                          refine fx_dup2 dX4_fill_235 rfl rfl ?_
                          refine fw_iald v dX4_fill_236 rfl rfl (by omega) (by decide) ?_
                          refine fn_to (show _ = (nI (B v - (us v + 1))) from (by have w := (hp223.2.1 v (by omega) (by omega)).1; unfold uu at w; rw [if_pos rfl] at w; exact w)) ?_
                          refine fx_iconst (v := (nI 1)) dX4_fill_237 (by decide) ?_
                          refine fn_iadd dX4_fill_238 ?_
                          refine fw_iast v dX4_fill_239 rfl rfl (by omega) (by decide) ?_
                          refine fx_aload_n dX4_fill_240 rfl (i := 0) rfl ?_
                          refine fw_getr dX4_fill_241 fd4_21 rfl rfl ?_
                          refine fx_iload dX4_fill_244 rfl ?_
                          refine fx_dup2 dX4_fill_246 rfl rfl ?_
                          refine fw_iald v dX4_fill_247 rfl rfl (by omega) (by decide) ?_
                          refine fn_to (show _ = (nI (us v + 1)) from (by rw [g2_ne _ _ (by omega)]; have w := (hp223.2.1 v (by omega) (by omega)).2.2; unfold uu at w; rw [if_pos rfl] at w; exact w)) ?_
                          refine fx_iconst (v := (nI 1)) dX4_fill_248 (by decide) ?_
                          refine fn_isub dX4_fill_249 (by omega) ?_
                          refine fw_iast v dX4_fill_250 rfl rfl (by omega) (by decide) ?_
                          refine fn_iinc (c := 1) (lv2 := [(0, .ref 16), (1, .int (nI k)), (2, .int (nI row)), (3, .int (nI col)), (5, .int (nI lo)), (6, .int (nI hi)), (7, .int (nI (m + (fiL k A B C (rsP k A C row (col - 1)) (uc ce row col v) (uu us v))))), (8, .int (nI (v + 1)))]) dX4_fill_251 (by decide) rfl (by decide) rfl ?_
                          refine fx_goto (tgt := 137) dX4_fill_254 (by decide) ?_
                          exact (ih137 (v + 1) (m + (fiL k A B C (rsP k A C row (col - 1)) (uc ce row col v) (uu us v))) (g2 (g2 G223 19 v ((nI ((B v - (us v + 1)) + 1)))) 20 v ((nI ((us v + 1) - 1)))) (by omega) (by omega) (by omega) (fpc_out hp223 (by omega)) (fun i a b c => by rw [g2_row _ _ b, g2_row _ _ a, ho223 i a b c, g2_row _ _ b, g2_row _ _ a, g2_row _ _ (by omega)]; exact ho1 i a b c) (by rw [← hR, show k + 1 - v = (k + 1 - (v + 1)) + 1 by omega, fiV_s, if_pos (by unfold fok; exact decide_eq_true ⟨by omega, by omega, fun w => by have := (hlo1 w.1 w.2).1; dsimp only; omega, fun w => by have := (hhi1 w).1; dsimp only; omega⟩)]))
                        · skip
                          have hus1 := (hp1.2.1 (v - 1) (by omega) (by omega)).2.1
                          have hB91 := hb.2.2.2 (v - 1) (by omega) (by omega)
                          refine fx_aload_n dX4_fill_164 rfl (i := 0) rfl ?_
                          refine fw_getr dX4_fill_165 fd4_21 rfl rfl ?_
                          refine fx_iload dX4_fill_168 rfl ?_
                          refine fw_iald v dX4_fill_170 rfl rfl (by omega) (by decide) ?_
                          refine fn_to (show _ = (nI (us v)) from hus.2.2) ?_
                          refine fx_aload_n dX4_fill_171 rfl (i := 0) rfl ?_
                          refine fw_getr dX4_fill_172 fd4_21 rfl rfl ?_
                          refine fx_iload dX4_fill_175 rfl ?_
                          refine fx_iconst (v := (nI 1)) dX4_fill_177 (by decide) ?_
                          refine fn_isub dX4_fill_178 (by omega) ?_
                          refine fw_iald (v - 1) dX4_fill_179 rfl rfl (by omega) (by decide) ?_
                          refine fn_to (show _ = (nI (us (v - 1))) from (hp1.2.1 (v - 1) (by omega) (by omega)).2.2) ?_
                          refine fn_icmp_ge (tgt := 251) dX4_fill_180 (by decide) (by omega) (by omega) (fun c180 => ?_) (fun c180 => ?_)
                          · skip
                            refine fn_iinc (c := 1) (lv2 := [(0, .ref 16), (1, .int (nI k)), (2, .int (nI row)), (3, .int (nI col)), (5, .int (nI lo)), (6, .int (nI hi)), (7, .int (nI m)), (8, .int (nI (v + 1)))]) dX4_fill_251 (by decide) rfl (by decide) rfl ?_
                            refine fx_goto (tgt := 137) dX4_fill_254 (by decide) ?_
                            exact (ih137 (v + 1) m G1 (by omega) (by omega) (by omega) hp1 ho1 (by rw [← hR, show k + 1 - v = (k + 1 - (v + 1)) + 1 by omega, fiV_s, if_neg (by unfold fok; intro w; have w2 := of_decide_eq_true w; omega)]))
                          · skip
                            refine fx_aload_n dX4_fill_183 rfl (i := 0) rfl ?_
                            refine fw_getr dX4_fill_184 fd4_26 rfl rfl ?_
                            refine fx_iload_n dX4_fill_187 rfl (i := 2) rfl ?_
                            refine fw_aald (r := 22 + row) row dX4_fill_188 rfl (by decide) rfl (by omega) (by decide) (cel_at (by omega)) ?_
                            refine fx_iload_n dX4_fill_189 rfl (i := 3) rfl ?_
                            refine fx_iload dX4_fill_190 rfl ?_
                            refine fw_iast col dX4_fill_192 (cel_lay (by omega)) rfl (by omega) (by decide) ?_
                            refine fx_aload_n dX4_fill_193 rfl (i := 0) rfl ?_
                            refine fw_getr dX4_fill_194 fd4_18 rfl rfl ?_
                            refine fx_iload dX4_fill_197 rfl ?_
                            refine fx_dup2 dX4_fill_199 rfl rfl ?_
                            refine fw_iald v dX4_fill_200 rfl rfl (by omega) (by decide) ?_
                            refine fn_to (show _ = (nI (B v - us v)) from (by rw [g2_ne _ _ (by omega)]; exact hus.1)) ?_
                            refine fx_iconst (v := (nI 1)) dX4_fill_201 (by decide) ?_
                            refine fn_isub dX4_fill_202 (by omega) ?_
                            refine fw_iast v dX4_fill_203 rfl rfl (by omega) (by decide) ?_
                            refine fx_aload_n dX4_fill_204 rfl (i := 0) rfl ?_
                            refine fw_getr dX4_fill_205 fd4_21 rfl rfl ?_
                            refine fx_iload dX4_fill_208 rfl ?_
                            refine fx_dup2 dX4_fill_210 rfl rfl ?_
                            refine fw_iald v dX4_fill_211 rfl rfl (by omega) (by decide) ?_
                            refine fn_to (show _ = (nI (us v)) from (by rw [g2_ne _ _ (by omega), g2_ne _ _ (by omega)]; exact hus.2.2)) ?_
                            refine fx_iconst (v := (nI 1)) dX4_fill_212 (by decide) ?_
                            refine fn_iadd dX4_fill_213 ?_
                            refine fw_iast v dX4_fill_214 rfl rfl (by omega) (by decide) ?_
                            refine fx_iload dX4_fill_215 rfl ?_
                            refine fx_aload_n dX4_fill_217 rfl (i := 0) rfl ?_
                            refine fx_iload_n dX4_fill_218 rfl (i := 1) rfl ?_
                            refine fx_iload_n dX4_fill_219 rfl (i := 2) rfl ?_
                            refine fx_iload_n dX4_fill_220 rfl (i := 3) rfl ?_
                            refine fx_iconst (v := (nI 1)) dX4_fill_221 (by decide) ?_
                            refine fn_isub dX4_fill_222 (by omega) ?_
                            have hp2 := fpc_in hp1 hk4 h1 (by omega) (show A row < col by omega) (by omega) hv hvk (show us v < B v by omega)
                            have hih2 := ih (n - 1) row (col - 1) (uc ce row col v) (uu us v) _ (by rw [hrc] at hn; rw [List.length_cons] at hn; omega) h1 (by omega) (fun _ => by omega) (fun _ => by omega) (by rw [hrc] at hn; rw [List.length_cons] at hn; omega) hp2
                            refine fx_callS dX4_fill_223 lk4_44 hih2 rfl rfl (by omega) (Nat.le_of_ble_eq_true rfl) (by decide) (by decide) (fun r223 f223 al223 h223 => ?_)
                            obtain ⟨G223, rfl, rfl, rfl, hp223, ho223⟩ := h223
                            show fv_At Y4_fill (1 + n) 0 0 Q 226 [(0, .ref 16), (1, .int (nI k)), (2, .int (nI row)), (3, .int (nI col)), (5, .int (nI lo)), (6, .int (nI hi)), (7, .int (nI m)), (8, .int (nI v))] [.int (nI (fiL k A B C (rsP k A C row (col - 1)) (uc ce row col v) (uu us v))), .int (nI m)] (fw cT G223 L) none 0 0
                            refine fn_iadd dX4_fill_226 ?_
                            refine fx_istore (lv2 := [(0, .ref 16), (1, .int (nI k)), (2, .int (nI row)), (3, .int (nI col)), (5, .int (nI lo)), (6, .int (nI hi)), (7, .int (nI (m + (fiL k A B C (rsP k A C row (col - 1)) (uc ce row col v) (uu us v))))), (8, .int (nI v))]) dX4_fill_227 (by decide) rfl ?_
                            refine fx_aload_n dX4_fill_229 rfl (i := 0) rfl ?_
                            refine fw_getr dX4_fill_230 fd4_18 rfl rfl ?_
                            refine fx_iload dX4_fill_233 rfl ?_
                            refine fx_dup2 dX4_fill_235 rfl rfl ?_
                            refine fw_iald v dX4_fill_236 rfl rfl (by omega) (by decide) ?_
                            refine fn_to (show _ = (nI (B v - (us v + 1))) from (by have w := (hp223.2.1 v (by omega) (by omega)).1; unfold uu at w; rw [if_pos rfl] at w; exact w)) ?_
                            refine fx_iconst (v := (nI 1)) dX4_fill_237 (by decide) ?_
                            refine fn_iadd dX4_fill_238 ?_
                            refine fw_iast v dX4_fill_239 rfl rfl (by omega) (by decide) ?_
                            refine fx_aload_n dX4_fill_240 rfl (i := 0) rfl ?_
                            refine fw_getr dX4_fill_241 fd4_21 rfl rfl ?_
                            refine fx_iload dX4_fill_244 rfl ?_
                            refine fx_dup2 dX4_fill_246 rfl rfl ?_
                            refine fw_iald v dX4_fill_247 rfl rfl (by omega) (by decide) ?_
                            refine fn_to (show _ = (nI (us v + 1)) from (by rw [g2_ne _ _ (by omega)]; have w := (hp223.2.1 v (by omega) (by omega)).2.2; unfold uu at w; rw [if_pos rfl] at w; exact w)) ?_
                            refine fx_iconst (v := (nI 1)) dX4_fill_248 (by decide) ?_
                            refine fn_isub dX4_fill_249 (by omega) ?_
                            refine fw_iast v dX4_fill_250 rfl rfl (by omega) (by decide) ?_
                            refine fn_iinc (c := 1) (lv2 := [(0, .ref 16), (1, .int (nI k)), (2, .int (nI row)), (3, .int (nI col)), (5, .int (nI lo)), (6, .int (nI hi)), (7, .int (nI (m + (fiL k A B C (rsP k A C row (col - 1)) (uc ce row col v) (uu us v))))), (8, .int (nI (v + 1)))]) dX4_fill_251 (by decide) rfl (by decide) rfl ?_
                            refine fx_goto (tgt := 137) dX4_fill_254 (by decide) ?_
                            exact (ih137 (v + 1) (m + (fiL k A B C (rsP k A C row (col - 1)) (uc ce row col v) (uu us v))) (g2 (g2 G223 19 v ((nI ((B v - (us v + 1)) + 1)))) 20 v ((nI ((us v + 1) - 1)))) (by omega) (by omega) (by omega) (fpc_out hp223 (by omega)) (fun i a b c => by rw [g2_row _ _ b, g2_row _ _ a, ho223 i a b c, g2_row _ _ b, g2_row _ _ a, g2_row _ _ (by omega)]; exact ho1 i a b c) (by rw [← hR, show k + 1 - v = (k + 1 - (v + 1)) + 1 by omega, fiV_s, if_pos (by unfold fok; exact decide_eq_true ⟨by omega, by omega, fun w => by have := (hlo1 w.1 w.2).1; dsimp only; omega, fun w => by have := (hhi1 w).1; dsimp only; omega⟩)]))
                exact fn_sub [0, 1, 2, 3, 5, 6, 7, 8] rfl (L137 (min hi k + 1) (max lo 1) 0 G (by omega) (by omega) (by omega) hp (fun _ _ _ _ => rfl) (by have w := fiV_skip (fun v => fiL k A B C (rsP k A C row (col - 1)) (uc ce row col v) (uu us v)) (fok A B C (row, col) ce us) (max lo 1 - 1) (k + 1 - max lo 1) 1 0 (fun x x1 x2 => by unfold fok; refine decide_eq_false (fun w => ?_); by_cases z : 1 < row ∧ A (row - 1) < col; (have z1 := w.2.2.1 z; have z2 := (hlo1 z.1 z.2).1; dsimp only at z1; omega); (have z2 := hlo2 z; omega)); rw [show max lo 1 - 1 + (k + 1 - max lo 1) = k by omega, show 1 + (max lo 1 - 1) = max lo 1 by omega] at w; exact w.symm))
              · skip
                refine fx_aload_n dX4_fill_110 rfl (i := 0) rfl ?_
                refine fw_getr dX4_fill_111 fd4_26 rfl rfl ?_
                refine fx_iload_n dX4_fill_114 rfl (i := 2) rfl ?_
                refine fw_aald (r := 22 + row) row dX4_fill_115 rfl (by decide) rfl (by omega) (by decide) (cel_at (by omega)) ?_
                refine fx_iload_n dX4_fill_116 rfl (i := 3) rfl ?_
                refine fx_iconst (v := (nI 1)) dX4_fill_117 (by decide) ?_
                refine fn_iadd dX4_fill_118 ?_
                refine fw_iald (col + 1) dX4_fill_119 (cel_lay (by omega)) rfl (by omega) (by decide) ?_
                refine fn_to (show _ = (nI hi) from ((hhi1 (by omega)).2.2.trans (congrArg nI (hhi1 (by omega)).1.symm))) ?_
                refine fx_goto (tgt := 124) dX4_fill_120 (by decide) ?_
                refine fx_istore (lv2 := [(0, .ref 16), (1, .int (nI k)), (2, .int (nI row)), (3, .int (nI col)), (4, .int (bI false)), (5, .int (nI lo)), (6, .int (nI hi))]) dX4_fill_124 (by decide) rfl ?_
                refine fx_iconst (v := (nI 0)) dX4_fill_126 (by decide) ?_
                refine fx_istore (lv2 := [(0, .ref 16), (1, .int (nI k)), (2, .int (nI row)), (3, .int (nI col)), (4, .int (bI false)), (5, .int (nI lo)), (6, .int (nI hi)), (7, .int (nI 0))]) dX4_fill_127 (by decide) rfl ?_
                refine fx_iload dX4_fill_129 rfl ?_
                refine fx_iconst (v := (nI 1)) dX4_fill_131 (by decide) ?_
                refine fx_mmax dX4_fill_132 lk4_48 (by omega) (by omega) (by omega) (Nat.le_of_ble_eq_true rfl) ?_
                refine fx_istore (lv2 := [(0, .ref 16), (1, .int (nI k)), (2, .int (nI row)), (3, .int (nI col)), (4, .int (bI false)), (5, .int (nI lo)), (6, .int (nI hi)), (7, .int (nI 0)), (8, .int (nI (max lo 1)))]) dX4_fill_135 (by decide) rfl ?_
                have L137 : ∀ (k5 : Nat) (v : Nat) (m : Nat) (G1 : Nat → Nat → Int32), (1 ≤ v) → (min hi k + 1 ≤ v + k5) → (lo ≤ v ∧ v ≤ k + 1) → (fpc G1 k A B C ce us row col) → (offf G G1) → (fiV (fun v => fiL k A B C (rsP k A C row (col - 1)) (uc ce row col v) (uu us v)) (fok A B C (row, col) ce us) (k + 1 - v) v m = fiV (fun v => fiL k A B C (rsP k A C row (col - 1)) (uc ce row col v) (uu us v)) (fok A B C (row, col) ce us) k 1 0) → fv_At Y4_fill (1 + n) 0 0 Q 137 [(0, .ref 16), (1, .int (nI k)), (2, .int (nI row)), (3, .int (nI col)), (5, .int (nI lo)), (6, .int (nI hi)), (7, .int (nI m)), (8, .int (nI v))] [] (fw cT G1 L) none 0 0 := by
                  intro k5
                  induction k5 with
                  | zero =>
                    intro v m G1 hv hM hlv hp1 ho1 hR
                    refine fx_iload dX4_fill_137 rfl ?_
                    refine fx_iload dX4_fill_139 rfl ?_
                    refine fx_iload_n dX4_fill_141 rfl (i := 1) rfl ?_
                    refine fx_mmin dX4_fill_142 lk4_39 (by omega) (by omega) (by omega) (Nat.le_of_ble_eq_true rfl) ?_
                    refine fn_icmp_gt (tgt := 257) dX4_fill_145 (by decide) (by omega) (by omega) (fun c145 => ?_) (fun c145 => ?_)
                    · skip
                      refine fx_iload dX4_fill_257 rfl ?_
                      exact fx_iret dX4_fill_259 rfl rfl rfl (by rw [hQ]; exact ⟨G1, by rw [hfl, ← hR, fiV_out _ _ _ _ _ (fun x x1 x2 => by unfold fok; refine decide_eq_false (fun w => ?_); by_cases z : col < C row; (have z1 := w.2.2.2 z; have z2 := (hhi1 z).1; dsimp only at z1; omega); (have z2 := hhi2 z; omega))], rfl, rfl, hp1, ho1⟩)
                    · exfalso; omega
                  | succ k5 ih137 =>
                    intro v m G1 hv hM hlv hp1 ho1 hR
                    refine fx_iload dX4_fill_137 rfl ?_
                    refine fx_iload dX4_fill_139 rfl ?_
                    refine fx_iload_n dX4_fill_141 rfl (i := 1) rfl ?_
                    refine fx_mmin dX4_fill_142 lk4_39 (by omega) (by omega) (by omega) (Nat.le_of_ble_eq_true rfl) ?_
                    refine fn_icmp_gt (tgt := 257) dX4_fill_145 (by decide) (by omega) (by omega) (fun c145 => ?_) (fun c145 => ?_)
                    · skip
                      refine fx_iload dX4_fill_257 rfl ?_
                      exact fx_iret dX4_fill_259 rfl rfl rfl (by rw [hQ]; exact ⟨G1, by rw [hfl, ← hR, fiV_out _ _ _ _ _ (fun x x1 x2 => by unfold fok; refine decide_eq_false (fun w => ?_); by_cases z : col < C row; (have z1 := w.2.2.2 z; have z2 := (hhi1 z).1; dsimp only at z1; omega); (have z2 := hhi2 z; omega))], rfl, rfl, hp1, ho1⟩)
                    · skip
                      have hvk : v ≤ k := by omega
                      have hus := (hp1.2.1 v (by omega) (by omega))
                      have hB9 := hb.2.2.2 v (by omega) (by omega)
                      refine fx_aload_n dX4_fill_148 rfl (i := 0) rfl ?_
                      refine fw_getr dX4_fill_149 fd4_18 rfl rfl ?_
                      refine fx_iload dX4_fill_152 rfl ?_
                      refine fw_iald v dX4_fill_154 rfl rfl (by omega) (by decide) ?_
                      refine fn_to (show _ = (nI (B v - us v)) from hus.1) ?_
                      refine fn_if_le (tgt := 251) dX4_fill_155 (by decide) (by omega) (fun c155 => ?_) (fun c155 => ?_)
                      · skip
                        refine fn_iinc (c := 1) (lv2 := [(0, .ref 16), (1, .int (nI k)), (2, .int (nI row)), (3, .int (nI col)), (5, .int (nI lo)), (6, .int (nI hi)), (7, .int (nI m)), (8, .int (nI (v + 1)))]) dX4_fill_251 (by decide) rfl (by decide) rfl ?_
                        refine fx_goto (tgt := 137) dX4_fill_254 (by decide) ?_
                        exact (ih137 (v + 1) m G1 (by omega) (by omega) (by omega) hp1 ho1 (by rw [← hR, show k + 1 - v = (k + 1 - (v + 1)) + 1 by omega, fiV_s, if_neg (by unfold fok; intro w; have w2 := of_decide_eq_true w; omega)]))
                      · skip
                        refine fx_iload dX4_fill_158 rfl ?_
                        refine fx_iconst (v := (nI 1)) dX4_fill_160 (by decide) ?_
                        refine fn_icmp_eq (tgt := 183) dX4_fill_161 (by decide) (by omega) (by omega) (fun c161 => ?_) (fun c161 => ?_)
                        · skip
                          refine fx_aload_n dX4_fill_183 rfl (i := 0) rfl ?_
                          refine fw_getr dX4_fill_184 fd4_26 rfl rfl ?_
                          refine fx_iload_n dX4_fill_187 rfl (i := 2) rfl ?_
                          refine fw_aald (r := 22 + row) row dX4_fill_188 rfl (by decide) rfl (by omega) (by decide) (cel_at (by omega)) ?_
                          refine fx_iload_n dX4_fill_189 rfl (i := 3) rfl ?_
                          refine fx_iload dX4_fill_190 rfl ?_
                          refine fw_iast col dX4_fill_192 (cel_lay (by omega)) rfl (by omega) (by decide) ?_
                          refine fx_aload_n dX4_fill_193 rfl (i := 0) rfl ?_
                          refine fw_getr dX4_fill_194 fd4_18 rfl rfl ?_
                          refine fx_iload dX4_fill_197 rfl ?_
                          refine fx_dup2 dX4_fill_199 rfl rfl ?_
                          refine fw_iald v dX4_fill_200 rfl rfl (by omega) (by decide) ?_
                          refine fn_to (show _ = (nI (B v - us v)) from (by rw [g2_ne _ _ (by omega)]; exact hus.1)) ?_
                          refine fx_iconst (v := (nI 1)) dX4_fill_201 (by decide) ?_
                          refine fn_isub dX4_fill_202 (by omega) ?_
                          refine fw_iast v dX4_fill_203 rfl rfl (by omega) (by decide) ?_
                          refine fx_aload_n dX4_fill_204 rfl (i := 0) rfl ?_
                          refine fw_getr dX4_fill_205 fd4_21 rfl rfl ?_
                          refine fx_iload dX4_fill_208 rfl ?_
                          refine fx_dup2 dX4_fill_210 rfl rfl ?_
                          refine fw_iald v dX4_fill_211 rfl rfl (by omega) (by decide) ?_
                          refine fn_to (show _ = (nI (us v)) from (by rw [g2_ne _ _ (by omega), g2_ne _ _ (by omega)]; exact hus.2.2)) ?_
                          refine fx_iconst (v := (nI 1)) dX4_fill_212 (by decide) ?_
                          refine fn_iadd dX4_fill_213 ?_
                          refine fw_iast v dX4_fill_214 rfl rfl (by omega) (by decide) ?_
                          refine fx_iload dX4_fill_215 rfl ?_
                          refine fx_aload_n dX4_fill_217 rfl (i := 0) rfl ?_
                          refine fx_iload_n dX4_fill_218 rfl (i := 1) rfl ?_
                          refine fx_iload_n dX4_fill_219 rfl (i := 2) rfl ?_
                          refine fx_iload_n dX4_fill_220 rfl (i := 3) rfl ?_
                          refine fx_iconst (v := (nI 1)) dX4_fill_221 (by decide) ?_
                          refine fn_isub dX4_fill_222 (by omega) ?_
                          have hp2 := fpc_in hp1 hk4 h1 (by omega) (show A row < col by omega) (by omega) hv hvk (show us v < B v by omega)
                          have hih2 := ih (n - 1) row (col - 1) (uc ce row col v) (uu us v) _ (by rw [hrc] at hn; rw [List.length_cons] at hn; omega) h1 (by omega) (fun _ => by omega) (fun _ => by omega) (by rw [hrc] at hn; rw [List.length_cons] at hn; omega) hp2
                          refine fx_callS dX4_fill_223 lk4_44 hih2 rfl rfl (by omega) (Nat.le_of_ble_eq_true rfl) (by decide) (by decide) (fun r223 f223 al223 h223 => ?_)
                          obtain ⟨G223, rfl, rfl, rfl, hp223, ho223⟩ := h223
                          show fv_At Y4_fill (1 + n) 0 0 Q 226 [(0, .ref 16), (1, .int (nI k)), (2, .int (nI row)), (3, .int (nI col)), (5, .int (nI lo)), (6, .int (nI hi)), (7, .int (nI m)), (8, .int (nI v))] [.int (nI (fiL k A B C (rsP k A C row (col - 1)) (uc ce row col v) (uu us v))), .int (nI m)] (fw cT G223 L) none 0 0
                          refine fn_iadd dX4_fill_226 ?_
                          refine fx_istore (lv2 := [(0, .ref 16), (1, .int (nI k)), (2, .int (nI row)), (3, .int (nI col)), (5, .int (nI lo)), (6, .int (nI hi)), (7, .int (nI (m + (fiL k A B C (rsP k A C row (col - 1)) (uc ce row col v) (uu us v))))), (8, .int (nI v))]) dX4_fill_227 (by decide) rfl ?_
                          refine fx_aload_n dX4_fill_229 rfl (i := 0) rfl ?_
                          refine fw_getr dX4_fill_230 fd4_18 rfl rfl ?_
                          refine fx_iload dX4_fill_233 rfl ?_
                          refine fx_dup2 dX4_fill_235 rfl rfl ?_
                          refine fw_iald v dX4_fill_236 rfl rfl (by omega) (by decide) ?_
                          refine fn_to (show _ = (nI (B v - (us v + 1))) from (by have w := (hp223.2.1 v (by omega) (by omega)).1; unfold uu at w; rw [if_pos rfl] at w; exact w)) ?_
                          refine fx_iconst (v := (nI 1)) dX4_fill_237 (by decide) ?_
                          refine fn_iadd dX4_fill_238 ?_
                          refine fw_iast v dX4_fill_239 rfl rfl (by omega) (by decide) ?_
                          refine fx_aload_n dX4_fill_240 rfl (i := 0) rfl ?_
                          refine fw_getr dX4_fill_241 fd4_21 rfl rfl ?_
                          refine fx_iload dX4_fill_244 rfl ?_
                          refine fx_dup2 dX4_fill_246 rfl rfl ?_
                          refine fw_iald v dX4_fill_247 rfl rfl (by omega) (by decide) ?_
                          refine fn_to (show _ = (nI (us v + 1)) from (by rw [g2_ne _ _ (by omega)]; have w := (hp223.2.1 v (by omega) (by omega)).2.2; unfold uu at w; rw [if_pos rfl] at w; exact w)) ?_
                          refine fx_iconst (v := (nI 1)) dX4_fill_248 (by decide) ?_
                          refine fn_isub dX4_fill_249 (by omega) ?_
                          refine fw_iast v dX4_fill_250 rfl rfl (by omega) (by decide) ?_
                          refine fn_iinc (c := 1) (lv2 := [(0, .ref 16), (1, .int (nI k)), (2, .int (nI row)), (3, .int (nI col)), (5, .int (nI lo)), (6, .int (nI hi)), (7, .int (nI (m + (fiL k A B C (rsP k A C row (col - 1)) (uc ce row col v) (uu us v))))), (8, .int (nI (v + 1)))]) dX4_fill_251 (by decide) rfl (by decide) rfl ?_
                          refine fx_goto (tgt := 137) dX4_fill_254 (by decide) ?_
                          exact (ih137 (v + 1) (m + (fiL k A B C (rsP k A C row (col - 1)) (uc ce row col v) (uu us v))) (g2 (g2 G223 19 v ((nI ((B v - (us v + 1)) + 1)))) 20 v ((nI ((us v + 1) - 1)))) (by omega) (by omega) (by omega) (fpc_out hp223 (by omega)) (fun i a b c => by rw [g2_row _ _ b, g2_row _ _ a, ho223 i a b c, g2_row _ _ b, g2_row _ _ a, g2_row _ _ (by omega)]; exact ho1 i a b c) (by rw [← hR, show k + 1 - v = (k + 1 - (v + 1)) + 1 by omega, fiV_s, if_pos (by unfold fok; exact decide_eq_true ⟨by omega, by omega, fun w => by have := (hlo1 w.1 w.2).1; dsimp only; omega, fun w => by have := (hhi1 w).1; dsimp only; omega⟩)]))
                        · skip
                          have hus1 := (hp1.2.1 (v - 1) (by omega) (by omega)).2.1
                          have hB91 := hb.2.2.2 (v - 1) (by omega) (by omega)
                          refine fx_aload_n dX4_fill_164 rfl (i := 0) rfl ?_
                          refine fw_getr dX4_fill_165 fd4_21 rfl rfl ?_
                          refine fx_iload dX4_fill_168 rfl ?_
                          refine fw_iald v dX4_fill_170 rfl rfl (by omega) (by decide) ?_
                          refine fn_to (show _ = (nI (us v)) from hus.2.2) ?_
                          refine fx_aload_n dX4_fill_171 rfl (i := 0) rfl ?_
                          refine fw_getr dX4_fill_172 fd4_21 rfl rfl ?_
                          refine fx_iload dX4_fill_175 rfl ?_
                          refine fx_iconst (v := (nI 1)) dX4_fill_177 (by decide) ?_
                          refine fn_isub dX4_fill_178 (by omega) ?_
                          refine fw_iald (v - 1) dX4_fill_179 rfl rfl (by omega) (by decide) ?_
                          refine fn_to (show _ = (nI (us (v - 1))) from (hp1.2.1 (v - 1) (by omega) (by omega)).2.2) ?_
                          refine fn_icmp_ge (tgt := 251) dX4_fill_180 (by decide) (by omega) (by omega) (fun c180 => ?_) (fun c180 => ?_)
                          · skip
                            refine fn_iinc (c := 1) (lv2 := [(0, .ref 16), (1, .int (nI k)), (2, .int (nI row)), (3, .int (nI col)), (5, .int (nI lo)), (6, .int (nI hi)), (7, .int (nI m)), (8, .int (nI (v + 1)))]) dX4_fill_251 (by decide) rfl (by decide) rfl ?_
                            refine fx_goto (tgt := 137) dX4_fill_254 (by decide) ?_
                            exact (ih137 (v + 1) m G1 (by omega) (by omega) (by omega) hp1 ho1 (by rw [← hR, show k + 1 - v = (k + 1 - (v + 1)) + 1 by omega, fiV_s, if_neg (by unfold fok; intro w; have w2 := of_decide_eq_true w; omega)]))
                          · skip
                            refine fx_aload_n dX4_fill_183 rfl (i := 0) rfl ?_
                            refine fw_getr dX4_fill_184 fd4_26 rfl rfl ?_
                            refine fx_iload_n dX4_fill_187 rfl (i := 2) rfl ?_
                            refine fw_aald (r := 22 + row) row dX4_fill_188 rfl (by decide) rfl (by omega) (by decide) (cel_at (by omega)) ?_
                            refine fx_iload_n dX4_fill_189 rfl (i := 3) rfl ?_
                            refine fx_iload dX4_fill_190 rfl ?_
                            refine fw_iast col dX4_fill_192 (cel_lay (by omega)) rfl (by omega) (by decide) ?_
                            refine fx_aload_n dX4_fill_193 rfl (i := 0) rfl ?_
                            refine fw_getr dX4_fill_194 fd4_18 rfl rfl ?_
                            refine fx_iload dX4_fill_197 rfl ?_
                            refine fx_dup2 dX4_fill_199 rfl rfl ?_
                            refine fw_iald v dX4_fill_200 rfl rfl (by omega) (by decide) ?_
                            refine fn_to (show _ = (nI (B v - us v)) from (by rw [g2_ne _ _ (by omega)]; exact hus.1)) ?_
                            refine fx_iconst (v := (nI 1)) dX4_fill_201 (by decide) ?_
                            refine fn_isub dX4_fill_202 (by omega) ?_
                            refine fw_iast v dX4_fill_203 rfl rfl (by omega) (by decide) ?_
                            refine fx_aload_n dX4_fill_204 rfl (i := 0) rfl ?_
                            refine fw_getr dX4_fill_205 fd4_21 rfl rfl ?_
                            refine fx_iload dX4_fill_208 rfl ?_
                            refine fx_dup2 dX4_fill_210 rfl rfl ?_
                            refine fw_iald v dX4_fill_211 rfl rfl (by omega) (by decide) ?_
                            refine fn_to (show _ = (nI (us v)) from (by rw [g2_ne _ _ (by omega), g2_ne _ _ (by omega)]; exact hus.2.2)) ?_
                            refine fx_iconst (v := (nI 1)) dX4_fill_212 (by decide) ?_
                            refine fn_iadd dX4_fill_213 ?_
                            refine fw_iast v dX4_fill_214 rfl rfl (by omega) (by decide) ?_
                            refine fx_iload dX4_fill_215 rfl ?_
                            refine fx_aload_n dX4_fill_217 rfl (i := 0) rfl ?_
                            refine fx_iload_n dX4_fill_218 rfl (i := 1) rfl ?_
                            refine fx_iload_n dX4_fill_219 rfl (i := 2) rfl ?_
                            refine fx_iload_n dX4_fill_220 rfl (i := 3) rfl ?_
                            refine fx_iconst (v := (nI 1)) dX4_fill_221 (by decide) ?_
                            refine fn_isub dX4_fill_222 (by omega) ?_
                            have hp2 := fpc_in hp1 hk4 h1 (by omega) (show A row < col by omega) (by omega) hv hvk (show us v < B v by omega)
                            have hih2 := ih (n - 1) row (col - 1) (uc ce row col v) (uu us v) _ (by rw [hrc] at hn; rw [List.length_cons] at hn; omega) h1 (by omega) (fun _ => by omega) (fun _ => by omega) (by rw [hrc] at hn; rw [List.length_cons] at hn; omega) hp2
                            refine fx_callS dX4_fill_223 lk4_44 hih2 rfl rfl (by omega) (Nat.le_of_ble_eq_true rfl) (by decide) (by decide) (fun r223 f223 al223 h223 => ?_)
                            obtain ⟨G223, rfl, rfl, rfl, hp223, ho223⟩ := h223
                            show fv_At Y4_fill (1 + n) 0 0 Q 226 [(0, .ref 16), (1, .int (nI k)), (2, .int (nI row)), (3, .int (nI col)), (5, .int (nI lo)), (6, .int (nI hi)), (7, .int (nI m)), (8, .int (nI v))] [.int (nI (fiL k A B C (rsP k A C row (col - 1)) (uc ce row col v) (uu us v))), .int (nI m)] (fw cT G223 L) none 0 0
                            refine fn_iadd dX4_fill_226 ?_
                            refine fx_istore (lv2 := [(0, .ref 16), (1, .int (nI k)), (2, .int (nI row)), (3, .int (nI col)), (5, .int (nI lo)), (6, .int (nI hi)), (7, .int (nI (m + (fiL k A B C (rsP k A C row (col - 1)) (uc ce row col v) (uu us v))))), (8, .int (nI v))]) dX4_fill_227 (by decide) rfl ?_
                            refine fx_aload_n dX4_fill_229 rfl (i := 0) rfl ?_
                            refine fw_getr dX4_fill_230 fd4_18 rfl rfl ?_
                            refine fx_iload dX4_fill_233 rfl ?_
                            refine fx_dup2 dX4_fill_235 rfl rfl ?_
                            refine fw_iald v dX4_fill_236 rfl rfl (by omega) (by decide) ?_
                            refine fn_to (show _ = (nI (B v - (us v + 1))) from (by have w := (hp223.2.1 v (by omega) (by omega)).1; unfold uu at w; rw [if_pos rfl] at w; exact w)) ?_
                            refine fx_iconst (v := (nI 1)) dX4_fill_237 (by decide) ?_
                            refine fn_iadd dX4_fill_238 ?_
                            refine fw_iast v dX4_fill_239 rfl rfl (by omega) (by decide) ?_
                            refine fx_aload_n dX4_fill_240 rfl (i := 0) rfl ?_
                            refine fw_getr dX4_fill_241 fd4_21 rfl rfl ?_
                            refine fx_iload dX4_fill_244 rfl ?_
                            refine fx_dup2 dX4_fill_246 rfl rfl ?_
                            refine fw_iald v dX4_fill_247 rfl rfl (by omega) (by decide) ?_
                            refine fn_to (show _ = (nI (us v + 1)) from (by rw [g2_ne _ _ (by omega)]; have w := (hp223.2.1 v (by omega) (by omega)).2.2; unfold uu at w; rw [if_pos rfl] at w; exact w)) ?_
                            refine fx_iconst (v := (nI 1)) dX4_fill_248 (by decide) ?_
                            refine fn_isub dX4_fill_249 (by omega) ?_
                            refine fw_iast v dX4_fill_250 rfl rfl (by omega) (by decide) ?_
                            refine fn_iinc (c := 1) (lv2 := [(0, .ref 16), (1, .int (nI k)), (2, .int (nI row)), (3, .int (nI col)), (5, .int (nI lo)), (6, .int (nI hi)), (7, .int (nI (m + (fiL k A B C (rsP k A C row (col - 1)) (uc ce row col v) (uu us v))))), (8, .int (nI (v + 1)))]) dX4_fill_251 (by decide) rfl (by decide) rfl ?_
                            refine fx_goto (tgt := 137) dX4_fill_254 (by decide) ?_
                            exact (ih137 (v + 1) (m + (fiL k A B C (rsP k A C row (col - 1)) (uc ce row col v) (uu us v))) (g2 (g2 G223 19 v ((nI ((B v - (us v + 1)) + 1)))) 20 v ((nI ((us v + 1) - 1)))) (by omega) (by omega) (by omega) (fpc_out hp223 (by omega)) (fun i a b c => by rw [g2_row _ _ b, g2_row _ _ a, ho223 i a b c, g2_row _ _ b, g2_row _ _ a, g2_row _ _ (by omega)]; exact ho1 i a b c) (by rw [← hR, show k + 1 - v = (k + 1 - (v + 1)) + 1 by omega, fiV_s, if_pos (by unfold fok; exact decide_eq_true ⟨by omega, by omega, fun w => by have := (hlo1 w.1 w.2).1; dsimp only; omega, fun w => by have := (hhi1 w).1; dsimp only; omega⟩)]))
                exact fn_sub [0, 1, 2, 3, 5, 6, 7, 8] rfl (L137 (min hi k + 1) (max lo 1) 0 G (by omega) (by omega) (by omega) hp (fun _ _ _ _ => rfl) (by have w := fiV_skip (fun v => fiL k A B C (rsP k A C row (col - 1)) (uc ce row col v) (uu us v)) (fok A B C (row, col) ce us) (max lo 1 - 1) (k + 1 - max lo 1) 1 0 (fun x x1 x2 => by unfold fok; refine decide_eq_false (fun w => ?_); by_cases z : 1 < row ∧ A (row - 1) < col; (have z1 := w.2.2.1 z; have z2 := (hlo1 z.1 z.2).1; dsimp only at z1; omega); (have z2 := hlo2 z; omega)); rw [show max lo 1 - 1 + (k + 1 - max lo 1) = k by omega, show 1 + (max lo 1 - 1) = max lo 1 by omega] at w; exact w.symm))
            · exact absurd c79 (by decide)
          · skip
            have h7 := hb.2.1 (row - 1) (by omega) (by omega)
            refine fx_iload_n dX4_fill_58 rfl (i := 3) rfl ?_
            refine fx_aload_n dX4_fill_59 rfl (i := 0) rfl ?_
            refine fw_getr dX4_fill_60 fd4_9 rfl rfl ?_
            refine fx_iload_n dX4_fill_63 rfl (i := 2) rfl ?_
            refine fx_iconst (v := (nI 1)) dX4_fill_64 (by decide) ?_
            refine fn_isub dX4_fill_65 (by omega) ?_
            refine fw_iald (row - 1) dX4_fill_66 rfl rfl (by omega) (by decide) ?_
            refine fn_to (show _ = (nI (A (row - 1))) from (hp.1 (row - 1) (by omega) (by omega)).1) ?_
            refine fn_icmp_le (tgt := 74) dX4_fill_67 (by decide) (by omega) (by omega) (fun c67 => ?_) (fun c67 => ?_)
            · skip
              refine fx_iconst (v := (nI 0)) dX4_fill_74 (by decide) ?_
              refine fn_to (show _ = (bI false) from rfl) ?_
              refine fx_istore (lv2 := [(0, .ref 16), (1, .int (nI k)), (2, .int (nI row)), (3, .int (nI col)), (4, .int (bI false))]) dX4_fill_75 (by decide) rfl ?_
              refine fx_iload dX4_fill_77 rfl ?_
              refine fn_if_eqB (tgt := 97) dX4_fill_79 (by decide) (fun c79 => ?_) (fun c79 => ?_)
              · skip
                refine fx_iconst (v := (nI 1)) dX4_fill_97 (by decide) ?_
                refine fn_to (show _ = (nI lo) from (congrArg nI (hlo2 (by omega)).symm)) ?_
                refine fx_istore (lv2 := [(0, .ref 16), (1, .int (nI k)), (2, .int (nI row)), (3, .int (nI col)), (4, .int (bI false)), (5, .int (nI lo))]) dX4_fill_98 (by decide) rfl ?_
                refine fx_iload_n dX4_fill_100 rfl (i := 3) rfl ?_
                refine fx_aload_n dX4_fill_101 rfl (i := 0) rfl ?_
                refine fw_getr dX4_fill_102 fd4_15 rfl rfl ?_
                refine fx_iload_n dX4_fill_105 rfl (i := 2) rfl ?_
                refine fw_iald row dX4_fill_106 rfl rfl (by omega) (by decide) ?_
                refine fn_to (show _ = (nI (C row)) from (hp.1 row (by omega) (by omega)).2) ?_
                refine fn_icmp_ge (tgt := 123) dX4_fill_107 (by decide) (by omega) (by omega) (fun c107 => ?_) (fun c107 => ?_)
                · skip
                  refine fx_iload_n dX4_fill_123 rfl (i := 1) rfl ?_
                  refine fn_to (show _ = (nI hi) from (congrArg nI (hhi2 (by omega)).symm)) ?_
                  refine fx_istore (lv2 := [(0, .ref 16), (1, .int (nI k)), (2, .int (nI row)), (3, .int (nI col)), (4, .int (bI false)), (5, .int (nI lo)), (6, .int (nI hi))]) dX4_fill_124 (by decide) rfl ?_
                  refine fx_iconst (v := (nI 0)) dX4_fill_126 (by decide) ?_
                  refine fx_istore (lv2 := [(0, .ref 16), (1, .int (nI k)), (2, .int (nI row)), (3, .int (nI col)), (4, .int (bI false)), (5, .int (nI lo)), (6, .int (nI hi)), (7, .int (nI 0))]) dX4_fill_127 (by decide) rfl ?_
                  refine fx_iload dX4_fill_129 rfl ?_
                  refine fx_iconst (v := (nI 1)) dX4_fill_131 (by decide) ?_
                  refine fx_mmax dX4_fill_132 lk4_48 (by omega) (by omega) (by omega) (Nat.le_of_ble_eq_true rfl) ?_
                  refine fx_istore (lv2 := [(0, .ref 16), (1, .int (nI k)), (2, .int (nI row)), (3, .int (nI col)), (4, .int (bI false)), (5, .int (nI lo)), (6, .int (nI hi)), (7, .int (nI 0)), (8, .int (nI (max lo 1)))]) dX4_fill_135 (by decide) rfl ?_
                  have L137 : ∀ (k5 : Nat) (v : Nat) (m : Nat) (G1 : Nat → Nat → Int32), (1 ≤ v) → (min hi k + 1 ≤ v + k5) → (lo ≤ v ∧ v ≤ k + 1) → (fpc G1 k A B C ce us row col) → (offf G G1) → (fiV (fun v => fiL k A B C (rsP k A C row (col - 1)) (uc ce row col v) (uu us v)) (fok A B C (row, col) ce us) (k + 1 - v) v m = fiV (fun v => fiL k A B C (rsP k A C row (col - 1)) (uc ce row col v) (uu us v)) (fok A B C (row, col) ce us) k 1 0) → fv_At Y4_fill (1 + n) 0 0 Q 137 [(0, .ref 16), (1, .int (nI k)), (2, .int (nI row)), (3, .int (nI col)), (5, .int (nI lo)), (6, .int (nI hi)), (7, .int (nI m)), (8, .int (nI v))] [] (fw cT G1 L) none 0 0 := by
                    intro k5
                    induction k5 with
                    | zero =>
                      intro v m G1 hv hM hlv hp1 ho1 hR
                      refine fx_iload dX4_fill_137 rfl ?_
                      refine fx_iload dX4_fill_139 rfl ?_
                      refine fx_iload_n dX4_fill_141 rfl (i := 1) rfl ?_
                      refine fx_mmin dX4_fill_142 lk4_39 (by omega) (by omega) (by omega) (Nat.le_of_ble_eq_true rfl) ?_
                      refine fn_icmp_gt (tgt := 257) dX4_fill_145 (by decide) (by omega) (by omega) (fun c145 => ?_) (fun c145 => ?_)
                      · skip
                        refine fx_iload dX4_fill_257 rfl ?_
                        exact fx_iret dX4_fill_259 rfl rfl rfl (by rw [hQ]; exact ⟨G1, by rw [hfl, ← hR, fiV_out _ _ _ _ _ (fun x x1 x2 => by unfold fok; refine decide_eq_false (fun w => ?_); by_cases z : col < C row; (have z1 := w.2.2.2 z; have z2 := (hhi1 z).1; dsimp only at z1; omega); (have z2 := hhi2 z; omega))], rfl, rfl, hp1, ho1⟩)
                      · exfalso; omega
                    | succ k5 ih137 =>
                      intro v m G1 hv hM hlv hp1 ho1 hR
                      refine fx_iload dX4_fill_137 rfl ?_
                      refine fx_iload dX4_fill_139 rfl ?_
                      refine fx_iload_n dX4_fill_141 rfl (i := 1) rfl ?_
                      refine fx_mmin dX4_fill_142 lk4_39 (by omega) (by omega) (by omega) (Nat.le_of_ble_eq_true rfl) ?_
                      refine fn_icmp_gt (tgt := 257) dX4_fill_145 (by decide) (by omega) (by omega) (fun c145 => ?_) (fun c145 => ?_)
                      · skip
                        refine fx_iload dX4_fill_257 rfl ?_
                        exact fx_iret dX4_fill_259 rfl rfl rfl (by rw [hQ]; exact ⟨G1, by rw [hfl, ← hR, fiV_out _ _ _ _ _ (fun x x1 x2 => by unfold fok; refine decide_eq_false (fun w => ?_); by_cases z : col < C row; (have z1 := w.2.2.2 z; have z2 := (hhi1 z).1; dsimp only at z1; omega); (have z2 := hhi2 z; omega))], rfl, rfl, hp1, ho1⟩)
                      · skip
                        have hvk : v ≤ k := by omega
                        have hus := (hp1.2.1 v (by omega) (by omega))
                        have hB9 := hb.2.2.2 v (by omega) (by omega)
                        refine fx_aload_n dX4_fill_148 rfl (i := 0) rfl ?_
                        refine fw_getr dX4_fill_149 fd4_18 rfl rfl ?_
                        refine fx_iload dX4_fill_152 rfl ?_
                        refine fw_iald v dX4_fill_154 rfl rfl (by omega) (by decide) ?_
                        refine fn_to (show _ = (nI (B v - us v)) from hus.1) ?_
                        refine fn_if_le (tgt := 251) dX4_fill_155 (by decide) (by omega) (fun c155 => ?_) (fun c155 => ?_)
                        · skip
                          refine fn_iinc (c := 1) (lv2 := [(0, .ref 16), (1, .int (nI k)), (2, .int (nI row)), (3, .int (nI col)), (5, .int (nI lo)), (6, .int (nI hi)), (7, .int (nI m)), (8, .int (nI (v + 1)))]) dX4_fill_251 (by decide) rfl (by decide) rfl ?_
                          refine fx_goto (tgt := 137) dX4_fill_254 (by decide) ?_
                          exact (ih137 (v + 1) m G1 (by omega) (by omega) (by omega) hp1 ho1 (by rw [← hR, show k + 1 - v = (k + 1 - (v + 1)) + 1 by omega, fiV_s, if_neg (by unfold fok; intro w; have w2 := of_decide_eq_true w; omega)]))
                        · skip
                          refine fx_iload dX4_fill_158 rfl ?_
                          refine fx_iconst (v := (nI 1)) dX4_fill_160 (by decide) ?_
                          refine fn_icmp_eq (tgt := 183) dX4_fill_161 (by decide) (by omega) (by omega) (fun c161 => ?_) (fun c161 => ?_)
                          · skip
                            refine fx_aload_n dX4_fill_183 rfl (i := 0) rfl ?_
                            refine fw_getr dX4_fill_184 fd4_26 rfl rfl ?_
                            refine fx_iload_n dX4_fill_187 rfl (i := 2) rfl ?_
                            refine fw_aald (r := 22 + row) row dX4_fill_188 rfl (by decide) rfl (by omega) (by decide) (cel_at (by omega)) ?_
                            refine fx_iload_n dX4_fill_189 rfl (i := 3) rfl ?_
                            refine fx_iload dX4_fill_190 rfl ?_
                            refine fw_iast col dX4_fill_192 (cel_lay (by omega)) rfl (by omega) (by decide) ?_
                            refine fx_aload_n dX4_fill_193 rfl (i := 0) rfl ?_
                            refine fw_getr dX4_fill_194 fd4_18 rfl rfl ?_
                            refine fx_iload dX4_fill_197 rfl ?_
                            refine fx_dup2 dX4_fill_199 rfl rfl ?_
                            refine fw_iald v dX4_fill_200 rfl rfl (by omega) (by decide) ?_
                            refine fn_to (show _ = (nI (B v - us v)) from (by rw [g2_ne _ _ (by omega)]; exact hus.1)) ?_
                            refine fx_iconst (v := (nI 1)) dX4_fill_201 (by decide) ?_
                            refine fn_isub dX4_fill_202 (by omega) ?_
                            refine fw_iast v dX4_fill_203 rfl rfl (by omega) (by decide) ?_
                            refine fx_aload_n dX4_fill_204 rfl (i := 0) rfl ?_
                            refine fw_getr dX4_fill_205 fd4_21 rfl rfl ?_
                            refine fx_iload dX4_fill_208 rfl ?_
                            refine fx_dup2 dX4_fill_210 rfl rfl ?_
                            refine fw_iald v dX4_fill_211 rfl rfl (by omega) (by decide) ?_
                            refine fn_to (show _ = (nI (us v)) from (by rw [g2_ne _ _ (by omega), g2_ne _ _ (by omega)]; exact hus.2.2)) ?_
                            refine fx_iconst (v := (nI 1)) dX4_fill_212 (by decide) ?_
                            refine fn_iadd dX4_fill_213 ?_
                            refine fw_iast v dX4_fill_214 rfl rfl (by omega) (by decide) ?_
                            refine fx_iload dX4_fill_215 rfl ?_
                            refine fx_aload_n dX4_fill_217 rfl (i := 0) rfl ?_
                            refine fx_iload_n dX4_fill_218 rfl (i := 1) rfl ?_
                            refine fx_iload_n dX4_fill_219 rfl (i := 2) rfl ?_
                            refine fx_iload_n dX4_fill_220 rfl (i := 3) rfl ?_
                            refine fx_iconst (v := (nI 1)) dX4_fill_221 (by decide) ?_
                            refine fn_isub dX4_fill_222 (by omega) ?_
                            have hp2 := fpc_in hp1 hk4 h1 (by omega) (show A row < col by omega) (by omega) hv hvk (show us v < B v by omega)
                            have hih2 := ih (n - 1) row (col - 1) (uc ce row col v) (uu us v) _ (by rw [hrc] at hn; rw [List.length_cons] at hn; omega) h1 (by omega) (fun _ => by omega) (fun _ => by omega) (by rw [hrc] at hn; rw [List.length_cons] at hn; omega) hp2
                            refine fx_callS dX4_fill_223 lk4_44 hih2 rfl rfl (by omega) (Nat.le_of_ble_eq_true rfl) (by decide) (by decide) (fun r223 f223 al223 h223 => ?_)
                            obtain ⟨G223, rfl, rfl, rfl, hp223, ho223⟩ := h223
                            show fv_At Y4_fill (1 + n) 0 0 Q 226 [(0, .ref 16), (1, .int (nI k)), (2, .int (nI row)), (3, .int (nI col)), (5, .int (nI lo)), (6, .int (nI hi)), (7, .int (nI m)), (8, .int (nI v))] [.int (nI (fiL k A B C (rsP k A C row (col - 1)) (uc ce row col v) (uu us v))), .int (nI m)] (fw cT G223 L) none 0 0
                            refine fn_iadd dX4_fill_226 ?_
                            refine fx_istore (lv2 := [(0, .ref 16), (1, .int (nI k)), (2, .int (nI row)), (3, .int (nI col)), (5, .int (nI lo)), (6, .int (nI hi)), (7, .int (nI (m + (fiL k A B C (rsP k A C row (col - 1)) (uc ce row col v) (uu us v))))), (8, .int (nI v))]) dX4_fill_227 (by decide) rfl ?_
                            refine fx_aload_n dX4_fill_229 rfl (i := 0) rfl ?_
                            refine fw_getr dX4_fill_230 fd4_18 rfl rfl ?_
                            refine fx_iload dX4_fill_233 rfl ?_
                            refine fx_dup2 dX4_fill_235 rfl rfl ?_
                            refine fw_iald v dX4_fill_236 rfl rfl (by omega) (by decide) ?_
                            refine fn_to (show _ = (nI (B v - (us v + 1))) from (by have w := (hp223.2.1 v (by omega) (by omega)).1; unfold uu at w; rw [if_pos rfl] at w; exact w)) ?_
                            refine fx_iconst (v := (nI 1)) dX4_fill_237 (by decide) ?_
                            refine fn_iadd dX4_fill_238 ?_
                            refine fw_iast v dX4_fill_239 rfl rfl (by omega) (by decide) ?_
                            refine fx_aload_n dX4_fill_240 rfl (i := 0) rfl ?_
                            refine fw_getr dX4_fill_241 fd4_21 rfl rfl ?_
                            refine fx_iload dX4_fill_244 rfl ?_
                            refine fx_dup2 dX4_fill_246 rfl rfl ?_
                            refine fw_iald v dX4_fill_247 rfl rfl (by omega) (by decide) ?_
                            refine fn_to (show _ = (nI (us v + 1)) from (by rw [g2_ne _ _ (by omega)]; have w := (hp223.2.1 v (by omega) (by omega)).2.2; unfold uu at w; rw [if_pos rfl] at w; exact w)) ?_
                            refine fx_iconst (v := (nI 1)) dX4_fill_248 (by decide) ?_
                            refine fn_isub dX4_fill_249 (by omega) ?_
                            refine fw_iast v dX4_fill_250 rfl rfl (by omega) (by decide) ?_
                            refine fn_iinc (c := 1) (lv2 := [(0, .ref 16), (1, .int (nI k)), (2, .int (nI row)), (3, .int (nI col)), (5, .int (nI lo)), (6, .int (nI hi)), (7, .int (nI (m + (fiL k A B C (rsP k A C row (col - 1)) (uc ce row col v) (uu us v))))), (8, .int (nI (v + 1)))]) dX4_fill_251 (by decide) rfl (by decide) rfl ?_
                            refine fx_goto (tgt := 137) dX4_fill_254 (by decide) ?_
                            exact (ih137 (v + 1) (m + (fiL k A B C (rsP k A C row (col - 1)) (uc ce row col v) (uu us v))) (g2 (g2 G223 19 v ((nI ((B v - (us v + 1)) + 1)))) 20 v ((nI ((us v + 1) - 1)))) (by omega) (by omega) (by omega) (fpc_out hp223 (by omega)) (fun i a b c => by rw [g2_row _ _ b, g2_row _ _ a, ho223 i a b c, g2_row _ _ b, g2_row _ _ a, g2_row _ _ (by omega)]; exact ho1 i a b c) (by rw [← hR, show k + 1 - v = (k + 1 - (v + 1)) + 1 by omega, fiV_s, if_pos (by unfold fok; exact decide_eq_true ⟨by omega, by omega, fun w => by have := (hlo1 w.1 w.2).1; dsimp only; omega, fun w => by have := (hhi1 w).1; dsimp only; omega⟩)]))
                          · skip
                            have hus1 := (hp1.2.1 (v - 1) (by omega) (by omega)).2.1
                            have hB91 := hb.2.2.2 (v - 1) (by omega) (by omega)
                            refine fx_aload_n dX4_fill_164 rfl (i := 0) rfl ?_
                            refine fw_getr dX4_fill_165 fd4_21 rfl rfl ?_
                            refine fx_iload dX4_fill_168 rfl ?_
                            refine fw_iald v dX4_fill_170 rfl rfl (by omega) (by decide) ?_
                            refine fn_to (show _ = (nI (us v)) from hus.2.2) ?_
                            refine fx_aload_n dX4_fill_171 rfl (i := 0) rfl ?_
                            refine fw_getr dX4_fill_172 fd4_21 rfl rfl ?_
                            refine fx_iload dX4_fill_175 rfl ?_
                            refine fx_iconst (v := (nI 1)) dX4_fill_177 (by decide) ?_
                            refine fn_isub dX4_fill_178 (by omega) ?_
                            refine fw_iald (v - 1) dX4_fill_179 rfl rfl (by omega) (by decide) ?_
                            refine fn_to (show _ = (nI (us (v - 1))) from (hp1.2.1 (v - 1) (by omega) (by omega)).2.2) ?_
                            refine fn_icmp_ge (tgt := 251) dX4_fill_180 (by decide) (by omega) (by omega) (fun c180 => ?_) (fun c180 => ?_)
                            · skip
                              refine fn_iinc (c := 1) (lv2 := [(0, .ref 16), (1, .int (nI k)), (2, .int (nI row)), (3, .int (nI col)), (5, .int (nI lo)), (6, .int (nI hi)), (7, .int (nI m)), (8, .int (nI (v + 1)))]) dX4_fill_251 (by decide) rfl (by decide) rfl ?_
                              refine fx_goto (tgt := 137) dX4_fill_254 (by decide) ?_
                              exact (ih137 (v + 1) m G1 (by omega) (by omega) (by omega) hp1 ho1 (by rw [← hR, show k + 1 - v = (k + 1 - (v + 1)) + 1 by omega, fiV_s, if_neg (by unfold fok; intro w; have w2 := of_decide_eq_true w; omega)]))
                            · skip
                              refine fx_aload_n dX4_fill_183 rfl (i := 0) rfl ?_
                              refine fw_getr dX4_fill_184 fd4_26 rfl rfl ?_
                              refine fx_iload_n dX4_fill_187 rfl (i := 2) rfl ?_
                              refine fw_aald (r := 22 + row) row dX4_fill_188 rfl (by decide) rfl (by omega) (by decide) (cel_at (by omega)) ?_
                              refine fx_iload_n dX4_fill_189 rfl (i := 3) rfl ?_
                              refine fx_iload dX4_fill_190 rfl ?_
                              refine fw_iast col dX4_fill_192 (cel_lay (by omega)) rfl (by omega) (by decide) ?_
                              refine fx_aload_n dX4_fill_193 rfl (i := 0) rfl ?_
                              refine fw_getr dX4_fill_194 fd4_18 rfl rfl ?_
                              refine fx_iload dX4_fill_197 rfl ?_
                              refine fx_dup2 dX4_fill_199 rfl rfl ?_
                              refine fw_iald v dX4_fill_200 rfl rfl (by omega) (by decide) ?_
                              refine fn_to (show _ = (nI (B v - us v)) from (by rw [g2_ne _ _ (by omega)]; exact hus.1)) ?_
                              refine fx_iconst (v := (nI 1)) dX4_fill_201 (by decide) ?_
                              refine fn_isub dX4_fill_202 (by omega) ?_
                              refine fw_iast v dX4_fill_203 rfl rfl (by omega) (by decide) ?_
                              refine fx_aload_n dX4_fill_204 rfl (i := 0) rfl ?_
                              refine fw_getr dX4_fill_205 fd4_21 rfl rfl ?_
                              refine fx_iload dX4_fill_208 rfl ?_
                              refine fx_dup2 dX4_fill_210 rfl rfl ?_
                              refine fw_iald v dX4_fill_211 rfl rfl (by omega) (by decide) ?_
                              refine fn_to (show _ = (nI (us v)) from (by rw [g2_ne _ _ (by omega), g2_ne _ _ (by omega)]; exact hus.2.2)) ?_
                              refine fx_iconst (v := (nI 1)) dX4_fill_212 (by decide) ?_
                              refine fn_iadd dX4_fill_213 ?_
                              refine fw_iast v dX4_fill_214 rfl rfl (by omega) (by decide) ?_
                              refine fx_iload dX4_fill_215 rfl ?_
                              refine fx_aload_n dX4_fill_217 rfl (i := 0) rfl ?_
                              refine fx_iload_n dX4_fill_218 rfl (i := 1) rfl ?_
                              refine fx_iload_n dX4_fill_219 rfl (i := 2) rfl ?_
                              refine fx_iload_n dX4_fill_220 rfl (i := 3) rfl ?_
                              refine fx_iconst (v := (nI 1)) dX4_fill_221 (by decide) ?_
                              refine fn_isub dX4_fill_222 (by omega) ?_
                              have hp2 := fpc_in hp1 hk4 h1 (by omega) (show A row < col by omega) (by omega) hv hvk (show us v < B v by omega)
                              have hih2 := ih (n - 1) row (col - 1) (uc ce row col v) (uu us v) _ (by rw [hrc] at hn; rw [List.length_cons] at hn; omega) h1 (by omega) (fun _ => by omega) (fun _ => by omega) (by rw [hrc] at hn; rw [List.length_cons] at hn; omega) hp2
                              refine fx_callS dX4_fill_223 lk4_44 hih2 rfl rfl (by omega) (Nat.le_of_ble_eq_true rfl) (by decide) (by decide) (fun r223 f223 al223 h223 => ?_)
                              obtain ⟨G223, rfl, rfl, rfl, hp223, ho223⟩ := h223
                              show fv_At Y4_fill (1 + n) 0 0 Q 226 [(0, .ref 16), (1, .int (nI k)), (2, .int (nI row)), (3, .int (nI col)), (5, .int (nI lo)), (6, .int (nI hi)), (7, .int (nI m)), (8, .int (nI v))] [.int (nI (fiL k A B C (rsP k A C row (col - 1)) (uc ce row col v) (uu us v))), .int (nI m)] (fw cT G223 L) none 0 0
                              refine fn_iadd dX4_fill_226 ?_
                              refine fx_istore (lv2 := [(0, .ref 16), (1, .int (nI k)), (2, .int (nI row)), (3, .int (nI col)), (5, .int (nI lo)), (6, .int (nI hi)), (7, .int (nI (m + (fiL k A B C (rsP k A C row (col - 1)) (uc ce row col v) (uu us v))))), (8, .int (nI v))]) dX4_fill_227 (by decide) rfl ?_
                              refine fx_aload_n dX4_fill_229 rfl (i := 0) rfl ?_
                              refine fw_getr dX4_fill_230 fd4_18 rfl rfl ?_
                              refine fx_iload dX4_fill_233 rfl ?_
                              refine fx_dup2 dX4_fill_235 rfl rfl ?_
                              refine fw_iald v dX4_fill_236 rfl rfl (by omega) (by decide) ?_
                              refine fn_to (show _ = (nI (B v - (us v + 1))) from (by have w := (hp223.2.1 v (by omega) (by omega)).1; unfold uu at w; rw [if_pos rfl] at w; exact w)) ?_
                              refine fx_iconst (v := (nI 1)) dX4_fill_237 (by decide) ?_
                              refine fn_iadd dX4_fill_238 ?_
                              refine fw_iast v dX4_fill_239 rfl rfl (by omega) (by decide) ?_
                              refine fx_aload_n dX4_fill_240 rfl (i := 0) rfl ?_
                              refine fw_getr dX4_fill_241 fd4_21 rfl rfl ?_
                              refine fx_iload dX4_fill_244 rfl ?_
                              refine fx_dup2 dX4_fill_246 rfl rfl ?_
                              refine fw_iald v dX4_fill_247 rfl rfl (by omega) (by decide) ?_
                              refine fn_to (show _ = (nI (us v + 1)) from (by rw [g2_ne _ _ (by omega)]; have w := (hp223.2.1 v (by omega) (by omega)).2.2; unfold uu at w; rw [if_pos rfl] at w; exact w)) ?_
                              refine fx_iconst (v := (nI 1)) dX4_fill_248 (by decide) ?_
                              refine fn_isub dX4_fill_249 (by omega) ?_
                              refine fw_iast v dX4_fill_250 rfl rfl (by omega) (by decide) ?_
                              refine fn_iinc (c := 1) (lv2 := [(0, .ref 16), (1, .int (nI k)), (2, .int (nI row)), (3, .int (nI col)), (5, .int (nI lo)), (6, .int (nI hi)), (7, .int (nI (m + (fiL k A B C (rsP k A C row (col - 1)) (uc ce row col v) (uu us v))))), (8, .int (nI (v + 1)))]) dX4_fill_251 (by decide) rfl (by decide) rfl ?_
                              refine fx_goto (tgt := 137) dX4_fill_254 (by decide) ?_
                              exact (ih137 (v + 1) (m + (fiL k A B C (rsP k A C row (col - 1)) (uc ce row col v) (uu us v))) (g2 (g2 G223 19 v ((nI ((B v - (us v + 1)) + 1)))) 20 v ((nI ((us v + 1) - 1)))) (by omega) (by omega) (by omega) (fpc_out hp223 (by omega)) (fun i a b c => by rw [g2_row _ _ b, g2_row _ _ a, ho223 i a b c, g2_row _ _ b, g2_row _ _ a, g2_row _ _ (by omega)]; exact ho1 i a b c) (by rw [← hR, show k + 1 - v = (k + 1 - (v + 1)) + 1 by omega, fiV_s, if_pos (by unfold fok; exact decide_eq_true ⟨by omega, by omega, fun w => by have := (hlo1 w.1 w.2).1; dsimp only; omega, fun w => by have := (hhi1 w).1; dsimp only; omega⟩)]))
                  exact fn_sub [0, 1, 2, 3, 5, 6, 7, 8] rfl (L137 (min hi k + 1) (max lo 1) 0 G (by omega) (by omega) (by omega) hp (fun _ _ _ _ => rfl) (by have w := fiV_skip (fun v => fiL k A B C (rsP k A C row (col - 1)) (uc ce row col v) (uu us v)) (fok A B C (row, col) ce us) (max lo 1 - 1) (k + 1 - max lo 1) 1 0 (fun x x1 x2 => by unfold fok; refine decide_eq_false (fun w => ?_); by_cases z : 1 < row ∧ A (row - 1) < col; (have z1 := w.2.2.1 z; have z2 := (hlo1 z.1 z.2).1; dsimp only at z1; omega); (have z2 := hlo2 z; omega)); rw [show max lo 1 - 1 + (k + 1 - max lo 1) = k by omega, show 1 + (max lo 1 - 1) = max lo 1 by omega] at w; exact w.symm))
                · skip
                  refine fx_aload_n dX4_fill_110 rfl (i := 0) rfl ?_
                  refine fw_getr dX4_fill_111 fd4_26 rfl rfl ?_
                  refine fx_iload_n dX4_fill_114 rfl (i := 2) rfl ?_
                  refine fw_aald (r := 22 + row) row dX4_fill_115 rfl (by decide) rfl (by omega) (by decide) (cel_at (by omega)) ?_
                  refine fx_iload_n dX4_fill_116 rfl (i := 3) rfl ?_
                  refine fx_iconst (v := (nI 1)) dX4_fill_117 (by decide) ?_
                  refine fn_iadd dX4_fill_118 ?_
                  refine fw_iald (col + 1) dX4_fill_119 (cel_lay (by omega)) rfl (by omega) (by decide) ?_
                  refine fn_to (show _ = (nI hi) from ((hhi1 (by omega)).2.2.trans (congrArg nI (hhi1 (by omega)).1.symm))) ?_
                  refine fx_goto (tgt := 124) dX4_fill_120 (by decide) ?_
                  refine fx_istore (lv2 := [(0, .ref 16), (1, .int (nI k)), (2, .int (nI row)), (3, .int (nI col)), (4, .int (bI false)), (5, .int (nI lo)), (6, .int (nI hi))]) dX4_fill_124 (by decide) rfl ?_
                  refine fx_iconst (v := (nI 0)) dX4_fill_126 (by decide) ?_
                  refine fx_istore (lv2 := [(0, .ref 16), (1, .int (nI k)), (2, .int (nI row)), (3, .int (nI col)), (4, .int (bI false)), (5, .int (nI lo)), (6, .int (nI hi)), (7, .int (nI 0))]) dX4_fill_127 (by decide) rfl ?_
                  refine fx_iload dX4_fill_129 rfl ?_
                  refine fx_iconst (v := (nI 1)) dX4_fill_131 (by decide) ?_
                  refine fx_mmax dX4_fill_132 lk4_48 (by omega) (by omega) (by omega) (Nat.le_of_ble_eq_true rfl) ?_
                  refine fx_istore (lv2 := [(0, .ref 16), (1, .int (nI k)), (2, .int (nI row)), (3, .int (nI col)), (4, .int (bI false)), (5, .int (nI lo)), (6, .int (nI hi)), (7, .int (nI 0)), (8, .int (nI (max lo 1)))]) dX4_fill_135 (by decide) rfl ?_
                  have L137 : ∀ (k5 : Nat) (v : Nat) (m : Nat) (G1 : Nat → Nat → Int32), (1 ≤ v) → (min hi k + 1 ≤ v + k5) → (lo ≤ v ∧ v ≤ k + 1) → (fpc G1 k A B C ce us row col) → (offf G G1) → (fiV (fun v => fiL k A B C (rsP k A C row (col - 1)) (uc ce row col v) (uu us v)) (fok A B C (row, col) ce us) (k + 1 - v) v m = fiV (fun v => fiL k A B C (rsP k A C row (col - 1)) (uc ce row col v) (uu us v)) (fok A B C (row, col) ce us) k 1 0) → fv_At Y4_fill (1 + n) 0 0 Q 137 [(0, .ref 16), (1, .int (nI k)), (2, .int (nI row)), (3, .int (nI col)), (5, .int (nI lo)), (6, .int (nI hi)), (7, .int (nI m)), (8, .int (nI v))] [] (fw cT G1 L) none 0 0 := by
                    intro k5
                    induction k5 with
                    | zero =>
                      intro v m G1 hv hM hlv hp1 ho1 hR
                      refine fx_iload dX4_fill_137 rfl ?_
                      refine fx_iload dX4_fill_139 rfl ?_
                      refine fx_iload_n dX4_fill_141 rfl (i := 1) rfl ?_
                      refine fx_mmin dX4_fill_142 lk4_39 (by omega) (by omega) (by omega) (Nat.le_of_ble_eq_true rfl) ?_
                      refine fn_icmp_gt (tgt := 257) dX4_fill_145 (by decide) (by omega) (by omega) (fun c145 => ?_) (fun c145 => ?_)
                      · skip
                        refine fx_iload dX4_fill_257 rfl ?_
                        exact fx_iret dX4_fill_259 rfl rfl rfl (by rw [hQ]; exact ⟨G1, by rw [hfl, ← hR, fiV_out _ _ _ _ _ (fun x x1 x2 => by unfold fok; refine decide_eq_false (fun w => ?_); by_cases z : col < C row; (have z1 := w.2.2.2 z; have z2 := (hhi1 z).1; dsimp only at z1; omega); (have z2 := hhi2 z; omega))], rfl, rfl, hp1, ho1⟩)
                      · exfalso; omega
                    | succ k5 ih137 =>
                      intro v m G1 hv hM hlv hp1 ho1 hR
                      refine fx_iload dX4_fill_137 rfl ?_
                      refine fx_iload dX4_fill_139 rfl ?_
                      refine fx_iload_n dX4_fill_141 rfl (i := 1) rfl ?_
                      refine fx_mmin dX4_fill_142 lk4_39 (by omega) (by omega) (by omega) (Nat.le_of_ble_eq_true rfl) ?_
                      refine fn_icmp_gt (tgt := 257) dX4_fill_145 (by decide) (by omega) (by omega) (fun c145 => ?_) (fun c145 => ?_)
                      · skip
                        refine fx_iload dX4_fill_257 rfl ?_
                        exact fx_iret dX4_fill_259 rfl rfl rfl (by rw [hQ]; exact ⟨G1, by rw [hfl, ← hR, fiV_out _ _ _ _ _ (fun x x1 x2 => by unfold fok; refine decide_eq_false (fun w => ?_); by_cases z : col < C row; (have z1 := w.2.2.2 z; have z2 := (hhi1 z).1; dsimp only at z1; omega); (have z2 := hhi2 z; omega))], rfl, rfl, hp1, ho1⟩)
                      · skip
                        have hvk : v ≤ k := by omega
                        have hus := (hp1.2.1 v (by omega) (by omega))
                        have hB9 := hb.2.2.2 v (by omega) (by omega)
                        refine fx_aload_n dX4_fill_148 rfl (i := 0) rfl ?_
                        refine fw_getr dX4_fill_149 fd4_18 rfl rfl ?_
                        refine fx_iload dX4_fill_152 rfl ?_
                        refine fw_iald v dX4_fill_154 rfl rfl (by omega) (by decide) ?_
                        refine fn_to (show _ = (nI (B v - us v)) from hus.1) ?_
                        refine fn_if_le (tgt := 251) dX4_fill_155 (by decide) (by omega) (fun c155 => ?_) (fun c155 => ?_)
                        · skip
                          refine fn_iinc (c := 1) (lv2 := [(0, .ref 16), (1, .int (nI k)), (2, .int (nI row)), (3, .int (nI col)), (5, .int (nI lo)), (6, .int (nI hi)), (7, .int (nI m)), (8, .int (nI (v + 1)))]) dX4_fill_251 (by decide) rfl (by decide) rfl ?_
                          refine fx_goto (tgt := 137) dX4_fill_254 (by decide) ?_
                          exact (ih137 (v + 1) m G1 (by omega) (by omega) (by omega) hp1 ho1 (by rw [← hR, show k + 1 - v = (k + 1 - (v + 1)) + 1 by omega, fiV_s, if_neg (by unfold fok; intro w; have w2 := of_decide_eq_true w; omega)]))
                        · skip
                          refine fx_iload dX4_fill_158 rfl ?_
                          refine fx_iconst (v := (nI 1)) dX4_fill_160 (by decide) ?_
                          refine fn_icmp_eq (tgt := 183) dX4_fill_161 (by decide) (by omega) (by omega) (fun c161 => ?_) (fun c161 => ?_)
                          · skip
                            refine fx_aload_n dX4_fill_183 rfl (i := 0) rfl ?_
                            refine fw_getr dX4_fill_184 fd4_26 rfl rfl ?_
                            refine fx_iload_n dX4_fill_187 rfl (i := 2) rfl ?_
                            refine fw_aald (r := 22 + row) row dX4_fill_188 rfl (by decide) rfl (by omega) (by decide) (cel_at (by omega)) ?_
                            refine fx_iload_n dX4_fill_189 rfl (i := 3) rfl ?_
                            refine fx_iload dX4_fill_190 rfl ?_
                            refine fw_iast col dX4_fill_192 (cel_lay (by omega)) rfl (by omega) (by decide) ?_
                            refine fx_aload_n dX4_fill_193 rfl (i := 0) rfl ?_
                            refine fw_getr dX4_fill_194 fd4_18 rfl rfl ?_
                            refine fx_iload dX4_fill_197 rfl ?_
                            refine fx_dup2 dX4_fill_199 rfl rfl ?_
                            refine fw_iald v dX4_fill_200 rfl rfl (by omega) (by decide) ?_
                            refine fn_to (show _ = (nI (B v - us v)) from (by rw [g2_ne _ _ (by omega)]; exact hus.1)) ?_
                            refine fx_iconst (v := (nI 1)) dX4_fill_201 (by decide) ?_
                            refine fn_isub dX4_fill_202 (by omega) ?_
                            refine fw_iast v dX4_fill_203 rfl rfl (by omega) (by decide) ?_
                            refine fx_aload_n dX4_fill_204 rfl (i := 0) rfl ?_
                            refine fw_getr dX4_fill_205 fd4_21 rfl rfl ?_
                            refine fx_iload dX4_fill_208 rfl ?_
                            refine fx_dup2 dX4_fill_210 rfl rfl ?_
                            refine fw_iald v dX4_fill_211 rfl rfl (by omega) (by decide) ?_
                            refine fn_to (show _ = (nI (us v)) from (by rw [g2_ne _ _ (by omega), g2_ne _ _ (by omega)]; exact hus.2.2)) ?_
                            refine fx_iconst (v := (nI 1)) dX4_fill_212 (by decide) ?_
                            refine fn_iadd dX4_fill_213 ?_
                            refine fw_iast v dX4_fill_214 rfl rfl (by omega) (by decide) ?_
                            refine fx_iload dX4_fill_215 rfl ?_
                            refine fx_aload_n dX4_fill_217 rfl (i := 0) rfl ?_
                            refine fx_iload_n dX4_fill_218 rfl (i := 1) rfl ?_
                            refine fx_iload_n dX4_fill_219 rfl (i := 2) rfl ?_
                            refine fx_iload_n dX4_fill_220 rfl (i := 3) rfl ?_
                            refine fx_iconst (v := (nI 1)) dX4_fill_221 (by decide) ?_
                            refine fn_isub dX4_fill_222 (by omega) ?_
                            have hp2 := fpc_in hp1 hk4 h1 (by omega) (show A row < col by omega) (by omega) hv hvk (show us v < B v by omega)
                            have hih2 := ih (n - 1) row (col - 1) (uc ce row col v) (uu us v) _ (by rw [hrc] at hn; rw [List.length_cons] at hn; omega) h1 (by omega) (fun _ => by omega) (fun _ => by omega) (by rw [hrc] at hn; rw [List.length_cons] at hn; omega) hp2
                            refine fx_callS dX4_fill_223 lk4_44 hih2 rfl rfl (by omega) (Nat.le_of_ble_eq_true rfl) (by decide) (by decide) (fun r223 f223 al223 h223 => ?_)
                            obtain ⟨G223, rfl, rfl, rfl, hp223, ho223⟩ := h223
                            show fv_At Y4_fill (1 + n) 0 0 Q 226 [(0, .ref 16), (1, .int (nI k)), (2, .int (nI row)), (3, .int (nI col)), (5, .int (nI lo)), (6, .int (nI hi)), (7, .int (nI m)), (8, .int (nI v))] [.int (nI (fiL k A B C (rsP k A C row (col - 1)) (uc ce row col v) (uu us v))), .int (nI m)] (fw cT G223 L) none 0 0
                            refine fn_iadd dX4_fill_226 ?_
                            refine fx_istore (lv2 := [(0, .ref 16), (1, .int (nI k)), (2, .int (nI row)), (3, .int (nI col)), (5, .int (nI lo)), (6, .int (nI hi)), (7, .int (nI (m + (fiL k A B C (rsP k A C row (col - 1)) (uc ce row col v) (uu us v))))), (8, .int (nI v))]) dX4_fill_227 (by decide) rfl ?_
                            refine fx_aload_n dX4_fill_229 rfl (i := 0) rfl ?_
                            refine fw_getr dX4_fill_230 fd4_18 rfl rfl ?_
                            refine fx_iload dX4_fill_233 rfl ?_
                            refine fx_dup2 dX4_fill_235 rfl rfl ?_
                            refine fw_iald v dX4_fill_236 rfl rfl (by omega) (by decide) ?_
                            refine fn_to (show _ = (nI (B v - (us v + 1))) from (by have w := (hp223.2.1 v (by omega) (by omega)).1; unfold uu at w; rw [if_pos rfl] at w; exact w)) ?_
                            refine fx_iconst (v := (nI 1)) dX4_fill_237 (by decide) ?_
                            refine fn_iadd dX4_fill_238 ?_
                            refine fw_iast v dX4_fill_239 rfl rfl (by omega) (by decide) ?_
                            refine fx_aload_n dX4_fill_240 rfl (i := 0) rfl ?_
                            refine fw_getr dX4_fill_241 fd4_21 rfl rfl ?_
                            refine fx_iload dX4_fill_244 rfl ?_
                            refine fx_dup2 dX4_fill_246 rfl rfl ?_
                            refine fw_iald v dX4_fill_247 rfl rfl (by omega) (by decide) ?_
                            refine fn_to (show _ = (nI (us v + 1)) from (by rw [g2_ne _ _ (by omega)]; have w := (hp223.2.1 v (by omega) (by omega)).2.2; unfold uu at w; rw [if_pos rfl] at w; exact w)) ?_
                            refine fx_iconst (v := (nI 1)) dX4_fill_248 (by decide) ?_
                            refine fn_isub dX4_fill_249 (by omega) ?_
                            refine fw_iast v dX4_fill_250 rfl rfl (by omega) (by decide) ?_
                            refine fn_iinc (c := 1) (lv2 := [(0, .ref 16), (1, .int (nI k)), (2, .int (nI row)), (3, .int (nI col)), (5, .int (nI lo)), (6, .int (nI hi)), (7, .int (nI (m + (fiL k A B C (rsP k A C row (col - 1)) (uc ce row col v) (uu us v))))), (8, .int (nI (v + 1)))]) dX4_fill_251 (by decide) rfl (by decide) rfl ?_
                            refine fx_goto (tgt := 137) dX4_fill_254 (by decide) ?_
                            exact (ih137 (v + 1) (m + (fiL k A B C (rsP k A C row (col - 1)) (uc ce row col v) (uu us v))) (g2 (g2 G223 19 v ((nI ((B v - (us v + 1)) + 1)))) 20 v ((nI ((us v + 1) - 1)))) (by omega) (by omega) (by omega) (fpc_out hp223 (by omega)) (fun i a b c => by rw [g2_row _ _ b, g2_row _ _ a, ho223 i a b c, g2_row _ _ b, g2_row _ _ a, g2_row _ _ (by omega)]; exact ho1 i a b c) (by rw [← hR, show k + 1 - v = (k + 1 - (v + 1)) + 1 by omega, fiV_s, if_pos (by unfold fok; exact decide_eq_true ⟨by omega, by omega, fun w => by have := (hlo1 w.1 w.2).1; dsimp only; omega, fun w => by have := (hhi1 w).1; dsimp only; omega⟩)]))
                          · skip
                            have hus1 := (hp1.2.1 (v - 1) (by omega) (by omega)).2.1
                            have hB91 := hb.2.2.2 (v - 1) (by omega) (by omega)
                            refine fx_aload_n dX4_fill_164 rfl (i := 0) rfl ?_
                            refine fw_getr dX4_fill_165 fd4_21 rfl rfl ?_
                            refine fx_iload dX4_fill_168 rfl ?_
                            refine fw_iald v dX4_fill_170 rfl rfl (by omega) (by decide) ?_
                            refine fn_to (show _ = (nI (us v)) from hus.2.2) ?_
                            refine fx_aload_n dX4_fill_171 rfl (i := 0) rfl ?_
                            refine fw_getr dX4_fill_172 fd4_21 rfl rfl ?_
                            refine fx_iload dX4_fill_175 rfl ?_
                            refine fx_iconst (v := (nI 1)) dX4_fill_177 (by decide) ?_
                            refine fn_isub dX4_fill_178 (by omega) ?_
                            refine fw_iald (v - 1) dX4_fill_179 rfl rfl (by omega) (by decide) ?_
                            refine fn_to (show _ = (nI (us (v - 1))) from (hp1.2.1 (v - 1) (by omega) (by omega)).2.2) ?_
                            refine fn_icmp_ge (tgt := 251) dX4_fill_180 (by decide) (by omega) (by omega) (fun c180 => ?_) (fun c180 => ?_)
                            · skip
                              refine fn_iinc (c := 1) (lv2 := [(0, .ref 16), (1, .int (nI k)), (2, .int (nI row)), (3, .int (nI col)), (5, .int (nI lo)), (6, .int (nI hi)), (7, .int (nI m)), (8, .int (nI (v + 1)))]) dX4_fill_251 (by decide) rfl (by decide) rfl ?_
                              refine fx_goto (tgt := 137) dX4_fill_254 (by decide) ?_
                              exact (ih137 (v + 1) m G1 (by omega) (by omega) (by omega) hp1 ho1 (by rw [← hR, show k + 1 - v = (k + 1 - (v + 1)) + 1 by omega, fiV_s, if_neg (by unfold fok; intro w; have w2 := of_decide_eq_true w; omega)]))
                            · skip
                              refine fx_aload_n dX4_fill_183 rfl (i := 0) rfl ?_
                              refine fw_getr dX4_fill_184 fd4_26 rfl rfl ?_
                              refine fx_iload_n dX4_fill_187 rfl (i := 2) rfl ?_
                              refine fw_aald (r := 22 + row) row dX4_fill_188 rfl (by decide) rfl (by omega) (by decide) (cel_at (by omega)) ?_
                              refine fx_iload_n dX4_fill_189 rfl (i := 3) rfl ?_
                              refine fx_iload dX4_fill_190 rfl ?_
                              refine fw_iast col dX4_fill_192 (cel_lay (by omega)) rfl (by omega) (by decide) ?_
                              refine fx_aload_n dX4_fill_193 rfl (i := 0) rfl ?_
                              refine fw_getr dX4_fill_194 fd4_18 rfl rfl ?_
                              refine fx_iload dX4_fill_197 rfl ?_
                              refine fx_dup2 dX4_fill_199 rfl rfl ?_
                              refine fw_iald v dX4_fill_200 rfl rfl (by omega) (by decide) ?_
                              refine fn_to (show _ = (nI (B v - us v)) from (by rw [g2_ne _ _ (by omega)]; exact hus.1)) ?_
                              refine fx_iconst (v := (nI 1)) dX4_fill_201 (by decide) ?_
                              refine fn_isub dX4_fill_202 (by omega) ?_
                              refine fw_iast v dX4_fill_203 rfl rfl (by omega) (by decide) ?_
                              refine fx_aload_n dX4_fill_204 rfl (i := 0) rfl ?_
                              refine fw_getr dX4_fill_205 fd4_21 rfl rfl ?_
                              refine fx_iload dX4_fill_208 rfl ?_
                              refine fx_dup2 dX4_fill_210 rfl rfl ?_
                              refine fw_iald v dX4_fill_211 rfl rfl (by omega) (by decide) ?_
                              refine fn_to (show _ = (nI (us v)) from (by rw [g2_ne _ _ (by omega), g2_ne _ _ (by omega)]; exact hus.2.2)) ?_
                              refine fx_iconst (v := (nI 1)) dX4_fill_212 (by decide) ?_
                              refine fn_iadd dX4_fill_213 ?_
                              refine fw_iast v dX4_fill_214 rfl rfl (by omega) (by decide) ?_
                              refine fx_iload dX4_fill_215 rfl ?_
                              refine fx_aload_n dX4_fill_217 rfl (i := 0) rfl ?_
                              refine fx_iload_n dX4_fill_218 rfl (i := 1) rfl ?_
                              refine fx_iload_n dX4_fill_219 rfl (i := 2) rfl ?_
                              refine fx_iload_n dX4_fill_220 rfl (i := 3) rfl ?_
                              refine fx_iconst (v := (nI 1)) dX4_fill_221 (by decide) ?_
                              refine fn_isub dX4_fill_222 (by omega) ?_
                              have hp2 := fpc_in hp1 hk4 h1 (by omega) (show A row < col by omega) (by omega) hv hvk (show us v < B v by omega)
                              have hih2 := ih (n - 1) row (col - 1) (uc ce row col v) (uu us v) _ (by rw [hrc] at hn; rw [List.length_cons] at hn; omega) h1 (by omega) (fun _ => by omega) (fun _ => by omega) (by rw [hrc] at hn; rw [List.length_cons] at hn; omega) hp2
                              refine fx_callS dX4_fill_223 lk4_44 hih2 rfl rfl (by omega) (Nat.le_of_ble_eq_true rfl) (by decide) (by decide) (fun r223 f223 al223 h223 => ?_)
                              obtain ⟨G223, rfl, rfl, rfl, hp223, ho223⟩ := h223
                              show fv_At Y4_fill (1 + n) 0 0 Q 226 [(0, .ref 16), (1, .int (nI k)), (2, .int (nI row)), (3, .int (nI col)), (5, .int (nI lo)), (6, .int (nI hi)), (7, .int (nI m)), (8, .int (nI v))] [.int (nI (fiL k A B C (rsP k A C row (col - 1)) (uc ce row col v) (uu us v))), .int (nI m)] (fw cT G223 L) none 0 0
                              refine fn_iadd dX4_fill_226 ?_
                              refine fx_istore (lv2 := [(0, .ref 16), (1, .int (nI k)), (2, .int (nI row)), (3, .int (nI col)), (5, .int (nI lo)), (6, .int (nI hi)), (7, .int (nI (m + (fiL k A B C (rsP k A C row (col - 1)) (uc ce row col v) (uu us v))))), (8, .int (nI v))]) dX4_fill_227 (by decide) rfl ?_
                              refine fx_aload_n dX4_fill_229 rfl (i := 0) rfl ?_
                              refine fw_getr dX4_fill_230 fd4_18 rfl rfl ?_
                              refine fx_iload dX4_fill_233 rfl ?_
                              refine fx_dup2 dX4_fill_235 rfl rfl ?_
                              refine fw_iald v dX4_fill_236 rfl rfl (by omega) (by decide) ?_
                              refine fn_to (show _ = (nI (B v - (us v + 1))) from (by have w := (hp223.2.1 v (by omega) (by omega)).1; unfold uu at w; rw [if_pos rfl] at w; exact w)) ?_
                              refine fx_iconst (v := (nI 1)) dX4_fill_237 (by decide) ?_
                              refine fn_iadd dX4_fill_238 ?_
                              refine fw_iast v dX4_fill_239 rfl rfl (by omega) (by decide) ?_
                              refine fx_aload_n dX4_fill_240 rfl (i := 0) rfl ?_
                              refine fw_getr dX4_fill_241 fd4_21 rfl rfl ?_
                              refine fx_iload dX4_fill_244 rfl ?_
                              refine fx_dup2 dX4_fill_246 rfl rfl ?_
                              refine fw_iald v dX4_fill_247 rfl rfl (by omega) (by decide) ?_
                              refine fn_to (show _ = (nI (us v + 1)) from (by rw [g2_ne _ _ (by omega)]; have w := (hp223.2.1 v (by omega) (by omega)).2.2; unfold uu at w; rw [if_pos rfl] at w; exact w)) ?_
                              refine fx_iconst (v := (nI 1)) dX4_fill_248 (by decide) ?_
                              refine fn_isub dX4_fill_249 (by omega) ?_
                              refine fw_iast v dX4_fill_250 rfl rfl (by omega) (by decide) ?_
                              refine fn_iinc (c := 1) (lv2 := [(0, .ref 16), (1, .int (nI k)), (2, .int (nI row)), (3, .int (nI col)), (5, .int (nI lo)), (6, .int (nI hi)), (7, .int (nI (m + (fiL k A B C (rsP k A C row (col - 1)) (uc ce row col v) (uu us v))))), (8, .int (nI (v + 1)))]) dX4_fill_251 (by decide) rfl (by decide) rfl ?_
                              refine fx_goto (tgt := 137) dX4_fill_254 (by decide) ?_
                              exact (ih137 (v + 1) (m + (fiL k A B C (rsP k A C row (col - 1)) (uc ce row col v) (uu us v))) (g2 (g2 G223 19 v ((nI ((B v - (us v + 1)) + 1)))) 20 v ((nI ((us v + 1) - 1)))) (by omega) (by omega) (by omega) (fpc_out hp223 (by omega)) (fun i a b c => by rw [g2_row _ _ b, g2_row _ _ a, ho223 i a b c, g2_row _ _ b, g2_row _ _ a, g2_row _ _ (by omega)]; exact ho1 i a b c) (by rw [← hR, show k + 1 - v = (k + 1 - (v + 1)) + 1 by omega, fiV_s, if_pos (by unfold fok; exact decide_eq_true ⟨by omega, by omega, fun w => by have := (hlo1 w.1 w.2).1; dsimp only; omega, fun w => by have := (hhi1 w).1; dsimp only; omega⟩)]))
                  exact fn_sub [0, 1, 2, 3, 5, 6, 7, 8] rfl (L137 (min hi k + 1) (max lo 1) 0 G (by omega) (by omega) (by omega) hp (fun _ _ _ _ => rfl) (by have w := fiV_skip (fun v => fiL k A B C (rsP k A C row (col - 1)) (uc ce row col v) (uu us v)) (fok A B C (row, col) ce us) (max lo 1 - 1) (k + 1 - max lo 1) 1 0 (fun x x1 x2 => by unfold fok; refine decide_eq_false (fun w => ?_); by_cases z : 1 < row ∧ A (row - 1) < col; (have z1 := w.2.2.1 z; have z2 := (hlo1 z.1 z.2).1; dsimp only at z1; omega); (have z2 := hlo2 z; omega)); rw [show max lo 1 - 1 + (k + 1 - max lo 1) = k by omega, show 1 + (max lo 1 - 1) = max lo 1 by omega] at w; exact w.symm))
              · exact absurd c79 (by decide)
            · skip
              refine fx_iconst (v := (nI 1)) dX4_fill_70 (by decide) ?_
              refine fn_to (show _ = (bI true) from rfl) ?_
              refine fx_goto (tgt := 75) dX4_fill_71 (by decide) ?_
              refine fx_istore (lv2 := [(0, .ref 16), (1, .int (nI k)), (2, .int (nI row)), (3, .int (nI col)), (4, .int (bI true))]) dX4_fill_75 (by decide) rfl ?_
              refine fx_iload dX4_fill_77 rfl ?_
              refine fn_if_eqB (tgt := 97) dX4_fill_79 (by decide) (fun c79 => ?_) (fun c79 => ?_)
              · exact absurd c79 (by decide)
              · skip
                refine fx_aload_n dX4_fill_82 rfl (i := 0) rfl ?_
                refine fw_getr dX4_fill_83 fd4_26 rfl rfl ?_
                refine fx_iload_n dX4_fill_86 rfl (i := 2) rfl ?_
                refine fx_iconst (v := (nI 1)) dX4_fill_87 (by decide) ?_
                refine fn_isub dX4_fill_88 (by omega) ?_
                refine fw_aald (r := 22 + (row - 1)) (row - 1) dX4_fill_89 rfl (by decide) rfl (by omega) (by decide) (cel_at (by omega)) ?_
                refine fx_iload_n dX4_fill_90 rfl (i := 3) rfl ?_
                refine fw_iald col dX4_fill_91 (cel_lay (by omega)) rfl (by omega) (by decide) ?_
                refine fn_to (show _ = (nI (ce (row - 1) col)) from (hlo1 (by omega) (by omega)).2.2.2) ?_
                refine fx_iconst (v := (nI 1)) dX4_fill_92 (by decide) ?_
                refine fn_iadd dX4_fill_93 ?_
                refine fn_to (show _ = (nI lo) from (congrArg nI (hlo1 (by omega) (by omega)).1.symm)) ?_
                refine fx_goto (tgt := 98) dX4_fill_94 (by decide) ?_
                refine fx_istore (lv2 := [(0, .ref 16), (1, .int (nI k)), (2, .int (nI row)), (3, .int (nI col)), (4, .int (bI true)), (5, .int (nI lo))]) dX4_fill_98 (by decide) rfl ?_
                refine fx_iload_n dX4_fill_100 rfl (i := 3) rfl ?_
                refine fx_aload_n dX4_fill_101 rfl (i := 0) rfl ?_
                refine fw_getr dX4_fill_102 fd4_15 rfl rfl ?_
                refine fx_iload_n dX4_fill_105 rfl (i := 2) rfl ?_
                refine fw_iald row dX4_fill_106 rfl rfl (by omega) (by decide) ?_
                refine fn_to (show _ = (nI (C row)) from (hp.1 row (by omega) (by omega)).2) ?_
                refine fn_icmp_ge (tgt := 123) dX4_fill_107 (by decide) (by omega) (by omega) (fun c107 => ?_) (fun c107 => ?_)
                · skip
                  refine fx_iload_n dX4_fill_123 rfl (i := 1) rfl ?_
                  refine fn_to (show _ = (nI hi) from (congrArg nI (hhi2 (by omega)).symm)) ?_
                  refine fx_istore (lv2 := [(0, .ref 16), (1, .int (nI k)), (2, .int (nI row)), (3, .int (nI col)), (4, .int (bI true)), (5, .int (nI lo)), (6, .int (nI hi))]) dX4_fill_124 (by decide) rfl ?_
                  refine fx_iconst (v := (nI 0)) dX4_fill_126 (by decide) ?_
                  refine fx_istore (lv2 := [(0, .ref 16), (1, .int (nI k)), (2, .int (nI row)), (3, .int (nI col)), (4, .int (bI true)), (5, .int (nI lo)), (6, .int (nI hi)), (7, .int (nI 0))]) dX4_fill_127 (by decide) rfl ?_
                  refine fx_iload dX4_fill_129 rfl ?_
                  refine fx_iconst (v := (nI 1)) dX4_fill_131 (by decide) ?_
                  refine fx_mmax dX4_fill_132 lk4_48 (by omega) (by omega) (by omega) (Nat.le_of_ble_eq_true rfl) ?_
                  refine fx_istore (lv2 := [(0, .ref 16), (1, .int (nI k)), (2, .int (nI row)), (3, .int (nI col)), (4, .int (bI true)), (5, .int (nI lo)), (6, .int (nI hi)), (7, .int (nI 0)), (8, .int (nI (max lo 1)))]) dX4_fill_135 (by decide) rfl ?_
                  have L137 : ∀ (k5 : Nat) (v : Nat) (m : Nat) (G1 : Nat → Nat → Int32), (1 ≤ v) → (min hi k + 1 ≤ v + k5) → (lo ≤ v ∧ v ≤ k + 1) → (fpc G1 k A B C ce us row col) → (offf G G1) → (fiV (fun v => fiL k A B C (rsP k A C row (col - 1)) (uc ce row col v) (uu us v)) (fok A B C (row, col) ce us) (k + 1 - v) v m = fiV (fun v => fiL k A B C (rsP k A C row (col - 1)) (uc ce row col v) (uu us v)) (fok A B C (row, col) ce us) k 1 0) → fv_At Y4_fill (1 + n) 0 0 Q 137 [(0, .ref 16), (1, .int (nI k)), (2, .int (nI row)), (3, .int (nI col)), (5, .int (nI lo)), (6, .int (nI hi)), (7, .int (nI m)), (8, .int (nI v))] [] (fw cT G1 L) none 0 0 := by
                    intro k5
                    induction k5 with
                    | zero =>
                      intro v m G1 hv hM hlv hp1 ho1 hR
                      refine fx_iload dX4_fill_137 rfl ?_
                      refine fx_iload dX4_fill_139 rfl ?_
                      refine fx_iload_n dX4_fill_141 rfl (i := 1) rfl ?_
                      refine fx_mmin dX4_fill_142 lk4_39 (by omega) (by omega) (by omega) (Nat.le_of_ble_eq_true rfl) ?_
                      refine fn_icmp_gt (tgt := 257) dX4_fill_145 (by decide) (by omega) (by omega) (fun c145 => ?_) (fun c145 => ?_)
                      · skip
                        refine fx_iload dX4_fill_257 rfl ?_
                        exact fx_iret dX4_fill_259 rfl rfl rfl (by rw [hQ]; exact ⟨G1, by rw [hfl, ← hR, fiV_out _ _ _ _ _ (fun x x1 x2 => by unfold fok; refine decide_eq_false (fun w => ?_); by_cases z : col < C row; (have z1 := w.2.2.2 z; have z2 := (hhi1 z).1; dsimp only at z1; omega); (have z2 := hhi2 z; omega))], rfl, rfl, hp1, ho1⟩)
                      · exfalso; omega
                    | succ k5 ih137 =>
                      intro v m G1 hv hM hlv hp1 ho1 hR
                      refine fx_iload dX4_fill_137 rfl ?_
                      refine fx_iload dX4_fill_139 rfl ?_
                      refine fx_iload_n dX4_fill_141 rfl (i := 1) rfl ?_
                      refine fx_mmin dX4_fill_142 lk4_39 (by omega) (by omega) (by omega) (Nat.le_of_ble_eq_true rfl) ?_
                      refine fn_icmp_gt (tgt := 257) dX4_fill_145 (by decide) (by omega) (by omega) (fun c145 => ?_) (fun c145 => ?_)
                      · skip
                        refine fx_iload dX4_fill_257 rfl ?_
                        exact fx_iret dX4_fill_259 rfl rfl rfl (by rw [hQ]; exact ⟨G1, by rw [hfl, ← hR, fiV_out _ _ _ _ _ (fun x x1 x2 => by unfold fok; refine decide_eq_false (fun w => ?_); by_cases z : col < C row; (have z1 := w.2.2.2 z; have z2 := (hhi1 z).1; dsimp only at z1; omega); (have z2 := hhi2 z; omega))], rfl, rfl, hp1, ho1⟩)
                      · skip
                        have hvk : v ≤ k := by omega
                        have hus := (hp1.2.1 v (by omega) (by omega))
                        have hB9 := hb.2.2.2 v (by omega) (by omega)
                        refine fx_aload_n dX4_fill_148 rfl (i := 0) rfl ?_
                        refine fw_getr dX4_fill_149 fd4_18 rfl rfl ?_
                        refine fx_iload dX4_fill_152 rfl ?_
                        refine fw_iald v dX4_fill_154 rfl rfl (by omega) (by decide) ?_
                        refine fn_to (show _ = (nI (B v - us v)) from hus.1) ?_
                        refine fn_if_le (tgt := 251) dX4_fill_155 (by decide) (by omega) (fun c155 => ?_) (fun c155 => ?_)
                        · skip
                          refine fn_iinc (c := 1) (lv2 := [(0, .ref 16), (1, .int (nI k)), (2, .int (nI row)), (3, .int (nI col)), (5, .int (nI lo)), (6, .int (nI hi)), (7, .int (nI m)), (8, .int (nI (v + 1)))]) dX4_fill_251 (by decide) rfl (by decide) rfl ?_
                          refine fx_goto (tgt := 137) dX4_fill_254 (by decide) ?_
                          exact (ih137 (v + 1) m G1 (by omega) (by omega) (by omega) hp1 ho1 (by rw [← hR, show k + 1 - v = (k + 1 - (v + 1)) + 1 by omega, fiV_s, if_neg (by unfold fok; intro w; have w2 := of_decide_eq_true w; omega)]))
                        · skip
                          refine fx_iload dX4_fill_158 rfl ?_
                          refine fx_iconst (v := (nI 1)) dX4_fill_160 (by decide) ?_
                          refine fn_icmp_eq (tgt := 183) dX4_fill_161 (by decide) (by omega) (by omega) (fun c161 => ?_) (fun c161 => ?_)
                          · skip
                            refine fx_aload_n dX4_fill_183 rfl (i := 0) rfl ?_
                            refine fw_getr dX4_fill_184 fd4_26 rfl rfl ?_
                            refine fx_iload_n dX4_fill_187 rfl (i := 2) rfl ?_
                            refine fw_aald (r := 22 + row) row dX4_fill_188 rfl (by decide) rfl (by omega) (by decide) (cel_at (by omega)) ?_
                            refine fx_iload_n dX4_fill_189 rfl (i := 3) rfl ?_
                            refine fx_iload dX4_fill_190 rfl ?_
                            refine fw_iast col dX4_fill_192 (cel_lay (by omega)) rfl (by omega) (by decide) ?_
                            refine fx_aload_n dX4_fill_193 rfl (i := 0) rfl ?_
                            refine fw_getr dX4_fill_194 fd4_18 rfl rfl ?_
                            refine fx_iload dX4_fill_197 rfl ?_
                            refine fx_dup2 dX4_fill_199 rfl rfl ?_
                            refine fw_iald v dX4_fill_200 rfl rfl (by omega) (by decide) ?_
                            refine fn_to (show _ = (nI (B v - us v)) from (by rw [g2_ne _ _ (by omega)]; exact hus.1)) ?_
                            refine fx_iconst (v := (nI 1)) dX4_fill_201 (by decide) ?_
                            refine fn_isub dX4_fill_202 (by omega) ?_
                            refine fw_iast v dX4_fill_203 rfl rfl (by omega) (by decide) ?_
                            refine fx_aload_n dX4_fill_204 rfl (i := 0) rfl ?_
                            refine fw_getr dX4_fill_205 fd4_21 rfl rfl ?_
                            refine fx_iload dX4_fill_208 rfl ?_
                            refine fx_dup2 dX4_fill_210 rfl rfl ?_
                            refine fw_iald v dX4_fill_211 rfl rfl (by omega) (by decide) ?_
                            refine fn_to (show _ = (nI (us v)) from (by rw [g2_ne _ _ (by omega), g2_ne _ _ (by omega)]; exact hus.2.2)) ?_
                            refine fx_iconst (v := (nI 1)) dX4_fill_212 (by decide) ?_
                            refine fn_iadd dX4_fill_213 ?_
                            refine fw_iast v dX4_fill_214 rfl rfl (by omega) (by decide) ?_
                            refine fx_iload dX4_fill_215 rfl ?_
                            refine fx_aload_n dX4_fill_217 rfl (i := 0) rfl ?_
                            refine fx_iload_n dX4_fill_218 rfl (i := 1) rfl ?_
                            refine fx_iload_n dX4_fill_219 rfl (i := 2) rfl ?_
                            refine fx_iload_n dX4_fill_220 rfl (i := 3) rfl ?_
                            refine fx_iconst (v := (nI 1)) dX4_fill_221 (by decide) ?_
                            refine fn_isub dX4_fill_222 (by omega) ?_
                            have hp2 := fpc_in hp1 hk4 h1 (by omega) (show A row < col by omega) (by omega) hv hvk (show us v < B v by omega)
                            have hih2 := ih (n - 1) row (col - 1) (uc ce row col v) (uu us v) _ (by rw [hrc] at hn; rw [List.length_cons] at hn; omega) h1 (by omega) (fun _ => by omega) (fun _ => by omega) (by rw [hrc] at hn; rw [List.length_cons] at hn; omega) hp2
                            refine fx_callS dX4_fill_223 lk4_44 hih2 rfl rfl (by omega) (Nat.le_of_ble_eq_true rfl) (by decide) (by decide) (fun r223 f223 al223 h223 => ?_)
                            obtain ⟨G223, rfl, rfl, rfl, hp223, ho223⟩ := h223
                            show fv_At Y4_fill (1 + n) 0 0 Q 226 [(0, .ref 16), (1, .int (nI k)), (2, .int (nI row)), (3, .int (nI col)), (5, .int (nI lo)), (6, .int (nI hi)), (7, .int (nI m)), (8, .int (nI v))] [.int (nI (fiL k A B C (rsP k A C row (col - 1)) (uc ce row col v) (uu us v))), .int (nI m)] (fw cT G223 L) none 0 0
                            refine fn_iadd dX4_fill_226 ?_
                            refine fx_istore (lv2 := [(0, .ref 16), (1, .int (nI k)), (2, .int (nI row)), (3, .int (nI col)), (5, .int (nI lo)), (6, .int (nI hi)), (7, .int (nI (m + (fiL k A B C (rsP k A C row (col - 1)) (uc ce row col v) (uu us v))))), (8, .int (nI v))]) dX4_fill_227 (by decide) rfl ?_
                            refine fx_aload_n dX4_fill_229 rfl (i := 0) rfl ?_
                            refine fw_getr dX4_fill_230 fd4_18 rfl rfl ?_
                            refine fx_iload dX4_fill_233 rfl ?_
                            refine fx_dup2 dX4_fill_235 rfl rfl ?_
                            refine fw_iald v dX4_fill_236 rfl rfl (by omega) (by decide) ?_
                            refine fn_to (show _ = (nI (B v - (us v + 1))) from (by have w := (hp223.2.1 v (by omega) (by omega)).1; unfold uu at w; rw [if_pos rfl] at w; exact w)) ?_
                            refine fx_iconst (v := (nI 1)) dX4_fill_237 (by decide) ?_
                            refine fn_iadd dX4_fill_238 ?_
                            refine fw_iast v dX4_fill_239 rfl rfl (by omega) (by decide) ?_
                            refine fx_aload_n dX4_fill_240 rfl (i := 0) rfl ?_
                            refine fw_getr dX4_fill_241 fd4_21 rfl rfl ?_
                            refine fx_iload dX4_fill_244 rfl ?_
                            refine fx_dup2 dX4_fill_246 rfl rfl ?_
                            refine fw_iald v dX4_fill_247 rfl rfl (by omega) (by decide) ?_
                            refine fn_to (show _ = (nI (us v + 1)) from (by rw [g2_ne _ _ (by omega)]; have w := (hp223.2.1 v (by omega) (by omega)).2.2; unfold uu at w; rw [if_pos rfl] at w; exact w)) ?_
                            refine fx_iconst (v := (nI 1)) dX4_fill_248 (by decide) ?_
                            refine fn_isub dX4_fill_249 (by omega) ?_
                            refine fw_iast v dX4_fill_250 rfl rfl (by omega) (by decide) ?_
                            refine fn_iinc (c := 1) (lv2 := [(0, .ref 16), (1, .int (nI k)), (2, .int (nI row)), (3, .int (nI col)), (5, .int (nI lo)), (6, .int (nI hi)), (7, .int (nI (m + (fiL k A B C (rsP k A C row (col - 1)) (uc ce row col v) (uu us v))))), (8, .int (nI (v + 1)))]) dX4_fill_251 (by decide) rfl (by decide) rfl ?_
                            refine fx_goto (tgt := 137) dX4_fill_254 (by decide) ?_
                            exact (ih137 (v + 1) (m + (fiL k A B C (rsP k A C row (col - 1)) (uc ce row col v) (uu us v))) (g2 (g2 G223 19 v ((nI ((B v - (us v + 1)) + 1)))) 20 v ((nI ((us v + 1) - 1)))) (by omega) (by omega) (by omega) (fpc_out hp223 (by omega)) (fun i a b c => by rw [g2_row _ _ b, g2_row _ _ a, ho223 i a b c, g2_row _ _ b, g2_row _ _ a, g2_row _ _ (by omega)]; exact ho1 i a b c) (by rw [← hR, show k + 1 - v = (k + 1 - (v + 1)) + 1 by omega, fiV_s, if_pos (by unfold fok; exact decide_eq_true ⟨by omega, by omega, fun w => by have := (hlo1 w.1 w.2).1; dsimp only; omega, fun w => by have := (hhi1 w).1; dsimp only; omega⟩)]))
                          · skip
                            have hus1 := (hp1.2.1 (v - 1) (by omega) (by omega)).2.1
                            have hB91 := hb.2.2.2 (v - 1) (by omega) (by omega)
                            refine fx_aload_n dX4_fill_164 rfl (i := 0) rfl ?_
                            refine fw_getr dX4_fill_165 fd4_21 rfl rfl ?_
                            refine fx_iload dX4_fill_168 rfl ?_
                            refine fw_iald v dX4_fill_170 rfl rfl (by omega) (by decide) ?_
                            refine fn_to (show _ = (nI (us v)) from hus.2.2) ?_
                            refine fx_aload_n dX4_fill_171 rfl (i := 0) rfl ?_
                            refine fw_getr dX4_fill_172 fd4_21 rfl rfl ?_
                            refine fx_iload dX4_fill_175 rfl ?_
                            refine fx_iconst (v := (nI 1)) dX4_fill_177 (by decide) ?_
                            refine fn_isub dX4_fill_178 (by omega) ?_
                            refine fw_iald (v - 1) dX4_fill_179 rfl rfl (by omega) (by decide) ?_
                            refine fn_to (show _ = (nI (us (v - 1))) from (hp1.2.1 (v - 1) (by omega) (by omega)).2.2) ?_
                            refine fn_icmp_ge (tgt := 251) dX4_fill_180 (by decide) (by omega) (by omega) (fun c180 => ?_) (fun c180 => ?_)
                            · skip
                              refine fn_iinc (c := 1) (lv2 := [(0, .ref 16), (1, .int (nI k)), (2, .int (nI row)), (3, .int (nI col)), (5, .int (nI lo)), (6, .int (nI hi)), (7, .int (nI m)), (8, .int (nI (v + 1)))]) dX4_fill_251 (by decide) rfl (by decide) rfl ?_
                              refine fx_goto (tgt := 137) dX4_fill_254 (by decide) ?_
                              exact (ih137 (v + 1) m G1 (by omega) (by omega) (by omega) hp1 ho1 (by rw [← hR, show k + 1 - v = (k + 1 - (v + 1)) + 1 by omega, fiV_s, if_neg (by unfold fok; intro w; have w2 := of_decide_eq_true w; omega)]))
                            · skip
                              refine fx_aload_n dX4_fill_183 rfl (i := 0) rfl ?_
                              refine fw_getr dX4_fill_184 fd4_26 rfl rfl ?_
                              refine fx_iload_n dX4_fill_187 rfl (i := 2) rfl ?_
                              refine fw_aald (r := 22 + row) row dX4_fill_188 rfl (by decide) rfl (by omega) (by decide) (cel_at (by omega)) ?_
                              refine fx_iload_n dX4_fill_189 rfl (i := 3) rfl ?_
                              refine fx_iload dX4_fill_190 rfl ?_
                              refine fw_iast col dX4_fill_192 (cel_lay (by omega)) rfl (by omega) (by decide) ?_
                              refine fx_aload_n dX4_fill_193 rfl (i := 0) rfl ?_
                              refine fw_getr dX4_fill_194 fd4_18 rfl rfl ?_
                              refine fx_iload dX4_fill_197 rfl ?_
                              refine fx_dup2 dX4_fill_199 rfl rfl ?_
                              refine fw_iald v dX4_fill_200 rfl rfl (by omega) (by decide) ?_
                              refine fn_to (show _ = (nI (B v - us v)) from (by rw [g2_ne _ _ (by omega)]; exact hus.1)) ?_
                              refine fx_iconst (v := (nI 1)) dX4_fill_201 (by decide) ?_
                              refine fn_isub dX4_fill_202 (by omega) ?_
                              refine fw_iast v dX4_fill_203 rfl rfl (by omega) (by decide) ?_
                              refine fx_aload_n dX4_fill_204 rfl (i := 0) rfl ?_
                              refine fw_getr dX4_fill_205 fd4_21 rfl rfl ?_
                              refine fx_iload dX4_fill_208 rfl ?_
                              refine fx_dup2 dX4_fill_210 rfl rfl ?_
                              refine fw_iald v dX4_fill_211 rfl rfl (by omega) (by decide) ?_
                              refine fn_to (show _ = (nI (us v)) from (by rw [g2_ne _ _ (by omega), g2_ne _ _ (by omega)]; exact hus.2.2)) ?_
                              refine fx_iconst (v := (nI 1)) dX4_fill_212 (by decide) ?_
                              refine fn_iadd dX4_fill_213 ?_
                              refine fw_iast v dX4_fill_214 rfl rfl (by omega) (by decide) ?_
                              refine fx_iload dX4_fill_215 rfl ?_
                              refine fx_aload_n dX4_fill_217 rfl (i := 0) rfl ?_
                              refine fx_iload_n dX4_fill_218 rfl (i := 1) rfl ?_
                              refine fx_iload_n dX4_fill_219 rfl (i := 2) rfl ?_
                              refine fx_iload_n dX4_fill_220 rfl (i := 3) rfl ?_
                              refine fx_iconst (v := (nI 1)) dX4_fill_221 (by decide) ?_
                              refine fn_isub dX4_fill_222 (by omega) ?_
                              have hp2 := fpc_in hp1 hk4 h1 (by omega) (show A row < col by omega) (by omega) hv hvk (show us v < B v by omega)
                              have hih2 := ih (n - 1) row (col - 1) (uc ce row col v) (uu us v) _ (by rw [hrc] at hn; rw [List.length_cons] at hn; omega) h1 (by omega) (fun _ => by omega) (fun _ => by omega) (by rw [hrc] at hn; rw [List.length_cons] at hn; omega) hp2
                              refine fx_callS dX4_fill_223 lk4_44 hih2 rfl rfl (by omega) (Nat.le_of_ble_eq_true rfl) (by decide) (by decide) (fun r223 f223 al223 h223 => ?_)
                              obtain ⟨G223, rfl, rfl, rfl, hp223, ho223⟩ := h223
                              show fv_At Y4_fill (1 + n) 0 0 Q 226 [(0, .ref 16), (1, .int (nI k)), (2, .int (nI row)), (3, .int (nI col)), (5, .int (nI lo)), (6, .int (nI hi)), (7, .int (nI m)), (8, .int (nI v))] [.int (nI (fiL k A B C (rsP k A C row (col - 1)) (uc ce row col v) (uu us v))), .int (nI m)] (fw cT G223 L) none 0 0
                              refine fn_iadd dX4_fill_226 ?_
                              refine fx_istore (lv2 := [(0, .ref 16), (1, .int (nI k)), (2, .int (nI row)), (3, .int (nI col)), (5, .int (nI lo)), (6, .int (nI hi)), (7, .int (nI (m + (fiL k A B C (rsP k A C row (col - 1)) (uc ce row col v) (uu us v))))), (8, .int (nI v))]) dX4_fill_227 (by decide) rfl ?_
                              refine fx_aload_n dX4_fill_229 rfl (i := 0) rfl ?_
                              refine fw_getr dX4_fill_230 fd4_18 rfl rfl ?_
                              refine fx_iload dX4_fill_233 rfl ?_
                              refine fx_dup2 dX4_fill_235 rfl rfl ?_
                              refine fw_iald v dX4_fill_236 rfl rfl (by omega) (by decide) ?_
                              refine fn_to (show _ = (nI (B v - (us v + 1))) from (by have w := (hp223.2.1 v (by omega) (by omega)).1; unfold uu at w; rw [if_pos rfl] at w; exact w)) ?_
                              refine fx_iconst (v := (nI 1)) dX4_fill_237 (by decide) ?_
                              refine fn_iadd dX4_fill_238 ?_
                              refine fw_iast v dX4_fill_239 rfl rfl (by omega) (by decide) ?_
                              refine fx_aload_n dX4_fill_240 rfl (i := 0) rfl ?_
                              refine fw_getr dX4_fill_241 fd4_21 rfl rfl ?_
                              refine fx_iload dX4_fill_244 rfl ?_
                              refine fx_dup2 dX4_fill_246 rfl rfl ?_
                              refine fw_iald v dX4_fill_247 rfl rfl (by omega) (by decide) ?_
                              refine fn_to (show _ = (nI (us v + 1)) from (by rw [g2_ne _ _ (by omega)]; have w := (hp223.2.1 v (by omega) (by omega)).2.2; unfold uu at w; rw [if_pos rfl] at w; exact w)) ?_
                              refine fx_iconst (v := (nI 1)) dX4_fill_248 (by decide) ?_
                              refine fn_isub dX4_fill_249 (by omega) ?_
                              refine fw_iast v dX4_fill_250 rfl rfl (by omega) (by decide) ?_
                              refine fn_iinc (c := 1) (lv2 := [(0, .ref 16), (1, .int (nI k)), (2, .int (nI row)), (3, .int (nI col)), (5, .int (nI lo)), (6, .int (nI hi)), (7, .int (nI (m + (fiL k A B C (rsP k A C row (col - 1)) (uc ce row col v) (uu us v))))), (8, .int (nI (v + 1)))]) dX4_fill_251 (by decide) rfl (by decide) rfl ?_
                              refine fx_goto (tgt := 137) dX4_fill_254 (by decide) ?_
                              exact (ih137 (v + 1) (m + (fiL k A B C (rsP k A C row (col - 1)) (uc ce row col v) (uu us v))) (g2 (g2 G223 19 v ((nI ((B v - (us v + 1)) + 1)))) 20 v ((nI ((us v + 1) - 1)))) (by omega) (by omega) (by omega) (fpc_out hp223 (by omega)) (fun i a b c => by rw [g2_row _ _ b, g2_row _ _ a, ho223 i a b c, g2_row _ _ b, g2_row _ _ a, g2_row _ _ (by omega)]; exact ho1 i a b c) (by rw [← hR, show k + 1 - v = (k + 1 - (v + 1)) + 1 by omega, fiV_s, if_pos (by unfold fok; exact decide_eq_true ⟨by omega, by omega, fun w => by have := (hlo1 w.1 w.2).1; dsimp only; omega, fun w => by have := (hhi1 w).1; dsimp only; omega⟩)]))
                  exact fn_sub [0, 1, 2, 3, 5, 6, 7, 8] rfl (L137 (min hi k + 1) (max lo 1) 0 G (by omega) (by omega) (by omega) hp (fun _ _ _ _ => rfl) (by have w := fiV_skip (fun v => fiL k A B C (rsP k A C row (col - 1)) (uc ce row col v) (uu us v)) (fok A B C (row, col) ce us) (max lo 1 - 1) (k + 1 - max lo 1) 1 0 (fun x x1 x2 => by unfold fok; refine decide_eq_false (fun w => ?_); by_cases z : 1 < row ∧ A (row - 1) < col; (have z1 := w.2.2.1 z; have z2 := (hlo1 z.1 z.2).1; dsimp only at z1; omega); (have z2 := hlo2 z; omega)); rw [show max lo 1 - 1 + (k + 1 - max lo 1) = k by omega, show 1 + (max lo 1 - 1) = max lo 1 by omega] at w; exact w.symm))
                · skip
                  refine fx_aload_n dX4_fill_110 rfl (i := 0) rfl ?_
                  refine fw_getr dX4_fill_111 fd4_26 rfl rfl ?_
                  refine fx_iload_n dX4_fill_114 rfl (i := 2) rfl ?_
                  refine fw_aald (r := 22 + row) row dX4_fill_115 rfl (by decide) rfl (by omega) (by decide) (cel_at (by omega)) ?_
                  refine fx_iload_n dX4_fill_116 rfl (i := 3) rfl ?_
                  refine fx_iconst (v := (nI 1)) dX4_fill_117 (by decide) ?_
                  refine fn_iadd dX4_fill_118 ?_
                  refine fw_iald (col + 1) dX4_fill_119 (cel_lay (by omega)) rfl (by omega) (by decide) ?_
                  refine fn_to (show _ = (nI hi) from ((hhi1 (by omega)).2.2.trans (congrArg nI (hhi1 (by omega)).1.symm))) ?_
                  refine fx_goto (tgt := 124) dX4_fill_120 (by decide) ?_
                  refine fx_istore (lv2 := [(0, .ref 16), (1, .int (nI k)), (2, .int (nI row)), (3, .int (nI col)), (4, .int (bI true)), (5, .int (nI lo)), (6, .int (nI hi))]) dX4_fill_124 (by decide) rfl ?_
                  refine fx_iconst (v := (nI 0)) dX4_fill_126 (by decide) ?_
                  refine fx_istore (lv2 := [(0, .ref 16), (1, .int (nI k)), (2, .int (nI row)), (3, .int (nI col)), (4, .int (bI true)), (5, .int (nI lo)), (6, .int (nI hi)), (7, .int (nI 0))]) dX4_fill_127 (by decide) rfl ?_
                  refine fx_iload dX4_fill_129 rfl ?_
                  refine fx_iconst (v := (nI 1)) dX4_fill_131 (by decide) ?_
                  refine fx_mmax dX4_fill_132 lk4_48 (by omega) (by omega) (by omega) (Nat.le_of_ble_eq_true rfl) ?_
                  refine fx_istore (lv2 := [(0, .ref 16), (1, .int (nI k)), (2, .int (nI row)), (3, .int (nI col)), (4, .int (bI true)), (5, .int (nI lo)), (6, .int (nI hi)), (7, .int (nI 0)), (8, .int (nI (max lo 1)))]) dX4_fill_135 (by decide) rfl ?_
                  have L137 : ∀ (k5 : Nat) (v : Nat) (m : Nat) (G1 : Nat → Nat → Int32), (1 ≤ v) → (min hi k + 1 ≤ v + k5) → (lo ≤ v ∧ v ≤ k + 1) → (fpc G1 k A B C ce us row col) → (offf G G1) → (fiV (fun v => fiL k A B C (rsP k A C row (col - 1)) (uc ce row col v) (uu us v)) (fok A B C (row, col) ce us) (k + 1 - v) v m = fiV (fun v => fiL k A B C (rsP k A C row (col - 1)) (uc ce row col v) (uu us v)) (fok A B C (row, col) ce us) k 1 0) → fv_At Y4_fill (1 + n) 0 0 Q 137 [(0, .ref 16), (1, .int (nI k)), (2, .int (nI row)), (3, .int (nI col)), (5, .int (nI lo)), (6, .int (nI hi)), (7, .int (nI m)), (8, .int (nI v))] [] (fw cT G1 L) none 0 0 := by
                    intro k5
                    induction k5 with
                    | zero =>
                      intro v m G1 hv hM hlv hp1 ho1 hR
                      refine fx_iload dX4_fill_137 rfl ?_
                      refine fx_iload dX4_fill_139 rfl ?_
                      refine fx_iload_n dX4_fill_141 rfl (i := 1) rfl ?_
                      refine fx_mmin dX4_fill_142 lk4_39 (by omega) (by omega) (by omega) (Nat.le_of_ble_eq_true rfl) ?_
                      refine fn_icmp_gt (tgt := 257) dX4_fill_145 (by decide) (by omega) (by omega) (fun c145 => ?_) (fun c145 => ?_)
                      · skip
                        refine fx_iload dX4_fill_257 rfl ?_
                        exact fx_iret dX4_fill_259 rfl rfl rfl (by rw [hQ]; exact ⟨G1, by rw [hfl, ← hR, fiV_out _ _ _ _ _ (fun x x1 x2 => by unfold fok; refine decide_eq_false (fun w => ?_); by_cases z : col < C row; (have z1 := w.2.2.2 z; have z2 := (hhi1 z).1; dsimp only at z1; omega); (have z2 := hhi2 z; omega))], rfl, rfl, hp1, ho1⟩)
                      · exfalso; omega
                    | succ k5 ih137 =>
                      intro v m G1 hv hM hlv hp1 ho1 hR
                      refine fx_iload dX4_fill_137 rfl ?_
                      refine fx_iload dX4_fill_139 rfl ?_
                      refine fx_iload_n dX4_fill_141 rfl (i := 1) rfl ?_
                      refine fx_mmin dX4_fill_142 lk4_39 (by omega) (by omega) (by omega) (Nat.le_of_ble_eq_true rfl) ?_
                      refine fn_icmp_gt (tgt := 257) dX4_fill_145 (by decide) (by omega) (by omega) (fun c145 => ?_) (fun c145 => ?_)
                      · skip
                        refine fx_iload dX4_fill_257 rfl ?_
                        exact fx_iret dX4_fill_259 rfl rfl rfl (by rw [hQ]; exact ⟨G1, by rw [hfl, ← hR, fiV_out _ _ _ _ _ (fun x x1 x2 => by unfold fok; refine decide_eq_false (fun w => ?_); by_cases z : col < C row; (have z1 := w.2.2.2 z; have z2 := (hhi1 z).1; dsimp only at z1; omega); (have z2 := hhi2 z; omega))], rfl, rfl, hp1, ho1⟩)
                      · skip
                        have hvk : v ≤ k := by omega
                        have hus := (hp1.2.1 v (by omega) (by omega))
                        have hB9 := hb.2.2.2 v (by omega) (by omega)
                        refine fx_aload_n dX4_fill_148 rfl (i := 0) rfl ?_
                        refine fw_getr dX4_fill_149 fd4_18 rfl rfl ?_
                        refine fx_iload dX4_fill_152 rfl ?_
                        refine fw_iald v dX4_fill_154 rfl rfl (by omega) (by decide) ?_
                        refine fn_to (show _ = (nI (B v - us v)) from hus.1) ?_
                        refine fn_if_le (tgt := 251) dX4_fill_155 (by decide) (by omega) (fun c155 => ?_) (fun c155 => ?_)
                        · skip
                          refine fn_iinc (c := 1) (lv2 := [(0, .ref 16), (1, .int (nI k)), (2, .int (nI row)), (3, .int (nI col)), (5, .int (nI lo)), (6, .int (nI hi)), (7, .int (nI m)), (8, .int (nI (v + 1)))]) dX4_fill_251 (by decide) rfl (by decide) rfl ?_
                          refine fx_goto (tgt := 137) dX4_fill_254 (by decide) ?_
                          exact (ih137 (v + 1) m G1 (by omega) (by omega) (by omega) hp1 ho1 (by rw [← hR, show k + 1 - v = (k + 1 - (v + 1)) + 1 by omega, fiV_s, if_neg (by unfold fok; intro w; have w2 := of_decide_eq_true w; omega)]))
                        · skip
                          refine fx_iload dX4_fill_158 rfl ?_
                          refine fx_iconst (v := (nI 1)) dX4_fill_160 (by decide) ?_
                          refine fn_icmp_eq (tgt := 183) dX4_fill_161 (by decide) (by omega) (by omega) (fun c161 => ?_) (fun c161 => ?_)
                          · skip
                            refine fx_aload_n dX4_fill_183 rfl (i := 0) rfl ?_
                            refine fw_getr dX4_fill_184 fd4_26 rfl rfl ?_
                            refine fx_iload_n dX4_fill_187 rfl (i := 2) rfl ?_
                            refine fw_aald (r := 22 + row) row dX4_fill_188 rfl (by decide) rfl (by omega) (by decide) (cel_at (by omega)) ?_
                            refine fx_iload_n dX4_fill_189 rfl (i := 3) rfl ?_
                            refine fx_iload dX4_fill_190 rfl ?_
                            refine fw_iast col dX4_fill_192 (cel_lay (by omega)) rfl (by omega) (by decide) ?_
                            refine fx_aload_n dX4_fill_193 rfl (i := 0) rfl ?_
                            refine fw_getr dX4_fill_194 fd4_18 rfl rfl ?_
                            refine fx_iload dX4_fill_197 rfl ?_
                            refine fx_dup2 dX4_fill_199 rfl rfl ?_
                            refine fw_iald v dX4_fill_200 rfl rfl (by omega) (by decide) ?_
                            refine fn_to (show _ = (nI (B v - us v)) from (by rw [g2_ne _ _ (by omega)]; exact hus.1)) ?_
                            refine fx_iconst (v := (nI 1)) dX4_fill_201 (by decide) ?_
                            refine fn_isub dX4_fill_202 (by omega) ?_
                            refine fw_iast v dX4_fill_203 rfl rfl (by omega) (by decide) ?_
                            refine fx_aload_n dX4_fill_204 rfl (i := 0) rfl ?_
                            refine fw_getr dX4_fill_205 fd4_21 rfl rfl ?_
                            refine fx_iload dX4_fill_208 rfl ?_
                            refine fx_dup2 dX4_fill_210 rfl rfl ?_
                            refine fw_iald v dX4_fill_211 rfl rfl (by omega) (by decide) ?_
                            refine fn_to (show _ = (nI (us v)) from (by rw [g2_ne _ _ (by omega), g2_ne _ _ (by omega)]; exact hus.2.2)) ?_
                            refine fx_iconst (v := (nI 1)) dX4_fill_212 (by decide) ?_
                            refine fn_iadd dX4_fill_213 ?_
                            refine fw_iast v dX4_fill_214 rfl rfl (by omega) (by decide) ?_
                            refine fx_iload dX4_fill_215 rfl ?_
                            refine fx_aload_n dX4_fill_217 rfl (i := 0) rfl ?_
                            refine fx_iload_n dX4_fill_218 rfl (i := 1) rfl ?_
                            refine fx_iload_n dX4_fill_219 rfl (i := 2) rfl ?_
                            refine fx_iload_n dX4_fill_220 rfl (i := 3) rfl ?_
                            refine fx_iconst (v := (nI 1)) dX4_fill_221 (by decide) ?_
                            refine fn_isub dX4_fill_222 (by omega) ?_
                            have hp2 := fpc_in hp1 hk4 h1 (by omega) (show A row < col by omega) (by omega) hv hvk (show us v < B v by omega)
                            have hih2 := ih (n - 1) row (col - 1) (uc ce row col v) (uu us v) _ (by rw [hrc] at hn; rw [List.length_cons] at hn; omega) h1 (by omega) (fun _ => by omega) (fun _ => by omega) (by rw [hrc] at hn; rw [List.length_cons] at hn; omega) hp2
                            refine fx_callS dX4_fill_223 lk4_44 hih2 rfl rfl (by omega) (Nat.le_of_ble_eq_true rfl) (by decide) (by decide) (fun r223 f223 al223 h223 => ?_)
                            obtain ⟨G223, rfl, rfl, rfl, hp223, ho223⟩ := h223
                            show fv_At Y4_fill (1 + n) 0 0 Q 226 [(0, .ref 16), (1, .int (nI k)), (2, .int (nI row)), (3, .int (nI col)), (5, .int (nI lo)), (6, .int (nI hi)), (7, .int (nI m)), (8, .int (nI v))] [.int (nI (fiL k A B C (rsP k A C row (col - 1)) (uc ce row col v) (uu us v))), .int (nI m)] (fw cT G223 L) none 0 0
                            refine fn_iadd dX4_fill_226 ?_
                            refine fx_istore (lv2 := [(0, .ref 16), (1, .int (nI k)), (2, .int (nI row)), (3, .int (nI col)), (5, .int (nI lo)), (6, .int (nI hi)), (7, .int (nI (m + (fiL k A B C (rsP k A C row (col - 1)) (uc ce row col v) (uu us v))))), (8, .int (nI v))]) dX4_fill_227 (by decide) rfl ?_
                            refine fx_aload_n dX4_fill_229 rfl (i := 0) rfl ?_
                            refine fw_getr dX4_fill_230 fd4_18 rfl rfl ?_
                            refine fx_iload dX4_fill_233 rfl ?_
                            refine fx_dup2 dX4_fill_235 rfl rfl ?_
                            refine fw_iald v dX4_fill_236 rfl rfl (by omega) (by decide) ?_
                            refine fn_to (show _ = (nI (B v - (us v + 1))) from (by have w := (hp223.2.1 v (by omega) (by omega)).1; unfold uu at w; rw [if_pos rfl] at w; exact w)) ?_
                            refine fx_iconst (v := (nI 1)) dX4_fill_237 (by decide) ?_
                            refine fn_iadd dX4_fill_238 ?_
                            refine fw_iast v dX4_fill_239 rfl rfl (by omega) (by decide) ?_
                            refine fx_aload_n dX4_fill_240 rfl (i := 0) rfl ?_
                            refine fw_getr dX4_fill_241 fd4_21 rfl rfl ?_
                            refine fx_iload dX4_fill_244 rfl ?_
                            refine fx_dup2 dX4_fill_246 rfl rfl ?_
                            refine fw_iald v dX4_fill_247 rfl rfl (by omega) (by decide) ?_
                            refine fn_to (show _ = (nI (us v + 1)) from (by rw [g2_ne _ _ (by omega)]; have w := (hp223.2.1 v (by omega) (by omega)).2.2; unfold uu at w; rw [if_pos rfl] at w; exact w)) ?_
                            refine fx_iconst (v := (nI 1)) dX4_fill_248 (by decide) ?_
                            refine fn_isub dX4_fill_249 (by omega) ?_
                            refine fw_iast v dX4_fill_250 rfl rfl (by omega) (by decide) ?_
                            refine fn_iinc (c := 1) (lv2 := [(0, .ref 16), (1, .int (nI k)), (2, .int (nI row)), (3, .int (nI col)), (5, .int (nI lo)), (6, .int (nI hi)), (7, .int (nI (m + (fiL k A B C (rsP k A C row (col - 1)) (uc ce row col v) (uu us v))))), (8, .int (nI (v + 1)))]) dX4_fill_251 (by decide) rfl (by decide) rfl ?_
                            refine fx_goto (tgt := 137) dX4_fill_254 (by decide) ?_
                            exact (ih137 (v + 1) (m + (fiL k A B C (rsP k A C row (col - 1)) (uc ce row col v) (uu us v))) (g2 (g2 G223 19 v ((nI ((B v - (us v + 1)) + 1)))) 20 v ((nI ((us v + 1) - 1)))) (by omega) (by omega) (by omega) (fpc_out hp223 (by omega)) (fun i a b c => by rw [g2_row _ _ b, g2_row _ _ a, ho223 i a b c, g2_row _ _ b, g2_row _ _ a, g2_row _ _ (by omega)]; exact ho1 i a b c) (by rw [← hR, show k + 1 - v = (k + 1 - (v + 1)) + 1 by omega, fiV_s, if_pos (by unfold fok; exact decide_eq_true ⟨by omega, by omega, fun w => by have := (hlo1 w.1 w.2).1; dsimp only; omega, fun w => by have := (hhi1 w).1; dsimp only; omega⟩)]))
                          · skip
                            have hus1 := (hp1.2.1 (v - 1) (by omega) (by omega)).2.1
                            have hB91 := hb.2.2.2 (v - 1) (by omega) (by omega)
                            refine fx_aload_n dX4_fill_164 rfl (i := 0) rfl ?_
                            refine fw_getr dX4_fill_165 fd4_21 rfl rfl ?_
                            refine fx_iload dX4_fill_168 rfl ?_
                            refine fw_iald v dX4_fill_170 rfl rfl (by omega) (by decide) ?_
                            refine fn_to (show _ = (nI (us v)) from hus.2.2) ?_
                            refine fx_aload_n dX4_fill_171 rfl (i := 0) rfl ?_
                            refine fw_getr dX4_fill_172 fd4_21 rfl rfl ?_
                            refine fx_iload dX4_fill_175 rfl ?_
                            refine fx_iconst (v := (nI 1)) dX4_fill_177 (by decide) ?_
                            refine fn_isub dX4_fill_178 (by omega) ?_
                            refine fw_iald (v - 1) dX4_fill_179 rfl rfl (by omega) (by decide) ?_
                            refine fn_to (show _ = (nI (us (v - 1))) from (hp1.2.1 (v - 1) (by omega) (by omega)).2.2) ?_
                            refine fn_icmp_ge (tgt := 251) dX4_fill_180 (by decide) (by omega) (by omega) (fun c180 => ?_) (fun c180 => ?_)
                            · skip
                              refine fn_iinc (c := 1) (lv2 := [(0, .ref 16), (1, .int (nI k)), (2, .int (nI row)), (3, .int (nI col)), (5, .int (nI lo)), (6, .int (nI hi)), (7, .int (nI m)), (8, .int (nI (v + 1)))]) dX4_fill_251 (by decide) rfl (by decide) rfl ?_
                              refine fx_goto (tgt := 137) dX4_fill_254 (by decide) ?_
                              exact (ih137 (v + 1) m G1 (by omega) (by omega) (by omega) hp1 ho1 (by rw [← hR, show k + 1 - v = (k + 1 - (v + 1)) + 1 by omega, fiV_s, if_neg (by unfold fok; intro w; have w2 := of_decide_eq_true w; omega)]))
                            · skip
                              refine fx_aload_n dX4_fill_183 rfl (i := 0) rfl ?_
                              refine fw_getr dX4_fill_184 fd4_26 rfl rfl ?_
                              refine fx_iload_n dX4_fill_187 rfl (i := 2) rfl ?_
                              refine fw_aald (r := 22 + row) row dX4_fill_188 rfl (by decide) rfl (by omega) (by decide) (cel_at (by omega)) ?_
                              refine fx_iload_n dX4_fill_189 rfl (i := 3) rfl ?_
                              refine fx_iload dX4_fill_190 rfl ?_
                              refine fw_iast col dX4_fill_192 (cel_lay (by omega)) rfl (by omega) (by decide) ?_
                              refine fx_aload_n dX4_fill_193 rfl (i := 0) rfl ?_
                              refine fw_getr dX4_fill_194 fd4_18 rfl rfl ?_
                              refine fx_iload dX4_fill_197 rfl ?_
                              refine fx_dup2 dX4_fill_199 rfl rfl ?_
                              refine fw_iald v dX4_fill_200 rfl rfl (by omega) (by decide) ?_
                              refine fn_to (show _ = (nI (B v - us v)) from (by rw [g2_ne _ _ (by omega)]; exact hus.1)) ?_
                              refine fx_iconst (v := (nI 1)) dX4_fill_201 (by decide) ?_
                              refine fn_isub dX4_fill_202 (by omega) ?_
                              refine fw_iast v dX4_fill_203 rfl rfl (by omega) (by decide) ?_
                              refine fx_aload_n dX4_fill_204 rfl (i := 0) rfl ?_
                              refine fw_getr dX4_fill_205 fd4_21 rfl rfl ?_
                              refine fx_iload dX4_fill_208 rfl ?_
                              refine fx_dup2 dX4_fill_210 rfl rfl ?_
                              refine fw_iald v dX4_fill_211 rfl rfl (by omega) (by decide) ?_
                              refine fn_to (show _ = (nI (us v)) from (by rw [g2_ne _ _ (by omega), g2_ne _ _ (by omega)]; exact hus.2.2)) ?_
                              refine fx_iconst (v := (nI 1)) dX4_fill_212 (by decide) ?_
                              refine fn_iadd dX4_fill_213 ?_
                              refine fw_iast v dX4_fill_214 rfl rfl (by omega) (by decide) ?_
                              refine fx_iload dX4_fill_215 rfl ?_
                              refine fx_aload_n dX4_fill_217 rfl (i := 0) rfl ?_
                              refine fx_iload_n dX4_fill_218 rfl (i := 1) rfl ?_
                              refine fx_iload_n dX4_fill_219 rfl (i := 2) rfl ?_
                              refine fx_iload_n dX4_fill_220 rfl (i := 3) rfl ?_
                              refine fx_iconst (v := (nI 1)) dX4_fill_221 (by decide) ?_
                              refine fn_isub dX4_fill_222 (by omega) ?_
                              have hp2 := fpc_in hp1 hk4 h1 (by omega) (show A row < col by omega) (by omega) hv hvk (show us v < B v by omega)
                              have hih2 := ih (n - 1) row (col - 1) (uc ce row col v) (uu us v) _ (by rw [hrc] at hn; rw [List.length_cons] at hn; omega) h1 (by omega) (fun _ => by omega) (fun _ => by omega) (by rw [hrc] at hn; rw [List.length_cons] at hn; omega) hp2
                              refine fx_callS dX4_fill_223 lk4_44 hih2 rfl rfl (by omega) (Nat.le_of_ble_eq_true rfl) (by decide) (by decide) (fun r223 f223 al223 h223 => ?_)
                              obtain ⟨G223, rfl, rfl, rfl, hp223, ho223⟩ := h223
                              show fv_At Y4_fill (1 + n) 0 0 Q 226 [(0, .ref 16), (1, .int (nI k)), (2, .int (nI row)), (3, .int (nI col)), (5, .int (nI lo)), (6, .int (nI hi)), (7, .int (nI m)), (8, .int (nI v))] [.int (nI (fiL k A B C (rsP k A C row (col - 1)) (uc ce row col v) (uu us v))), .int (nI m)] (fw cT G223 L) none 0 0
                              refine fn_iadd dX4_fill_226 ?_
                              refine fx_istore (lv2 := [(0, .ref 16), (1, .int (nI k)), (2, .int (nI row)), (3, .int (nI col)), (5, .int (nI lo)), (6, .int (nI hi)), (7, .int (nI (m + (fiL k A B C (rsP k A C row (col - 1)) (uc ce row col v) (uu us v))))), (8, .int (nI v))]) dX4_fill_227 (by decide) rfl ?_
                              refine fx_aload_n dX4_fill_229 rfl (i := 0) rfl ?_
                              refine fw_getr dX4_fill_230 fd4_18 rfl rfl ?_
                              refine fx_iload dX4_fill_233 rfl ?_
                              refine fx_dup2 dX4_fill_235 rfl rfl ?_
                              refine fw_iald v dX4_fill_236 rfl rfl (by omega) (by decide) ?_
                              refine fn_to (show _ = (nI (B v - (us v + 1))) from (by have w := (hp223.2.1 v (by omega) (by omega)).1; unfold uu at w; rw [if_pos rfl] at w; exact w)) ?_
                              refine fx_iconst (v := (nI 1)) dX4_fill_237 (by decide) ?_
                              refine fn_iadd dX4_fill_238 ?_
                              refine fw_iast v dX4_fill_239 rfl rfl (by omega) (by decide) ?_
                              refine fx_aload_n dX4_fill_240 rfl (i := 0) rfl ?_
                              refine fw_getr dX4_fill_241 fd4_21 rfl rfl ?_
                              refine fx_iload dX4_fill_244 rfl ?_
                              refine fx_dup2 dX4_fill_246 rfl rfl ?_
                              refine fw_iald v dX4_fill_247 rfl rfl (by omega) (by decide) ?_
                              refine fn_to (show _ = (nI (us v + 1)) from (by rw [g2_ne _ _ (by omega)]; have w := (hp223.2.1 v (by omega) (by omega)).2.2; unfold uu at w; rw [if_pos rfl] at w; exact w)) ?_
                              refine fx_iconst (v := (nI 1)) dX4_fill_248 (by decide) ?_
                              refine fn_isub dX4_fill_249 (by omega) ?_
                              refine fw_iast v dX4_fill_250 rfl rfl (by omega) (by decide) ?_
                              refine fn_iinc (c := 1) (lv2 := [(0, .ref 16), (1, .int (nI k)), (2, .int (nI row)), (3, .int (nI col)), (5, .int (nI lo)), (6, .int (nI hi)), (7, .int (nI (m + (fiL k A B C (rsP k A C row (col - 1)) (uc ce row col v) (uu us v))))), (8, .int (nI (v + 1)))]) dX4_fill_251 (by decide) rfl (by decide) rfl ?_
                              refine fx_goto (tgt := 137) dX4_fill_254 (by decide) ?_
                              exact (ih137 (v + 1) (m + (fiL k A B C (rsP k A C row (col - 1)) (uc ce row col v) (uu us v))) (g2 (g2 G223 19 v ((nI ((B v - (us v + 1)) + 1)))) 20 v ((nI ((us v + 1) - 1)))) (by omega) (by omega) (by omega) (fpc_out hp223 (by omega)) (fun i a b c => by rw [g2_row _ _ b, g2_row _ _ a, ho223 i a b c, g2_row _ _ b, g2_row _ _ a, g2_row _ _ (by omega)]; exact ho1 i a b c) (by rw [← hR, show k + 1 - v = (k + 1 - (v + 1)) + 1 by omega, fiV_s, if_pos (by unfold fok; exact decide_eq_true ⟨by omega, by omega, fun w => by have := (hlo1 w.1 w.2).1; dsimp only; omega, fun w => by have := (hhi1 w).1; dsimp only; omega⟩)]))
                  exact fn_sub [0, 1, 2, 3, 5, 6, 7, 8] rfl (L137 (min hi k + 1) (max lo 1) 0 G (by omega) (by omega) (by omega) hp (fun _ _ _ _ => rfl) (by have w := fiV_skip (fun v => fiL k A B C (rsP k A C row (col - 1)) (uc ce row col v) (uu us v)) (fok A B C (row, col) ce us) (max lo 1 - 1) (k + 1 - max lo 1) 1 0 (fun x x1 x2 => by unfold fok; refine decide_eq_false (fun w => ?_); by_cases z : 1 < row ∧ A (row - 1) < col; (have z1 := w.2.2.1 z; have z2 := (hlo1 z.1 z.2).1; dsimp only at z1; omega); (have z2 := hlo2 z; omega)); rw [show max lo 1 - 1 + (k + 1 - max lo 1) = k by omega, show 1 + (max lo 1 - 1) = max lo 1 by omega] at w; exact w.symm))
        · exfalso; omega
    · exfalso; omega

theorem C4_fill (k : Nat) (A B C : Nat → Nat) (hb : fbx k A B C) (L : Nat → Nat → Int64) (n row col : Nat) (ce : Nat → Nat → Nat) (us : Nat → Nat) (G : Nat → Nat → Int32) : 1 ≤ row → row ≤ k + 1 → (row ≤ k → A row ≤ col ∧ col ≤ C row) → (row = k + 1 → col = 0) → (rsP k A C row col).length + (k + 1 - row) ≤ n → fpc G k A B C ce us row col → fv_M Y4_fill (1 + n) 0 0 [.ref 16, .int (nI k), .int (nI row), .int (nI col)] (fw cT G L) none (qfi G L k A B C ce us row col (fiL k A B C (rsP k A C row col) ce us)) := by
  induction n using Nat.strongRecOn generalizing row col ce us G with
  | _ n ih =>
    intro h1 h2 h3 h4 hn hp
    exact C4_fill_1 k A B C hb L n row col ce us G h1 h2 h3 h4 hn hp (fun n2 row2 col2 ce2 us2 G2 h => ih n2 h row2 col2 ce2 us2 G2)
