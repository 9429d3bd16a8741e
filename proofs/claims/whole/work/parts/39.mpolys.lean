theorem t64 {x y : Int32} (h : x.toInt64 = y.toInt64) : x = y := by
  have q := congrArg Int64.toInt h
  rw [Int32.toInt_toInt64, Int32.toInt_toInt64] at q
  exact Int32.toInt_inj.mp q
theorem tms_ext {a b : tms} (h : a.length = b.length) (h2 : ∀ i, i < a.length → tx a i = tx b i ∧ tn a i = tn b i) : a = b := by
  refine List.ext_getElem h (fun i p q => ?_)
  have w := h2 i p
  unfold tx tn at w
  rw [List.getD_eq_getElem?_getD, List.getD_eq_getElem?_getD, List.getElem?_eq_getElem p, List.getElem?_eq_getElem q] at w
  exact Prod.ext w.1 w.2
theorem fat_ok {x : Nat} (h : okc x) (k : Nat) : fat x k ≤ 8 := by
  have hx := okc_le h
  obtain ⟨h0, h1, h2, h3, h4, h5⟩ := h
  unfold fat
  by_cases q : k < 5
  · have hk : k = 0 ∨ k = 1 ∨ k = 2 ∨ k = 3 ∨ k = 4 := by omega
    rcases hk with rfl | rfl | rfl | rfl | rfl
    · simpa using h1
    · simpa using h2
    · simpa using h3
    · simpa using h4
    · simpa using h5
  · have h6 : 10 ^ 5 ≤ 10 ^ k := Nat.pow_le_pow_right (by decide) (by omega)
    rw [Nat.div_eq_of_lt (by omega)]
    decide
theorem tpl_8 {l : Nat} : ∀ {ts : tms} {m : Nat}, pvd ts → m ≤ 8 → tpl l ts m ≤ 8
  | [], _, _, h => h
  | q :: r, m, hp, h => tpl_8 (ts := r) (fun j hj => hp (j + 1) (by simp; exact hj)) (by have := fat_ok (hp 0 (by simp)) (5 - l); show max m (fat q.1 (5 - l)) ≤ 8; have e : tx (q :: r) 0 = q.1 := rfl; rw [e] at this; omega)
theorem thl_n (ts us : tms) : ∀ k l, (∀ j, l ≤ j → j < l + k → tpl j ts 0 + tpl j us 0 ≤ 8) → thl ts us k l = false
  | 0, _, _ => rfl
  | k + 1, l, h => by
    rw [thl, if_neg (by have := h l (by omega) (by omega); omega)]
    exact thl_n ts us k (l + 1) (fun j a b => h j (by omega) (by omega))
theorem thi_t {ts us : tms} {l : Nat} (h1 : 1 ≤ l) (h2 : l ≤ 5) (h : 8 < tpl l ts 0 + tpl l us 0) : thi ts us = true := by
  cases e : thi ts us with
  | true => rfl
  | false =>
    have := thl_f ts us 5 1 e l h1 (by omega)
    omega
theorem pal_lI {m : Int} (h1 : -2147483648 ≤ m) (h2 : m < 2147483648) (ts : tms) (S : Nat → Int64) : pal (lI m) ts S = pal (iI m).toInt64 ts S := by rw [lI_of h1 h2]
theorem qms_L {G : Nat → Nat → Int32} {L L1 : Nat → Nat → Int64} {T : Nat → tms} {t : Nat → Bool} {v : Int} {c : Nat} {ts : tms} {r : Option Value} {f : fv_F} {al : Option Nat} (h : qms G L1 T t v c ts r f al) (hl : ∀ i, 12 ≤ i → L1 i = L i) : qms G L T t v c ts r f al := by
  obtain ⟨G2, L2, h1, h2, h3, h4, h5, h6⟩ := h
  exact ⟨G2, L2, h1, h2, h3, h4, h5, fun i hi => (h6 i hi).trans (hl i hi)⟩
/-- the exponents of a sheet's terms fall -/
def dsc (ts : tms) : Prop := ∀ i j, i < j → j < ts.length → tx ts j < tx ts i
def dvs (T : Nat → tms) (t : Nat → Bool) : Prop := ∀ s, s < 12 → t s = true → dsc (T s)
theorem psw_0 {i : Nat} (hi : i < 4) {c : Nat} : ∀ {ts : tms} {S : Nat → Int64}, S c = 0 → (∀ j, j < ts.length → swp (tx ts j) 5 i (i + 1) ≠ c) → psw i ts S c = 0
  | [], _, h, _ => h
  | q :: r, S, h, hx => psw_0 hi (ts := r) (by unfold adS upS; rw [if_neg (fun e => hx 0 (by simp) (show swp q.1 5 i (i + 1) = c from e.symm))]; exact h) (fun j hj => hx (j + 1) (by simp; exact hj))
theorem psw_app {i : Nat} : ∀ (ts us : tms) (S : Nat → Int64), psw i (ts ++ us) S = psw i us (psw i ts S)
  | [], _, _ => rfl
  | _ :: r, us, _ => psw_app r us _

theorem dig_of {x a4 a3 a2 a1 a0 : Nat} (b4 : a4 ≤ 8) (b3 : a3 ≤ 8) (b2 : a2 ≤ 8) (b1 : a1 ≤ 8) (b0 : a0 ≤ 8) (h : x = a4 * 10000 + a3 * 1000 + a2 * 100 + a1 * 10 + a0) : a4 = x / 10000 ∧ a3 = x / 1000 % 10 ∧ a2 = x / 100 % 10 ∧ a1 = x / 10 % 10 ∧ a0 = x % 10 := by
  refine ⟨?_, ?_, ?_, ?_, ?_⟩ <;> omega
theorem dig_inj {a4 a3 a2 a1 a0 c4 c3 c2 c1 c0 : Nat} (b4 : a4 ≤ 8) (b3 : a3 ≤ 8) (b2 : a2 ≤ 8) (b1 : a1 ≤ 8) (b0 : a0 ≤ 8) (d4 : c4 ≤ 8) (d3 : c3 ≤ 8) (d2 : c2 ≤ 8) (d1 : c1 ≤ 8) (d0 : c0 ≤ 8) (h : a4 * 10000 + a3 * 1000 + a2 * 100 + a1 * 10 + a0 = c4 * 10000 + c3 * 1000 + c2 * 100 + c1 * 10 + c0) : a4 = c4 ∧ a3 = c3 ∧ a2 = c2 ∧ a1 = c1 ∧ a0 = c0 := by
  obtain ⟨p4, p3, p2, p1, p0⟩ := dig_of b4 b3 b2 b1 b0 rfl
  obtain ⟨q4, q3, q2, q1, q0⟩ := dig_of d4 d3 d2 d1 d0 h
  exact ⟨p4.trans q4.symm, p3.trans q3.symm, p2.trans q2.symm, p1.trans q1.symm, p0.trans q0.symm⟩
theorem swp_inj {x y i : Nat} (hx : okc x) (hy : okc y) (hi : i < 4) (h : swp x 5 i (i + 1) = swp y 5 i (i + 1)) : x = y := by
  obtain ⟨a4, a3, a2, a1, a0, b4, b3, b2, b1, b0, ex⟩ := okc_dig hx
  obtain ⟨c4, c3, c2, c1, c0, d4, d3, d2, d1, d0, ey⟩ := okc_dig hy
  rw [ex, ey] at h ⊢
  have hh : i = 0 ∨ i = 1 ∨ i = 2 ∨ i = 3 := by omega
  rcases hh with rfl | rfl | rfl | rfl
  · rw [swp_d0 b4 b3 b2 b1 b0, swp_d0 d4 d3 d2 d1 d0] at h
    obtain ⟨rfl, rfl, rfl, rfl, rfl⟩ := dig_inj b3 b4 b2 b1 b0 d3 d4 d2 d1 d0 h
    rfl
  · rw [swp_d1 b4 b3 b2 b1 b0, swp_d1 d4 d3 d2 d1 d0] at h
    obtain ⟨rfl, rfl, rfl, rfl, rfl⟩ := dig_inj b4 b2 b3 b1 b0 d4 d2 d3 d1 d0 h
    rfl
  · rw [swp_d2 b4 b3 b2 b1 b0, swp_d2 d4 d3 d2 d1 d0] at h
    obtain ⟨rfl, rfl, rfl, rfl, rfl⟩ := dig_inj b4 b3 b1 b2 b0 d4 d3 d1 d2 d0 h
    rfl
  · rw [swp_d3 b4 b3 b2 b1 b0, swp_d3 d4 d3 d2 d1 d0] at h
    obtain ⟨rfl, rfl, rfl, rfl, rfl⟩ := dig_inj b4 b3 b2 b0 b1 d4 d3 d2 d0 d1 h
    rfl
theorem nin_d {a4 a3 a2 a1 a0 : Nat} (b4 : a4 ≤ 8) (b3 : a3 ≤ 8) (b2 : a2 ≤ 8) (b1 : a1 ≤ 8) (b0 : a0 ≤ 8) : nin (a4 * 10000 + a3 * 1000 + a2 * 100 + a1 * 10 + a0) = a4 * 6561 + a3 * 729 + a2 * 81 + a1 * 9 + a0 := by
  obtain ⟨x, hx⟩ : ∃ x, x = a4 * 10000 + a3 * 1000 + a2 * 100 + a1 * 10 + a0 := ⟨_, rfl⟩
  rw [← hx]
  have f0 : x % 10 = a0 := by omega
  have f1 : x / 10 % 10 = a1 := by omega
  have f2 : x / 10 / 10 % 10 = a2 := by omega
  have f3 : x / 10 / 10 / 10 % 10 = a3 := by omega
  have f4 : x / 10 / 10 / 10 / 10 % 10 = a4 := by omega
  show 0 + 1 * (x % 10) + 9 * 1 * (x / 10 % 10) + 9 * (9 * 1) * (x / 10 / 10 % 10) + 9 * (9 * (9 * 1)) * (x / 10 / 10 / 10 % 10) + 9 * (9 * (9 * (9 * 1))) * (x / 10 / 10 / 10 / 10 % 10) = _
  rw [f0, f1, f2, f3, f4]
  omega
theorem nsw_0 {a4 a3 a2 a1 a0 : Nat} (b4 : a4 ≤ 8) (b3 : a3 ≤ 8) (b2 : a2 ≤ 8) (b1 : a1 ≤ 8) (b0 : a0 ≤ 8) : ((nin (swp (a4 * 10000 + a3 * 1000 + a2 * 100 + a1 * 10 + a0) 5 0 (0 + 1)) : Nat) : Int) = ((nin (a4 * 10000 + a3 * 1000 + a2 * 100 + a1 * 10 + a0) : Nat) : Int) + (((nin (a4 * 10000 + a3 * 1000 + a2 * 100 + a1 * 10 + a0) / 9 ^ 3 % 9 : Nat) : Int) - ((nin (a4 * 10000 + a3 * 1000 + a2 * 100 + a1 * 10 + a0) / 9 ^ 4 % 9 : Nat) : Int)) * ((9 ^ 4 : Nat) : Int) + (((nin (a4 * 10000 + a3 * 1000 + a2 * 100 + a1 * 10 + a0) / 9 ^ 4 % 9 : Nat) : Int) - ((nin (a4 * 10000 + a3 * 1000 + a2 * 100 + a1 * 10 + a0) / 9 ^ 3 % 9 : Nat) : Int)) * ((9 ^ 3 : Nat) : Int) := by
  rw [swp_d0 b4 b3 b2 b1 b0, nin_d b4 b3 b2 b1 b0, nin_d b3 b4 b2 b1 b0]
  simp only [Nat.reducePow]
  omega
theorem nsw_1 {a4 a3 a2 a1 a0 : Nat} (b4 : a4 ≤ 8) (b3 : a3 ≤ 8) (b2 : a2 ≤ 8) (b1 : a1 ≤ 8) (b0 : a0 ≤ 8) : ((nin (swp (a4 * 10000 + a3 * 1000 + a2 * 100 + a1 * 10 + a0) 5 1 (1 + 1)) : Nat) : Int) = ((nin (a4 * 10000 + a3 * 1000 + a2 * 100 + a1 * 10 + a0) : Nat) : Int) + (((nin (a4 * 10000 + a3 * 1000 + a2 * 100 + a1 * 10 + a0) / 9 ^ 2 % 9 : Nat) : Int) - ((nin (a4 * 10000 + a3 * 1000 + a2 * 100 + a1 * 10 + a0) / 9 ^ 3 % 9 : Nat) : Int)) * ((9 ^ 3 : Nat) : Int) + (((nin (a4 * 10000 + a3 * 1000 + a2 * 100 + a1 * 10 + a0) / 9 ^ 3 % 9 : Nat) : Int) - ((nin (a4 * 10000 + a3 * 1000 + a2 * 100 + a1 * 10 + a0) / 9 ^ 2 % 9 : Nat) : Int)) * ((9 ^ 2 : Nat) : Int) := by
  rw [swp_d1 b4 b3 b2 b1 b0, nin_d b4 b3 b2 b1 b0, nin_d b4 b2 b3 b1 b0]
  simp only [Nat.reducePow]
  omega
theorem nsw_2 {a4 a3 a2 a1 a0 : Nat} (b4 : a4 ≤ 8) (b3 : a3 ≤ 8) (b2 : a2 ≤ 8) (b1 : a1 ≤ 8) (b0 : a0 ≤ 8) : ((nin (swp (a4 * 10000 + a3 * 1000 + a2 * 100 + a1 * 10 + a0) 5 2 (2 + 1)) : Nat) : Int) = ((nin (a4 * 10000 + a3 * 1000 + a2 * 100 + a1 * 10 + a0) : Nat) : Int) + (((nin (a4 * 10000 + a3 * 1000 + a2 * 100 + a1 * 10 + a0) / 9 ^ 1 % 9 : Nat) : Int) - ((nin (a4 * 10000 + a3 * 1000 + a2 * 100 + a1 * 10 + a0) / 9 ^ 2 % 9 : Nat) : Int)) * ((9 ^ 2 : Nat) : Int) + (((nin (a4 * 10000 + a3 * 1000 + a2 * 100 + a1 * 10 + a0) / 9 ^ 2 % 9 : Nat) : Int) - ((nin (a4 * 10000 + a3 * 1000 + a2 * 100 + a1 * 10 + a0) / 9 ^ 1 % 9 : Nat) : Int)) * ((9 ^ 1 : Nat) : Int) := by
  rw [swp_d2 b4 b3 b2 b1 b0, nin_d b4 b3 b2 b1 b0, nin_d b4 b3 b1 b2 b0]
  simp only [Nat.reducePow]
  omega
theorem nsw_3 {a4 a3 a2 a1 a0 : Nat} (b4 : a4 ≤ 8) (b3 : a3 ≤ 8) (b2 : a2 ≤ 8) (b1 : a1 ≤ 8) (b0 : a0 ≤ 8) : ((nin (swp (a4 * 10000 + a3 * 1000 + a2 * 100 + a1 * 10 + a0) 5 3 (3 + 1)) : Nat) : Int) = ((nin (a4 * 10000 + a3 * 1000 + a2 * 100 + a1 * 10 + a0) : Nat) : Int) + (((nin (a4 * 10000 + a3 * 1000 + a2 * 100 + a1 * 10 + a0) / 9 ^ 0 % 9 : Nat) : Int) - ((nin (a4 * 10000 + a3 * 1000 + a2 * 100 + a1 * 10 + a0) / 9 ^ 1 % 9 : Nat) : Int)) * ((9 ^ 1 : Nat) : Int) + (((nin (a4 * 10000 + a3 * 1000 + a2 * 100 + a1 * 10 + a0) / 9 ^ 1 % 9 : Nat) : Int) - ((nin (a4 * 10000 + a3 * 1000 + a2 * 100 + a1 * 10 + a0) / 9 ^ 0 % 9 : Nat) : Int)) * ((9 ^ 0 : Nat) : Int) := by
  rw [swp_d3 b4 b3 b2 b1 b0, nin_d b4 b3 b2 b1 b0, nin_d b4 b3 b2 b0 b1]
  simp only [Nat.reducePow]
  omega
theorem nin_swp {x i : Nat} (h : okc x) (hi : i < 4) : ((nin (swp x 5 i (i + 1)) : Nat) : Int) = ((nin x : Nat) : Int) + (((nin x / 9 ^ (3 - i) % 9 : Nat) : Int) - ((nin x / 9 ^ (4 - i) % 9 : Nat) : Int)) * ((9 ^ (4 - i) : Nat) : Int) + (((nin x / 9 ^ (4 - i) % 9 : Nat) : Int) - ((nin x / 9 ^ (3 - i) % 9 : Nat) : Int)) * ((9 ^ (3 - i) : Nat) : Int) := by
  obtain ⟨a4, a3, a2, a1, a0, b4, b3, b2, b1, b0, hx⟩ := okc_dig h
  rw [hx]
  have hh : i = 0 ∨ i = 1 ∨ i = 2 ∨ i = 3 := by omega
  rcases hh with rfl | rfl | rfl | rfl
  · exact nsw_0 b4 b3 b2 b1 b0
  · exact nsw_1 b4 b3 b2 b1 b0
  · exact nsw_2 b4 b3 b2 b1 b0
  · exact nsw_3 b4 b3 b2 b1 b0

set_option maxRecDepth 4000 in
set_option maxHeartbeats 1000000 in
theorem C11_nines (n : Nat) (hn : n < 100) (f : fv_F) : fv_M Y11_nines 0 0 0 [.int (nI n)] f none (fv_eq (some (.int (nI (9 ^ n)))) f) := by
  refine fv_enter rfl (Nat.le_of_ble_eq_true rfl) ?_
  obtain ⟨Q, hQ⟩ : ∃ Q : Option Value → fv_F → Option Nat → Prop, Q = (fv_eq (some (.int (nI (9 ^ n)))) f) := ⟨_, rfl⟩
  rw [← hQ]
  show fv_At Y11_nines 0 0 0 Q 0 [(0, .int (nI n))] [] f none 0 0
  refine fx_iconst (v := (nI 1)) dX11_nines_0 (by decide) ?_
  refine fx_istore_n (lv2 := [(0, .int (nI n)), (1, .int (nI 1))]) dX11_nines_1 (i := 1) rfl (by decide) rfl ?_
  refine fx_iconst (v := (nI 0)) dX11_nines_2 (by decide) ?_
  refine fx_istore_n (lv2 := [(0, .int (nI n)), (1, .int (nI 1)), (2, .int (nI 0))]) dX11_nines_3 (i := 2) rfl (by decide) rfl ?_
  have L4 : ∀ (k : Nat) (v : Nat) (i : Nat), (i + k = n) → (v = 9 ^ i) → fv_At Y11_nines 0 0 0 Q 4 [(0, .int (nI n)), (1, .int (nI v)), (2, .int (nI i))] [] f none 0 0 := by
    intro k
    induction k with
    | zero =>
      intro v i hi hv
      refine fx_iload_n dX11_nines_4 rfl (i := 2) rfl ?_
      refine fx_iload_n dX11_nines_5 rfl (i := 0) rfl ?_
      refine fn_icmp_ge (tgt := 20) dX11_nines_6 (by decide) (by omega) (by omega) (fun c6 => ?_) (fun c6 => ?_)
      · skip
        refine fx_iload_n dX11_nines_20 rfl (i := 1) rfl ?_
        exact fx_iret dX11_nines_21 rfl rfl rfl (by rw [hQ]; exact ⟨by rw [hv, show i = n by omega], rfl, rfl⟩)
      · exfalso; omega
    | succ k ih4 =>
      intro v i hi hv
      refine fx_iload_n dX11_nines_4 rfl (i := 2) rfl ?_
      refine fx_iload_n dX11_nines_5 rfl (i := 0) rfl ?_
      refine fn_icmp_ge (tgt := 20) dX11_nines_6 (by decide) (by omega) (by omega) (fun c6 => ?_) (fun c6 => ?_)
      · exfalso; omega
      · skip
        refine fx_bipush (v := (nI 9)) dX11_nines_9 (by decide) ?_
        refine fx_iload_n dX11_nines_11 rfl (i := 1) rfl ?_
        refine fn_imul dX11_nines_12 ?_
        refine fx_istore_n (lv2 := [(0, .int (nI n)), (1, .int (nI (9 * v))), (2, .int (nI i))]) dX11_nines_13 (i := 1) rfl (by decide) rfl ?_
        refine fn_iinc (c := 1) (lv2 := [(0, .int (nI n)), (1, .int (nI (9 * v))), (2, .int (nI (i + 1)))]) dX11_nines_14 (by decide) rfl (by decide) rfl ?_
        refine fx_goto (tgt := 4) dX11_nines_17 (by decide) ?_
        exact (ih4 (9 * v) (i + 1) (by omega) (by rw [hv, Nat.pow_succ, Nat.mul_comm]))
  exact (L4 n 1 0 (by omega) rfl)

set_option maxRecDepth 4000 in
set_option maxHeartbeats 1000000 in
theorem C11_highest  (G : Nat → Nat → Int32) (L : Nat → Nat → Int64) (T : Nat → tms) (t : Nat → Bool) (hM : msh G L T t) (hV : pvs T t) (s : Nat) (hs : s < 12) (ht : t s = true) (l : Nat) (hl : l < 5) : fv_M Y11_highest 0 0 0 [.ref 0, .int (nI s), .int (nI l)] (fw mT G L) none (fv_eq (some (.int (nI (tpl (5 - l) (T s) 0)))) (fw mT G L)) := by
  refine fv_enter rfl (Nat.le_of_ble_eq_true rfl) ?_
  obtain ⟨Q, hQ⟩ : ∃ Q : Option Value → fv_F → Option Nat → Prop, Q = (fv_eq (some (.int (nI (tpl (5 - l) (T s) 0)))) (fw mT G L)) := ⟨_, rfl⟩
  rw [← hQ]
  show fv_At Y11_highest 0 0 0 Q 0 [(0, .ref 0), (1, .int (nI s)), (2, .int (nI l))] [] (fw mT G L) none 0 0
  refine fx_iconst (v := (nI 1)) dX11_highest_0 (by decide) ?_
  refine fx_istore_n (lv2 := [(0, .ref 0), (1, .int (nI s)), (2, .int (nI l)), (3, .int (nI 1))]) dX11_highest_1 (i := 3) rfl (by decide) rfl ?_
  refine fx_iconst (v := (nI 0)) dX11_highest_2 (by decide) ?_
  refine fx_istore (lv2 := [(0, .ref 0), (1, .int (nI s)), (2, .int (nI l)), (3, .int (nI 1)), (4, .int (nI 0))]) dX11_highest_3 (by decide) rfl ?_
  have L5 : ∀ (k : Nat) (m : Nat) (i : Nat), (i + k = l) → (m = 10 ^ i) → fv_At Y11_highest 0 0 0 Q 5 [(0, .ref 0), (1, .int (nI s)), (2, .int (nI l)), (3, .int (nI m)), (4, .int (nI i))] [] (fw mT G L) none 0 0 := by
    intro k
    induction k with
    | zero =>
      intro m i hi hm
      refine fx_iload dX11_highest_5 rfl ?_
      refine fx_iload_n dX11_highest_7 rfl (i := 2) rfl ?_
      refine fn_icmp_ge (tgt := 22) dX11_highest_8 (by decide) (by omega) (by omega) (fun c8 => ?_) (fun c8 => ?_)
      · skip
        rw [show i = l by omega] at hm
        subst hm
        have h6 := ((hM s hs).2 ht).1
        have hp1 : 10 ^ l ≤ 10 ^ 4 := Nat.pow_le_pow_right (by decide) (by omega)
        have hp0 : 0 < 10 ^ l := Nat.pow_pos (by decide)
        show fv_At Y11_highest 0 0 0 Q 22 [(0, .ref 0), (1, .int (nI s)), (2, .int (nI l)), (3, .int (nI (10 ^ l))), (4, .int (nI i))] [] (fw mT G L) none 0 0
        refine fx_iconst (v := (nI 0)) dX11_highest_22 (by decide) ?_
        refine fx_istore (lv2 := [(0, .ref 0), (1, .int (nI s)), (2, .int (nI l)), (3, .int (nI (10 ^ l))), (4, .int (nI 0))]) dX11_highest_23 (by decide) rfl ?_
        refine fx_iconst (v := (nI 0)) dX11_highest_25 (by decide) ?_
        refine fx_istore (lv2 := [(0, .ref 0), (1, .int (nI s)), (2, .int (nI l)), (3, .int (nI (10 ^ l))), (4, .int (nI 0)), (5, .int (nI 0))]) dX11_highest_26 (by decide) rfl ?_
        have L28 : ∀ (k2 : Nat) (q : Nat) (j : Nat), (j + k2 = (T s).length) → (q < 10) → (tpl (5 - l) ((T s).drop j) q = tpl (5 - l) (T s) 0) → fv_At Y11_highest 0 0 0 Q 28 [(0, .ref 0), (1, .int (nI s)), (2, .int (nI l)), (3, .int (nI (10 ^ l))), (4, .int (nI q)), (5, .int (nI j))] [] (fw mT G L) none 0 0 := by
          intro k2
          induction k2 with
          | zero =>
            intro q j hj hq hR
            refine fx_iload dX11_highest_28 rfl ?_
            refine fx_aload_n dX11_highest_30 rfl (i := 0) rfl ?_
            refine fw_getr dX11_highest_31 fd11_20 rfl rfl ?_
            refine fx_iload_n dX11_highest_34 rfl (i := 1) rfl ?_
            refine fw_iald s dX11_highest_35 rfl rfl (by omega) (by decide) ?_
            refine fn_to (show _ = (nI ((T s).length)) from ((hM s hs).2 ht).2.1) ?_
            refine fn_icmp_ge (tgt := 81) dX11_highest_36 (by decide) (by omega) (by omega) (fun c36 => ?_) (fun c36 => ?_)
            · skip
              refine fx_iload dX11_highest_81 rfl ?_
              exact fx_iret dX11_highest_83 rfl rfl rfl (by rw [hQ]; exact ⟨by rw [← hR, List.drop_eq_nil_of_le (by omega)]; rfl, rfl, rfl⟩)
            · exfalso; omega
          | succ k2 ih28 =>
            intro q j hj hq hR
            refine fx_iload dX11_highest_28 rfl ?_
            refine fx_aload_n dX11_highest_30 rfl (i := 0) rfl ?_
            refine fw_getr dX11_highest_31 fd11_20 rfl rfl ?_
            refine fx_iload_n dX11_highest_34 rfl (i := 1) rfl ?_
            refine fw_iald s dX11_highest_35 rfl rfl (by omega) (by decide) ?_
            refine fn_to (show _ = (nI ((T s).length)) from ((hM s hs).2 ht).2.1) ?_
            refine fn_icmp_ge (tgt := 81) dX11_highest_36 (by decide) (by omega) (by omega) (fun c36 => ?_) (fun c36 => ?_)
            · exfalso; omega
            · skip
              have h8 := okc_le ((hV s hs ht).1 j (by omega))
              have h9 := fat_lt (tx (T s) j) l
              refine fx_aload_n dX11_highest_39 rfl (i := 0) rfl ?_
              refine fw_getr dX11_highest_40 fd11_23 rfl rfl ?_
              refine fx_sipush (v := (nI 600)) dX11_highest_43 (by decide) ?_
              refine fx_iload_n dX11_highest_46 rfl (i := 1) rfl ?_
              refine fn_imul dX11_highest_47 ?_
              refine fx_iload dX11_highest_48 rfl ?_
              refine fn_iadd dX11_highest_50 ?_
              refine fw_iald ((600 * s) + j) dX11_highest_51 rfl rfl (by omega) (by decide) ?_
              refine fn_to (show _ = (nI (tx (T s) j)) from (((hM s hs).2 ht).2.2 j (by omega)).1) ?_
              refine fx_iload_n dX11_highest_52 rfl (i := 3) rfl ?_
              refine fn_idiv dX11_highest_53 (by omega) (by omega) (by omega) ?_
              have h10 : tx (T s) j / 10 ^ l < 2147483648 := Nat.lt_of_le_of_lt (Nat.div_le_self _ _) (by omega)
              refine fx_bipush (v := (nI 10)) dX11_highest_54 (by decide) ?_
              refine fn_irem dX11_highest_56 (by omega) (by omega) (by omega) ?_
              refine fn_to (show _ = (nI (fat (tx (T s) j) l)) from rfl) ?_
              refine fx_istore (lv2 := [(0, .ref 0), (1, .int (nI s)), (2, .int (nI l)), (3, .int (nI (10 ^ l))), (4, .int (nI q)), (5, .int (nI j)), (6, .int (nI (fat (tx (T s) j) l)))]) dX11_highest_57 (by decide) rfl ?_
              refine fx_iload dX11_highest_59 rfl ?_
              refine fx_iload dX11_highest_61 rfl ?_
              refine fn_icmp_le (tgt := 71) dX11_highest_63 (by decide) (by omega) (by omega) (fun c63 => ?_) (fun c63 => ?_)
              · skip
                refine fx_iload dX11_highest_71 rfl ?_
                refine fx_istore (lv2 := [(0, .ref 0), (1, .int (nI s)), (2, .int (nI l)), (3, .int (nI (10 ^ l))), (4, .int (nI q)), (5, .int (nI j)), (6, .int (nI (fat (tx (T s) j) l)))]) dX11_highest_73 (by decide) rfl ?_
                refine fn_iinc (c := 1) (lv2 := [(0, .ref 0), (1, .int (nI s)), (2, .int (nI l)), (3, .int (nI (10 ^ l))), (4, .int (nI q)), (5, .int (nI (j + 1))), (6, .int (nI (fat (tx (T s) j) l)))]) dX11_highest_75 (by decide) rfl (by decide) rfl ?_
                refine fx_goto (tgt := 28) dX11_highest_78 (by decide) ?_
                exact fn_sub [0, 1, 2, 3, 4, 5] rfl (ih28 q (j + 1) (by omega) (by omega) (by rw [← hR, drD (show j < (T s).length by omega), tpl, show 5 - (5 - l) = l by omega]; congr 1; dsimp only; omega))
              · skip
                refine fx_iload dX11_highest_66 rfl ?_
                refine fx_goto (tgt := 73) dX11_highest_68 (by decide) ?_
                refine fx_istore (lv2 := [(0, .ref 0), (1, .int (nI s)), (2, .int (nI l)), (3, .int (nI (10 ^ l))), (4, .int (nI (fat (tx (T s) j) l))), (5, .int (nI j)), (6, .int (nI (fat (tx (T s) j) l)))]) dX11_highest_73 (by decide) rfl ?_
                refine fn_iinc (c := 1) (lv2 := [(0, .ref 0), (1, .int (nI s)), (2, .int (nI l)), (3, .int (nI (10 ^ l))), (4, .int (nI (fat (tx (T s) j) l))), (5, .int (nI (j + 1))), (6, .int (nI (fat (tx (T s) j) l)))]) dX11_highest_75 (by decide) rfl (by decide) rfl ?_
                refine fx_goto (tgt := 28) dX11_highest_78 (by decide) ?_
                exact fn_sub [0, 1, 2, 3, 4, 5] rfl (ih28 (fat (tx (T s) j) l) (j + 1) (by omega) (by omega) (by rw [← hR, drD (show j < (T s).length by omega), tpl, show 5 - (5 - l) = l by omega]; congr 1; dsimp only; omega))
        exact (L28 ((T s).length) 0 0 (by omega) (by decide) rfl)
      · exfalso; omega
    | succ k ih5 =>
      intro m i hi hm
      refine fx_iload dX11_highest_5 rfl ?_
      refine fx_iload_n dX11_highest_7 rfl (i := 2) rfl ?_
      refine fn_icmp_ge (tgt := 22) dX11_highest_8 (by decide) (by omega) (by omega) (fun c8 => ?_) (fun c8 => ?_)
      · exfalso; omega
      · skip
        refine fx_bipush (v := (nI 10)) dX11_highest_11 (by decide) ?_
        refine fx_iload_n dX11_highest_13 rfl (i := 3) rfl ?_
        refine fn_imul dX11_highest_14 ?_
        refine fx_istore_n (lv2 := [(0, .ref 0), (1, .int (nI s)), (2, .int (nI l)), (3, .int (nI (10 * m))), (4, .int (nI i))]) dX11_highest_15 (i := 3) rfl (by decide) rfl ?_
        refine fn_iinc (c := 1) (lv2 := [(0, .ref 0), (1, .int (nI s)), (2, .int (nI l)), (3, .int (nI (10 * m))), (4, .int (nI (i + 1)))]) dX11_highest_16 (by decide) rfl (by decide) rfl ?_
        refine fx_goto (tgt := 5) dX11_highest_19 (by decide) ?_
        exact (ih5 (10 * m) (i + 1) (by omega) (by rw [hm, Nat.pow_succ, Nat.mul_comm]))
  exact (L5 l 1 0 (by omega) rfl)

set_option maxRecDepth 4000 in
set_option maxHeartbeats 1000000 in
theorem C11_add  (G : Nat → Nat → Int32) (L : Nat → Nat → Int64) (T : Nat → tms) (t : Nat → Bool) (hM : msh G L T t) (hV : pvs T t) (s : Int) (x : Int64) (c : Int) (s1 : -2147483648 ≤ s) (s2 : s < 2147483648) (c1 : -2147483648 ≤ c) (c2 : c < 2147483648) : fv_M Y11_add 3 0 0 [.ref 0, .int (iI s), .long x, .int (iI c)] (fw mT G L) none (qms G L T t (xAdd T t s x c) s.toNat (trm (uAdd T s c x))) := by
  refine fv_enter rfl (Nat.le_of_ble_eq_true rfl) ?_
  obtain ⟨Q, hQ⟩ : ∃ Q : Option Value → fv_F → Option Nat → Prop, Q = (qms G L T t (xAdd T t s x c) s.toNat (trm (uAdd T s c x))) := ⟨_, rfl⟩
  rw [← hQ]
  show fv_At Y11_add 3 0 0 Q 0 [(0, .ref 0), (1, .int (iI s)), (2, .long x), (4, .int (iI c))] [] (fw mT G L) none 0 0
  refine fx_iload_n dX11_add_0 rfl (i := 1) rfl ?_
  refine fn_cS dX11_add_1 lk11_169 (C11_isSheet (s := s) (by omega) (by omega) (f := (fw mT G L))) rfl rfl (by decide) (Nat.le_of_ble_eq_true rfl) ?_
  show fv_At Y11_add 3 0 0 Q 4 [(0, .ref 0), (1, .int (iI s)), (2, .long x), (4, .int (iI c))] [.int (bI (isSt s))] (fw mT G L) none 0 0
  refine fn_if_eqB (tgt := 29) dX11_add_4 (by decide) (fun c4 => ?_) (fun c4 => ?_)
  · skip
    refine fx_bipush (v := (iI (-2))) dX11_add_29 (by decide) ?_
    exact fx_iret dX11_add_31 rfl rfl rfl (by rw [hQ]; exact (by rw [show xAdd T t s x c = -2 by unfold xAdd; exact if_neg (fun q => by first | exact absurd (c4.symm.trans q.1) (by decide) | exact absurd ((xPla_0 c26).symm.trans q.2.2) (by decide) | (have h1 := q.2.1; rw [byd_t] at h1; have h2 := of_decide_eq_false h1; have h3 := of_decide_eq_false c17; omega))]; exact qms_n hM moff_r (by decide) _ _))
  · skip
    have hz1 := Int64.le_toInt x
    have hz2 := Int64.toInt_lt x
    refine fx_lload_n dX11_add_7 rfl (i := 2) rfl ?_
    refine fn_toL (show _ = (lI x.toInt) from (wI x)) ?_
    refine fx_ldc2 dX11_add_8 kc11_158 (fn_toL (show _ = lI (-100000000) by decide) ?_)
    refine fx_ldc2 dX11_add_11 kc11_160 (fn_toL (show _ = lI (100000000) by decide) ?_)
    refine fn_cS dX11_add_14 lk11_126 (C11_in (v := x.toInt) (a := -100000000) (b := 100000000) (by omega) (by omega) (by omega) (by omega) (by omega) (by omega) (f := (fw mT G L))) rfl rfl (by decide) (Nat.le_of_ble_eq_true rfl) ?_
    show fv_At Y11_add 3 0 0 Q 17 [(0, .ref 0), (1, .int (iI s)), (2, .long x), (4, .int (iI c))] [.int (bI (decide ((-100000000) ≤ x.toInt ∧ x.toInt ≤ 100000000)))] (fw mT G L) none 0 0
    refine fn_if_eqB (tgt := 29) dX11_add_17 (by decide) (fun c17 => ?_) (fun c17 => ?_)
    · skip
      refine fx_bipush (v := (iI (-2))) dX11_add_29 (by decide) ?_
      exact fx_iret dX11_add_31 rfl rfl rfl (by rw [hQ]; exact (by rw [show xAdd T t s x c = -2 by unfold xAdd; exact if_neg (fun q => by first | exact absurd (c4.symm.trans q.1) (by decide) | exact absurd ((xPla_0 c26).symm.trans q.2.2) (by decide) | (have h1 := q.2.1; rw [byd_t] at h1; have h2 := of_decide_eq_false h1; have h3 := of_decide_eq_false c17; omega))]; exact qms_n hM moff_r (by decide) _ _))
    · skip
      refine fx_iload dX11_add_20 rfl ?_
      refine fn_cS dX11_add_22 lk11_154 (C11_placeOf c (by omega) (by omega) (fw mT G L)) rfl rfl (by decide) (Nat.le_of_ble_eq_true rfl) ?_
      show fv_At Y11_add 3 0 0 Q 25 [(0, .ref 0), (1, .int (iI s)), (2, .long x), (4, .int (iI c))] [.int (iI (xPla c))] (fw mT G L) none 0 0
      have hxp := xPla_b c
      refine fx_iconst (v := (iI (-1))) dX11_add_25 (by decide) ?_
      refine fn_icmp_neZ (a := xPla c) (b := -1) (tgt := 32) dX11_add_26 (by decide) (by omega) (by omega) (by omega) (by omega) (fun c26 => ?_) (fun c26 => ?_)
      · skip
        have hby : byd x = false := by rw [byd_t]; exact decide_eq_false (by have := of_decide_eq_true c17; omega)
        have hin : isSt s = true ∧ byd x = false ∧ okB c = true := ⟨c4, hby, xPla_1 c26⟩
        have hs1 := isSt_1 c4
        have hok := okB_1 (xPla_1 c26)
        have hle := okc_le hok.2
        have hni := nin_in hok.2
        obtain ⟨s0, rfl⟩ : ∃ z : Nat, s = (z : Int) := ⟨s.toNat, by omega⟩
        obtain ⟨c0, rfl⟩ : ∃ z : Nat, c = (z : Int) := ⟨c.toNat, by omega⟩
        have hni2 : nin c0 < 59049 := hni
        have hok2 : okc c0 := hok.2
        show fv_At Y11_add 3 0 0 Q 32 [(0, .ref 0), (1, .int (nI s0)), (2, .long x), (4, .int (nI c0))] [] (fw mT G L) none 0 0
        refine fx_aload_n dX11_add_32 rfl (i := 0) rfl ?_
        refine fw_getr dX11_add_33 fd11_16 rfl rfl ?_
        refine fx_iload_n dX11_add_36 rfl (i := 1) rfl ?_
        refine fw_zald s0 dX11_add_37 rfl rfl (by omega) (by decide) ?_
        refine fn_to (show _ = (bI (t s0)) from (hM s0 (by omega)).1) ?_
        refine fn_if_neB (tgt := 44) dX11_add_38 (by decide) (fun c38 => ?_) (fun c38 => ?_)
        · skip
          have hts0 : t s0 = true := by simpa using c38
          refine fx_aload_n dX11_add_44 rfl (i := 0) rfl ?_
          refine fx_callV dX11_add_45 lk11_172 fv_c8 rfl (fw_at (show mT 0 = some (3, 8, 38, [some 1, none, some 2, some 3, some 4, some 5, some 6, some 7, some 8, some 9, some 10, some 11, some 12, some 13, some 14, some 15, some 16, some 17, some 18, some 19, none, none, none, some 20, some 21, some 22, some 23, none, some 24, some 25, some 26, some 27, some 28, some 29, some 30, some 31, none, some 32]) from rfl)) (C11_wipe G L) rfl rfl (by decide) (Nat.le_of_ble_eq_true rfl) (by decide) (by decide) (fun r45 f45 al45 h45 => ?_)
          obtain ⟨L45, rfl, rfl, rfl, hl45, hw45⟩ := h45
          show fv_At Y11_add 3 0 0 Q 48 [(0, .ref 0), (1, .int (nI s0)), (2, .long x), (4, .int (nI c0))] [] (fw mT G L45) none 0 0
          refine fx_aload_n dX11_add_48 rfl (i := 0) rfl ?_
          refine fx_iload_n dX11_add_49 rfl (i := 1) rfl ?_
          refine fx_lconst (v := 1) dX11_add_50 (by decide) ?_
          refine fx_callV dX11_add_51 lk11_175 fv_c8 rfl (fw_at (show mT 0 = some (3, 8, 38, [some 1, none, some 2, some 3, some 4, some 5, some 6, some 7, some 8, some 9, some 10, some 11, some 12, some 13, some 14, some 15, some 16, some 17, some 18, some 19, none, none, none, some 20, some 21, some 22, some 23, none, some 24, some 25, some 26, some 27, some 28, some 29, some 30, some 31, none, some 32]) from rfl)) (C11_takes G L45 T t (msh_L hM (hl45 6 (by decide))) hV s0 (by omega) hts0 1 zS hw45) rfl rfl (by decide) (Nat.le_of_ble_eq_true rfl) (by decide) (by decide) (fun r51 f51 al51 h51 => ?_)
          obtain ⟨L51, rfl, rfl, rfl, hl51, hw51⟩ := h51
          show fv_At Y11_add 3 0 0 Q 54 [(0, .ref 0), (1, .int (nI s0)), (2, .long x), (4, .int (nI c0))] [] (fw mT G L51) none 0 0
          refine fx_aload_n dX11_add_54 rfl (i := 0) rfl ?_
          refine fw_getr dX11_add_55 fd11_31 rfl rfl ?_
          refine fx_iload dX11_add_58 rfl ?_
          refine fn_cS dX11_add_60 lk11_154 (C11_placeN c0 hok2 (fw mT G L51)) rfl rfl (by decide) (Nat.le_of_ble_eq_true rfl) ?_
          show fv_At Y11_add 3 0 0 Q 63 [(0, .ref 0), (1, .int (nI s0)), (2, .long x), (4, .int (nI c0))] [.int (nI (nin c0)), .ref 7] (fw mT G L51) none 0 0
          refine fx_dup2 dX11_add_63 rfl rfl ?_
          refine fw_lald (nin c0) dX11_add_64 rfl rfl (by omega) (by decide) ?_
          refine fn_toL (show _ = (pal 1 (T s0) zS c0) from (by rw [hw51 _ hni2]; exact congrArg _ (nex_nin hok2))) ?_
          refine fx_lload_n dX11_add_65 rfl (i := 2) rfl ?_
          refine fx_ladd dX11_add_66 ?_
          refine fw_last (nin c0) dX11_add_67 rfl rfl (by omega) (by decide) ?_
          refine fx_aload_n dX11_add_68 rfl (i := 0) rfl ?_
          refine fx_iload_n dX11_add_69 rfl (i := 1) rfl ?_
          refine fx_callV dX11_add_70 lk11_179 fv_c8 rfl (fw_at (show mT 0 = some (3, 8, 38, [some 1, none, some 2, some 3, some 4, some 5, some 6, some 7, some 8, some 9, some 10, some 11, some 12, some 13, some 14, some 15, some 16, some 17, some 18, some 19, none, none, none, some 20, some 21, some 22, some 23, none, some 24, some 25, some 26, some 27, some 28, some 29, some 30, some 31, none, some 32]) from rfl)) (C11_lays G (g2 L51 7 (nin c0) ((((pal 1 (T s0) zS c0)) + x))) T t (msh_L hM (by rw [g2_rowL (by decide), hl51 6 (by decide), hl45 6 (by decide)])) s0 (by omega) (adS (pal 1 (T s0) zS) c0 x) (wkd_ad hw51 hok2) (sok_ad (sok_pal sok_z (hV s0 (by omega) hts0).1) hok2 x)) rfl rfl (by decide) (Nat.le_of_ble_eq_true rfl) (by decide) (by decide) (fun r70 f70 al70 h70 => ?_)
          have hq := h70
          obtain ⟨G2, L2, rfl, rfl, rfl, -, -⟩ := h70
          show fv_At Y11_add 3 0 0 Q 73 [(0, .ref 0), (1, .int (nI s0)), (2, .long x), (4, .int (nI c0))] [.int (iI (stl (adS (pal 1 (T s0) zS) c0 x)))] (fw mT G2 L2) none 0 0
          exact fx_iret dX11_add_73 rfl rfl rfl (by rw [hQ]; exact (by rw [show xAdd T t (s0 : Int) x (c0 : Int) = stl (adS (pal 1 (T s0) zS) c0 x) by unfold xAdd; rw [if_pos hin]; exact if_pos hts0]; exact qms_L hq (fun i hi => (g2_rowL (by omega)).trans ((hl51 i (by omega)).trans (hl45 i (by omega))))))
        · skip
          refine fx_bipush (v := (iI (-3))) dX11_add_41 (by decide) ?_
          exact fx_iret dX11_add_43 rfl rfl rfl (by rw [hQ]; exact (by rw [show xAdd T t (s0 : Int) x (c0 : Int) = -3 by unfold xAdd; rw [if_pos hin]; exact if_neg (by simpa using c38)]; exact qms_n hM moff_r (by decide) _ _))
      · skip
        refine fx_bipush (v := (iI (-2))) dX11_add_29 (by decide) ?_
        exact fx_iret dX11_add_31 rfl rfl rfl (by rw [hQ]; exact (by rw [show xAdd T t s x c = -2 by unfold xAdd; exact if_neg (fun q => by first | exact absurd (c4.symm.trans q.1) (by decide) | exact absurd ((xPla_0 c26).symm.trans q.2.2) (by decide) | (have h1 := q.2.1; rw [byd_t] at h1; have h2 := of_decide_eq_false h1; have h3 := of_decide_eq_false c17; omega))]; exact qms_n hM moff_r (by decide) _ _))

set_option maxRecDepth 4000 in
set_option maxHeartbeats 1000000 in
theorem C11_sum  (G : Nat → Nat → Int32) (L : Nat → Nat → Int64) (T : Nat → tms) (t : Nat → Bool) (hM : msh G L T t) (hV : pvs T t) (c a b m : Int) (c1 : -2147483648 ≤ c) (c2 : c < 2147483648) (a1 : -2147483648 ≤ a) (a2 : a < 2147483648) (b1 : -2147483648 ≤ b) (b2 : b < 2147483648) (m1 : -2147483648 ≤ m) (m2 : m < 2147483648) : fv_M Y11_sum 3 0 0 [.ref 0, .int (iI c), .int (iI a), .int (iI b), .int (iI m)] (fw mT G L) none (qms G L T t (xSum T t c a b m) c.toNat (trm (uSum T a b m))) := by
  refine fv_enter rfl (Nat.le_of_ble_eq_true rfl) ?_
  obtain ⟨Q, hQ⟩ : ∃ Q : Option Value → fv_F → Option Nat → Prop, Q = (qms G L T t (xSum T t c a b m) c.toNat (trm (uSum T a b m))) := ⟨_, rfl⟩
  rw [← hQ]
  show fv_At Y11_sum 3 0 0 Q 0 [(0, .ref 0), (1, .int (iI c)), (2, .int (iI a)), (3, .int (iI b)), (4, .int (iI m))] [] (fw mT G L) none 0 0
  refine fx_iload_n dX11_sum_0 rfl (i := 1) rfl ?_
  refine fn_cS dX11_sum_1 lk11_169 (C11_isSheet (s := c) (by omega) (by omega) (f := (fw mT G L))) rfl rfl (by decide) (Nat.le_of_ble_eq_true rfl) ?_
  show fv_At Y11_sum 3 0 0 Q 4 [(0, .ref 0), (1, .int (iI c)), (2, .int (iI a)), (3, .int (iI b)), (4, .int (iI m))] [.int (bI (isSt c))] (fw mT G L) none 0 0
  refine fn_if_eqB (tgt := 36) dX11_sum_4 (by decide) (fun c4 => ?_) (fun c4 => ?_)
  · skip
    refine fx_bipush (v := (iI (-2))) dX11_sum_36 (by decide) ?_
    exact fx_iret dX11_sum_38 rfl rfl rfl (by rw [hQ]; exact (by rw [show xSum T t c a b m = -2 by unfold xSum; exact if_neg (fun q => by first | simp_all | (have h3 := of_decide_eq_false c33; omega))]; exact qms_n hM moff_r (by decide) _ _))
  · skip
    refine fx_iload_n dX11_sum_7 rfl (i := 2) rfl ?_
    refine fn_cS dX11_sum_8 lk11_169 (C11_isSheet (s := a) (by omega) (by omega) (f := (fw mT G L))) rfl rfl (by decide) (Nat.le_of_ble_eq_true rfl) ?_
    show fv_At Y11_sum 3 0 0 Q 11 [(0, .ref 0), (1, .int (iI c)), (2, .int (iI a)), (3, .int (iI b)), (4, .int (iI m))] [.int (bI (isSt a))] (fw mT G L) none 0 0
    refine fn_if_eqB (tgt := 36) dX11_sum_11 (by decide) (fun c11 => ?_) (fun c11 => ?_)
    · skip
      refine fx_bipush (v := (iI (-2))) dX11_sum_36 (by decide) ?_
      exact fx_iret dX11_sum_38 rfl rfl rfl (by rw [hQ]; exact (by rw [show xSum T t c a b m = -2 by unfold xSum; exact if_neg (fun q => by first | simp_all | (have h3 := of_decide_eq_false c33; omega))]; exact qms_n hM moff_r (by decide) _ _))
    · skip
      refine fx_iload_n dX11_sum_14 rfl (i := 3) rfl ?_
      refine fn_cS dX11_sum_15 lk11_169 (C11_isSheet (s := b) (by omega) (by omega) (f := (fw mT G L))) rfl rfl (by decide) (Nat.le_of_ble_eq_true rfl) ?_
      show fv_At Y11_sum 3 0 0 Q 18 [(0, .ref 0), (1, .int (iI c)), (2, .int (iI a)), (3, .int (iI b)), (4, .int (iI m))] [.int (bI (isSt b))] (fw mT G L) none 0 0
      refine fn_if_eqB (tgt := 36) dX11_sum_18 (by decide) (fun c18 => ?_) (fun c18 => ?_)
      · skip
        refine fx_bipush (v := (iI (-2))) dX11_sum_36 (by decide) ?_
        exact fx_iret dX11_sum_38 rfl rfl rfl (by rw [hQ]; exact (by rw [show xSum T t c a b m = -2 by unfold xSum; exact if_neg (fun q => by first | simp_all | (have h3 := of_decide_eq_false c33; omega))]; exact qms_n hM moff_r (by decide) _ _))
      · skip
        refine fx_iload dX11_sum_21 rfl ?_
        refine fx_i2l dX11_sum_23 ?_
        refine fn_toL (show _ = lI m from lI_of (z := m) (by omega) (by omega)) ?_
        refine fx_ldc2 dX11_sum_24 kc11_186 (fn_toL (show _ = lI (-1000000) by decide) ?_)
        refine fx_ldc2 dX11_sum_27 kc11_188 (fn_toL (show _ = lI (1000000) by decide) ?_)
        refine fn_cS dX11_sum_30 lk11_126 (C11_in (v := m) (a := -1000000) (b := 1000000) (by omega) (by omega) (by omega) (by omega) (by omega) (by omega) (f := (fw mT G L))) rfl rfl (by decide) (Nat.le_of_ble_eq_true rfl) ?_
        show fv_At Y11_sum 3 0 0 Q 33 [(0, .ref 0), (1, .int (iI c)), (2, .int (iI a)), (3, .int (iI b)), (4, .int (iI m))] [.int (bI (decide ((-1000000) ≤ m ∧ m ≤ 1000000)))] (fw mT G L) none 0 0
        refine fn_if_neB (tgt := 39) dX11_sum_33 (by decide) (fun c33 => ?_) (fun c33 => ?_)
        · skip
          have him := of_decide_eq_true c33
          have hin : isSt c = true ∧ isSt a = true ∧ isSt b = true ∧ -1000000 ≤ m ∧ m ≤ 1000000 := ⟨c4, c11, c18, by omega, by omega⟩
          have hs1 := isSt_1 c4
          have hs2 := isSt_1 c11
          have hs3 := isSt_1 c18
          obtain ⟨c0, rfl⟩ : ∃ z : Nat, c = (z : Int) := ⟨c.toNat, by omega⟩
          obtain ⟨a0, rfl⟩ : ∃ z : Nat, a = (z : Int) := ⟨a.toNat, by omega⟩
          obtain ⟨b0, rfl⟩ : ∃ z : Nat, b = (z : Int) := ⟨b.toNat, by omega⟩
          show fv_At Y11_sum 3 0 0 Q 39 [(0, .ref 0), (1, .int (nI c0)), (2, .int (nI a0)), (3, .int (nI b0)), (4, .int (iI m))] [] (fw mT G L) none 0 0
          refine fx_aload_n dX11_sum_39 rfl (i := 0) rfl ?_
          refine fw_getr dX11_sum_40 fd11_16 rfl rfl ?_
          refine fx_iload_n dX11_sum_43 rfl (i := 2) rfl ?_
          refine fw_zald a0 dX11_sum_44 rfl rfl (by omega) (by decide) ?_
          refine fn_to (show _ = (bI (t a0)) from (hM a0 (by omega)).1) ?_
          refine fn_if_eqB (tgt := 57) dX11_sum_45 (by decide) (fun c45 => ?_) (fun c45 => ?_)
          · skip
            refine fx_bipush (v := (iI (-3))) dX11_sum_57 (by decide) ?_
            exact fx_iret dX11_sum_59 rfl rfl rfl (by rw [hQ]; exact (by rw [show xSum T t (c0 : Int) (a0 : Int) (b0 : Int) m = -3 by unfold xSum; rw [if_pos hin]; exact if_neg (fun q => by simp_all)]; exact qms_n hM moff_r (by decide) _ _))
          · skip
            refine fx_aload_n dX11_sum_48 rfl (i := 0) rfl ?_
            refine fw_getr dX11_sum_49 fd11_16 rfl rfl ?_
            refine fx_iload_n dX11_sum_52 rfl (i := 3) rfl ?_
            refine fw_zald b0 dX11_sum_53 rfl rfl (by omega) (by decide) ?_
            refine fn_to (show _ = (bI (t b0)) from (hM b0 (by omega)).1) ?_
            refine fn_if_neB (tgt := 60) dX11_sum_54 (by decide) (fun c54 => ?_) (fun c54 => ?_)
            · skip
              have hta0 : t a0 = true := by simpa using c45
              have htb0 : t b0 = true := by simpa using c54
              refine fx_aload_n dX11_sum_60 rfl (i := 0) rfl ?_
              refine fx_callV dX11_sum_61 lk11_172 fv_c8 rfl (fw_at (show mT 0 = some (3, 8, 38, [some 1, none, some 2, some 3, some 4, some 5, some 6, some 7, some 8, some 9, some 10, some 11, some 12, some 13, some 14, some 15, some 16, some 17, some 18, some 19, none, none, none, some 20, some 21, some 22, some 23, none, some 24, some 25, some 26, some 27, some 28, some 29, some 30, some 31, none, some 32]) from rfl)) (C11_wipe G L) rfl rfl (by decide) (Nat.le_of_ble_eq_true rfl) (by decide) (by decide) (fun r61 f61 al61 h61 => ?_)
              obtain ⟨L61, rfl, rfl, rfl, hl61, hw61⟩ := h61
              show fv_At Y11_sum 3 0 0 Q 64 [(0, .ref 0), (1, .int (nI c0)), (2, .int (nI a0)), (3, .int (nI b0)), (4, .int (iI m))] [] (fw mT G L61) none 0 0
              refine fx_aload_n dX11_sum_64 rfl (i := 0) rfl ?_
              refine fx_iload_n dX11_sum_65 rfl (i := 2) rfl ?_
              refine fx_lconst (v := 1) dX11_sum_66 (by decide) ?_
              refine fx_callV dX11_sum_67 lk11_175 fv_c8 rfl (fw_at (show mT 0 = some (3, 8, 38, [some 1, none, some 2, some 3, some 4, some 5, some 6, some 7, some 8, some 9, some 10, some 11, some 12, some 13, some 14, some 15, some 16, some 17, some 18, some 19, none, none, none, some 20, some 21, some 22, some 23, none, some 24, some 25, some 26, some 27, some 28, some 29, some 30, some 31, none, some 32]) from rfl)) (C11_takes G L61 T t (msh_L hM (hl61 6 (by decide))) hV a0 (by omega) hta0 1 zS hw61) rfl rfl (by decide) (Nat.le_of_ble_eq_true rfl) (by decide) (by decide) (fun r67 f67 al67 h67 => ?_)
              obtain ⟨L67, rfl, rfl, rfl, hl67, hw67⟩ := h67
              show fv_At Y11_sum 3 0 0 Q 70 [(0, .ref 0), (1, .int (nI c0)), (2, .int (nI a0)), (3, .int (nI b0)), (4, .int (iI m))] [] (fw mT G L67) none 0 0
              refine fx_aload_n dX11_sum_70 rfl (i := 0) rfl ?_
              refine fx_iload_n dX11_sum_71 rfl (i := 3) rfl ?_
              refine fx_iload dX11_sum_72 rfl ?_
              refine fx_i2l dX11_sum_74 ?_
              refine fn_toL (show _ = lI m from lI_of (z := m) (by omega) (by omega)) ?_
              refine fn_toL (show _ = ((iI m).toInt64) from (lI_of (by omega) (by omega)).symm) ?_
              refine fx_callV dX11_sum_75 lk11_175 fv_c8 rfl (fw_at (show mT 0 = some (3, 8, 38, [some 1, none, some 2, some 3, some 4, some 5, some 6, some 7, some 8, some 9, some 10, some 11, some 12, some 13, some 14, some 15, some 16, some 17, some 18, some 19, none, none, none, some 20, some 21, some 22, some 23, none, some 24, some 25, some 26, some 27, some 28, some 29, some 30, some 31, none, some 32]) from rfl)) (C11_takes G L67 T t (msh_L hM (by rw [hl67 6 (by decide), hl61 6 (by decide)])) hV b0 (by omega) htb0 (((iI m).toInt64)) (pal 1 (T a0) zS) hw67) rfl rfl (by decide) (Nat.le_of_ble_eq_true rfl) (by decide) (by decide) (fun r75 f75 al75 h75 => ?_)
              obtain ⟨L75, rfl, rfl, rfl, hl75, hw75⟩ := h75
              show fv_At Y11_sum 3 0 0 Q 78 [(0, .ref 0), (1, .int (nI c0)), (2, .int (nI a0)), (3, .int (nI b0)), (4, .int (iI m))] [] (fw mT G L75) none 0 0
              refine fx_aload_n dX11_sum_78 rfl (i := 0) rfl ?_
              refine fx_iload_n dX11_sum_79 rfl (i := 1) rfl ?_
              refine fx_callV dX11_sum_80 lk11_179 fv_c8 rfl (fw_at (show mT 0 = some (3, 8, 38, [some 1, none, some 2, some 3, some 4, some 5, some 6, some 7, some 8, some 9, some 10, some 11, some 12, some 13, some 14, some 15, some 16, some 17, some 18, some 19, none, none, none, some 20, some 21, some 22, some 23, none, some 24, some 25, some 26, some 27, some 28, some 29, some 30, some 31, none, some 32]) from rfl)) (C11_lays G L75 T t (msh_L hM (by rw [hl75 6 (by decide), hl67 6 (by decide), hl61 6 (by decide)])) c0 (by omega) (pal (iI m).toInt64 (T b0) (pal 1 (T a0) zS)) hw75 (sok_pal (sok_pal sok_z (hV a0 (by omega) hta0).1) (hV b0 (by omega) htb0).1)) rfl rfl (by decide) (Nat.le_of_ble_eq_true rfl) (by decide) (by decide) (fun r80 f80 al80 h80 => ?_)
              have hq := h80
              obtain ⟨G2, L2, rfl, rfl, rfl, -, -⟩ := h80
              show fv_At Y11_sum 3 0 0 Q 83 [(0, .ref 0), (1, .int (nI c0)), (2, .int (nI a0)), (3, .int (nI b0)), (4, .int (iI m))] [.int (iI (stl (pal (iI m).toInt64 (T b0) (pal 1 (T a0) zS))))] (fw mT G2 L2) none 0 0
              exact fx_iret dX11_sum_83 rfl rfl rfl (by rw [hQ]; exact (by rw [show xSum T t (c0 : Int) (a0 : Int) (b0 : Int) m = stl (pal (iI m).toInt64 (T b0) (pal 1 (T a0) zS)) by unfold xSum; rw [if_pos hin]; exact if_pos ⟨hta0, htb0⟩]; exact qms_L hq (fun i hi => (hl75 i (by omega)).trans ((hl67 i (by omega)).trans (hl61 i (by omega))))))
            · skip
              refine fx_bipush (v := (iI (-3))) dX11_sum_57 (by decide) ?_
              exact fx_iret dX11_sum_59 rfl rfl rfl (by rw [hQ]; exact (by rw [show xSum T t (c0 : Int) (a0 : Int) (b0 : Int) m = -3 by unfold xSum; rw [if_pos hin]; exact if_neg (fun q => by simp_all)]; exact qms_n hM moff_r (by decide) _ _))
        · skip
          refine fx_bipush (v := (iI (-2))) dX11_sum_36 (by decide) ?_
          exact fx_iret dX11_sum_38 rfl rfl rfl (by rw [hQ]; exact (by rw [show xSum T t c a b m = -2 by unfold xSum; exact if_neg (fun q => by first | simp_all | (have h3 := of_decide_eq_false c33; omega))]; exact qms_n hM moff_r (by decide) _ _))

set_option maxRecDepth 4000 in
set_option maxHeartbeats 1000000 in
theorem C11_same  (G : Nat → Nat → Int32) (L : Nat → Nat → Int64) (T : Nat → tms) (t : Nat → Bool) (hM : msh G L T t) (hV : pvs T t) (a b : Int) (a1 : -2147483648 ≤ a) (a2 : a < 2147483648) (b1 : -2147483648 ≤ b) (b2 : b < 2147483648) : fv_M Y11_same 2 0 0 [.ref 0, .int (iI a), .int (iI b)] (fw mT G L) none (fv_eq (some (.int (iI (xSam T t a b)))) (fw mT G L)) := by
  refine fv_enter rfl (Nat.le_of_ble_eq_true rfl) ?_
  obtain ⟨Q, hQ⟩ : ∃ Q : Option Value → fv_F → Option Nat → Prop, Q = (fv_eq (some (.int (iI (xSam T t a b)))) (fw mT G L)) := ⟨_, rfl⟩
  rw [← hQ]
  show fv_At Y11_same 2 0 0 Q 0 [(0, .ref 0), (1, .int (iI a)), (2, .int (iI b))] [] (fw mT G L) none 0 0
  refine fx_iload_n dX11_same_0 rfl (i := 1) rfl ?_
  refine fn_cS dX11_same_1 lk11_169 (C11_isSheet (s := a) (by omega) (by omega) (f := (fw mT G L))) rfl rfl (by decide) (Nat.le_of_ble_eq_true rfl) ?_
  show fv_At Y11_same 2 0 0 Q 4 [(0, .ref 0), (1, .int (iI a)), (2, .int (iI b))] [.int (bI (isSt a))] (fw mT G L) none 0 0
  refine fn_if_eqB (tgt := 14) dX11_same_4 (by decide) (fun c4 => ?_) (fun c4 => ?_)
  · skip
    refine fx_bipush (v := (iI (-2))) dX11_same_14 (by decide) ?_
    exact fx_iret dX11_same_16 rfl rfl rfl (by rw [hQ]; exact ⟨by unfold xSam; rw [if_neg (fun q => by simp_all)], rfl, rfl⟩)
  · skip
    refine fx_iload_n dX11_same_7 rfl (i := 2) rfl ?_
    refine fn_cS dX11_same_8 lk11_169 (C11_isSheet (s := b) (by omega) (by omega) (f := (fw mT G L))) rfl rfl (by decide) (Nat.le_of_ble_eq_true rfl) ?_
    show fv_At Y11_same 2 0 0 Q 11 [(0, .ref 0), (1, .int (iI a)), (2, .int (iI b))] [.int (bI (isSt b))] (fw mT G L) none 0 0
    refine fn_if_neB (tgt := 17) dX11_same_11 (by decide) (fun c11 => ?_) (fun c11 => ?_)
    · skip
      have hin : isSt a = true ∧ isSt b = true := ⟨c4, c11⟩
      have hs1 := isSt_1 c4
      have hs2 := isSt_1 c11
      obtain ⟨a0, rfl⟩ : ∃ z : Nat, a = (z : Int) := ⟨a.toNat, by omega⟩
      obtain ⟨b0, rfl⟩ : ∃ z : Nat, b = (z : Int) := ⟨b.toNat, by omega⟩
      show fv_At Y11_same 2 0 0 Q 17 [(0, .ref 0), (1, .int (nI a0)), (2, .int (nI b0))] [] (fw mT G L) none 0 0
      refine fx_aload_n dX11_same_17 rfl (i := 0) rfl ?_
      refine fw_getr dX11_same_18 fd11_16 rfl rfl ?_
      refine fx_iload_n dX11_same_21 rfl (i := 1) rfl ?_
      refine fw_zald a0 dX11_same_22 rfl rfl (by omega) (by decide) ?_
      refine fn_to (show _ = (bI (t a0)) from (hM a0 (by omega)).1) ?_
      refine fn_if_eqB (tgt := 35) dX11_same_23 (by decide) (fun c23 => ?_) (fun c23 => ?_)
      · skip
        refine fx_bipush (v := (iI (-3))) dX11_same_35 (by decide) ?_
        exact fx_iret dX11_same_37 rfl rfl rfl (by rw [hQ]; exact ⟨by unfold xSam; rw [if_pos hin, if_neg (fun q => by simp_all)], rfl, rfl⟩)
      · skip
        refine fx_aload_n dX11_same_26 rfl (i := 0) rfl ?_
        refine fw_getr dX11_same_27 fd11_16 rfl rfl ?_
        refine fx_iload_n dX11_same_30 rfl (i := 2) rfl ?_
        refine fw_zald b0 dX11_same_31 rfl rfl (by omega) (by decide) ?_
        refine fn_to (show _ = (bI (t b0)) from (hM b0 (by omega)).1) ?_
        refine fn_if_neB (tgt := 38) dX11_same_32 (by decide) (fun c32 => ?_) (fun c32 => ?_)
        · skip
          have hta0 : t a0 = true := by simpa using c23
          have htb0 : t b0 = true := by simpa using c32
          have h6 := ((hM a0 (by omega)).2 hta0).1
          have h7 := ((hM b0 (by omega)).2 htb0).1
          refine fx_aload_n dX11_same_38 rfl (i := 0) rfl ?_
          refine fw_getr dX11_same_39 fd11_20 rfl rfl ?_
          refine fx_iload_n dX11_same_42 rfl (i := 1) rfl ?_
          refine fw_iald a0 dX11_same_43 rfl rfl (by omega) (by decide) ?_
          refine fn_to (show _ = (nI ((T a0).length)) from ((hM a0 (by omega)).2 hta0).2.1) ?_
          refine fx_aload_n dX11_same_44 rfl (i := 0) rfl ?_
          refine fw_getr dX11_same_45 fd11_20 rfl rfl ?_
          refine fx_iload_n dX11_same_48 rfl (i := 2) rfl ?_
          refine fw_iald b0 dX11_same_49 rfl rfl (by omega) (by decide) ?_
          refine fn_to (show _ = (nI ((T b0).length)) from ((hM b0 (by omega)).2 htb0).2.1) ?_
          refine fn_icmp_ne (tgt := 57) dX11_same_50 (by decide) (by omega) (by omega) (fun c50 => ?_) (fun c50 => ?_)
          · skip
            refine fx_iconst (v := (nI 0)) dX11_same_57 (by decide) ?_
            refine fn_to (show _ = (bI false) from rfl) ?_
            refine fx_istore_n (lv2 := [(0, .ref 0), (1, .int (nI a0)), (2, .int (nI b0)), (3, .int (bI false))]) dX11_same_58 (i := 3) rfl (by decide) rfl ?_
            refine fx_iconst (v := (nI 0)) dX11_same_59 (by decide) ?_
            refine fx_istore (lv2 := [(0, .ref 0), (1, .int (nI a0)), (2, .int (nI b0)), (3, .int (bI false)), (4, .int (nI 0))]) dX11_same_60 (by decide) rfl ?_
            have L62 : ∀ (k : Nat) (q : Bool) (j : Nat), (j + k = (T a0).length) → (q = true ↔ ((T a0).length = (T b0).length ∧ ∀ i, i < j → tx (T a0) i = tx (T b0) i ∧ tn (T a0) i = tn (T b0) i)) → fv_At Y11_same 2 0 0 Q 62 [(0, .ref 0), (1, .int (nI a0)), (2, .int (nI b0)), (3, .int (bI q)), (4, .int (nI j))] [] (fw mT G L) none 0 0 := by
              intro k
              induction k with
              | zero =>
                intro q j hj hR
                refine fx_iload dX11_same_62 rfl ?_
                refine fx_aload_n dX11_same_64 rfl (i := 0) rfl ?_
                refine fw_getr dX11_same_65 fd11_20 rfl rfl ?_
                refine fx_iload_n dX11_same_68 rfl (i := 1) rfl ?_
                refine fw_iald a0 dX11_same_69 rfl rfl (by omega) (by decide) ?_
                refine fn_to (show _ = (nI ((T a0).length)) from ((hM a0 (by omega)).2 hta0).2.1) ?_
                refine fn_icmp_ge (tgt := 148) dX11_same_70 (by decide) (by omega) (by omega) (fun c70 => ?_) (fun c70 => ?_)
                · skip
                  refine fx_iload_n dX11_same_148 rfl (i := 3) rfl ?_
                  refine fn_if_eqB (tgt := 156) dX11_same_149 (by decide) (fun c149 => ?_) (fun c149 => ?_)
                  · skip
                    refine fx_iconst (v := (nI 0)) dX11_same_156 (by decide) ?_
                    exact fx_iret dX11_same_157 rfl rfl rfl (by rw [hQ]; exact ⟨by unfold xSam; rw [if_pos hin, if_pos ⟨hta0, htb0⟩, if_neg (show ¬ (T (a0 : Int).toNat = T (b0 : Int).toNat) from fun (e : T a0 = T b0) => by have w := hR.mpr ⟨by rw [e], fun i _ => by rw [e]; exact ⟨rfl, rfl⟩⟩; simp_all)]; rfl, rfl, rfl⟩)
                  · skip
                    refine fx_iconst (v := (nI 1)) dX11_same_152 (by decide) ?_
                    refine fx_goto (tgt := 157) dX11_same_153 (by decide) ?_
                    exact fx_iret dX11_same_157 rfl rfl rfl (by rw [hQ]; exact ⟨by unfold xSam; rw [if_pos hin, if_pos ⟨hta0, htb0⟩, if_pos (show T (a0 : Int).toNat = T (b0 : Int).toNat from by first | (have w := hR.mp c149; exact tms_ext (a := T a0) (b := T b0) w.1 (fun i hi => w.2 i (by omega))) | exact absurd (c149.symm.trans c74) (by decide))]; rfl, rfl, rfl⟩)
                · exfalso; omega
              | succ k ih62 =>
                intro q j hj hR
                refine fx_iload dX11_same_62 rfl ?_
                refine fx_aload_n dX11_same_64 rfl (i := 0) rfl ?_
                refine fw_getr dX11_same_65 fd11_20 rfl rfl ?_
                refine fx_iload_n dX11_same_68 rfl (i := 1) rfl ?_
                refine fw_iald a0 dX11_same_69 rfl rfl (by omega) (by decide) ?_
                refine fn_to (show _ = (nI ((T a0).length)) from ((hM a0 (by omega)).2 hta0).2.1) ?_
                refine fn_icmp_ge (tgt := 148) dX11_same_70 (by decide) (by omega) (by omega) (fun c70 => ?_) (fun c70 => ?_)
                · exfalso; omega
                · skip
                  refine fx_iload_n dX11_same_73 rfl (i := 3) rfl ?_
                  refine fn_if_eqB (tgt := 148) dX11_same_74 (by decide) (fun c74 => ?_) (fun c74 => ?_)
                  · skip
                    refine fx_iload_n dX11_same_148 rfl (i := 3) rfl ?_
                    refine fn_if_eqB (tgt := 156) dX11_same_149 (by decide) (fun c149 => ?_) (fun c149 => ?_)
                    · skip
                      refine fx_iconst (v := (nI 0)) dX11_same_156 (by decide) ?_
                      exact fx_iret dX11_same_157 rfl rfl rfl (by rw [hQ]; exact ⟨by unfold xSam; rw [if_pos hin, if_pos ⟨hta0, htb0⟩, if_neg (show ¬ (T (a0 : Int).toNat = T (b0 : Int).toNat) from fun (e : T a0 = T b0) => by have w := hR.mpr ⟨by rw [e], fun i _ => by rw [e]; exact ⟨rfl, rfl⟩⟩; simp_all)]; rfl, rfl, rfl⟩)
                    · skip
                      refine fx_iconst (v := (nI 1)) dX11_same_152 (by decide) ?_
                      refine fx_goto (tgt := 157) dX11_same_153 (by decide) ?_
                      exact fx_iret dX11_same_157 rfl rfl rfl (by rw [hQ]; exact ⟨by unfold xSam; rw [if_pos hin, if_pos ⟨hta0, htb0⟩, if_pos (show T (a0 : Int).toNat = T (b0 : Int).toNat from by first | (have w := hR.mp c149; exact tms_ext (a := T a0) (b := T b0) w.1 (fun i hi => w.2 i (by omega))) | exact absurd (c149.symm.trans c74) (by decide))]; rfl, rfl, rfl⟩)
                  · skip
                    have hP := hR.mp c74
                    have h8 := okc_le ((hV a0 (by omega) hta0).1 j (by omega))
                    have h9 := okc_le ((hV b0 (by omega) htb0).1 j (by omega))
                    refine fx_aload_n dX11_same_77 rfl (i := 0) rfl ?_
                    refine fw_getr dX11_same_78 fd11_23 rfl rfl ?_
                    refine fx_sipush (v := (nI 600)) dX11_same_81 (by decide) ?_
                    refine fx_iload_n dX11_same_84 rfl (i := 1) rfl ?_
                    refine fn_imul dX11_same_85 ?_
                    refine fx_iload dX11_same_86 rfl ?_
                    refine fn_iadd dX11_same_88 ?_
                    refine fw_iald ((600 * a0) + j) dX11_same_89 rfl rfl (by omega) (by decide) ?_
                    refine fn_to (show _ = (nI (tx (T a0) j)) from (((hM a0 (by omega)).2 hta0).2.2 j (by omega)).1) ?_
                    refine fx_aload_n dX11_same_90 rfl (i := 0) rfl ?_
                    refine fw_getr dX11_same_91 fd11_23 rfl rfl ?_
                    refine fx_sipush (v := (nI 600)) dX11_same_94 (by decide) ?_
                    refine fx_iload_n dX11_same_97 rfl (i := 2) rfl ?_
                    refine fn_imul dX11_same_98 ?_
                    refine fx_iload dX11_same_99 rfl ?_
                    refine fn_iadd dX11_same_101 ?_
                    refine fw_iald ((600 * b0) + j) dX11_same_102 rfl rfl (by omega) (by decide) ?_
                    refine fn_to (show _ = (nI (tx (T b0) j)) from (((hM b0 (by omega)).2 htb0).2.2 j (by omega)).1) ?_
                    refine fn_icmp_ne (tgt := 140) dX11_same_103 (by decide) (by omega) (by omega) (fun c103 => ?_) (fun c103 => ?_)
                    · skip
                      refine fx_iconst (v := (nI 0)) dX11_same_140 (by decide) ?_
                      refine fn_to (show _ = (bI false) from rfl) ?_
                      refine fx_istore_n (lv2 := [(0, .ref 0), (1, .int (nI a0)), (2, .int (nI b0)), (3, .int (bI false)), (4, .int (nI j))]) dX11_same_141 (i := 3) rfl (by decide) rfl ?_
                      refine fn_iinc (c := 1) (lv2 := [(0, .ref 0), (1, .int (nI a0)), (2, .int (nI b0)), (3, .int (bI false)), (4, .int (nI (j + 1)))]) dX11_same_142 (by decide) rfl (by decide) rfl ?_
                      refine fx_goto (tgt := 62) dX11_same_145 (by decide) ?_
                      exact (ih62 false (j + 1) (by omega) ⟨fun w => absurd w (by decide), fun w => by have w2 := w.2 j (by omega); first | omega | exact absurd (congrArg Int32.toInt64 w2.2) (by assumption)⟩)
                    · skip
                      refine fx_aload_n dX11_same_106 rfl (i := 0) rfl ?_
                      refine fw_getr dX11_same_107 fd11_26 rfl rfl ?_
                      refine fx_sipush (v := (nI 600)) dX11_same_110 (by decide) ?_
                      refine fx_iload_n dX11_same_113 rfl (i := 1) rfl ?_
                      refine fn_imul dX11_same_114 ?_
                      refine fx_iload dX11_same_115 rfl ?_
                      refine fn_iadd dX11_same_117 ?_
                      refine fw_lald ((600 * a0) + j) dX11_same_118 rfl rfl (by omega) (by decide) ?_
                      refine fn_toL (show _ = ((tn (T a0) j).toInt64) from (((hM a0 (by omega)).2 hta0).2.2 j (by omega)).2) ?_
                      refine fx_aload_n dX11_same_119 rfl (i := 0) rfl ?_
                      refine fw_getr dX11_same_120 fd11_26 rfl rfl ?_
                      refine fx_sipush (v := (nI 600)) dX11_same_123 (by decide) ?_
                      refine fx_iload_n dX11_same_126 rfl (i := 2) rfl ?_
                      refine fn_imul dX11_same_127 ?_
                      refine fx_iload dX11_same_128 rfl ?_
                      refine fn_iadd dX11_same_130 ?_
                      refine fw_lald ((600 * b0) + j) dX11_same_131 rfl rfl (by omega) (by decide) ?_
                      refine fn_toL (show _ = ((tn (T b0) j).toInt64) from (((hM b0 (by omega)).2 htb0).2.2 j (by omega)).2) ?_
                      refine fx_lcmp dX11_same_132 ?_
                      refine fn_if_neC (tgt := 140) dX11_same_133 (by decide) (fun c133 => ?_) (fun c133 => ?_)
                      · skip
                        refine fx_iconst (v := (nI 0)) dX11_same_140 (by decide) ?_
                        refine fn_to (show _ = (bI false) from rfl) ?_
                        refine fx_istore_n (lv2 := [(0, .ref 0), (1, .int (nI a0)), (2, .int (nI b0)), (3, .int (bI false)), (4, .int (nI j))]) dX11_same_141 (i := 3) rfl (by decide) rfl ?_
                        refine fn_iinc (c := 1) (lv2 := [(0, .ref 0), (1, .int (nI a0)), (2, .int (nI b0)), (3, .int (bI false)), (4, .int (nI (j + 1)))]) dX11_same_142 (by decide) rfl (by decide) rfl ?_
                        refine fx_goto (tgt := 62) dX11_same_145 (by decide) ?_
                        exact (ih62 false (j + 1) (by omega) ⟨fun w => absurd w (by decide), fun w => by have w2 := w.2 j (by omega); first | omega | exact absurd (congrArg Int32.toInt64 w2.2) (by assumption)⟩)
                      · skip
                        refine fx_iconst (v := (nI 1)) dX11_same_136 (by decide) ?_
                        refine fn_to (show _ = (bI true) from rfl) ?_
                        refine fx_goto (tgt := 141) dX11_same_137 (by decide) ?_
                        refine fx_istore_n (lv2 := [(0, .ref 0), (1, .int (nI a0)), (2, .int (nI b0)), (3, .int (bI true)), (4, .int (nI j))]) dX11_same_141 (i := 3) rfl (by decide) rfl ?_
                        refine fn_iinc (c := 1) (lv2 := [(0, .ref 0), (1, .int (nI a0)), (2, .int (nI b0)), (3, .int (bI true)), (4, .int (nI (j + 1)))]) dX11_same_142 (by decide) rfl (by decide) rfl ?_
                        refine fx_goto (tgt := 62) dX11_same_145 (by decide) ?_
                        exact (ih62 true (j + 1) (by omega) ⟨fun _ => ⟨hP.1, fun i hi => by by_cases w : i = j; (rw [w]; exact ⟨by omega, t64 (by assumption)⟩); exact hP.2 i (by omega)⟩, fun _ => rfl⟩)
            exact (L62 ((T a0).length) false 0 (by omega) ⟨fun w => absurd w (by decide), fun w => absurd w.1 (by omega)⟩)
          · skip
            refine fx_iconst (v := (nI 1)) dX11_same_53 (by decide) ?_
            refine fn_to (show _ = (bI true) from rfl) ?_
            refine fx_goto (tgt := 58) dX11_same_54 (by decide) ?_
            refine fx_istore_n (lv2 := [(0, .ref 0), (1, .int (nI a0)), (2, .int (nI b0)), (3, .int (bI true))]) dX11_same_58 (i := 3) rfl (by decide) rfl ?_
            refine fx_iconst (v := (nI 0)) dX11_same_59 (by decide) ?_
            refine fx_istore (lv2 := [(0, .ref 0), (1, .int (nI a0)), (2, .int (nI b0)), (3, .int (bI true)), (4, .int (nI 0))]) dX11_same_60 (by decide) rfl ?_
            have L62 : ∀ (k : Nat) (q : Bool) (j : Nat), (j + k = (T a0).length) → (q = true ↔ ((T a0).length = (T b0).length ∧ ∀ i, i < j → tx (T a0) i = tx (T b0) i ∧ tn (T a0) i = tn (T b0) i)) → fv_At Y11_same 2 0 0 Q 62 [(0, .ref 0), (1, .int (nI a0)), (2, .int (nI b0)), (3, .int (bI q)), (4, .int (nI j))] [] (fw mT G L) none 0 0 := by
              intro k
              induction k with
              | zero =>
                intro q j hj hR
                refine fx_iload dX11_same_62 rfl ?_
                refine fx_aload_n dX11_same_64 rfl (i := 0) rfl ?_
                refine fw_getr dX11_same_65 fd11_20 rfl rfl ?_
                refine fx_iload_n dX11_same_68 rfl (i := 1) rfl ?_
                refine fw_iald a0 dX11_same_69 rfl rfl (by omega) (by decide) ?_
                refine fn_to (show _ = (nI ((T a0).length)) from ((hM a0 (by omega)).2 hta0).2.1) ?_
                refine fn_icmp_ge (tgt := 148) dX11_same_70 (by decide) (by omega) (by omega) (fun c70 => ?_) (fun c70 => ?_)
                · skip
                  refine fx_iload_n dX11_same_148 rfl (i := 3) rfl ?_
                  refine fn_if_eqB (tgt := 156) dX11_same_149 (by decide) (fun c149 => ?_) (fun c149 => ?_)
                  · skip
                    refine fx_iconst (v := (nI 0)) dX11_same_156 (by decide) ?_
                    exact fx_iret dX11_same_157 rfl rfl rfl (by rw [hQ]; exact ⟨by unfold xSam; rw [if_pos hin, if_pos ⟨hta0, htb0⟩, if_neg (show ¬ (T (a0 : Int).toNat = T (b0 : Int).toNat) from fun (e : T a0 = T b0) => by have w := hR.mpr ⟨by rw [e], fun i _ => by rw [e]; exact ⟨rfl, rfl⟩⟩; simp_all)]; rfl, rfl, rfl⟩)
                  · skip
                    refine fx_iconst (v := (nI 1)) dX11_same_152 (by decide) ?_
                    refine fx_goto (tgt := 157) dX11_same_153 (by decide) ?_
                    exact fx_iret dX11_same_157 rfl rfl rfl (by rw [hQ]; exact ⟨by unfold xSam; rw [if_pos hin, if_pos ⟨hta0, htb0⟩, if_pos (show T (a0 : Int).toNat = T (b0 : Int).toNat from by first | (have w := hR.mp c149; exact tms_ext (a := T a0) (b := T b0) w.1 (fun i hi => w.2 i (by omega))) | exact absurd (c149.symm.trans c74) (by decide))]; rfl, rfl, rfl⟩)
                · exfalso; omega
              | succ k ih62 =>
                intro q j hj hR
                refine fx_iload dX11_same_62 rfl ?_
                refine fx_aload_n dX11_same_64 rfl (i := 0) rfl ?_
                refine fw_getr dX11_same_65 fd11_20 rfl rfl ?_
                refine fx_iload_n dX11_same_68 rfl (i := 1) rfl ?_
                refine fw_iald a0 dX11_same_69 rfl rfl (by omega) (by decide) ?_
                refine fn_to (show _ = (nI ((T a0).length)) from ((hM a0 (by omega)).2 hta0).2.1) ?_
                refine fn_icmp_ge (tgt := 148) dX11_same_70 (by decide) (by omega) (by omega) (fun c70 => ?_) (fun c70 => ?_)
                · exfalso; omega
                · skip
                  refine fx_iload_n dX11_same_73 rfl (i := 3) rfl ?_
                  refine fn_if_eqB (tgt := 148) dX11_same_74 (by decide) (fun c74 => ?_) (fun c74 => ?_)
                  · skip
                    refine fx_iload_n dX11_same_148 rfl (i := 3) rfl ?_
                    refine fn_if_eqB (tgt := 156) dX11_same_149 (by decide) (fun c149 => ?_) (fun c149 => ?_)
                    · skip
                      refine fx_iconst (v := (nI 0)) dX11_same_156 (by decide) ?_
                      exact fx_iret dX11_same_157 rfl rfl rfl (by rw [hQ]; exact ⟨by unfold xSam; rw [if_pos hin, if_pos ⟨hta0, htb0⟩, if_neg (show ¬ (T (a0 : Int).toNat = T (b0 : Int).toNat) from fun (e : T a0 = T b0) => by have w := hR.mpr ⟨by rw [e], fun i _ => by rw [e]; exact ⟨rfl, rfl⟩⟩; simp_all)]; rfl, rfl, rfl⟩)
                    · skip
                      refine fx_iconst (v := (nI 1)) dX11_same_152 (by decide) ?_
                      refine fx_goto (tgt := 157) dX11_same_153 (by decide) ?_
                      exact fx_iret dX11_same_157 rfl rfl rfl (by rw [hQ]; exact ⟨by unfold xSam; rw [if_pos hin, if_pos ⟨hta0, htb0⟩, if_pos (show T (a0 : Int).toNat = T (b0 : Int).toNat from by first | (have w := hR.mp c149; exact tms_ext (a := T a0) (b := T b0) w.1 (fun i hi => w.2 i (by omega))) | exact absurd (c149.symm.trans c74) (by decide))]; rfl, rfl, rfl⟩)
                  · skip
                    have hP := hR.mp c74
                    have h8 := okc_le ((hV a0 (by omega) hta0).1 j (by omega))
                    have h9 := okc_le ((hV b0 (by omega) htb0).1 j (by omega))
                    refine fx_aload_n dX11_same_77 rfl (i := 0) rfl ?_
                    refine fw_getr dX11_same_78 fd11_23 rfl rfl ?_
                    refine fx_sipush (v := (nI 600)) dX11_same_81 (by decide) ?_
                    refine fx_iload_n dX11_same_84 rfl (i := 1) rfl ?_
                    refine fn_imul dX11_same_85 ?_
                    refine fx_iload dX11_same_86 rfl ?_
                    refine fn_iadd dX11_same_88 ?_
                    refine fw_iald ((600 * a0) + j) dX11_same_89 rfl rfl (by omega) (by decide) ?_
                    refine fn_to (show _ = (nI (tx (T a0) j)) from (((hM a0 (by omega)).2 hta0).2.2 j (by omega)).1) ?_
                    refine fx_aload_n dX11_same_90 rfl (i := 0) rfl ?_
                    refine fw_getr dX11_same_91 fd11_23 rfl rfl ?_
                    refine fx_sipush (v := (nI 600)) dX11_same_94 (by decide) ?_
                    refine fx_iload_n dX11_same_97 rfl (i := 2) rfl ?_
                    refine fn_imul dX11_same_98 ?_
                    refine fx_iload dX11_same_99 rfl ?_
                    refine fn_iadd dX11_same_101 ?_
                    refine fw_iald ((600 * b0) + j) dX11_same_102 rfl rfl (by omega) (by decide) ?_
                    refine fn_to (show _ = (nI (tx (T b0) j)) from (((hM b0 (by omega)).2 htb0).2.2 j (by omega)).1) ?_
                    refine fn_icmp_ne (tgt := 140) dX11_same_103 (by decide) (by omega) (by omega) (fun c103 => ?_) (fun c103 => ?_)
                    · skip
                      refine fx_iconst (v := (nI 0)) dX11_same_140 (by decide) ?_
                      refine fn_to (show _ = (bI false) from rfl) ?_
                      refine fx_istore_n (lv2 := [(0, .ref 0), (1, .int (nI a0)), (2, .int (nI b0)), (3, .int (bI false)), (4, .int (nI j))]) dX11_same_141 (i := 3) rfl (by decide) rfl ?_
                      refine fn_iinc (c := 1) (lv2 := [(0, .ref 0), (1, .int (nI a0)), (2, .int (nI b0)), (3, .int (bI false)), (4, .int (nI (j + 1)))]) dX11_same_142 (by decide) rfl (by decide) rfl ?_
                      refine fx_goto (tgt := 62) dX11_same_145 (by decide) ?_
                      exact (ih62 false (j + 1) (by omega) ⟨fun w => absurd w (by decide), fun w => by have w2 := w.2 j (by omega); first | omega | exact absurd (congrArg Int32.toInt64 w2.2) (by assumption)⟩)
                    · skip
                      refine fx_aload_n dX11_same_106 rfl (i := 0) rfl ?_
                      refine fw_getr dX11_same_107 fd11_26 rfl rfl ?_
                      refine fx_sipush (v := (nI 600)) dX11_same_110 (by decide) ?_
                      refine fx_iload_n dX11_same_113 rfl (i := 1) rfl ?_
                      refine fn_imul dX11_same_114 ?_
                      refine fx_iload dX11_same_115 rfl ?_
                      refine fn_iadd dX11_same_117 ?_
                      refine fw_lald ((600 * a0) + j) dX11_same_118 rfl rfl (by omega) (by decide) ?_
                      refine fn_toL (show _ = ((tn (T a0) j).toInt64) from (((hM a0 (by omega)).2 hta0).2.2 j (by omega)).2) ?_
                      refine fx_aload_n dX11_same_119 rfl (i := 0) rfl ?_
                      refine fw_getr dX11_same_120 fd11_26 rfl rfl ?_
                      refine fx_sipush (v := (nI 600)) dX11_same_123 (by decide) ?_
                      refine fx_iload_n dX11_same_126 rfl (i := 2) rfl ?_
                      refine fn_imul dX11_same_127 ?_
                      refine fx_iload dX11_same_128 rfl ?_
                      refine fn_iadd dX11_same_130 ?_
                      refine fw_lald ((600 * b0) + j) dX11_same_131 rfl rfl (by omega) (by decide) ?_
                      refine fn_toL (show _ = ((tn (T b0) j).toInt64) from (((hM b0 (by omega)).2 htb0).2.2 j (by omega)).2) ?_
                      refine fx_lcmp dX11_same_132 ?_
                      refine fn_if_neC (tgt := 140) dX11_same_133 (by decide) (fun c133 => ?_) (fun c133 => ?_)
                      · skip
                        refine fx_iconst (v := (nI 0)) dX11_same_140 (by decide) ?_
                        refine fn_to (show _ = (bI false) from rfl) ?_
                        refine fx_istore_n (lv2 := [(0, .ref 0), (1, .int (nI a0)), (2, .int (nI b0)), (3, .int (bI false)), (4, .int (nI j))]) dX11_same_141 (i := 3) rfl (by decide) rfl ?_
                        refine fn_iinc (c := 1) (lv2 := [(0, .ref 0), (1, .int (nI a0)), (2, .int (nI b0)), (3, .int (bI false)), (4, .int (nI (j + 1)))]) dX11_same_142 (by decide) rfl (by decide) rfl ?_
                        refine fx_goto (tgt := 62) dX11_same_145 (by decide) ?_
                        exact (ih62 false (j + 1) (by omega) ⟨fun w => absurd w (by decide), fun w => by have w2 := w.2 j (by omega); first | omega | exact absurd (congrArg Int32.toInt64 w2.2) (by assumption)⟩)
                      · skip
                        refine fx_iconst (v := (nI 1)) dX11_same_136 (by decide) ?_
                        refine fn_to (show _ = (bI true) from rfl) ?_
                        refine fx_goto (tgt := 141) dX11_same_137 (by decide) ?_
                        refine fx_istore_n (lv2 := [(0, .ref 0), (1, .int (nI a0)), (2, .int (nI b0)), (3, .int (bI true)), (4, .int (nI j))]) dX11_same_141 (i := 3) rfl (by decide) rfl ?_
                        refine fn_iinc (c := 1) (lv2 := [(0, .ref 0), (1, .int (nI a0)), (2, .int (nI b0)), (3, .int (bI true)), (4, .int (nI (j + 1)))]) dX11_same_142 (by decide) rfl (by decide) rfl ?_
                        refine fx_goto (tgt := 62) dX11_same_145 (by decide) ?_
                        exact (ih62 true (j + 1) (by omega) ⟨fun _ => ⟨hP.1, fun i hi => by by_cases w : i = j; (rw [w]; exact ⟨by omega, t64 (by assumption)⟩); exact hP.2 i (by omega)⟩, fun _ => rfl⟩)
            exact (L62 ((T a0).length) true 0 (by omega) ⟨fun _ => ⟨by omega, fun i hi => absurd hi (Nat.not_lt_zero _)⟩, fun _ => rfl⟩)
        · skip
          refine fx_bipush (v := (iI (-3))) dX11_same_35 (by decide) ?_
          exact fx_iret dX11_same_37 rfl rfl rfl (by rw [hQ]; exact ⟨by unfold xSam; rw [if_pos hin, if_neg (fun q => by simp_all)], rfl, rfl⟩)
    · skip
      refine fx_bipush (v := (iI (-2))) dX11_same_14 (by decide) ?_
      exact fx_iret dX11_same_16 rfl rfl rfl (by rw [hQ]; exact ⟨by unfold xSam; rw [if_neg (fun q => by simp_all)], rfl, rfl⟩)
