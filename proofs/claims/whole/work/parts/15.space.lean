/-! ===== the two object trees ===== -/
def cTl : List (Nat × Nat × Nat × List (Option Nat)) := [(3, 7, 4, [some 1, some 2, some 15, some 31]), (2, 3, 12, [some 51, some 54, some 57, some 60, some 63, some 66, some 69, some 72, some 75, some 78, some 81, some 84]), (3, 0, 3, [some 3, some 9, some 12]), (3, 5, 5, [some 4, some 5, some 6, none, none]), (1, 1, 88889, []), (0, 2, 889, []), (3, 4, 4, [some 7, some 8, none, none]), (0, 0, 600, []), (0, 0, 600, []), (3, 4, 4, [some 10, some 11, none, none]), (0, 0, 600, []), (0, 0, 600, []), (3, 4, 4, [some 13, some 14, none, none]), (0, 0, 600, []), (0, 0, 600, []), (3, 1, 8, [some 16, some 27, some 28, some 29, some 30, none, none, none]), (3, 2, 5, [some 17, some 18, some 19, some 20, some 21]), (0, 0, 5, []), (0, 0, 5, []), (0, 0, 5, []), (0, 0, 5, []), (2, 5, 5, [some 22, some 23, some 24, some 25, some 26]), (0, 0, 5, []), (0, 0, 5, []), (0, 0, 5, []), (0, 0, 5, []), (0, 0, 5, []), (0, 0, 16, []), (0, 0, 70, []), (1, 1, 70, []), (1, 1, 70, []), (3, 6, 3, [some 32, some 33, none]), (2, 4, 8, [some 35, some 37, some 39, some 41, some 43, some 45, some 47, some 49]), (3, 3, 2, [some 34, none]), (0, 0, 6, []), (3, 3, 2, [some 36, none]), (0, 0, 6, []), (3, 3, 2, [some 38, none]), (0, 0, 6, []), (3, 3, 2, [some 40, none]), (0, 0, 6, []), (3, 3, 2, [some 42, none]), (0, 0, 6, []), (3, 3, 2, [some 44, none]), (0, 0, 6, []), (3, 3, 2, [some 46, none]), (0, 0, 6, []), (3, 3, 2, [some 48, none]), (0, 0, 6, []), (3, 3, 2, [some 50, none]), (0, 0, 6, []), (3, 4, 4, [some 52, some 53, none, none]), (0, 0, 600, []), (0, 0, 600, []), (3, 4, 4, [some 55, some 56, none, none]), (0, 0, 600, []), (0, 0, 600, []), (3, 4, 4, [some 58, some 59, none, none]), (0, 0, 600, []), (0, 0, 600, []), (3, 4, 4, [some 61, some 62, none, none]), (0, 0, 600, []), (0, 0, 600, []), (3, 4, 4, [some 64, some 65, none, none]), (0, 0, 600, []), (0, 0, 600, []), (3, 4, 4, [some 67, some 68, none, none]), (0, 0, 600, []), (0, 0, 600, []), (3, 4, 4, [some 70, some 71, none, none]), (0, 0, 600, []), (0, 0, 600, []), (3, 4, 4, [some 73, some 74, none, none]), (0, 0, 600, []), (0, 0, 600, []), (3, 4, 4, [some 76, some 77, none, none]), (0, 0, 600, []), (0, 0, 600, []), (3, 4, 4, [some 79, some 80, none, none]), (0, 0, 600, []), (0, 0, 600, []), (3, 4, 4, [some 82, some 83, none, none]), (0, 0, 600, []), (0, 0, 600, []), (3, 4, 4, [some 85, some 86, none, none]), (0, 0, 600, []), (0, 0, 600, [])]
def cT : fw_T := fun i => cTl[i]?
def mTl : List (Nat × Nat × Nat × List (Option Nat)) := [(3, 8, 38, [some 1, none, some 2, some 3, some 4, some 5, some 6, some 7, some 8, some 9, some 10, some 11, some 12, some 13, some 14, some 15, some 16, some 17, some 18, some 19, none, none, none, some 20, some 21, some 22, some 23, none, some 24, some 25, some 26, some 27, some 28, some 29, some 30, some 31, none, some 32]), (0, 0, 6, []), (0, 0, 16, []), (0, 2, 12, []), (0, 0, 12, []), (0, 0, 7200, []), (1, 1, 7200, []), (1, 1, 59049, []), (1, 1, 59049, []), (0, 0, 10, []), (1, 1, 59049, []), (1, 1, 59049, []), (0, 0, 4, []), (0, 0, 4, []), (0, 0, 4, []), (0, 0, 16, []), (0, 0, 16, []), (0, 0, 16, []), (0, 0, 16, []), (0, 0, 6, []), (0, 0, 16, []), (0, 0, 70, []), (1, 1, 70, []), (1, 1, 70, []), (0, 2, 8, []), (0, 0, 8, []), (0, 0, 8, []), (0, 2, 625, []), (0, 2, 625, []), (0, 0, 2500, []), (0, 0, 625, []), (0, 0, 625, []), (0, 0, 156, [])]
def mT : fw_T := fun i => mTl[i]?
theorem fv_enterF {y : fv_Y} {d mc ms : Nat} {Q : Option Value → fv_F → Option Nat → Prop} {f : fv_F} {al : Option Nat} {as : List Value} (hy : plainFor y.1 = true) (hl : (as.map fun v => v.category).sum ≤ y.2.2.1) (kk : fv_At y d mc ms Q 0 (lv_args 0 as) [] f al 0 0) : fv_M y d mc ms as f al Q := by
  intro l D dA N A
  refine va_MetF (cc := y.2.1) (maxL := y.2.2.1) (ret := y.2.2.2) hy rfl ?_
  intro p e s m args below meth c s₁ B hml hv
  obtain ⟨rfl, hR, hK, hO⟩ := hv
  have hts := atoms_spec (ws := fv_ws y) B.pre
  have hown : s.vm.findClass y.1.cls = some m.cls := findClass_of_methodNamed B.named
  rw [lg_entry_eq]
  have hl2 := lv_entry (as.map (fv_v N)) (n := y.2.2.1) (by rw [fv_slen, fv_catS]; exact hl)
  rw [fv_argsN] at hl2
  exact kk p l e s m _ below meth c D dA N A ⟨B.exec, B.bytes, B.returns, B.notSynchronized, hml, hown, fun w hw => hts w (List.mem_cons_of_mem _ hw), hK, (name_of_methodNamed B.named B.method).1⟩ s.heap [] _ hR va_S.rf hO hl2
theorem iI_div {a b : Int} (a1 : -2147483648 ≤ a) (a2 : a < 2147483648) (b1 : 0 < b) (b2 : b < 2147483648) : iI a / iI b = iI (a.tdiv b) := by
  have h1 : a.tdiv b ≤ a.natAbs ∧ -(a.natAbs : Int) ≤ a.tdiv b := by
    have h := Int.natAbs_tdiv_le_natAbs a b
    omega
  by_cases h0 : a = -2147483648 ∧ b = 1
  · rw [h0.1, h0.2]; decide
  · have h3 : a < 0 → a.tdiv b ≤ 0 := by
      intro h
      have h4 := Int.tdiv_nonneg (a := -a) (b := b) (by omega) (by omega)
      rw [Int.neg_tdiv] at h4
      omega
    have h2 : -2147483648 ≤ a.tdiv b ∧ a.tdiv b < 2147483648 := by omega
    rw [← Int32.toInt_inj, Int32.toInt_div, iI_t a1 a2, iI_t (by omega) b2, iI_t h2.1 h2.2]
    exact Int.bmod_eq_of_le (by omega) (by omega)
theorem iI_rem {a b : Int} (a1 : -2147483648 ≤ a) (a2 : a < 2147483648) (b1 : 0 < b) (b2 : b < 2147483648) : iI a - iI a / iI b * iI b = iI (a.tmod b) := by
  rw [iI_div a1 a2 b1 b2, iI_mul, iI_sub]
  congr 1
  have := Int.tdiv_mul_add_tmod a b
  omega
theorem i32_msb (x : Int32) : x < 0 ↔ x.toBitVec.msb = true := by
  rw [Int32.lt_iff_toInt_lt, BitVec.msb_eq_toInt, decide_eq_true_iff]
  rfl
theorem iI_xor {a : Int} {b : Nat} (a1 : -2147483648 ≤ a) (a2 : a < 2147483648) (hb : b < 2147483648) : (0 ≤ (iI a ^^^ nI b)) ↔ 0 ≤ a := by
  have h1 : ∀ x : Int32, 0 ≤ x ↔ ¬ x < 0 := fun x => by rw [Int32.le_iff_toInt_le, Int32.lt_iff_toInt_lt]; omega
  rw [h1, i32_msb, Int32.toBitVec_xor, BitVec.msb_xor]
  have h2 : (nI b).toBitVec.msb = false := by
    rw [Bool.eq_false_iff, ne_eq, ← i32_msb]
    exact nI_pos hb
  have h3 : (iI a).toBitVec.msb = true ↔ a < 0 := by
    rw [← i32_msb]
    exact iI_lt a1 a2 (b := 0) (by decide) (by decide)
  rw [h2, Bool.xor_false, h3]
  omega
/-- the rest of an int by a small number -/
def md (v : Int) (q : Nat) : Nat := (v % q).toNat
theorem md_lt (v : Int) {q : Nat} (h : 0 < q) : md v q < q := by
  unfold md
  have h1 := Int.emod_nonneg v (show (q : Int) ≠ 0 by omega)
  have h2 := Int.emod_lt_of_pos v (show (0 : Int) < q by omega)
  omega
theorem md_n (v q : Nat) : md v q = v % q := by
  unfold md
  rw [← Int.natCast_emod, Int.toNat_natCast]
section FIR
variable {y : fv_Y} {d mc ms : Nat} {Q : Option Value → fv_F → Option Nat → Prop} {pc : Nat} {lv : fv_L} {st : List Value} {f : fv_F} {al : Option Nat} {k t : Nat}
theorem fn_iremZ {a : Int} {b : Nat} (hd : decode y.2.1 pc = .ok (.irem, 1)) (a1 : -2147483648 ≤ a) (a2 : a < 2147483648) (h0 : 0 < b) (hb : b < 2147483648) (kk : fv_At y d mc ms Q (pc + 1) lv (.int (iI (a.tmod b)) :: st) f al k t) : fv_At y d mc ms Q pc lv (.int (nI b) :: .int (iI a) :: st) f al k t :=
  fx_irem hd (nI_ne0 h0 hb) (fn_to (iI_rem a1 a2 (b := (b : Int)) (by omega) (by omega)) kk)
theorem fn_idivZ {a : Int} {b : Nat} (hd : decode y.2.1 pc = .ok (.idiv, 1)) (a1 : -2147483648 ≤ a) (a2 : a < 2147483648) (h0 : 0 < b) (hb : b < 2147483648) (kk : fv_At y d mc ms Q (pc + 1) lv (.int (iI (a.tdiv b)) :: st) f al k t) : fv_At y d mc ms Q pc lv (.int (nI b) :: .int (iI a) :: st) f al k t :=
  fx_idiv hd (nI_ne0 h0 hb) (fn_to (iI_div a1 a2 (b := (b : Int)) (by omega) (by omega)) kk)
theorem fx_if_geX {a : Int} {b : Nat} {off : Int} {tgt : Nat} (hd : decode y.2.1 pc = .ok (.ifCond .ge off, 3)) (ht : (pc : Int) + off = (tgt : Int)) (a1 : -2147483648 ≤ a) (a2 : a < 2147483648) (hb : b < 2147483648) (kt : 0 ≤ a → fv_At y d mc ms Q tgt lv st f al k t) (kf : a < 0 → fv_At y d mc ms Q (pc + 3) lv st f al k t) : fv_At y d mc ms Q pc lv (.int (iI a ^^^ nI b) :: st) f al k t :=
  fx_if_ge hd ht (fun h => kt ((iI_xor a1 a2 hb).mp h)) (fun h => kf (by have := mt (iI_xor a1 a2 hb).mpr h; omega))
end FIR

theorem fm_em {a : Int} {b : Nat} (h0 : 0 < b) : (-(b : Int) < a.tmod b ∧ a.tmod b < b) ∧ (0 ≤ a → a.tmod b = a % b) ∧ (a < 0 → (a.tmod b = 0 → a % b = 0) ∧ (a.tmod b ≠ 0 → a % b = a.tmod b + b)) := by
  refine ⟨⟨Int.lt_tmod_of_pos a (by omega), Int.tmod_lt_of_pos a (by omega)⟩, fun h => Int.tmod_eq_emod_of_nonneg h, fun h => ?_⟩
  have e : a.tmod b = a % b - if 0 ≤ a ∨ (b : Int) ∣ a then 0 else (b : Int) := by
    rw [Int.tmod_eq_emod]
    split <;> simp
  by_cases hd : (b : Int) ∣ a
  · rw [if_pos (Or.inr hd)] at e
    have := Int.emod_eq_zero_of_dvd hd
    exact ⟨fun _ => this, fun hne => absurd (by omega) hne⟩
  · rw [if_neg (by omega)] at e
    have := mt Int.dvd_of_emod_eq_zero hd
    have e4 := Int.emod_lt_of_pos a (show (0 : Int) < b by omega)
    exact ⟨fun hz => by omega, fun _ => by omega⟩

set_option maxRecDepth 4000 in
set_option maxHeartbeats 1000000 in
theorem CJ9_floorMod (a : Int) (b : Nat) (a1 : -2147483648 ≤ a) (a2 : a < 2147483648) (h0 : 0 < b) (hb : b < 2147483648) (f : fv_F) : fv_M YJ9_floorMod 0 0 0 [.int (iI a), .int (nI b)] f none (fv_eq (some (.int (nI (md a b)))) f) := by
  refine fv_enterF (by decide +kernel) (Nat.le_of_ble_eq_true rfl) ?_
  obtain ⟨Q, hQ⟩ : ∃ Q : Option Value → fv_F → Option Nat → Prop, Q = (fv_eq (some (.int (nI (md a b)))) f) := ⟨_, rfl⟩
  rw [← hQ]
  show fv_At YJ9_floorMod 0 0 0 Q 0 [(0, .int (iI a)), (1, .int (nI b))] [] f none 0 0
  refine fx_iload_n dJ9_floorMod_0 rfl (i := 0) rfl ?_
  refine fx_iload_n dJ9_floorMod_1 rfl (i := 1) rfl ?_
  refine fn_iremZ (a := a) (b := b) dJ9_floorMod_2 (by omega) (by omega) (by omega) (by omega) ?_
  have hem := fm_em (a := a) (b := b) h0
  refine fx_istore_n (lv2 := [(0, .int (iI a)), (1, .int (nI b)), (2, .int (iI ((a).tmod ((b : Nat) : Int))))]) dJ9_floorMod_3 (i := 2) rfl (by decide) rfl ?_
  refine fx_iload_n dJ9_floorMod_4 rfl (i := 0) rfl ?_
  refine fx_iload_n dJ9_floorMod_5 rfl (i := 1) rfl ?_
  refine fx_ixor dJ9_floorMod_6 ?_
  refine fx_if_geX (tgt := 18) dJ9_floorMod_7 (by decide) (by omega) (by omega) (by omega) (fun c7 => ?_) (fun c7 => ?_)
  · skip
    refine fx_iload_n dJ9_floorMod_18 rfl (i := 2) rfl ?_
    exact fx_iret dJ9_floorMod_19 rfl rfl rfl (by rw [hQ]; exact ⟨by rw [← iI_n]; unfold md; congr 3; have := Int.emod_nonneg a (show (b : Int) ≠ 0 by omega); omega, rfl, rfl⟩)
  · skip
    refine fx_iload_n dJ9_floorMod_10 rfl (i := 2) rfl ?_
    refine fn_if_eqZ (tgt := 18) dJ9_floorMod_11 (by decide) (by omega) (by omega) (fun c11 => ?_) (fun c11 => ?_)
    · skip
      refine fx_iload_n dJ9_floorMod_18 rfl (i := 2) rfl ?_
      exact fx_iret dJ9_floorMod_19 rfl rfl rfl (by rw [hQ]; exact ⟨by rw [← iI_n]; unfold md; congr 3; have := Int.emod_nonneg a (show (b : Int) ≠ 0 by omega); omega, rfl, rfl⟩)
    · skip
      refine fx_iload_n dJ9_floorMod_14 rfl (i := 2) rfl ?_
      refine fx_iload_n dJ9_floorMod_15 rfl (i := 1) rfl ?_
      refine fn_iaddZ (a := (a).tmod ((b : Nat) : Int)) (b := ((b : Nat) : Int)) dJ9_floorMod_16 ?_
      exact fx_iret dJ9_floorMod_17 rfl rfl rfl (by rw [hQ]; exact ⟨by rw [← iI_n]; unfold md; congr 3; have := Int.emod_nonneg a (show (b : Int) ≠ 0 by omega); omega, rfl, rfl⟩)

set_option maxRecDepth 4000 in
set_option maxHeartbeats 1000000 in
theorem C5_rest (a : Int) (b : Nat) (a1 : -2147483648 ≤ a) (a2 : a < 2147483648) (h0 : 0 < b) (hb : b < 2147483648) (f : fv_F) : fv_M Y5_rest 1 0 0 [.int (iI a), .int (nI b)] f none (fv_eq (some (.int (nI (md a b)))) f) := by
  refine fv_enter rfl (Nat.le_of_ble_eq_true rfl) ?_
  obtain ⟨Q, hQ⟩ : ∃ Q : Option Value → fv_F → Option Nat → Prop, Q = (fv_eq (some (.int (nI (md a b)))) f) := ⟨_, rfl⟩
  rw [← hQ]
  show fv_At Y5_rest 1 0 0 Q 0 [(0, .int (iI a)), (1, .int (nI b))] [] f none 0 0
  refine fx_iload_n dX5_rest_0 rfl (i := 1) rfl ?_
  refine fn_if_le (tgt := 12) dX5_rest_1 (by decide) (by omega) (fun c1 => ?_) (fun c1 => ?_)
  · exfalso; omega
  · skip
    refine fx_iload_n dX5_rest_4 rfl (i := 0) rfl ?_
    refine fx_iload_n dX5_rest_5 rfl (i := 1) rfl ?_
    refine fn_cS dX5_rest_6 lk5_33 (CJ9_floorMod (a := a) (b := b) (by omega) (by omega) (by omega) (by omega) (f := f)) rfl rfl (by decide) (Nat.le_of_ble_eq_true rfl) ?_
    show fv_At Y5_rest 1 0 0 Q 9 [(0, .int (iI a)), (1, .int (nI b))] [.int (nI (md a b))] f none 0 0
    refine fx_goto (tgt := 13) dX5_rest_9 (by decide) ?_
    exact fx_iret dX5_rest_13 rfl rfl rfl (by rw [hQ]; exact ⟨rfl, rfl, rfl⟩)

def isRd (r : Int) : Bool := decide (0 ≤ r ∧ r < 8)
def isBt (r : Int) : Bool := decide (0 ≤ r ∧ r < 256)
set_option maxRecDepth 4000 in
set_option maxHeartbeats 1000000 in
theorem C9_isRod (r : Int) (r1 : -2147483648 ≤ r) (r2 : r < 2147483648) (f : fv_F) : fv_M Y9_isRod 0 0 0 [.int (iI r)] f none (fv_eq (some (.int (bI (isRd r)))) f) := by
  refine fv_enter rfl (Nat.le_of_ble_eq_true rfl) ?_
  obtain ⟨Q, hQ⟩ : ∃ Q : Option Value → fv_F → Option Nat → Prop, Q = (fv_eq (some (.int (bI (isRd r)))) f) := ⟨_, rfl⟩
  rw [← hQ]
  show fv_At Y9_isRod 0 0 0 Q 0 [(0, .int (iI r))] [] f none 0 0
  refine fx_iload_n dX9_isRod_0 rfl (i := 0) rfl ?_
  refine fn_if_ltZ (tgt := 14) dX9_isRod_1 (by decide) (by omega) (by omega) (fun c1 => ?_) (fun c1 => ?_)
  · skip
    refine fx_iconst (v := (nI 0)) dX9_isRod_14 (by decide) ?_
    refine fn_to (show _ = (bI false) from rfl) ?_
    exact fx_zret dX9_isRod_15 rfl (bI_01 _) rfl rfl (by rw [hQ]; exact ⟨by unfold isRd; first | rw [decide_eq_true (by omega)] | rw [decide_eq_false (by omega)], rfl, rfl⟩)
  · skip
    refine fx_iload_n dX9_isRod_4 rfl (i := 0) rfl ?_
    refine fx_bipush (v := (nI 8)) dX9_isRod_5 (by decide) ?_
    refine fn_icmp_geZ (a := r) (b := ((8 : Nat) : Int)) (tgt := 14) dX9_isRod_7 (by decide) (by omega) (by omega) (by omega) (by omega) (fun c7 => ?_) (fun c7 => ?_)
    · skip
      refine fx_iconst (v := (nI 0)) dX9_isRod_14 (by decide) ?_
      refine fn_to (show _ = (bI false) from rfl) ?_
      exact fx_zret dX9_isRod_15 rfl (bI_01 _) rfl rfl (by rw [hQ]; exact ⟨by unfold isRd; first | rw [decide_eq_true (by omega)] | rw [decide_eq_false (by omega)], rfl, rfl⟩)
    · skip
      refine fx_iconst (v := (nI 1)) dX9_isRod_10 (by decide) ?_
      refine fn_to (show _ = (bI true) from rfl) ?_
      refine fx_goto (tgt := 15) dX9_isRod_11 (by decide) ?_
      exact fx_zret dX9_isRod_15 rfl (bI_01 _) rfl rfl (by rw [hQ]; exact ⟨by unfold isRd; first | rw [decide_eq_true (by omega)] | rw [decide_eq_false (by omega)], rfl, rfl⟩)

set_option maxRecDepth 4000 in
set_option maxHeartbeats 1000000 in
theorem C9_areBits (r : Int) (r1 : -2147483648 ≤ r) (r2 : r < 2147483648) (f : fv_F) : fv_M Y9_areBits 0 0 0 [.int (iI r)] f none (fv_eq (some (.int (bI (isBt r)))) f) := by
  refine fv_enter rfl (Nat.le_of_ble_eq_true rfl) ?_
  obtain ⟨Q, hQ⟩ : ∃ Q : Option Value → fv_F → Option Nat → Prop, Q = (fv_eq (some (.int (bI (isBt r)))) f) := ⟨_, rfl⟩
  rw [← hQ]
  show fv_At Y9_areBits 0 0 0 Q 0 [(0, .int (iI r))] [] f none 0 0
  refine fx_iload_n dX9_areBits_0 rfl (i := 0) rfl ?_
  refine fn_if_ltZ (tgt := 15) dX9_areBits_1 (by decide) (by omega) (by omega) (fun c1 => ?_) (fun c1 => ?_)
  · skip
    refine fx_iconst (v := (nI 0)) dX9_areBits_15 (by decide) ?_
    refine fn_to (show _ = (bI false) from rfl) ?_
    exact fx_zret dX9_areBits_16 rfl (bI_01 _) rfl rfl (by rw [hQ]; exact ⟨by unfold isBt; first | rw [decide_eq_true (by omega)] | rw [decide_eq_false (by omega)], rfl, rfl⟩)
  · skip
    refine fx_iload_n dX9_areBits_4 rfl (i := 0) rfl ?_
    refine fx_sipush (v := (nI 256)) dX9_areBits_5 (by decide) ?_
    refine fn_icmp_geZ (a := r) (b := ((256 : Nat) : Int)) (tgt := 15) dX9_areBits_8 (by decide) (by omega) (by omega) (by omega) (by omega) (fun c8 => ?_) (fun c8 => ?_)
    · skip
      refine fx_iconst (v := (nI 0)) dX9_areBits_15 (by decide) ?_
      refine fn_to (show _ = (bI false) from rfl) ?_
      exact fx_zret dX9_areBits_16 rfl (bI_01 _) rfl rfl (by rw [hQ]; exact ⟨by unfold isBt; first | rw [decide_eq_true (by omega)] | rw [decide_eq_false (by omega)], rfl, rfl⟩)
    · skip
      refine fx_iconst (v := (nI 1)) dX9_areBits_11 (by decide) ?_
      refine fn_to (show _ = (bI true) from rfl) ?_
      refine fx_goto (tgt := 16) dX9_areBits_12 (by decide) ?_
      exact fx_zret dX9_areBits_16 rfl (bI_01 _) rfl rfl (by rw [hQ]; exact ⟨by unfold isBt; first | rw [decide_eq_true (by omega)] | rw [decide_eq_false (by omega)], rfl, rfl⟩)

/-- the figure at a place from 0 of a point -/
def pfg (p i : Nat) : Nat := fat p (3 - i)
theorem pfg_lt (p i : Nat) : pfg p i < 10 := fat_lt _ _
set_option maxRecDepth 4000 in
set_option maxHeartbeats 1000000 in
theorem C9_figure (p i : Nat) (hp : p < 2147483648) (hi : i ≤ 3) (f : fv_F) : fv_M Y9_figure 1 0 0 [.int (nI p), .int (nI i)] f none (fv_eq (some (.int (nI (pfg p i)))) f) := by
  refine fv_enter rfl (Nat.le_of_ble_eq_true rfl) ?_
  obtain ⟨Q, hQ⟩ : ∃ Q : Option Value → fv_F → Option Nat → Prop, Q = (fv_eq (some (.int (nI (pfg p i)))) f) := ⟨_, rfl⟩
  rw [← hQ]
  show fv_At Y9_figure 1 0 0 Q 0 [(0, .int (nI p)), (1, .int (nI i))] [] f none 0 0
  refine fx_iload_n dX9_figure_0 rfl (i := 0) rfl ?_
  refine fx_iconst (v := (nI 3)) dX9_figure_1 (by decide) ?_
  refine fx_iload_n dX9_figure_2 rfl (i := 1) rfl ?_
  refine fn_isub dX9_figure_3 (by omega) ?_
  refine fn_cS dX9_figure_4 lk9_26 (C3_at (a := p) (k := 3 - i) (by omega) (by omega) (f := f)) rfl rfl (by decide) (Nat.le_of_ble_eq_true rfl) ?_
  show fv_At Y9_figure 1 0 0 Q 7 [(0, .int (nI p)), (1, .int (nI i))] [.int (nI (fat p (3 - i)))] f none 0 0
  exact fx_iret dX9_figure_7 rfl rfl rfl (by rw [hQ]; exact ⟨rfl, rfl, rfl⟩)

set_option maxRecDepth 4000 in
set_option maxHeartbeats 1000000 in
theorem C9_isTold (b r : Nat) (hb : b < 2147483648) (hr : r < 31) (f : fv_F) : fv_M Y9_isTold 0 0 0 [.int (nI b), .int (nI r)] f none (fv_eq (some (.int (bI (decide (b / 2 ^ r % 2 = 1))))) f) := by
  refine fv_enter rfl (Nat.le_of_ble_eq_true rfl) ?_
  obtain ⟨Q, hQ⟩ : ∃ Q : Option Value → fv_F → Option Nat → Prop, Q = (fv_eq (some (.int (bI (decide (b / 2 ^ r % 2 = 1))))) f) := ⟨_, rfl⟩
  rw [← hQ]
  show fv_At Y9_isTold 0 0 0 Q 0 [(0, .int (nI b)), (1, .int (nI r))] [] f none 0 0
  refine fx_iload_n dX9_isTold_0 rfl (i := 0) rfl ?_
  refine fx_iload_n dX9_isTold_1 rfl (i := 1) rfl ?_
  refine fx_ishr dX9_isTold_2 ?_
  refine fn_to (show _ = (nI (b / 2 ^ r)) from (nI_shr hr hb)) ?_
  refine fx_iconst (v := (nI 1)) dX9_isTold_3 (by decide) ?_
  refine fx_iand dX9_isTold_4 ?_
  refine fn_to (show _ = (nI (b / 2 ^ r % 2)) from (by rw [nI_and, Nat.and_one_is_mod])) ?_
  refine fx_iconst (v := (nI 1)) dX9_isTold_5 (by decide) ?_
  refine fn_icmp_ne (tgt := 13) dX9_isTold_6 (by decide) (by omega) (by omega) (fun c6 => ?_) (fun c6 => ?_)
  · skip
    refine fx_iconst (v := (nI 0)) dX9_isTold_13 (by decide) ?_
    refine fn_to (show _ = (bI false) from rfl) ?_
    exact fx_zret dX9_isTold_14 rfl (bI_01 _) rfl rfl (by rw [hQ]; exact ⟨by first | rw [decide_eq_true (by omega)] | rw [decide_eq_false (by omega)], rfl, rfl⟩)
  · skip
    refine fx_iconst (v := (nI 1)) dX9_isTold_9 (by decide) ?_
    refine fn_to (show _ = (bI true) from rfl) ?_
    refine fx_goto (tgt := 14) dX9_isTold_10 (by decide) ?_
    exact fx_zret dX9_isTold_14 rfl (bI_01 _) rfl rfl (by rw [hQ]; exact ⟨by first | rw [decide_eq_true (by omega)] | rw [decide_eq_false (by omega)], rfl, rfl⟩)
